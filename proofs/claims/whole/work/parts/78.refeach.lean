/-! the reference: apply, filter -/
theorem wAt_N {w : vN} (hw : vOk w) {k : Nat} (hk : k < wsz w) : wAt w (nI k) = vden w k := by
  have hz : sz3 (vlo w) (vhi w) ≤ 4096 := hw.2.1
  unfold wAt; rw [if_neg (cIn_N (n := sz3 (vlo w) (vhi w)) hk hz), nI_nn (by have : k < sz3 (vlo w) (vhi w) := hk; omega)]
theorem ea_none {w : vN} (hw : vOk w) {k : Nat} (hk : k < wsz w) {rule : Int32} {c : Int64} (h : vden w k = none) : eaD w rule c k = none := by unfold eaD; rw [wAt_N hw hk, h]; rfl
theorem ea_some {w : vN} (hw : vOk w) {k : Nat} (hk : k < wsz w) {rule : Int32} {c v : Int64} (h : vden w k = some v) : eaD w rule c k = eachD rule c v := by unfold eaD; rw [wAt_N hw hk, h]; rfl
theorem ct_none {n : Nat} {vf : Nat → Int64} {zf : Nat → Int32} {den : Nat → Option Int64} (h : gCt n vf zf den) {k : Nat} (hk : k < n) (hz : zf k = 0) : den k = none := by
  have := (h k hk).1; rw [hz] at this
  cases hd : den k with
  | none => rfl
  | some v => rw [hd] at this; exact absurd (show (0 : Int32) = 1 from this) (by decide)
theorem ct_some {n : Nat} {vf : Nat → Int64} {zf : Nat → Int32} {den : Nat → Option Int64} (h : gCt n vf zf den) {k : Nat} (hk : k < n) (hz : ¬ zf k = 0) : den k = some (vf k) := by
  have := h k hk
  cases hd : den k with
  | none => rw [hd] at this; exact absurd this.1 hz
  | some v => rw [hd] at this; rw [this.2 v rfl]
theorem mU_5 {M : gMem} {p a : Nat} {e f g h : va_E} (hn : p ≠ a) : mU (mU (mU (mU M p e) a f) a g) p h = mU (mU M p h) a g := by
  rw [mU_mU, mU_3 hn]
theorem vF_y {den : Nat → Option Int64} {c : Nat} {v : Int64} (h : den c = some v) : vp_updL (vF den c) c v = vF den (c + 1) := vF_s (r := some v) h.symm
theorem zF_y {den : Nat → Option Int64} {c : Nat} {v : Int64} (h : den c = some v) : upd (zF den c) c 1 = zF den (c + 1) := zF_s (r := some v) h.symm
theorem vF_no {den : Nat → Option Int64} {c : Nat} (h : den c = none) : vF den c = vF den (c + 1) := vF_s (r := none) h.symm
theorem zF_no {den : Nat → Option Int64} {c : Nat} (h : den c = none) : zF den c = zF den (c + 1) := zF_s (r := none) h.symm

def cpF (vf : Nat → Int64) (c : Nat) : Nat → Int64 := fun i => if i < c then vf i else 0
theorem cpF_0 {vf : Nat → Int64} : cpF vf 0 = fun _ => 0 := by funext i; unfold cpF; rw [if_neg (by omega)]
theorem cpF_s {vf : Nat → Int64} {c : Nat} : vp_updL (cpF vf c) c (vf c) = cpF vf (c + 1) := by
  funext i
  show (if i = c then vf c else cpF vf c i) = cpF vf (c + 1) i
  unfold cpF
  by_cases e : i = c
  · subst e; rw [if_pos rfl, if_pos (by omega)]
  · rw [if_neg e]
    by_cases h : i < c
    · rw [if_pos h, if_pos (by omega)]
    · rw [if_neg h, if_neg (by omega)]
theorem zF_z {den : Nat → Option Int64} {c : Nat} (h : den c = none) : upd (zF den c) c 0 = zF den (c + 1) := by
  funext i
  unfold upd zF
  by_cases e : i = c
  · subst e; rw [if_pos rfl, if_pos (by omega), h]; rfl
  · rw [if_neg e]
    by_cases h9 : i < c
    · rw [if_pos h9, if_pos (by omega)]
    · rw [if_neg h9, if_neg (by omega)]
theorem fi_ct {w : vN} (hw : vOk w) {vf : Nat → Int64} {zf : Nat → Int32} (h : gCt (wsz w) vf zf (vden w)) {rule : Int32} {c : Int64} (hr : ¬ rule = 0 ∧ ¬ rule = 1 ∧ ¬ rule = 2 ∧ ¬ rule = 3 ∧ ¬ rule = 4 ∧ ¬ rule = 5) : gCt (wsz w) (cpF vf (wsz w)) (zF (eaD w rule c) (wsz w)) (eaD w rule c) := fun i hi => by
  unfold cpF zF
  rw [if_pos hi, if_pos hi]
  refine ⟨rfl, fun v hv => ?_⟩
  cases hd : vden w i with
  | none => rw [ea_none hw hi hd] at hv; cases hv
  | some u =>
    rw [ea_some hw hi hd] at hv
    have hu := (h i hi).2 u hd
    unfold eachD at hv
    rw [if_neg hr.1, if_neg hr.2.1, if_neg hr.2.2.1, if_neg hr.2.2.2.1, if_neg hr.2.2.2.2.1, if_neg hr.2.2.2.2.2] at hv
    rw [hu]
    repeat' split at hv
    all_goals first | (cases hv; rfl) | (cases hv)

theorem op_lt {op : Int32} {n : Int32} (h : op ≤ n) {k : Int32} (hk : n < k := by decide) : ¬ k ≤ op := fun z => absurd (Int32.le_trans z h) (Int32.not_le.mpr hk)
theorem op_ge {op n k : Int32} (h : ¬ op ≤ n) (hk : k = n + 1 := by decide) (hn : n.toInt < 100 ∧ -1 < n.toInt := by decide) : k ≤ op := by
  subst hk
  rw [Int32.le_iff_toInt_le] at h ⊢
  rw [i_add (by rw [i_one]; omega) (by rw [i_one]; omega), i_one]; omega

set_option maxRecDepth 20000 in
theorem r_apply {l : Launch} {G : gV} {M : gMem} {r : Nat} {e : Int32} {σ : sA} (hW : gvW σ) (hR : isRF G M r e σ) {a op : Int32} {cv : Int64} : qC l G yX13_apply cX13_apply 10 (some .int) 6 5 4108 [.ref r, .int a, .int op, .long cv] M (rfP G r cOp (some (.int 0)) (sp_apply σ a op cv)) := by
  refine qC_of (by decide +kernel) (Nat.le_of_ble_eq_true rfl) (fun F hF X hr hn => ?_)
  subst hF
  have X : qX G F cX13_apply 10 RX13 6 := X
  obtain ⟨vA, nA, pA, plA, dg, dla, dha, dva, dza, dvf, dzf, vf, nf, pf, tk, su, le, gr, hB⟩ := hR
  have hl150 := hW.1.2.2.2.2.1
  have hl41 := hW.1.2.2.2.1
  have tail : ∀ (M : gMem) (i : Nat) (w : vN) (hB : rfB G M r 0 σ vA nA pA plA dg dla dha dva dza dvf dzf vf nf pf tk su le gr) (hi : (aN σ)[i]? = some w) (hw : vOk w) (h150 : (aN σ).length < 150) (c1 : ¬ op < 0) (c2 : ¬ nI 6 ≤ op) (specE : sp_apply σ (nI i) op cv = spEa σ w (op) cv), qJ G F (qQ G F (rfP G r cOp (some (.int 0)) (sp_apply σ (nI i) op cv))) 10 M 5 4108 41 [(0, .ref r), (1, .int (nI i)), (2, .int op), (3, .long cv)] [] := by
    intro M i w hB hi hw h150 c1 c2 specE
    obtain ⟨o, hnfo, ola, oha, ova, oza, ovf, ozf, hO, bo1, bo2, bo3, bo4⟩ := hB.2.2.2.2.2.2.2.2.1 i w hi
    have hi150 : i < 150 := Nat.lt_of_lt_of_le (List.getElem?_eq_some_iff.mp hi).1 (by omega)
    obtain ⟨pl0, hpl0⟩ := hB.2.2.2.2.1
    have hd40 := hw.2.2
    have hok := hw.1
    refine q_aload_n X dX13_apply_41 0 rfl ?_
    refine q_get X hB.1 rfl in_RX13 2 (by decide) tw_1196 rfl rfl dX13_apply_42 ?_
    refine q_iload_n X dX13_apply_45 1 rfl ?_
    refine q_gald X i hB.2.2.1 (rfl) (hi150) (by decide) hnfo dX13_apply_46 ?_
    refine q_astore (lv' := [(5, .ref o), (0, .ref r), (1, .int (nI i)), (2, .int op), (3, .long cv)]) X dX13_apply_47 (by decide) rfl ?_
    refine q_aload X dX13_apply_49 0 rfl ?_
    refine q_aload X dX13_apply_51 0 rfl ?_
    refine q_get X hO.1 rfl in_RX12 1 (by decide) tw_1157 rfl rfl dX13_apply_53 ?_
    refine q_iconst (v := 1) X dX13_apply_56 (by decide) ?_
    refine q_iadd X dX13_apply_57 ?_
    rw [nI_1]
    refine q_callS X (c_like hO.1 hO.2.1 hO.2.2.1) Y_X13_like tw_1336 tw_1337 (by omega) rfl rfl (Nat.le_of_ble_eq_true rfl) (rc' := 2) (rs' := 4096) (by omega) (by omega) dX13_apply_58 (fun v M' hp _ => ?_)
    obtain ⟨q, la, ha, rfl, fq, fla, fha, llh, llq, lhq, hq1, hla1, hha1, ev1⟩ := hp
    generalize M' = M1 at *
    have m_1 : M1 r = some (oB 13 [.int 0, .ref vA, .ref nA, .ref pA, .ref plA, .ref dg, .int (nI (aV σ).length), .int (nI (aN σ).length), .int (nI (aOf σ)), .int (nI (aBg σ)), .int tk, .long su, .long le, .long gr]) := ev1.keep hB.1 id
    have m_2 : M1 nA = some (aG G 150 nf) := ev1.keep hB.2.2.1 id
    have m_3 : M1 o = some (oB 12 [.int (nI (vm w)), .int (nI (vdp w)), .ref ola, .ref oha, .ref ova, .ref oza]) := ev1.keep hO.1 id
    have m_4 : M1 ola = some (aI G 3 (vlo w)) := ev1.keep hO.2.1 id
    have m_5 : M1 oha = some (aI G 3 (vhi w)) := ev1.keep hO.2.2.1 id
    have m_6 : M1 ova = some (aJ G (wsz w) ovf) := ev1.keep hO.2.2.2.1 id
    have m_7 : M1 oza = some (aZ G (wsz w) ozf) := ev1.keep hO.2.2.2.2.1 id
    have m_8 : M1 plA = some (aI G 3 pl0) := ev1.keep hpl0 id
    have evK1 : mEv (fun x => x = r ∨ x = plA) M M1 := ev1.mono (fun _ _ z => z.elim)
    show qJ G F _ 10 M1 2 4096 61 [(5, .ref o), (0, .ref r), (1, .int (nI i)), (2, .int op), (3, .long cv)] [.ref q]
    refine q_astore (lv' := [(6, .ref q), (5, .ref o), (0, .ref r), (1, .int (nI i)), (2, .int op), (3, .long cv)]) X dX13_apply_61 (by decide) rfl ?_
    refine q_aload_n X dX13_apply_63 2 rfl ?_
    refine q_aload X dX13_apply_64 0 rfl ?_
    have hB2 : rfB G M1 r 0 σ vA nA pA plA dg dla dha dva dza dvf dzf vf nf pf tk su le gr := hB.ev2 evK1 m_1 ⟨_, m_8⟩
    by_cases hlim : ¬ sWithin (vlo w) (vhi w) = 0 ∧ nI (vdp w) < 40
    · refine q_callV X (c_large_y hB2 hok hd40 hq1 hla1 hha1 hlim) Y_X13_large tw_1359 tw_1361 sel_32 m_1 rfl (by omega) rfl rfl (Nat.le_of_ble_eq_true rfl) (rc' := 2) (rs' := 4096) (by omega) (by omega) dX13_apply_66 (fun v M' hp _ => ?_)
      obtain ⟨rfl, eM⟩ := hp
      have m_9 : M' r = some (oB 13 [.int 0, .ref vA, .ref nA, .ref pA, .ref plA, .ref dg, .int (nI (aV σ).length), .int (nI (aN σ).length), .int (nI (aOf σ)), .int (nI (aBg σ)), .int tk, .long su, .long le, .long gr]) := by rw [eM]; exact mU_s
      have m_10 : M' nA = some (aG G 150 nf) := by rw [eM]; exact (mU_n (Ne.symm (g_neoa m_1 m_2))).trans m_2
      have m_11 : M' o = some (oB 12 [.int (nI (vm w)), .int (nI (vdp w)), .ref ola, .ref oha, .ref ova, .ref oza]) := by rw [eM]; exact (mU_n (g_neoo m_3 m_1 (by decide))).trans m_3
      have m_12 : M' ola = some (aI G 3 (vlo w)) := by rw [eM]; exact (mU_n (Ne.symm (g_neoa m_1 m_4))).trans m_4
      have m_13 : M' oha = some (aI G 3 (vhi w)) := by rw [eM]; exact (mU_n (Ne.symm (g_neoa m_1 m_5))).trans m_5
      have m_14 : M' ova = some (aJ G (wsz w) ovf) := by rw [eM]; exact (mU_n (Ne.symm (g_neoa m_1 m_6))).trans m_6
      have m_15 : M' oza = some (aZ G (wsz w) ozf) := by rw [eM]; exact (mU_n (Ne.symm (g_neoa m_1 m_7))).trans m_7
      have m_16 : M' plA = some (aI G 3 pl0) := by rw [eM]; exact (mU_n (Ne.symm (g_neoa m_1 m_8))).trans m_8
      have m_17 : M' q = some (oB 12 [.int (nI (vm w)), .int (nI (vdp w + 1)), .ref la, .ref ha, .null, .null]) := by rw [eM]; exact (mU_n (Ne.symm (g_nef hB.1 fq))).trans hq1
      have m_18 : M' la = some (aI G 3 (vlo w)) := by rw [eM]; exact (mU_n (Ne.symm (g_nef hB.1 fla))).trans hla1
      have m_19 : M' ha = some (aI G 3 (vhi w)) := by rw [eM]; exact (mU_n (Ne.symm (g_nef hB.1 fha))).trans hha1
      have evK3 : mEv (fun x => x = r ∨ x = plA) M M' := by rw [eM]; exact evK1.trans (mEv_upd (K := (fun x => x = r ∨ x = plA)) (Or.inl rfl))
      have hB3 : rfB G M' r 0 σ vA nA pA plA dg dla dha dva dza dvf dzf vf nf pf tk su le gr := by rw [eM]; exact hB2.ro
      clear eM
      generalize M' = M3 at *
      show qJ G F _ 10 M3 2 4096 69 [(6, .ref q), (5, .ref o), (0, .ref r), (1, .int (nI i)), (2, .int op), (3, .long cv)] [.int 0]
      refine q_if_eq X 74 dX13_apply_69 (by decide) (fun c_20 => ?_) (fun c_20 => absurd (by decide) c_20)
      have hw2 : wsz w ≤ 2048 := (within_ok hok hlim.1).2
      refine q_aload X dX13_apply_74 0 rfl ?_
      refine q_callV X (c_X12_make (n := wsz w) m_17 m_18 m_19 hok.size (by omega)) Y_X12_make tw_1179 tw_1180 tw_1181 m_17 rfl (by omega) rfl rfl (Nat.le_of_ble_eq_true rfl) (rc' := 0) (rs' := 0) (by omega) (by omega) dX13_apply_76 (fun v M' hp _ => ?_)
      obtain ⟨rfl, va, za, fva3, fza3, lvz, hq4, hva4, hza4, ev4⟩ := hp
      generalize M' = M4 at *
      have fva : M va = none := evK3.none fva3
      have fza : M za = none := evK3.none fza3
      have m_21 : M4 r = some (oB 13 [.int 0, .ref vA, .ref nA, .ref pA, .ref plA, .ref dg, .int (nI (aV σ).length), .int (nI (aN σ).length), .int (nI (aOf σ)), .int (nI (aBg σ)), .int tk, .long su, .long le, .long gr]) := ev4.keep m_9 (g_nef hB.1 fq)
      have m_22 : M4 nA = some (aG G 150 nf) := ev4.keep m_10 (g_nef hB.2.2.1 fq)
      have m_23 : M4 o = some (oB 12 [.int (nI (vm w)), .int (nI (vdp w)), .ref ola, .ref oha, .ref ova, .ref oza]) := ev4.keep m_11 (g_nef hO.1 fq)
      have m_24 : M4 ola = some (aI G 3 (vlo w)) := ev4.keep m_12 (g_nef hO.2.1 fq)
      have m_25 : M4 oha = some (aI G 3 (vhi w)) := ev4.keep m_13 (g_nef hO.2.2.1 fq)
      have m_26 : M4 ova = some (aJ G (wsz w) ovf) := ev4.keep m_14 (g_nef hO.2.2.2.1 fq)
      have m_27 : M4 oza = some (aZ G (wsz w) ozf) := ev4.keep m_15 (g_nef hO.2.2.2.2.1 fq)
      have m_28 : M4 plA = some (aI G 3 pl0) := ev4.keep m_16 (g_nef hpl0 fq)
      have m_29 : M4 la = some (aI G 3 (vlo w)) := ev4.keep m_18 (llq)
      have m_30 : M4 ha = some (aI G 3 (vhi w)) := ev4.keep m_19 (lhq)
      have evK4 : mEv (fun x => x = r ∨ x = plA) M M4 := fun x hx => by
        have wq : x ≠ q := fun z => hx (z ▸ fq)
        have e1 := evK3 x hx
        have e2 := ev4 x e1.1
        exact ⟨e2.1, fun k => (e2.2 wq).trans (e1.2 k)⟩
      have hB4 : rfB G M4 r 0 σ vA nA pA plA dg dla dha dva dza dvf dzf vf nf pf tk su le gr := hB.ev2 evK4 m_21 ⟨_, m_28⟩
      show qJ G F _ 10 M4 0 0 79 [(6, .ref q), (5, .ref o), (0, .ref r), (1, .int (nI i)), (2, .int op), (3, .long cv)] []
      obtain ⟨rr, hrr, rfl⟩ := op_in (k := 6) (by decide) c1 c2
      rcases (show rr = 0 ∨ rr = 1 ∨ rr = 2 ∨ rr = 3 ∨ rr = 4 ∨ rr = 5 by omega) with rfl | rfl | rfl | rfl | rfl | rfl
      · have kv : ∀ {x : Nat} {e : va_E}, M4 x = some e → x ≠ va → x ≠ za → ∀ c, (mU (mU M4 va (aJ G (wsz w) (vF (eaD w (nI 0) cv) (c)))) za (aZ G (wsz w) (zF (eaD w (nI 0) cv) (c)))) x = some e := fun h h1 h2 c => (mU_n h2).trans ((mU_n h1).trans h)
        have kr : ∀ c, (mU (mU M4 va (aJ G (wsz w) (vF (eaD w (nI 0) cv) (c)))) za (aZ G (wsz w) (zF (eaD w (nI 0) cv) (c)))) r = some (oB 13 [.int 0, .ref vA, .ref nA, .ref pA, .ref plA, .ref dg, .int (nI (aV σ).length), .int (nI (aN σ).length), .int (nI (aOf σ)), .int (nI (aBg σ)), .int tk, .long su, .long le, .long gr]) := kv m_21 (g_nef m_9 fva3) (g_nef m_9 fza3)
        have kplA : ∀ c, (mU (mU M4 va (aJ G (wsz w) (vF (eaD w (nI 0) cv) (c)))) za (aZ G (wsz w) (zF (eaD w (nI 0) cv) (c)))) plA = some (aI G 3 pl0) := kv m_28 (g_nef m_16 fva3) (g_nef m_16 fza3)
        have kq : ∀ c, (mU (mU M4 va (aJ G (wsz w) (vF (eaD w (nI 0) cv) (c)))) za (aZ G (wsz w) (zF (eaD w (nI 0) cv) (c)))) q = some (oB 12 [.int (nI (vm w)), .int (nI (vdp w + 1)), .ref la, .ref ha, .ref va, .ref za]) := kv hq4 (g_nef m_17 fva3) (g_nef m_17 fza3)
        have kla : ∀ c, (mU (mU M4 va (aJ G (wsz w) (vF (eaD w (nI 0) cv) (c)))) za (aZ G (wsz w) (zF (eaD w (nI 0) cv) (c)))) la = some (aI G 3 (vlo w)) := kv m_29 (g_nef m_18 fva3) (g_nef m_18 fza3)
        have kha : ∀ c, (mU (mU M4 va (aJ G (wsz w) (vF (eaD w (nI 0) cv) (c)))) za (aZ G (wsz w) (zF (eaD w (nI 0) cv) (c)))) ha = some (aI G 3 (vhi w)) := kv m_30 (g_nef m_19 fva3) (g_nef m_19 fza3)
        have ko : ∀ c, (mU (mU M4 va (aJ G (wsz w) (vF (eaD w (nI 0) cv) (c)))) za (aZ G (wsz w) (zF (eaD w (nI 0) cv) (c)))) o = some (oB 12 [.int (nI (vm w)), .int (nI (vdp w)), .ref ola, .ref oha, .ref ova, .ref oza]) := kv m_23 (g_nef m_11 fva3) (g_nef m_11 fza3)
        have kola : ∀ c, (mU (mU M4 va (aJ G (wsz w) (vF (eaD w (nI 0) cv) (c)))) za (aZ G (wsz w) (zF (eaD w (nI 0) cv) (c)))) ola = some (aI G 3 (vlo w)) := kv m_24 (g_nef m_12 fva3) (g_nef m_12 fza3)
        have koha : ∀ c, (mU (mU M4 va (aJ G (wsz w) (vF (eaD w (nI 0) cv) (c)))) za (aZ G (wsz w) (zF (eaD w (nI 0) cv) (c)))) oha = some (aI G 3 (vhi w)) := kv m_25 (g_nef m_13 fva3) (g_nef m_13 fza3)
        have kova : ∀ c, (mU (mU M4 va (aJ G (wsz w) (vF (eaD w (nI 0) cv) (c)))) za (aZ G (wsz w) (zF (eaD w (nI 0) cv) (c)))) ova = some (aJ G (wsz w) ovf) := kv m_26 (g_nef m_14 fva3) (g_nef m_14 fza3)
        have koza : ∀ c, (mU (mU M4 va (aJ G (wsz w) (vF (eaD w (nI 0) cv) (c)))) za (aZ G (wsz w) (zF (eaD w (nI 0) cv) (c)))) oza = some (aZ G (wsz w) ozf) := kv m_27 (g_nef m_15 fva3) (g_nef m_15 fza3)
        have kva : ∀ c, (mU (mU M4 va (aJ G (wsz w) (vF (eaD w (nI 0) cv) (c)))) za (aZ G (wsz w) (zF (eaD w (nI 0) cv) (c)))) va = some (aJ G (wsz w) (vF (eaD w (nI 0) cv) (c))) := fun c => (mU_n lvz).trans mU_s
        have kza : ∀ c, (mU (mU M4 va (aJ G (wsz w) (vF (eaD w (nI 0) cv) (c)))) za (aZ G (wsz w) (zF (eaD w (nI 0) cv) (c)))) za = some (aZ G (wsz w) (zF (eaD w (nI 0) cv) c)) := fun c => mU_s
        have koX : ∀ c, isGrX G (mU (mU M4 va (aJ G (wsz w) (vF (eaD w (nI 0) cv) (c)))) za (aZ G (wsz w) (zF (eaD w (nI 0) cv) (c)))) o ola oha ova oza ovf ozf w := fun c => ⟨ko c, kola c, koha c, kova c, koza c, hO.2.2.2.2.2⟩
        have l0 := hok.lo (d := 0) (by decide)
        have N0 := hok.N (d := 0) (by decide)
        have y0 := hok.hi (d := 0) (by decide)
        have l1 := hok.lo (d := 1) (by decide)
        have N1 := hok.N (d := 1) (by decide)
        have y1 := hok.hi (d := 1) (by decide)
        have l2 := hok.lo (d := 2) (by decide)
        have N2 := hok.N (d := 2) (by decide)
        have y2 := hok.hi (d := 2) (by decide)
        have hfin : qJ G F (qQ G F (rfP G r cOp (some (.int 0)) (sp_apply σ (nI i) (nI 0) cv))) 10 (mU (mU M4 va (aJ G (wsz w) (vF (eaD w (nI 0) cv) (wsz w)))) za (aZ G (wsz w) (zF (eaD w (nI 0) cv) (wsz w)))) 0 0 231 [(0, .ref r), (1, .int (nI i)), (2, .int (nI 0)), (3, .long cv), (5, .ref o), (6, .ref q)] [] := by
          have evz : mEv (fun x => x = r ∨ x = plA) M (mU (mU M4 va (aJ G (wsz w) (vF (eaD w (nI 0) cv) (wsz w)))) za (aZ G (wsz w) (zF (eaD w (nI 0) cv) (wsz w)))) := fun x hx => by
            have w1 : x ≠ va := fun z => hx (z ▸ fva)
            have w2 : x ≠ za := fun z => hx (z ▸ fza)
            have e1 := evK4 x hx
            have e : (mU (mU M4 va (aJ G (wsz w) (vF (eaD w (nI 0) cv) (wsz w)))) za (aZ G (wsz w) (zF (eaD w (nI 0) cv) (wsz w)))) x = M4 x := (mU_n w2).trans (mU_n w1)
            exact ⟨by rw [e]; exact e1.1, fun k => e.trans (e1.2 k)⟩
          have hBz : rfB G (mU (mU M4 va (aJ G (wsz w) (vF (eaD w (nI 0) cv) (wsz w)))) za (aZ G (wsz w) (zF (eaD w (nI 0) cv) (wsz w)))) r 0 σ vA nA pA plA dg dla dha dva dza dvf dzf vf nf pf tk su le gr := hB.ev2 evz (kr (wsz w)) ⟨_, kplA (wsz w)⟩
          have nb : ∀ {x : Nat}, M x = none → ¬ rBad plA pA dva dza x := fun h z => by
            rcases z with z | z | z | z
            · rw [z, hpl0] at h; cases h
            · rw [z, hB.2.2.2.1] at h; cases h
            · rw [z, hB.2.2.2.2.2.1.2.2.2.1] at h; cases h
            · rw [z, hB.2.2.2.2.2.1.2.2.2.2.1] at h; cases h
          have hg : isGrd G (mU (mU M4 va (aJ G (wsz w) (vF (eaD w (nI 0) cv) (wsz w)))) za (aZ G (wsz w) (zF (eaD w (nI 0) cv) (wsz w)))) (rBad plA pA dva dza) q (vm w, (vlo w), (vhi w), vdp w + 1, (eaD w (nI 0) cv)) := grd_mk (kq (wsz w)) (kla (wsz w)) (kha (wsz w)) (kva (wsz w)) (kza (wsz w)) (gCt_F (eaD w (nI 0) cv) (wsz w)) (nb fla) (nb fha) (nb fva) (nb fza)
          refine q_aload_n X dX13_apply_231 0 rfl ?_
          refine q_aload X dX13_apply_232 5 rfl ?_
          refine q_callV X (c_made hBz hg h150) Y_X13_made tw_1339 tw_1341 sel_28 (kr (wsz w)) rfl (by omega) rfl rfl (Nat.le_of_ble_eq_true rfl) (rc' := 0) (rs' := 0) (Nat.le_refl _) (Nat.le_refl _) dX13_apply_234 (fun v M' hp _ => ?_)
          obtain ⟨rfl, hz9⟩ := hp
          generalize M' = M9 at *
          show qJ G F _ 10 M9 0 0 237 [(0, .ref r), (1, .int (nI i)), (2, .int (nI 0)), (3, .long cv), (5, .ref o), (6, .ref q)] [.int (nI (aN σ).length)]
          exact q_iret X hr dX13_apply_237 (rfP_K (by rw [specE]; exact gLim_y hlim) hz9)
        have L0 : ∀ (kk : qJ G F (qQ G F (rfP G r cOp (some (.int 0)) (sp_apply σ (nI i) (nI 0) cv))) 10 (mU (mU M4 va (aJ G (wsz w) (vF (eaD w (nI 0) cv) (wsz w)))) za (aZ G (wsz w) (zF (eaD w (nI 0) cv) (wsz w)))) 0 0 231 [(0, .ref r), (1, .int (nI i)), (2, .int (nI 0)), (3, .long cv), (5, .ref o), (6, .ref q)] []) (t k : Nat), k + t = wsz w → qJ G F (qQ G F (rfP G r cOp (some (.int 0)) (sp_apply σ (nI i) (nI 0) cv))) 10 (mU (mU M4 va (aJ G (wsz w) (vF (eaD w (nI 0) cv) (k)))) za (aZ G (wsz w) (zF (eaD w (nI 0) cv) (k)))) 0 0 82 [(0, .ref r), (1, .int (nI i)), (2, .int (nI 0)), (3, .long cv), (5, .ref o), (6, .ref q), (7, .int (nI k))] [] := by
          intro  kk t
          induction t with
          | zero =>
            intro k hk0
            obtain rfl : k = wsz w := by omega
            refine q_iload X dX13_apply_82 6 rfl ?_
            refine q_aload X dX13_apply_84 5 rfl ?_
            refine q_get X (kq (wsz w)) rfl in_RX12 4 (by decide) tw_1163 rfl rfl dX13_apply_86 ?_
            refine q_alen X 1 (kva (wsz w)) rfl dX13_apply_89 ?_
            refine q_icmp_ge X 231 dX13_apply_90 (by decide) (fun c_31 => ?_) (fun c_31 => absurd (Int32.le_refl _) c_31)
            refine q_sub [0, 1, 2, 3, 4, 5] rfl ?_
            exact kk
          | succ t ih =>
            intro k hk0
            have hk : k < wsz w := by omega
            have hkz : wsz w ≤ 4096 := hw.2.1
            refine q_iload X dX13_apply_82 6 rfl ?_
            refine q_aload X dX13_apply_84 5 rfl ?_
            refine q_get X (kq (k)) rfl in_RX12 4 (by decide) tw_1163 rfl rfl dX13_apply_86 ?_
            refine q_alen X 1 (kva (k)) rfl dX13_apply_89 ?_
            refine q_icmp_ge X 231 dX13_apply_90 (by decide) (fun c_32 => absurd c_32 (nI_ge hk (by omega))) (fun c_32 => ?_)
            refine q_aload X dX13_apply_93 4 rfl ?_
            refine q_get X (ko (k)) rfl in_RX12 5 (by decide) tw_1165 rfl rfl dX13_apply_95 ?_
            refine q_iload X dX13_apply_98 6 rfl ?_
            refine q_zaldN X k (koza (k)) (rfl) (hk) (by omega) dX13_apply_100 ?_
            refine q_if_eq X 225 dX13_apply_101 (by decide) (fun c101 => ?_) (fun c101 => ?_)
            · refine q_iinc (v := (nI (k + 1))) (lv' := [(7, .int (nI (k + 1))), (0, .ref r), (1, .int (nI i)), (2, .int (nI 0)), (3, .long cv), (5, .ref o), (6, .ref q)]) X dX13_apply_225 6 rfl (nI_1 k) (by decide) rfl ?_
              refine q_goto X 82 dX13_apply_228 (by decide) ?_
              refine q_sub [1, 2, 3, 4, 5, 6, 0] rfl ?_
              have hdk : eaD w (nI 0) cv k = none := ea_none hw hk (ct_none hO.2.2.2.2.2 hk c101)
              refine q_memE (M' := mU (mU M4 va (aJ G (wsz w) (vF (eaD w (nI 0) cv) (k + 1)))) za (aZ G (wsz w) (zF (eaD w (nI 0) cv) (k + 1)))) (by rw [vF_no hdk, zF_no hdk]) ?_
              exact ih (k + 1) (by omega)
            · refine q_aload X dX13_apply_104 4 rfl ?_
              refine q_get X (ko (k)) rfl in_RX12 4 (by decide) tw_1163 rfl rfl dX13_apply_106 ?_
              refine q_iload X dX13_apply_109 6 rfl ?_
              refine q_laldN X k (kova (k)) (rfl) (hk) (by omega) dX13_apply_111 ?_
              refine q_lstore (lv' := [(8, .long (ovf k)), (0, .ref r), (1, .int (nI i)), (2, .int (nI 0)), (3, .long cv), (5, .ref o), (6, .ref q), (7, .int (nI k))]) X dX13_apply_112 (by decide) rfl ?_
              refine q_iload_n X dX13_apply_114 3 rfl ?_
              refine q_iconst (v := 2) X dX13_apply_115 (by decide) ?_
              refine q_icmp_eq X 124 dX13_apply_116 (by decide) (fun c_33 => absurd c_33 (by decide)) (fun c_33 => ?_)
              refine q_iload_n X dX13_apply_119 3 rfl ?_
              refine q_iconst (v := 3) X dX13_apply_120 (by decide) ?_
              refine q_icmp_ne X 130 dX13_apply_121 (by decide) (fun c_34 => ?_) (fun c_34 => absurd c_34 (by decide))
              refine q_iload_n X dX13_apply_130 3 rfl ?_
              refine q_iconst (v := 5) X dX13_apply_131 (by decide) ?_
              refine q_icmp_ne X 145 dX13_apply_132 (by decide) (fun c_35 => ?_) (fun c_35 => absurd c_35 (by decide))
              refine q_aload X dX13_apply_145 6 rfl ?_
              refine q_get X (kq (k)) rfl in_RX12 5 (by decide) tw_1165 rfl rfl dX13_apply_147 ?_
              refine q_iload X dX13_apply_150 7 rfl ?_
              refine q_iconst (v := 1) X dX13_apply_152 (by decide) ?_
              refine q_zastN X k (kza (k)) (rfl) (hk) (by omega) (Or.inr rfl) dX13_apply_153 ?_
              have m_36 : (mU (mU (mU M4 va (aJ G (wsz w) (vF (eaD w (nI 0) cv) (k)))) za (aZ G (wsz w) (zF (eaD w (nI 0) cv) (k)))) za (aZ G (wsz w) (upd (zF (eaD w (nI 0) cv) (k)) k 1))) q = some (oB 12 [.int (nI (vm w)), .int (nI (vdp w + 1)), .ref la, .ref ha, .ref va, .ref za]) := (mU_n (g_neoa (kq (k)) (kza (k)))).trans (kq (k))
              have m_37 : (mU (mU (mU M4 va (aJ G (wsz w) (vF (eaD w (nI 0) cv) (k)))) za (aZ G (wsz w) (zF (eaD w (nI 0) cv) (k)))) za (aZ G (wsz w) (upd (zF (eaD w (nI 0) cv) (k)) k 1))) va = some (aJ G (wsz w) (vF (eaD w (nI 0) cv) (k))) := (mU_n (lvz)).trans (kva (k))
              have m_38 : (mU (mU (mU M4 va (aJ G (wsz w) (vF (eaD w (nI 0) cv) (k)))) za (aZ G (wsz w) (zF (eaD w (nI 0) cv) (k)))) za (aZ G (wsz w) (upd (zF (eaD w (nI 0) cv) (k)) k 1))) za = some (aZ G (wsz w) (upd (zF (eaD w (nI 0) cv) (k)) k 1)) := mU_s
              refine q_aload X dX13_apply_154 6 rfl ?_
              refine q_get X m_36 rfl in_RX12 4 (by decide) tw_1163 rfl rfl dX13_apply_156 ?_
              refine q_iload X dX13_apply_159 7 rfl ?_
              refine q_iload_n X dX13_apply_161 3 rfl ?_
              refine q_if_ne X 172 dX13_apply_162 (by decide) (fun c_39 => absurd (by decide) c_39) (fun c_39 => ?_)
              refine q_lload X dX13_apply_165 0 rfl ?_
              refine q_lload_n X dX13_apply_167 4 rfl ?_
              refine q_ladd X dX13_apply_168 ?_
              refine q_goto X 224 dX13_apply_169 (by decide) ?_
              refine q_lastN X k m_37 (rfl) (hk) (by omega) dX13_apply_224 ?_
              have m_40 : (mU (mU (mU (mU M4 va (aJ G (wsz w) (vF (eaD w (nI 0) cv) (k)))) za (aZ G (wsz w) (zF (eaD w (nI 0) cv) (k)))) za (aZ G (wsz w) (upd (zF (eaD w (nI 0) cv) (k)) k 1))) va (aJ G (wsz w) (vp_updL (vF (eaD w (nI 0) cv) (k)) k ((ovf k) + cv)))) q = some (oB 12 [.int (nI (vm w)), .int (nI (vdp w + 1)), .ref la, .ref ha, .ref va, .ref za]) := (mU_n (g_neoa m_36 m_37)).trans m_36
              have m_41 : (mU (mU (mU (mU M4 va (aJ G (wsz w) (vF (eaD w (nI 0) cv) (k)))) za (aZ G (wsz w) (zF (eaD w (nI 0) cv) (k)))) za (aZ G (wsz w) (upd (zF (eaD w (nI 0) cv) (k)) k 1))) va (aJ G (wsz w) (vp_updL (vF (eaD w (nI 0) cv) (k)) k ((ovf k) + cv)))) va = some (aJ G (wsz w) (vp_updL (vF (eaD w (nI 0) cv) (k)) k ((ovf k) + cv))) := mU_s
              have m_42 : (mU (mU (mU (mU M4 va (aJ G (wsz w) (vF (eaD w (nI 0) cv) (k)))) za (aZ G (wsz w) (zF (eaD w (nI 0) cv) (k)))) za (aZ G (wsz w) (upd (zF (eaD w (nI 0) cv) (k)) k 1))) va (aJ G (wsz w) (vp_updL (vF (eaD w (nI 0) cv) (k)) k ((ovf k) + cv)))) za = some (aZ G (wsz w) (upd (zF (eaD w (nI 0) cv) (k)) k 1)) := (mU_n (Ne.symm (lvz))).trans m_38
              refine q_iinc (v := (nI (k + 1))) (lv' := [(7, .int (nI (k + 1))), (8, .long (ovf k)), (0, .ref r), (1, .int (nI i)), (2, .int (nI 0)), (3, .long cv), (5, .ref o), (6, .ref q)]) X dX13_apply_225 7 rfl (nI_1 k) (by decide) rfl ?_
              refine q_goto X 82 dX13_apply_228 (by decide) ?_
              refine q_sub [2, 3, 4, 5, 6, 7, 0] rfl ?_
              have hdk := (ea_some (rule := nI 0) (c := cv) hw hk (ct_some hO.2.2.2.2.2 hk c101)).trans (by unfold eachD; rw [if_pos (by decide)])
              refine q_memE (M' := mU (mU M4 va (aJ G (wsz w) (vF (eaD w (nI 0) cv) (k + 1)))) za (aZ G (wsz w) (zF (eaD w (nI 0) cv) (k + 1)))) (by rw [← vF_y hdk, ← zF_y hdk]; exact mU_5 lvz) ?_
              exact ih (k + 1) (by omega)
        refine q_iconst (v := 0) X dX13_apply_79 (by decide) ?_
        refine q_istore (lv' := [(7, .int 0), (6, .ref q), (5, .ref o), (0, .ref r), (1, .int (nI i)), (2, .int (nI 0)), (3, .long cv)]) X dX13_apply_80 (by decide) rfl ?_
        refine q_sub [3, 4, 5, 6, 2, 1, 0] rfl ?_
        refine q_memE (M' := mU (mU M4 va (aJ G (wsz w) (vF (eaD w (nI 0) cv) (0)))) za (aZ G (wsz w) (zF (eaD w (nI 0) cv) (0)))) (by rw [vF_0, zF_0, mU_id hva4, mU_id hza4]) ?_
        exact L0 hfin (wsz w) 0 (by omega)
      · have kv : ∀ {x : Nat} {e : va_E}, M4 x = some e → x ≠ va → x ≠ za → ∀ c, (mU (mU M4 va (aJ G (wsz w) (vF (eaD w (nI 1) cv) (c)))) za (aZ G (wsz w) (zF (eaD w (nI 1) cv) (c)))) x = some e := fun h h1 h2 c => (mU_n h2).trans ((mU_n h1).trans h)
        have kr : ∀ c, (mU (mU M4 va (aJ G (wsz w) (vF (eaD w (nI 1) cv) (c)))) za (aZ G (wsz w) (zF (eaD w (nI 1) cv) (c)))) r = some (oB 13 [.int 0, .ref vA, .ref nA, .ref pA, .ref plA, .ref dg, .int (nI (aV σ).length), .int (nI (aN σ).length), .int (nI (aOf σ)), .int (nI (aBg σ)), .int tk, .long su, .long le, .long gr]) := kv m_21 (g_nef m_9 fva3) (g_nef m_9 fza3)
        have kplA : ∀ c, (mU (mU M4 va (aJ G (wsz w) (vF (eaD w (nI 1) cv) (c)))) za (aZ G (wsz w) (zF (eaD w (nI 1) cv) (c)))) plA = some (aI G 3 pl0) := kv m_28 (g_nef m_16 fva3) (g_nef m_16 fza3)
        have kq : ∀ c, (mU (mU M4 va (aJ G (wsz w) (vF (eaD w (nI 1) cv) (c)))) za (aZ G (wsz w) (zF (eaD w (nI 1) cv) (c)))) q = some (oB 12 [.int (nI (vm w)), .int (nI (vdp w + 1)), .ref la, .ref ha, .ref va, .ref za]) := kv hq4 (g_nef m_17 fva3) (g_nef m_17 fza3)
        have kla : ∀ c, (mU (mU M4 va (aJ G (wsz w) (vF (eaD w (nI 1) cv) (c)))) za (aZ G (wsz w) (zF (eaD w (nI 1) cv) (c)))) la = some (aI G 3 (vlo w)) := kv m_29 (g_nef m_18 fva3) (g_nef m_18 fza3)
        have kha : ∀ c, (mU (mU M4 va (aJ G (wsz w) (vF (eaD w (nI 1) cv) (c)))) za (aZ G (wsz w) (zF (eaD w (nI 1) cv) (c)))) ha = some (aI G 3 (vhi w)) := kv m_30 (g_nef m_19 fva3) (g_nef m_19 fza3)
        have ko : ∀ c, (mU (mU M4 va (aJ G (wsz w) (vF (eaD w (nI 1) cv) (c)))) za (aZ G (wsz w) (zF (eaD w (nI 1) cv) (c)))) o = some (oB 12 [.int (nI (vm w)), .int (nI (vdp w)), .ref ola, .ref oha, .ref ova, .ref oza]) := kv m_23 (g_nef m_11 fva3) (g_nef m_11 fza3)
        have kola : ∀ c, (mU (mU M4 va (aJ G (wsz w) (vF (eaD w (nI 1) cv) (c)))) za (aZ G (wsz w) (zF (eaD w (nI 1) cv) (c)))) ola = some (aI G 3 (vlo w)) := kv m_24 (g_nef m_12 fva3) (g_nef m_12 fza3)
        have koha : ∀ c, (mU (mU M4 va (aJ G (wsz w) (vF (eaD w (nI 1) cv) (c)))) za (aZ G (wsz w) (zF (eaD w (nI 1) cv) (c)))) oha = some (aI G 3 (vhi w)) := kv m_25 (g_nef m_13 fva3) (g_nef m_13 fza3)
        have kova : ∀ c, (mU (mU M4 va (aJ G (wsz w) (vF (eaD w (nI 1) cv) (c)))) za (aZ G (wsz w) (zF (eaD w (nI 1) cv) (c)))) ova = some (aJ G (wsz w) ovf) := kv m_26 (g_nef m_14 fva3) (g_nef m_14 fza3)
        have koza : ∀ c, (mU (mU M4 va (aJ G (wsz w) (vF (eaD w (nI 1) cv) (c)))) za (aZ G (wsz w) (zF (eaD w (nI 1) cv) (c)))) oza = some (aZ G (wsz w) ozf) := kv m_27 (g_nef m_15 fva3) (g_nef m_15 fza3)
        have kva : ∀ c, (mU (mU M4 va (aJ G (wsz w) (vF (eaD w (nI 1) cv) (c)))) za (aZ G (wsz w) (zF (eaD w (nI 1) cv) (c)))) va = some (aJ G (wsz w) (vF (eaD w (nI 1) cv) (c))) := fun c => (mU_n lvz).trans mU_s
        have kza : ∀ c, (mU (mU M4 va (aJ G (wsz w) (vF (eaD w (nI 1) cv) (c)))) za (aZ G (wsz w) (zF (eaD w (nI 1) cv) (c)))) za = some (aZ G (wsz w) (zF (eaD w (nI 1) cv) c)) := fun c => mU_s
        have koX : ∀ c, isGrX G (mU (mU M4 va (aJ G (wsz w) (vF (eaD w (nI 1) cv) (c)))) za (aZ G (wsz w) (zF (eaD w (nI 1) cv) (c)))) o ola oha ova oza ovf ozf w := fun c => ⟨ko c, kola c, koha c, kova c, koza c, hO.2.2.2.2.2⟩
        have l0 := hok.lo (d := 0) (by decide)
        have N0 := hok.N (d := 0) (by decide)
        have y0 := hok.hi (d := 0) (by decide)
        have l1 := hok.lo (d := 1) (by decide)
        have N1 := hok.N (d := 1) (by decide)
        have y1 := hok.hi (d := 1) (by decide)
        have l2 := hok.lo (d := 2) (by decide)
        have N2 := hok.N (d := 2) (by decide)
        have y2 := hok.hi (d := 2) (by decide)
        have hfin : qJ G F (qQ G F (rfP G r cOp (some (.int 0)) (sp_apply σ (nI i) (nI 1) cv))) 10 (mU (mU M4 va (aJ G (wsz w) (vF (eaD w (nI 1) cv) (wsz w)))) za (aZ G (wsz w) (zF (eaD w (nI 1) cv) (wsz w)))) 0 0 231 [(0, .ref r), (1, .int (nI i)), (2, .int (nI 1)), (3, .long cv), (5, .ref o), (6, .ref q)] [] := by
          have evz : mEv (fun x => x = r ∨ x = plA) M (mU (mU M4 va (aJ G (wsz w) (vF (eaD w (nI 1) cv) (wsz w)))) za (aZ G (wsz w) (zF (eaD w (nI 1) cv) (wsz w)))) := fun x hx => by
            have w1 : x ≠ va := fun z => hx (z ▸ fva)
            have w2 : x ≠ za := fun z => hx (z ▸ fza)
            have e1 := evK4 x hx
            have e : (mU (mU M4 va (aJ G (wsz w) (vF (eaD w (nI 1) cv) (wsz w)))) za (aZ G (wsz w) (zF (eaD w (nI 1) cv) (wsz w)))) x = M4 x := (mU_n w2).trans (mU_n w1)
            exact ⟨by rw [e]; exact e1.1, fun k => e.trans (e1.2 k)⟩
          have hBz : rfB G (mU (mU M4 va (aJ G (wsz w) (vF (eaD w (nI 1) cv) (wsz w)))) za (aZ G (wsz w) (zF (eaD w (nI 1) cv) (wsz w)))) r 0 σ vA nA pA plA dg dla dha dva dza dvf dzf vf nf pf tk su le gr := hB.ev2 evz (kr (wsz w)) ⟨_, kplA (wsz w)⟩
          have nb : ∀ {x : Nat}, M x = none → ¬ rBad plA pA dva dza x := fun h z => by
            rcases z with z | z | z | z
            · rw [z, hpl0] at h; cases h
            · rw [z, hB.2.2.2.1] at h; cases h
            · rw [z, hB.2.2.2.2.2.1.2.2.2.1] at h; cases h
            · rw [z, hB.2.2.2.2.2.1.2.2.2.2.1] at h; cases h
          have hg : isGrd G (mU (mU M4 va (aJ G (wsz w) (vF (eaD w (nI 1) cv) (wsz w)))) za (aZ G (wsz w) (zF (eaD w (nI 1) cv) (wsz w)))) (rBad plA pA dva dza) q (vm w, (vlo w), (vhi w), vdp w + 1, (eaD w (nI 1) cv)) := grd_mk (kq (wsz w)) (kla (wsz w)) (kha (wsz w)) (kva (wsz w)) (kza (wsz w)) (gCt_F (eaD w (nI 1) cv) (wsz w)) (nb fla) (nb fha) (nb fva) (nb fza)
          refine q_aload_n X dX13_apply_231 0 rfl ?_
          refine q_aload X dX13_apply_232 5 rfl ?_
          refine q_callV X (c_made hBz hg h150) Y_X13_made tw_1339 tw_1341 sel_28 (kr (wsz w)) rfl (by omega) rfl rfl (Nat.le_of_ble_eq_true rfl) (rc' := 0) (rs' := 0) (Nat.le_refl _) (Nat.le_refl _) dX13_apply_234 (fun v M' hp _ => ?_)
          obtain ⟨rfl, hz9⟩ := hp
          generalize M' = M9 at *
          show qJ G F _ 10 M9 0 0 237 [(0, .ref r), (1, .int (nI i)), (2, .int (nI 1)), (3, .long cv), (5, .ref o), (6, .ref q)] [.int (nI (aN σ).length)]
          exact q_iret X hr dX13_apply_237 (rfP_K (by rw [specE]; exact gLim_y hlim) hz9)
        have L0 : ∀ (kk : qJ G F (qQ G F (rfP G r cOp (some (.int 0)) (sp_apply σ (nI i) (nI 1) cv))) 10 (mU (mU M4 va (aJ G (wsz w) (vF (eaD w (nI 1) cv) (wsz w)))) za (aZ G (wsz w) (zF (eaD w (nI 1) cv) (wsz w)))) 0 0 231 [(0, .ref r), (1, .int (nI i)), (2, .int (nI 1)), (3, .long cv), (5, .ref o), (6, .ref q)] []) (t k : Nat), k + t = wsz w → qJ G F (qQ G F (rfP G r cOp (some (.int 0)) (sp_apply σ (nI i) (nI 1) cv))) 10 (mU (mU M4 va (aJ G (wsz w) (vF (eaD w (nI 1) cv) (k)))) za (aZ G (wsz w) (zF (eaD w (nI 1) cv) (k)))) 0 0 82 [(0, .ref r), (1, .int (nI i)), (2, .int (nI 1)), (3, .long cv), (5, .ref o), (6, .ref q), (7, .int (nI k))] [] := by
          intro  kk t
          induction t with
          | zero =>
            intro k hk0
            obtain rfl : k = wsz w := by omega
            refine q_iload X dX13_apply_82 6 rfl ?_
            refine q_aload X dX13_apply_84 5 rfl ?_
            refine q_get X (kq (wsz w)) rfl in_RX12 4 (by decide) tw_1163 rfl rfl dX13_apply_86 ?_
            refine q_alen X 1 (kva (wsz w)) rfl dX13_apply_89 ?_
            refine q_icmp_ge X 231 dX13_apply_90 (by decide) (fun c_43 => ?_) (fun c_43 => absurd (Int32.le_refl _) c_43)
            refine q_sub [0, 1, 2, 3, 4, 5] rfl ?_
            exact kk
          | succ t ih =>
            intro k hk0
            have hk : k < wsz w := by omega
            have hkz : wsz w ≤ 4096 := hw.2.1
            refine q_iload X dX13_apply_82 6 rfl ?_
            refine q_aload X dX13_apply_84 5 rfl ?_
            refine q_get X (kq (k)) rfl in_RX12 4 (by decide) tw_1163 rfl rfl dX13_apply_86 ?_
            refine q_alen X 1 (kva (k)) rfl dX13_apply_89 ?_
            refine q_icmp_ge X 231 dX13_apply_90 (by decide) (fun c_44 => absurd c_44 (nI_ge hk (by omega))) (fun c_44 => ?_)
            refine q_aload X dX13_apply_93 4 rfl ?_
            refine q_get X (ko (k)) rfl in_RX12 5 (by decide) tw_1165 rfl rfl dX13_apply_95 ?_
            refine q_iload X dX13_apply_98 6 rfl ?_
            refine q_zaldN X k (koza (k)) (rfl) (hk) (by omega) dX13_apply_100 ?_
            refine q_if_eq X 225 dX13_apply_101 (by decide) (fun c101 => ?_) (fun c101 => ?_)
            · refine q_iinc (v := (nI (k + 1))) (lv' := [(7, .int (nI (k + 1))), (0, .ref r), (1, .int (nI i)), (2, .int (nI 1)), (3, .long cv), (5, .ref o), (6, .ref q)]) X dX13_apply_225 6 rfl (nI_1 k) (by decide) rfl ?_
              refine q_goto X 82 dX13_apply_228 (by decide) ?_
              refine q_sub [1, 2, 3, 4, 5, 6, 0] rfl ?_
              have hdk : eaD w (nI 1) cv k = none := ea_none hw hk (ct_none hO.2.2.2.2.2 hk c101)
              refine q_memE (M' := mU (mU M4 va (aJ G (wsz w) (vF (eaD w (nI 1) cv) (k + 1)))) za (aZ G (wsz w) (zF (eaD w (nI 1) cv) (k + 1)))) (by rw [vF_no hdk, zF_no hdk]) ?_
              exact ih (k + 1) (by omega)
            · refine q_aload X dX13_apply_104 4 rfl ?_
              refine q_get X (ko (k)) rfl in_RX12 4 (by decide) tw_1163 rfl rfl dX13_apply_106 ?_
              refine q_iload X dX13_apply_109 6 rfl ?_
              refine q_laldN X k (kova (k)) (rfl) (hk) (by omega) dX13_apply_111 ?_
              refine q_lstore (lv' := [(8, .long (ovf k)), (0, .ref r), (1, .int (nI i)), (2, .int (nI 1)), (3, .long cv), (5, .ref o), (6, .ref q), (7, .int (nI k))]) X dX13_apply_112 (by decide) rfl ?_
              refine q_iload_n X dX13_apply_114 3 rfl ?_
              refine q_iconst (v := 2) X dX13_apply_115 (by decide) ?_
              refine q_icmp_eq X 124 dX13_apply_116 (by decide) (fun c_45 => absurd c_45 (by decide)) (fun c_45 => ?_)
              refine q_iload_n X dX13_apply_119 3 rfl ?_
              refine q_iconst (v := 3) X dX13_apply_120 (by decide) ?_
              refine q_icmp_ne X 130 dX13_apply_121 (by decide) (fun c_46 => ?_) (fun c_46 => absurd c_46 (by decide))
              refine q_iload_n X dX13_apply_130 3 rfl ?_
              refine q_iconst (v := 5) X dX13_apply_131 (by decide) ?_
              refine q_icmp_ne X 145 dX13_apply_132 (by decide) (fun c_47 => ?_) (fun c_47 => absurd c_47 (by decide))
              refine q_aload X dX13_apply_145 6 rfl ?_
              refine q_get X (kq (k)) rfl in_RX12 5 (by decide) tw_1165 rfl rfl dX13_apply_147 ?_
              refine q_iload X dX13_apply_150 7 rfl ?_
              refine q_iconst (v := 1) X dX13_apply_152 (by decide) ?_
              refine q_zastN X k (kza (k)) (rfl) (hk) (by omega) (Or.inr rfl) dX13_apply_153 ?_
              have m_48 : (mU (mU (mU M4 va (aJ G (wsz w) (vF (eaD w (nI 1) cv) (k)))) za (aZ G (wsz w) (zF (eaD w (nI 1) cv) (k)))) za (aZ G (wsz w) (upd (zF (eaD w (nI 1) cv) (k)) k 1))) q = some (oB 12 [.int (nI (vm w)), .int (nI (vdp w + 1)), .ref la, .ref ha, .ref va, .ref za]) := (mU_n (g_neoa (kq (k)) (kza (k)))).trans (kq (k))
              have m_49 : (mU (mU (mU M4 va (aJ G (wsz w) (vF (eaD w (nI 1) cv) (k)))) za (aZ G (wsz w) (zF (eaD w (nI 1) cv) (k)))) za (aZ G (wsz w) (upd (zF (eaD w (nI 1) cv) (k)) k 1))) va = some (aJ G (wsz w) (vF (eaD w (nI 1) cv) (k))) := (mU_n (lvz)).trans (kva (k))
              have m_50 : (mU (mU (mU M4 va (aJ G (wsz w) (vF (eaD w (nI 1) cv) (k)))) za (aZ G (wsz w) (zF (eaD w (nI 1) cv) (k)))) za (aZ G (wsz w) (upd (zF (eaD w (nI 1) cv) (k)) k 1))) za = some (aZ G (wsz w) (upd (zF (eaD w (nI 1) cv) (k)) k 1)) := mU_s
              refine q_aload X dX13_apply_154 6 rfl ?_
              refine q_get X m_48 rfl in_RX12 4 (by decide) tw_1163 rfl rfl dX13_apply_156 ?_
              refine q_iload X dX13_apply_159 7 rfl ?_
              refine q_iload_n X dX13_apply_161 3 rfl ?_
              refine q_if_ne X 172 dX13_apply_162 (by decide) (fun c_51 => ?_) (fun c_51 => absurd c_51 (by decide))
              refine q_iload_n X dX13_apply_172 3 rfl ?_
              refine q_iconst (v := 1) X dX13_apply_173 (by decide) ?_
              refine q_icmp_ne X 184 dX13_apply_174 (by decide) (fun c_52 => absurd (by decide) c_52) (fun c_52 => ?_)
              refine q_lload X dX13_apply_177 0 rfl ?_
              refine q_lload_n X dX13_apply_179 4 rfl ?_
              refine q_lmul X dX13_apply_180 ?_
              refine q_goto X 224 dX13_apply_181 (by decide) ?_
              refine q_lastN X k m_49 (rfl) (hk) (by omega) dX13_apply_224 ?_
              have m_53 : (mU (mU (mU (mU M4 va (aJ G (wsz w) (vF (eaD w (nI 1) cv) (k)))) za (aZ G (wsz w) (zF (eaD w (nI 1) cv) (k)))) za (aZ G (wsz w) (upd (zF (eaD w (nI 1) cv) (k)) k 1))) va (aJ G (wsz w) (vp_updL (vF (eaD w (nI 1) cv) (k)) k ((ovf k) * cv)))) q = some (oB 12 [.int (nI (vm w)), .int (nI (vdp w + 1)), .ref la, .ref ha, .ref va, .ref za]) := (mU_n (g_neoa m_48 m_49)).trans m_48
              have m_54 : (mU (mU (mU (mU M4 va (aJ G (wsz w) (vF (eaD w (nI 1) cv) (k)))) za (aZ G (wsz w) (zF (eaD w (nI 1) cv) (k)))) za (aZ G (wsz w) (upd (zF (eaD w (nI 1) cv) (k)) k 1))) va (aJ G (wsz w) (vp_updL (vF (eaD w (nI 1) cv) (k)) k ((ovf k) * cv)))) va = some (aJ G (wsz w) (vp_updL (vF (eaD w (nI 1) cv) (k)) k ((ovf k) * cv))) := mU_s
              have m_55 : (mU (mU (mU (mU M4 va (aJ G (wsz w) (vF (eaD w (nI 1) cv) (k)))) za (aZ G (wsz w) (zF (eaD w (nI 1) cv) (k)))) za (aZ G (wsz w) (upd (zF (eaD w (nI 1) cv) (k)) k 1))) va (aJ G (wsz w) (vp_updL (vF (eaD w (nI 1) cv) (k)) k ((ovf k) * cv)))) za = some (aZ G (wsz w) (upd (zF (eaD w (nI 1) cv) (k)) k 1)) := (mU_n (Ne.symm (lvz))).trans m_50
              refine q_iinc (v := (nI (k + 1))) (lv' := [(7, .int (nI (k + 1))), (8, .long (ovf k)), (0, .ref r), (1, .int (nI i)), (2, .int (nI 1)), (3, .long cv), (5, .ref o), (6, .ref q)]) X dX13_apply_225 7 rfl (nI_1 k) (by decide) rfl ?_
              refine q_goto X 82 dX13_apply_228 (by decide) ?_
              refine q_sub [2, 3, 4, 5, 6, 7, 0] rfl ?_
              have hdk := (ea_some (rule := nI 1) (c := cv) hw hk (ct_some hO.2.2.2.2.2 hk c101)).trans (by unfold eachD; rw [if_neg (by decide), if_pos (by decide)])
              refine q_memE (M' := mU (mU M4 va (aJ G (wsz w) (vF (eaD w (nI 1) cv) (k + 1)))) za (aZ G (wsz w) (zF (eaD w (nI 1) cv) (k + 1)))) (by rw [← vF_y hdk, ← zF_y hdk]; exact mU_5 lvz) ?_
              exact ih (k + 1) (by omega)
        refine q_iconst (v := 0) X dX13_apply_79 (by decide) ?_
        refine q_istore (lv' := [(7, .int 0), (6, .ref q), (5, .ref o), (0, .ref r), (1, .int (nI i)), (2, .int (nI 1)), (3, .long cv)]) X dX13_apply_80 (by decide) rfl ?_
        refine q_sub [3, 4, 5, 6, 2, 1, 0] rfl ?_
        refine q_memE (M' := mU (mU M4 va (aJ G (wsz w) (vF (eaD w (nI 1) cv) (0)))) za (aZ G (wsz w) (zF (eaD w (nI 1) cv) (0)))) (by rw [vF_0, zF_0, mU_id hva4, mU_id hza4]) ?_
        exact L0 hfin (wsz w) 0 (by omega)
      · have kv : ∀ {x : Nat} {e : va_E}, M4 x = some e → x ≠ va → x ≠ za → ∀ c, (mU (mU M4 va (aJ G (wsz w) (vF (eaD w (nI 2) cv) (c)))) za (aZ G (wsz w) (zF (eaD w (nI 2) cv) (c)))) x = some e := fun h h1 h2 c => (mU_n h2).trans ((mU_n h1).trans h)
        have kr : ∀ c, (mU (mU M4 va (aJ G (wsz w) (vF (eaD w (nI 2) cv) (c)))) za (aZ G (wsz w) (zF (eaD w (nI 2) cv) (c)))) r = some (oB 13 [.int 0, .ref vA, .ref nA, .ref pA, .ref plA, .ref dg, .int (nI (aV σ).length), .int (nI (aN σ).length), .int (nI (aOf σ)), .int (nI (aBg σ)), .int tk, .long su, .long le, .long gr]) := kv m_21 (g_nef m_9 fva3) (g_nef m_9 fza3)
        have kplA : ∀ c, (mU (mU M4 va (aJ G (wsz w) (vF (eaD w (nI 2) cv) (c)))) za (aZ G (wsz w) (zF (eaD w (nI 2) cv) (c)))) plA = some (aI G 3 pl0) := kv m_28 (g_nef m_16 fva3) (g_nef m_16 fza3)
        have kq : ∀ c, (mU (mU M4 va (aJ G (wsz w) (vF (eaD w (nI 2) cv) (c)))) za (aZ G (wsz w) (zF (eaD w (nI 2) cv) (c)))) q = some (oB 12 [.int (nI (vm w)), .int (nI (vdp w + 1)), .ref la, .ref ha, .ref va, .ref za]) := kv hq4 (g_nef m_17 fva3) (g_nef m_17 fza3)
        have kla : ∀ c, (mU (mU M4 va (aJ G (wsz w) (vF (eaD w (nI 2) cv) (c)))) za (aZ G (wsz w) (zF (eaD w (nI 2) cv) (c)))) la = some (aI G 3 (vlo w)) := kv m_29 (g_nef m_18 fva3) (g_nef m_18 fza3)
        have kha : ∀ c, (mU (mU M4 va (aJ G (wsz w) (vF (eaD w (nI 2) cv) (c)))) za (aZ G (wsz w) (zF (eaD w (nI 2) cv) (c)))) ha = some (aI G 3 (vhi w)) := kv m_30 (g_nef m_19 fva3) (g_nef m_19 fza3)
        have ko : ∀ c, (mU (mU M4 va (aJ G (wsz w) (vF (eaD w (nI 2) cv) (c)))) za (aZ G (wsz w) (zF (eaD w (nI 2) cv) (c)))) o = some (oB 12 [.int (nI (vm w)), .int (nI (vdp w)), .ref ola, .ref oha, .ref ova, .ref oza]) := kv m_23 (g_nef m_11 fva3) (g_nef m_11 fza3)
        have kola : ∀ c, (mU (mU M4 va (aJ G (wsz w) (vF (eaD w (nI 2) cv) (c)))) za (aZ G (wsz w) (zF (eaD w (nI 2) cv) (c)))) ola = some (aI G 3 (vlo w)) := kv m_24 (g_nef m_12 fva3) (g_nef m_12 fza3)
        have koha : ∀ c, (mU (mU M4 va (aJ G (wsz w) (vF (eaD w (nI 2) cv) (c)))) za (aZ G (wsz w) (zF (eaD w (nI 2) cv) (c)))) oha = some (aI G 3 (vhi w)) := kv m_25 (g_nef m_13 fva3) (g_nef m_13 fza3)
        have kova : ∀ c, (mU (mU M4 va (aJ G (wsz w) (vF (eaD w (nI 2) cv) (c)))) za (aZ G (wsz w) (zF (eaD w (nI 2) cv) (c)))) ova = some (aJ G (wsz w) ovf) := kv m_26 (g_nef m_14 fva3) (g_nef m_14 fza3)
        have koza : ∀ c, (mU (mU M4 va (aJ G (wsz w) (vF (eaD w (nI 2) cv) (c)))) za (aZ G (wsz w) (zF (eaD w (nI 2) cv) (c)))) oza = some (aZ G (wsz w) ozf) := kv m_27 (g_nef m_15 fva3) (g_nef m_15 fza3)
        have kva : ∀ c, (mU (mU M4 va (aJ G (wsz w) (vF (eaD w (nI 2) cv) (c)))) za (aZ G (wsz w) (zF (eaD w (nI 2) cv) (c)))) va = some (aJ G (wsz w) (vF (eaD w (nI 2) cv) (c))) := fun c => (mU_n lvz).trans mU_s
        have kza : ∀ c, (mU (mU M4 va (aJ G (wsz w) (vF (eaD w (nI 2) cv) (c)))) za (aZ G (wsz w) (zF (eaD w (nI 2) cv) (c)))) za = some (aZ G (wsz w) (zF (eaD w (nI 2) cv) c)) := fun c => mU_s
        have koX : ∀ c, isGrX G (mU (mU M4 va (aJ G (wsz w) (vF (eaD w (nI 2) cv) (c)))) za (aZ G (wsz w) (zF (eaD w (nI 2) cv) (c)))) o ola oha ova oza ovf ozf w := fun c => ⟨ko c, kola c, koha c, kova c, koza c, hO.2.2.2.2.2⟩
        have l0 := hok.lo (d := 0) (by decide)
        have N0 := hok.N (d := 0) (by decide)
        have y0 := hok.hi (d := 0) (by decide)
        have l1 := hok.lo (d := 1) (by decide)
        have N1 := hok.N (d := 1) (by decide)
        have y1 := hok.hi (d := 1) (by decide)
        have l2 := hok.lo (d := 2) (by decide)
        have N2 := hok.N (d := 2) (by decide)
        have y2 := hok.hi (d := 2) (by decide)
        have hfin : qJ G F (qQ G F (rfP G r cOp (some (.int 0)) (sp_apply σ (nI i) (nI 2) cv))) 10 (mU (mU M4 va (aJ G (wsz w) (vF (eaD w (nI 2) cv) (wsz w)))) za (aZ G (wsz w) (zF (eaD w (nI 2) cv) (wsz w)))) 0 0 231 [(0, .ref r), (1, .int (nI i)), (2, .int (nI 2)), (3, .long cv), (5, .ref o), (6, .ref q)] [] := by
          have evz : mEv (fun x => x = r ∨ x = plA) M (mU (mU M4 va (aJ G (wsz w) (vF (eaD w (nI 2) cv) (wsz w)))) za (aZ G (wsz w) (zF (eaD w (nI 2) cv) (wsz w)))) := fun x hx => by
            have w1 : x ≠ va := fun z => hx (z ▸ fva)
            have w2 : x ≠ za := fun z => hx (z ▸ fza)
            have e1 := evK4 x hx
            have e : (mU (mU M4 va (aJ G (wsz w) (vF (eaD w (nI 2) cv) (wsz w)))) za (aZ G (wsz w) (zF (eaD w (nI 2) cv) (wsz w)))) x = M4 x := (mU_n w2).trans (mU_n w1)
            exact ⟨by rw [e]; exact e1.1, fun k => e.trans (e1.2 k)⟩
          have hBz : rfB G (mU (mU M4 va (aJ G (wsz w) (vF (eaD w (nI 2) cv) (wsz w)))) za (aZ G (wsz w) (zF (eaD w (nI 2) cv) (wsz w)))) r 0 σ vA nA pA plA dg dla dha dva dza dvf dzf vf nf pf tk su le gr := hB.ev2 evz (kr (wsz w)) ⟨_, kplA (wsz w)⟩
          have nb : ∀ {x : Nat}, M x = none → ¬ rBad plA pA dva dza x := fun h z => by
            rcases z with z | z | z | z
            · rw [z, hpl0] at h; cases h
            · rw [z, hB.2.2.2.1] at h; cases h
            · rw [z, hB.2.2.2.2.2.1.2.2.2.1] at h; cases h
            · rw [z, hB.2.2.2.2.2.1.2.2.2.2.1] at h; cases h
          have hg : isGrd G (mU (mU M4 va (aJ G (wsz w) (vF (eaD w (nI 2) cv) (wsz w)))) za (aZ G (wsz w) (zF (eaD w (nI 2) cv) (wsz w)))) (rBad plA pA dva dza) q (vm w, (vlo w), (vhi w), vdp w + 1, (eaD w (nI 2) cv)) := grd_mk (kq (wsz w)) (kla (wsz w)) (kha (wsz w)) (kva (wsz w)) (kza (wsz w)) (gCt_F (eaD w (nI 2) cv) (wsz w)) (nb fla) (nb fha) (nb fva) (nb fza)
          refine q_aload_n X dX13_apply_231 0 rfl ?_
          refine q_aload X dX13_apply_232 5 rfl ?_
          refine q_callV X (c_made hBz hg h150) Y_X13_made tw_1339 tw_1341 sel_28 (kr (wsz w)) rfl (by omega) rfl rfl (Nat.le_of_ble_eq_true rfl) (rc' := 0) (rs' := 0) (Nat.le_refl _) (Nat.le_refl _) dX13_apply_234 (fun v M' hp _ => ?_)
          obtain ⟨rfl, hz9⟩ := hp
          generalize M' = M9 at *
          show qJ G F _ 10 M9 0 0 237 [(0, .ref r), (1, .int (nI i)), (2, .int (nI 2)), (3, .long cv), (5, .ref o), (6, .ref q)] [.int (nI (aN σ).length)]
          exact q_iret X hr dX13_apply_237 (rfP_K (by rw [specE]; exact gLim_y hlim) hz9)
        have L0 : ∀ (kk : qJ G F (qQ G F (rfP G r cOp (some (.int 0)) (sp_apply σ (nI i) (nI 2) cv))) 10 (mU (mU M4 va (aJ G (wsz w) (vF (eaD w (nI 2) cv) (wsz w)))) za (aZ G (wsz w) (zF (eaD w (nI 2) cv) (wsz w)))) 0 0 231 [(0, .ref r), (1, .int (nI i)), (2, .int (nI 2)), (3, .long cv), (5, .ref o), (6, .ref q)] []) (t k : Nat), k + t = wsz w → qJ G F (qQ G F (rfP G r cOp (some (.int 0)) (sp_apply σ (nI i) (nI 2) cv))) 10 (mU (mU M4 va (aJ G (wsz w) (vF (eaD w (nI 2) cv) (k)))) za (aZ G (wsz w) (zF (eaD w (nI 2) cv) (k)))) 0 0 82 [(0, .ref r), (1, .int (nI i)), (2, .int (nI 2)), (3, .long cv), (5, .ref o), (6, .ref q), (7, .int (nI k))] [] := by
          intro  kk t
          induction t with
          | zero =>
            intro k hk0
            obtain rfl : k = wsz w := by omega
            refine q_iload X dX13_apply_82 6 rfl ?_
            refine q_aload X dX13_apply_84 5 rfl ?_
            refine q_get X (kq (wsz w)) rfl in_RX12 4 (by decide) tw_1163 rfl rfl dX13_apply_86 ?_
            refine q_alen X 1 (kva (wsz w)) rfl dX13_apply_89 ?_
            refine q_icmp_ge X 231 dX13_apply_90 (by decide) (fun c_56 => ?_) (fun c_56 => absurd (Int32.le_refl _) c_56)
            refine q_sub [0, 1, 2, 3, 4, 5] rfl ?_
            exact kk
          | succ t ih =>
            intro k hk0
            have hk : k < wsz w := by omega
            have hkz : wsz w ≤ 4096 := hw.2.1
            refine q_iload X dX13_apply_82 6 rfl ?_
            refine q_aload X dX13_apply_84 5 rfl ?_
            refine q_get X (kq (k)) rfl in_RX12 4 (by decide) tw_1163 rfl rfl dX13_apply_86 ?_
            refine q_alen X 1 (kva (k)) rfl dX13_apply_89 ?_
            refine q_icmp_ge X 231 dX13_apply_90 (by decide) (fun c_57 => absurd c_57 (nI_ge hk (by omega))) (fun c_57 => ?_)
            refine q_aload X dX13_apply_93 4 rfl ?_
            refine q_get X (ko (k)) rfl in_RX12 5 (by decide) tw_1165 rfl rfl dX13_apply_95 ?_
            refine q_iload X dX13_apply_98 6 rfl ?_
            refine q_zaldN X k (koza (k)) (rfl) (hk) (by omega) dX13_apply_100 ?_
            refine q_if_eq X 225 dX13_apply_101 (by decide) (fun c101 => ?_) (fun c101 => ?_)
            · refine q_iinc (v := (nI (k + 1))) (lv' := [(7, .int (nI (k + 1))), (0, .ref r), (1, .int (nI i)), (2, .int (nI 2)), (3, .long cv), (5, .ref o), (6, .ref q)]) X dX13_apply_225 6 rfl (nI_1 k) (by decide) rfl ?_
              refine q_goto X 82 dX13_apply_228 (by decide) ?_
              refine q_sub [1, 2, 3, 4, 5, 6, 0] rfl ?_
              have hdk : eaD w (nI 2) cv k = none := ea_none hw hk (ct_none hO.2.2.2.2.2 hk c101)
              refine q_memE (M' := mU (mU M4 va (aJ G (wsz w) (vF (eaD w (nI 2) cv) (k + 1)))) za (aZ G (wsz w) (zF (eaD w (nI 2) cv) (k + 1)))) (by rw [vF_no hdk, zF_no hdk]) ?_
              exact ih (k + 1) (by omega)
            · refine q_aload X dX13_apply_104 4 rfl ?_
              refine q_get X (ko (k)) rfl in_RX12 4 (by decide) tw_1163 rfl rfl dX13_apply_106 ?_
              refine q_iload X dX13_apply_109 6 rfl ?_
              refine q_laldN X k (kova (k)) (rfl) (hk) (by omega) dX13_apply_111 ?_
              refine q_lstore (lv' := [(8, .long (ovf k)), (0, .ref r), (1, .int (nI i)), (2, .int (nI 2)), (3, .long cv), (5, .ref o), (6, .ref q), (7, .int (nI k))]) X dX13_apply_112 (by decide) rfl ?_
              refine q_iload_n X dX13_apply_114 3 rfl ?_
              refine q_iconst (v := 2) X dX13_apply_115 (by decide) ?_
              refine q_icmp_eq X 124 dX13_apply_116 (by decide) (fun c_58 => ?_) (fun c_58 => absurd (by decide) c_58)
              refine q_lload_n X dX13_apply_124 4 rfl ?_
              refine q_lconst (v := 0) X dX13_apply_125 (by decide) ?_
              refine q_lcmp X dX13_apply_126 ?_
              refine q_if_eq X 225 dX13_apply_127 (by decide) (fun c127 => ?_) (fun c127 => ?_)
              · refine q_iinc (v := (nI (k + 1))) (lv' := [(7, .int (nI (k + 1))), (8, .long (ovf k)), (0, .ref r), (1, .int (nI i)), (2, .int (nI 2)), (3, .long cv), (5, .ref o), (6, .ref q)]) X dX13_apply_225 7 rfl (nI_1 k) (by decide) rfl ?_
                refine q_goto X 82 dX13_apply_228 (by decide) ?_
                refine q_sub [2, 3, 4, 5, 6, 7, 0] rfl ?_
                have hdk : eaD w (nI 2) cv k = none := (ea_some hw hk (ct_some hO.2.2.2.2.2 hk c101)).trans (by have q9 := c127; rw [lg_cmp_eq] at q9; unfold eachD; rw [if_neg (by decide), if_neg (by decide), if_pos (by decide), if_pos q9])
                refine q_memE (M' := mU (mU M4 va (aJ G (wsz w) (vF (eaD w (nI 2) cv) (k + 1)))) za (aZ G (wsz w) (zF (eaD w (nI 2) cv) (k + 1)))) (by rw [vF_no hdk, zF_no hdk]) ?_
                exact ih (k + 1) (by omega)
              · refine q_iload_n X dX13_apply_130 3 rfl ?_
                refine q_iconst (v := 5) X dX13_apply_131 (by decide) ?_
                refine q_icmp_ne X 145 dX13_apply_132 (by decide) (fun c_59 => ?_) (fun c_59 => absurd c_59 (by decide))
                refine q_aload X dX13_apply_145 6 rfl ?_
                refine q_get X (kq (k)) rfl in_RX12 5 (by decide) tw_1165 rfl rfl dX13_apply_147 ?_
                refine q_iload X dX13_apply_150 7 rfl ?_
                refine q_iconst (v := 1) X dX13_apply_152 (by decide) ?_
                refine q_zastN X k (kza (k)) (rfl) (hk) (by omega) (Or.inr rfl) dX13_apply_153 ?_
                have m_60 : (mU (mU (mU M4 va (aJ G (wsz w) (vF (eaD w (nI 2) cv) (k)))) za (aZ G (wsz w) (zF (eaD w (nI 2) cv) (k)))) za (aZ G (wsz w) (upd (zF (eaD w (nI 2) cv) (k)) k 1))) q = some (oB 12 [.int (nI (vm w)), .int (nI (vdp w + 1)), .ref la, .ref ha, .ref va, .ref za]) := (mU_n (g_neoa (kq (k)) (kza (k)))).trans (kq (k))
                have m_61 : (mU (mU (mU M4 va (aJ G (wsz w) (vF (eaD w (nI 2) cv) (k)))) za (aZ G (wsz w) (zF (eaD w (nI 2) cv) (k)))) za (aZ G (wsz w) (upd (zF (eaD w (nI 2) cv) (k)) k 1))) va = some (aJ G (wsz w) (vF (eaD w (nI 2) cv) (k))) := (mU_n (lvz)).trans (kva (k))
                have m_62 : (mU (mU (mU M4 va (aJ G (wsz w) (vF (eaD w (nI 2) cv) (k)))) za (aZ G (wsz w) (zF (eaD w (nI 2) cv) (k)))) za (aZ G (wsz w) (upd (zF (eaD w (nI 2) cv) (k)) k 1))) za = some (aZ G (wsz w) (upd (zF (eaD w (nI 2) cv) (k)) k 1)) := mU_s
                refine q_aload X dX13_apply_154 6 rfl ?_
                refine q_get X m_60 rfl in_RX12 4 (by decide) tw_1163 rfl rfl dX13_apply_156 ?_
                refine q_iload X dX13_apply_159 7 rfl ?_
                refine q_iload_n X dX13_apply_161 3 rfl ?_
                refine q_if_ne X 172 dX13_apply_162 (by decide) (fun c_63 => ?_) (fun c_63 => absurd c_63 (by decide))
                refine q_iload_n X dX13_apply_172 3 rfl ?_
                refine q_iconst (v := 1) X dX13_apply_173 (by decide) ?_
                refine q_icmp_ne X 184 dX13_apply_174 (by decide) (fun c_64 => ?_) (fun c_64 => absurd c_64 (by decide))
                refine q_iload_n X dX13_apply_184 3 rfl ?_
                refine q_iconst (v := 2) X dX13_apply_185 (by decide) ?_
                refine q_icmp_ne X 196 dX13_apply_186 (by decide) (fun c_65 => absurd (by decide) c_65) (fun c_65 => ?_)
                refine q_lload X dX13_apply_189 0 rfl ?_
                refine q_lload_n X dX13_apply_191 4 rfl ?_
                refine q_ldiv X dX13_apply_192 (fun q9 => c127 (by rw [lg_cmp_eq]; exact q9)) ?_
                refine q_goto X 224 dX13_apply_193 (by decide) ?_
                refine q_lastN X k m_61 (rfl) (hk) (by omega) dX13_apply_224 ?_
                have m_66 : (mU (mU (mU (mU M4 va (aJ G (wsz w) (vF (eaD w (nI 2) cv) (k)))) za (aZ G (wsz w) (zF (eaD w (nI 2) cv) (k)))) za (aZ G (wsz w) (upd (zF (eaD w (nI 2) cv) (k)) k 1))) va (aJ G (wsz w) (vp_updL (vF (eaD w (nI 2) cv) (k)) k ((ovf k) / cv)))) q = some (oB 12 [.int (nI (vm w)), .int (nI (vdp w + 1)), .ref la, .ref ha, .ref va, .ref za]) := (mU_n (g_neoa m_60 m_61)).trans m_60
                have m_67 : (mU (mU (mU (mU M4 va (aJ G (wsz w) (vF (eaD w (nI 2) cv) (k)))) za (aZ G (wsz w) (zF (eaD w (nI 2) cv) (k)))) za (aZ G (wsz w) (upd (zF (eaD w (nI 2) cv) (k)) k 1))) va (aJ G (wsz w) (vp_updL (vF (eaD w (nI 2) cv) (k)) k ((ovf k) / cv)))) va = some (aJ G (wsz w) (vp_updL (vF (eaD w (nI 2) cv) (k)) k ((ovf k) / cv))) := mU_s
                have m_68 : (mU (mU (mU (mU M4 va (aJ G (wsz w) (vF (eaD w (nI 2) cv) (k)))) za (aZ G (wsz w) (zF (eaD w (nI 2) cv) (k)))) za (aZ G (wsz w) (upd (zF (eaD w (nI 2) cv) (k)) k 1))) va (aJ G (wsz w) (vp_updL (vF (eaD w (nI 2) cv) (k)) k ((ovf k) / cv)))) za = some (aZ G (wsz w) (upd (zF (eaD w (nI 2) cv) (k)) k 1)) := (mU_n (Ne.symm (lvz))).trans m_62
                refine q_iinc (v := (nI (k + 1))) (lv' := [(7, .int (nI (k + 1))), (8, .long (ovf k)), (0, .ref r), (1, .int (nI i)), (2, .int (nI 2)), (3, .long cv), (5, .ref o), (6, .ref q)]) X dX13_apply_225 7 rfl (nI_1 k) (by decide) rfl ?_
                refine q_goto X 82 dX13_apply_228 (by decide) ?_
                refine q_sub [2, 3, 4, 5, 6, 7, 0] rfl ?_
                have hdk := (ea_some (rule := nI 2) (c := cv) hw hk (ct_some hO.2.2.2.2.2 hk c101)).trans (by unfold eachD; rw [if_neg (by decide), if_neg (by decide), if_pos (by decide), if_neg (fun q9 => c127 (by rw [lg_cmp_eq]; exact q9))])
                refine q_memE (M' := mU (mU M4 va (aJ G (wsz w) (vF (eaD w (nI 2) cv) (k + 1)))) za (aZ G (wsz w) (zF (eaD w (nI 2) cv) (k + 1)))) (by rw [← vF_y hdk, ← zF_y hdk]; exact mU_5 lvz) ?_
                exact ih (k + 1) (by omega)
        refine q_iconst (v := 0) X dX13_apply_79 (by decide) ?_
        refine q_istore (lv' := [(7, .int 0), (6, .ref q), (5, .ref o), (0, .ref r), (1, .int (nI i)), (2, .int (nI 2)), (3, .long cv)]) X dX13_apply_80 (by decide) rfl ?_
        refine q_sub [3, 4, 5, 6, 2, 1, 0] rfl ?_
        refine q_memE (M' := mU (mU M4 va (aJ G (wsz w) (vF (eaD w (nI 2) cv) (0)))) za (aZ G (wsz w) (zF (eaD w (nI 2) cv) (0)))) (by rw [vF_0, zF_0, mU_id hva4, mU_id hza4]) ?_
        exact L0 hfin (wsz w) 0 (by omega)
      · have kv : ∀ {x : Nat} {e : va_E}, M4 x = some e → x ≠ va → x ≠ za → ∀ c, (mU (mU M4 va (aJ G (wsz w) (vF (eaD w (nI 3) cv) (c)))) za (aZ G (wsz w) (zF (eaD w (nI 3) cv) (c)))) x = some e := fun h h1 h2 c => (mU_n h2).trans ((mU_n h1).trans h)
        have kr : ∀ c, (mU (mU M4 va (aJ G (wsz w) (vF (eaD w (nI 3) cv) (c)))) za (aZ G (wsz w) (zF (eaD w (nI 3) cv) (c)))) r = some (oB 13 [.int 0, .ref vA, .ref nA, .ref pA, .ref plA, .ref dg, .int (nI (aV σ).length), .int (nI (aN σ).length), .int (nI (aOf σ)), .int (nI (aBg σ)), .int tk, .long su, .long le, .long gr]) := kv m_21 (g_nef m_9 fva3) (g_nef m_9 fza3)
        have kplA : ∀ c, (mU (mU M4 va (aJ G (wsz w) (vF (eaD w (nI 3) cv) (c)))) za (aZ G (wsz w) (zF (eaD w (nI 3) cv) (c)))) plA = some (aI G 3 pl0) := kv m_28 (g_nef m_16 fva3) (g_nef m_16 fza3)
        have kq : ∀ c, (mU (mU M4 va (aJ G (wsz w) (vF (eaD w (nI 3) cv) (c)))) za (aZ G (wsz w) (zF (eaD w (nI 3) cv) (c)))) q = some (oB 12 [.int (nI (vm w)), .int (nI (vdp w + 1)), .ref la, .ref ha, .ref va, .ref za]) := kv hq4 (g_nef m_17 fva3) (g_nef m_17 fza3)
        have kla : ∀ c, (mU (mU M4 va (aJ G (wsz w) (vF (eaD w (nI 3) cv) (c)))) za (aZ G (wsz w) (zF (eaD w (nI 3) cv) (c)))) la = some (aI G 3 (vlo w)) := kv m_29 (g_nef m_18 fva3) (g_nef m_18 fza3)
        have kha : ∀ c, (mU (mU M4 va (aJ G (wsz w) (vF (eaD w (nI 3) cv) (c)))) za (aZ G (wsz w) (zF (eaD w (nI 3) cv) (c)))) ha = some (aI G 3 (vhi w)) := kv m_30 (g_nef m_19 fva3) (g_nef m_19 fza3)
        have ko : ∀ c, (mU (mU M4 va (aJ G (wsz w) (vF (eaD w (nI 3) cv) (c)))) za (aZ G (wsz w) (zF (eaD w (nI 3) cv) (c)))) o = some (oB 12 [.int (nI (vm w)), .int (nI (vdp w)), .ref ola, .ref oha, .ref ova, .ref oza]) := kv m_23 (g_nef m_11 fva3) (g_nef m_11 fza3)
        have kola : ∀ c, (mU (mU M4 va (aJ G (wsz w) (vF (eaD w (nI 3) cv) (c)))) za (aZ G (wsz w) (zF (eaD w (nI 3) cv) (c)))) ola = some (aI G 3 (vlo w)) := kv m_24 (g_nef m_12 fva3) (g_nef m_12 fza3)
        have koha : ∀ c, (mU (mU M4 va (aJ G (wsz w) (vF (eaD w (nI 3) cv) (c)))) za (aZ G (wsz w) (zF (eaD w (nI 3) cv) (c)))) oha = some (aI G 3 (vhi w)) := kv m_25 (g_nef m_13 fva3) (g_nef m_13 fza3)
        have kova : ∀ c, (mU (mU M4 va (aJ G (wsz w) (vF (eaD w (nI 3) cv) (c)))) za (aZ G (wsz w) (zF (eaD w (nI 3) cv) (c)))) ova = some (aJ G (wsz w) ovf) := kv m_26 (g_nef m_14 fva3) (g_nef m_14 fza3)
        have koza : ∀ c, (mU (mU M4 va (aJ G (wsz w) (vF (eaD w (nI 3) cv) (c)))) za (aZ G (wsz w) (zF (eaD w (nI 3) cv) (c)))) oza = some (aZ G (wsz w) ozf) := kv m_27 (g_nef m_15 fva3) (g_nef m_15 fza3)
        have kva : ∀ c, (mU (mU M4 va (aJ G (wsz w) (vF (eaD w (nI 3) cv) (c)))) za (aZ G (wsz w) (zF (eaD w (nI 3) cv) (c)))) va = some (aJ G (wsz w) (vF (eaD w (nI 3) cv) (c))) := fun c => (mU_n lvz).trans mU_s
        have kza : ∀ c, (mU (mU M4 va (aJ G (wsz w) (vF (eaD w (nI 3) cv) (c)))) za (aZ G (wsz w) (zF (eaD w (nI 3) cv) (c)))) za = some (aZ G (wsz w) (zF (eaD w (nI 3) cv) c)) := fun c => mU_s
        have koX : ∀ c, isGrX G (mU (mU M4 va (aJ G (wsz w) (vF (eaD w (nI 3) cv) (c)))) za (aZ G (wsz w) (zF (eaD w (nI 3) cv) (c)))) o ola oha ova oza ovf ozf w := fun c => ⟨ko c, kola c, koha c, kova c, koza c, hO.2.2.2.2.2⟩
        have l0 := hok.lo (d := 0) (by decide)
        have N0 := hok.N (d := 0) (by decide)
        have y0 := hok.hi (d := 0) (by decide)
        have l1 := hok.lo (d := 1) (by decide)
        have N1 := hok.N (d := 1) (by decide)
        have y1 := hok.hi (d := 1) (by decide)
        have l2 := hok.lo (d := 2) (by decide)
        have N2 := hok.N (d := 2) (by decide)
        have y2 := hok.hi (d := 2) (by decide)
        have hfin : qJ G F (qQ G F (rfP G r cOp (some (.int 0)) (sp_apply σ (nI i) (nI 3) cv))) 10 (mU (mU M4 va (aJ G (wsz w) (vF (eaD w (nI 3) cv) (wsz w)))) za (aZ G (wsz w) (zF (eaD w (nI 3) cv) (wsz w)))) 0 0 231 [(0, .ref r), (1, .int (nI i)), (2, .int (nI 3)), (3, .long cv), (5, .ref o), (6, .ref q)] [] := by
          have evz : mEv (fun x => x = r ∨ x = plA) M (mU (mU M4 va (aJ G (wsz w) (vF (eaD w (nI 3) cv) (wsz w)))) za (aZ G (wsz w) (zF (eaD w (nI 3) cv) (wsz w)))) := fun x hx => by
            have w1 : x ≠ va := fun z => hx (z ▸ fva)
            have w2 : x ≠ za := fun z => hx (z ▸ fza)
            have e1 := evK4 x hx
            have e : (mU (mU M4 va (aJ G (wsz w) (vF (eaD w (nI 3) cv) (wsz w)))) za (aZ G (wsz w) (zF (eaD w (nI 3) cv) (wsz w)))) x = M4 x := (mU_n w2).trans (mU_n w1)
            exact ⟨by rw [e]; exact e1.1, fun k => e.trans (e1.2 k)⟩
          have hBz : rfB G (mU (mU M4 va (aJ G (wsz w) (vF (eaD w (nI 3) cv) (wsz w)))) za (aZ G (wsz w) (zF (eaD w (nI 3) cv) (wsz w)))) r 0 σ vA nA pA plA dg dla dha dva dza dvf dzf vf nf pf tk su le gr := hB.ev2 evz (kr (wsz w)) ⟨_, kplA (wsz w)⟩
          have nb : ∀ {x : Nat}, M x = none → ¬ rBad plA pA dva dza x := fun h z => by
            rcases z with z | z | z | z
            · rw [z, hpl0] at h; cases h
            · rw [z, hB.2.2.2.1] at h; cases h
            · rw [z, hB.2.2.2.2.2.1.2.2.2.1] at h; cases h
            · rw [z, hB.2.2.2.2.2.1.2.2.2.2.1] at h; cases h
          have hg : isGrd G (mU (mU M4 va (aJ G (wsz w) (vF (eaD w (nI 3) cv) (wsz w)))) za (aZ G (wsz w) (zF (eaD w (nI 3) cv) (wsz w)))) (rBad plA pA dva dza) q (vm w, (vlo w), (vhi w), vdp w + 1, (eaD w (nI 3) cv)) := grd_mk (kq (wsz w)) (kla (wsz w)) (kha (wsz w)) (kva (wsz w)) (kza (wsz w)) (gCt_F (eaD w (nI 3) cv) (wsz w)) (nb fla) (nb fha) (nb fva) (nb fza)
          refine q_aload_n X dX13_apply_231 0 rfl ?_
          refine q_aload X dX13_apply_232 5 rfl ?_
          refine q_callV X (c_made hBz hg h150) Y_X13_made tw_1339 tw_1341 sel_28 (kr (wsz w)) rfl (by omega) rfl rfl (Nat.le_of_ble_eq_true rfl) (rc' := 0) (rs' := 0) (Nat.le_refl _) (Nat.le_refl _) dX13_apply_234 (fun v M' hp _ => ?_)
          obtain ⟨rfl, hz9⟩ := hp
          generalize M' = M9 at *
          show qJ G F _ 10 M9 0 0 237 [(0, .ref r), (1, .int (nI i)), (2, .int (nI 3)), (3, .long cv), (5, .ref o), (6, .ref q)] [.int (nI (aN σ).length)]
          exact q_iret X hr dX13_apply_237 (rfP_K (by rw [specE]; exact gLim_y hlim) hz9)
        have L0 : ∀ (kk : qJ G F (qQ G F (rfP G r cOp (some (.int 0)) (sp_apply σ (nI i) (nI 3) cv))) 10 (mU (mU M4 va (aJ G (wsz w) (vF (eaD w (nI 3) cv) (wsz w)))) za (aZ G (wsz w) (zF (eaD w (nI 3) cv) (wsz w)))) 0 0 231 [(0, .ref r), (1, .int (nI i)), (2, .int (nI 3)), (3, .long cv), (5, .ref o), (6, .ref q)] []) (t k : Nat), k + t = wsz w → qJ G F (qQ G F (rfP G r cOp (some (.int 0)) (sp_apply σ (nI i) (nI 3) cv))) 10 (mU (mU M4 va (aJ G (wsz w) (vF (eaD w (nI 3) cv) (k)))) za (aZ G (wsz w) (zF (eaD w (nI 3) cv) (k)))) 0 0 82 [(0, .ref r), (1, .int (nI i)), (2, .int (nI 3)), (3, .long cv), (5, .ref o), (6, .ref q), (7, .int (nI k))] [] := by
          intro  kk t
          induction t with
          | zero =>
            intro k hk0
            obtain rfl : k = wsz w := by omega
            refine q_iload X dX13_apply_82 6 rfl ?_
            refine q_aload X dX13_apply_84 5 rfl ?_
            refine q_get X (kq (wsz w)) rfl in_RX12 4 (by decide) tw_1163 rfl rfl dX13_apply_86 ?_
            refine q_alen X 1 (kva (wsz w)) rfl dX13_apply_89 ?_
            refine q_icmp_ge X 231 dX13_apply_90 (by decide) (fun c_69 => ?_) (fun c_69 => absurd (Int32.le_refl _) c_69)
            refine q_sub [0, 1, 2, 3, 4, 5] rfl ?_
            exact kk
          | succ t ih =>
            intro k hk0
            have hk : k < wsz w := by omega
            have hkz : wsz w ≤ 4096 := hw.2.1
            refine q_iload X dX13_apply_82 6 rfl ?_
            refine q_aload X dX13_apply_84 5 rfl ?_
            refine q_get X (kq (k)) rfl in_RX12 4 (by decide) tw_1163 rfl rfl dX13_apply_86 ?_
            refine q_alen X 1 (kva (k)) rfl dX13_apply_89 ?_
            refine q_icmp_ge X 231 dX13_apply_90 (by decide) (fun c_70 => absurd c_70 (nI_ge hk (by omega))) (fun c_70 => ?_)
            refine q_aload X dX13_apply_93 4 rfl ?_
            refine q_get X (ko (k)) rfl in_RX12 5 (by decide) tw_1165 rfl rfl dX13_apply_95 ?_
            refine q_iload X dX13_apply_98 6 rfl ?_
            refine q_zaldN X k (koza (k)) (rfl) (hk) (by omega) dX13_apply_100 ?_
            refine q_if_eq X 225 dX13_apply_101 (by decide) (fun c101 => ?_) (fun c101 => ?_)
            · refine q_iinc (v := (nI (k + 1))) (lv' := [(7, .int (nI (k + 1))), (0, .ref r), (1, .int (nI i)), (2, .int (nI 3)), (3, .long cv), (5, .ref o), (6, .ref q)]) X dX13_apply_225 6 rfl (nI_1 k) (by decide) rfl ?_
              refine q_goto X 82 dX13_apply_228 (by decide) ?_
              refine q_sub [1, 2, 3, 4, 5, 6, 0] rfl ?_
              have hdk : eaD w (nI 3) cv k = none := ea_none hw hk (ct_none hO.2.2.2.2.2 hk c101)
              refine q_memE (M' := mU (mU M4 va (aJ G (wsz w) (vF (eaD w (nI 3) cv) (k + 1)))) za (aZ G (wsz w) (zF (eaD w (nI 3) cv) (k + 1)))) (by rw [vF_no hdk, zF_no hdk]) ?_
              exact ih (k + 1) (by omega)
            · refine q_aload X dX13_apply_104 4 rfl ?_
              refine q_get X (ko (k)) rfl in_RX12 4 (by decide) tw_1163 rfl rfl dX13_apply_106 ?_
              refine q_iload X dX13_apply_109 6 rfl ?_
              refine q_laldN X k (kova (k)) (rfl) (hk) (by omega) dX13_apply_111 ?_
              refine q_lstore (lv' := [(8, .long (ovf k)), (0, .ref r), (1, .int (nI i)), (2, .int (nI 3)), (3, .long cv), (5, .ref o), (6, .ref q), (7, .int (nI k))]) X dX13_apply_112 (by decide) rfl ?_
              refine q_iload_n X dX13_apply_114 3 rfl ?_
              refine q_iconst (v := 2) X dX13_apply_115 (by decide) ?_
              refine q_icmp_eq X 124 dX13_apply_116 (by decide) (fun c_71 => absurd c_71 (by decide)) (fun c_71 => ?_)
              refine q_iload_n X dX13_apply_119 3 rfl ?_
              refine q_iconst (v := 3) X dX13_apply_120 (by decide) ?_
              refine q_icmp_ne X 130 dX13_apply_121 (by decide) (fun c_72 => absurd (by decide) c_72) (fun c_72 => ?_)
              refine q_lload_n X dX13_apply_124 4 rfl ?_
              refine q_lconst (v := 0) X dX13_apply_125 (by decide) ?_
              refine q_lcmp X dX13_apply_126 ?_
              refine q_if_eq X 225 dX13_apply_127 (by decide) (fun c127 => ?_) (fun c127 => ?_)
              · refine q_iinc (v := (nI (k + 1))) (lv' := [(7, .int (nI (k + 1))), (8, .long (ovf k)), (0, .ref r), (1, .int (nI i)), (2, .int (nI 3)), (3, .long cv), (5, .ref o), (6, .ref q)]) X dX13_apply_225 7 rfl (nI_1 k) (by decide) rfl ?_
                refine q_goto X 82 dX13_apply_228 (by decide) ?_
                refine q_sub [2, 3, 4, 5, 6, 7, 0] rfl ?_
                have hdk : eaD w (nI 3) cv k = none := (ea_some hw hk (ct_some hO.2.2.2.2.2 hk c101)).trans (by have q9 := c127; rw [lg_cmp_eq] at q9; unfold eachD; rw [if_neg (by decide), if_neg (by decide), if_neg (by decide), if_pos (by decide), if_pos q9])
                refine q_memE (M' := mU (mU M4 va (aJ G (wsz w) (vF (eaD w (nI 3) cv) (k + 1)))) za (aZ G (wsz w) (zF (eaD w (nI 3) cv) (k + 1)))) (by rw [vF_no hdk, zF_no hdk]) ?_
                exact ih (k + 1) (by omega)
              · refine q_iload_n X dX13_apply_130 3 rfl ?_
                refine q_iconst (v := 5) X dX13_apply_131 (by decide) ?_
                refine q_icmp_ne X 145 dX13_apply_132 (by decide) (fun c_73 => ?_) (fun c_73 => absurd c_73 (by decide))
                refine q_aload X dX13_apply_145 6 rfl ?_
                refine q_get X (kq (k)) rfl in_RX12 5 (by decide) tw_1165 rfl rfl dX13_apply_147 ?_
                refine q_iload X dX13_apply_150 7 rfl ?_
                refine q_iconst (v := 1) X dX13_apply_152 (by decide) ?_
                refine q_zastN X k (kza (k)) (rfl) (hk) (by omega) (Or.inr rfl) dX13_apply_153 ?_
                have m_74 : (mU (mU (mU M4 va (aJ G (wsz w) (vF (eaD w (nI 3) cv) (k)))) za (aZ G (wsz w) (zF (eaD w (nI 3) cv) (k)))) za (aZ G (wsz w) (upd (zF (eaD w (nI 3) cv) (k)) k 1))) q = some (oB 12 [.int (nI (vm w)), .int (nI (vdp w + 1)), .ref la, .ref ha, .ref va, .ref za]) := (mU_n (g_neoa (kq (k)) (kza (k)))).trans (kq (k))
                have m_75 : (mU (mU (mU M4 va (aJ G (wsz w) (vF (eaD w (nI 3) cv) (k)))) za (aZ G (wsz w) (zF (eaD w (nI 3) cv) (k)))) za (aZ G (wsz w) (upd (zF (eaD w (nI 3) cv) (k)) k 1))) va = some (aJ G (wsz w) (vF (eaD w (nI 3) cv) (k))) := (mU_n (lvz)).trans (kva (k))
                have m_76 : (mU (mU (mU M4 va (aJ G (wsz w) (vF (eaD w (nI 3) cv) (k)))) za (aZ G (wsz w) (zF (eaD w (nI 3) cv) (k)))) za (aZ G (wsz w) (upd (zF (eaD w (nI 3) cv) (k)) k 1))) za = some (aZ G (wsz w) (upd (zF (eaD w (nI 3) cv) (k)) k 1)) := mU_s
                refine q_aload X dX13_apply_154 6 rfl ?_
                refine q_get X m_74 rfl in_RX12 4 (by decide) tw_1163 rfl rfl dX13_apply_156 ?_
                refine q_iload X dX13_apply_159 7 rfl ?_
                refine q_iload_n X dX13_apply_161 3 rfl ?_
                refine q_if_ne X 172 dX13_apply_162 (by decide) (fun c_77 => ?_) (fun c_77 => absurd c_77 (by decide))
                refine q_iload_n X dX13_apply_172 3 rfl ?_
                refine q_iconst (v := 1) X dX13_apply_173 (by decide) ?_
                refine q_icmp_ne X 184 dX13_apply_174 (by decide) (fun c_78 => ?_) (fun c_78 => absurd c_78 (by decide))
                refine q_iload_n X dX13_apply_184 3 rfl ?_
                refine q_iconst (v := 2) X dX13_apply_185 (by decide) ?_
                refine q_icmp_ne X 196 dX13_apply_186 (by decide) (fun c_79 => ?_) (fun c_79 => absurd c_79 (by decide))
                refine q_iload_n X dX13_apply_196 3 rfl ?_
                refine q_iconst (v := 3) X dX13_apply_197 (by decide) ?_
                refine q_icmp_ne X 208 dX13_apply_198 (by decide) (fun c_80 => absurd (by decide) c_80) (fun c_80 => ?_)
                refine q_lload X dX13_apply_201 0 rfl ?_
                refine q_lload_n X dX13_apply_203 4 rfl ?_
                refine q_lrem X dX13_apply_204 (fun q9 => c127 (by rw [lg_cmp_eq]; exact q9)) ?_
                refine q_goto X 224 dX13_apply_205 (by decide) ?_
                refine q_lastN X k m_75 (rfl) (hk) (by omega) dX13_apply_224 ?_
                have m_81 : (mU (mU (mU (mU M4 va (aJ G (wsz w) (vF (eaD w (nI 3) cv) (k)))) za (aZ G (wsz w) (zF (eaD w (nI 3) cv) (k)))) za (aZ G (wsz w) (upd (zF (eaD w (nI 3) cv) (k)) k 1))) va (aJ G (wsz w) (vp_updL (vF (eaD w (nI 3) cv) (k)) k ((ovf k) - (ovf k) / cv * cv)))) q = some (oB 12 [.int (nI (vm w)), .int (nI (vdp w + 1)), .ref la, .ref ha, .ref va, .ref za]) := (mU_n (g_neoa m_74 m_75)).trans m_74
                have m_82 : (mU (mU (mU (mU M4 va (aJ G (wsz w) (vF (eaD w (nI 3) cv) (k)))) za (aZ G (wsz w) (zF (eaD w (nI 3) cv) (k)))) za (aZ G (wsz w) (upd (zF (eaD w (nI 3) cv) (k)) k 1))) va (aJ G (wsz w) (vp_updL (vF (eaD w (nI 3) cv) (k)) k ((ovf k) - (ovf k) / cv * cv)))) va = some (aJ G (wsz w) (vp_updL (vF (eaD w (nI 3) cv) (k)) k ((ovf k) - (ovf k) / cv * cv))) := mU_s
                have m_83 : (mU (mU (mU (mU M4 va (aJ G (wsz w) (vF (eaD w (nI 3) cv) (k)))) za (aZ G (wsz w) (zF (eaD w (nI 3) cv) (k)))) za (aZ G (wsz w) (upd (zF (eaD w (nI 3) cv) (k)) k 1))) va (aJ G (wsz w) (vp_updL (vF (eaD w (nI 3) cv) (k)) k ((ovf k) - (ovf k) / cv * cv)))) za = some (aZ G (wsz w) (upd (zF (eaD w (nI 3) cv) (k)) k 1)) := (mU_n (Ne.symm (lvz))).trans m_76
                refine q_iinc (v := (nI (k + 1))) (lv' := [(7, .int (nI (k + 1))), (8, .long (ovf k)), (0, .ref r), (1, .int (nI i)), (2, .int (nI 3)), (3, .long cv), (5, .ref o), (6, .ref q)]) X dX13_apply_225 7 rfl (nI_1 k) (by decide) rfl ?_
                refine q_goto X 82 dX13_apply_228 (by decide) ?_
                refine q_sub [2, 3, 4, 5, 6, 7, 0] rfl ?_
                have hdk := (ea_some (rule := nI 3) (c := cv) hw hk (ct_some hO.2.2.2.2.2 hk c101)).trans (by unfold eachD; rw [if_neg (by decide), if_neg (by decide), if_neg (by decide), if_pos (by decide), if_neg (fun q9 => c127 (by rw [lg_cmp_eq]; exact q9))])
                refine q_memE (M' := mU (mU M4 va (aJ G (wsz w) (vF (eaD w (nI 3) cv) (k + 1)))) za (aZ G (wsz w) (zF (eaD w (nI 3) cv) (k + 1)))) (by rw [← vF_y hdk, ← zF_y hdk]; exact mU_5 lvz) ?_
                exact ih (k + 1) (by omega)
        refine q_iconst (v := 0) X dX13_apply_79 (by decide) ?_
        refine q_istore (lv' := [(7, .int 0), (6, .ref q), (5, .ref o), (0, .ref r), (1, .int (nI i)), (2, .int (nI 3)), (3, .long cv)]) X dX13_apply_80 (by decide) rfl ?_
        refine q_sub [3, 4, 5, 6, 2, 1, 0] rfl ?_
        refine q_memE (M' := mU (mU M4 va (aJ G (wsz w) (vF (eaD w (nI 3) cv) (0)))) za (aZ G (wsz w) (zF (eaD w (nI 3) cv) (0)))) (by rw [vF_0, zF_0, mU_id hva4, mU_id hza4]) ?_
        exact L0 hfin (wsz w) 0 (by omega)
      · have kv : ∀ {x : Nat} {e : va_E}, M4 x = some e → x ≠ va → x ≠ za → ∀ c, (mU (mU M4 va (aJ G (wsz w) (vF (eaD w (nI 4) cv) (c)))) za (aZ G (wsz w) (zF (eaD w (nI 4) cv) (c)))) x = some e := fun h h1 h2 c => (mU_n h2).trans ((mU_n h1).trans h)
        have kr : ∀ c, (mU (mU M4 va (aJ G (wsz w) (vF (eaD w (nI 4) cv) (c)))) za (aZ G (wsz w) (zF (eaD w (nI 4) cv) (c)))) r = some (oB 13 [.int 0, .ref vA, .ref nA, .ref pA, .ref plA, .ref dg, .int (nI (aV σ).length), .int (nI (aN σ).length), .int (nI (aOf σ)), .int (nI (aBg σ)), .int tk, .long su, .long le, .long gr]) := kv m_21 (g_nef m_9 fva3) (g_nef m_9 fza3)
        have kplA : ∀ c, (mU (mU M4 va (aJ G (wsz w) (vF (eaD w (nI 4) cv) (c)))) za (aZ G (wsz w) (zF (eaD w (nI 4) cv) (c)))) plA = some (aI G 3 pl0) := kv m_28 (g_nef m_16 fva3) (g_nef m_16 fza3)
        have kq : ∀ c, (mU (mU M4 va (aJ G (wsz w) (vF (eaD w (nI 4) cv) (c)))) za (aZ G (wsz w) (zF (eaD w (nI 4) cv) (c)))) q = some (oB 12 [.int (nI (vm w)), .int (nI (vdp w + 1)), .ref la, .ref ha, .ref va, .ref za]) := kv hq4 (g_nef m_17 fva3) (g_nef m_17 fza3)
        have kla : ∀ c, (mU (mU M4 va (aJ G (wsz w) (vF (eaD w (nI 4) cv) (c)))) za (aZ G (wsz w) (zF (eaD w (nI 4) cv) (c)))) la = some (aI G 3 (vlo w)) := kv m_29 (g_nef m_18 fva3) (g_nef m_18 fza3)
        have kha : ∀ c, (mU (mU M4 va (aJ G (wsz w) (vF (eaD w (nI 4) cv) (c)))) za (aZ G (wsz w) (zF (eaD w (nI 4) cv) (c)))) ha = some (aI G 3 (vhi w)) := kv m_30 (g_nef m_19 fva3) (g_nef m_19 fza3)
        have ko : ∀ c, (mU (mU M4 va (aJ G (wsz w) (vF (eaD w (nI 4) cv) (c)))) za (aZ G (wsz w) (zF (eaD w (nI 4) cv) (c)))) o = some (oB 12 [.int (nI (vm w)), .int (nI (vdp w)), .ref ola, .ref oha, .ref ova, .ref oza]) := kv m_23 (g_nef m_11 fva3) (g_nef m_11 fza3)
        have kola : ∀ c, (mU (mU M4 va (aJ G (wsz w) (vF (eaD w (nI 4) cv) (c)))) za (aZ G (wsz w) (zF (eaD w (nI 4) cv) (c)))) ola = some (aI G 3 (vlo w)) := kv m_24 (g_nef m_12 fva3) (g_nef m_12 fza3)
        have koha : ∀ c, (mU (mU M4 va (aJ G (wsz w) (vF (eaD w (nI 4) cv) (c)))) za (aZ G (wsz w) (zF (eaD w (nI 4) cv) (c)))) oha = some (aI G 3 (vhi w)) := kv m_25 (g_nef m_13 fva3) (g_nef m_13 fza3)
        have kova : ∀ c, (mU (mU M4 va (aJ G (wsz w) (vF (eaD w (nI 4) cv) (c)))) za (aZ G (wsz w) (zF (eaD w (nI 4) cv) (c)))) ova = some (aJ G (wsz w) ovf) := kv m_26 (g_nef m_14 fva3) (g_nef m_14 fza3)
        have koza : ∀ c, (mU (mU M4 va (aJ G (wsz w) (vF (eaD w (nI 4) cv) (c)))) za (aZ G (wsz w) (zF (eaD w (nI 4) cv) (c)))) oza = some (aZ G (wsz w) ozf) := kv m_27 (g_nef m_15 fva3) (g_nef m_15 fza3)
        have kva : ∀ c, (mU (mU M4 va (aJ G (wsz w) (vF (eaD w (nI 4) cv) (c)))) za (aZ G (wsz w) (zF (eaD w (nI 4) cv) (c)))) va = some (aJ G (wsz w) (vF (eaD w (nI 4) cv) (c))) := fun c => (mU_n lvz).trans mU_s
        have kza : ∀ c, (mU (mU M4 va (aJ G (wsz w) (vF (eaD w (nI 4) cv) (c)))) za (aZ G (wsz w) (zF (eaD w (nI 4) cv) (c)))) za = some (aZ G (wsz w) (zF (eaD w (nI 4) cv) c)) := fun c => mU_s
        have koX : ∀ c, isGrX G (mU (mU M4 va (aJ G (wsz w) (vF (eaD w (nI 4) cv) (c)))) za (aZ G (wsz w) (zF (eaD w (nI 4) cv) (c)))) o ola oha ova oza ovf ozf w := fun c => ⟨ko c, kola c, koha c, kova c, koza c, hO.2.2.2.2.2⟩
        have l0 := hok.lo (d := 0) (by decide)
        have N0 := hok.N (d := 0) (by decide)
        have y0 := hok.hi (d := 0) (by decide)
        have l1 := hok.lo (d := 1) (by decide)
        have N1 := hok.N (d := 1) (by decide)
        have y1 := hok.hi (d := 1) (by decide)
        have l2 := hok.lo (d := 2) (by decide)
        have N2 := hok.N (d := 2) (by decide)
        have y2 := hok.hi (d := 2) (by decide)
        have hfin : qJ G F (qQ G F (rfP G r cOp (some (.int 0)) (sp_apply σ (nI i) (nI 4) cv))) 10 (mU (mU M4 va (aJ G (wsz w) (vF (eaD w (nI 4) cv) (wsz w)))) za (aZ G (wsz w) (zF (eaD w (nI 4) cv) (wsz w)))) 0 0 231 [(0, .ref r), (1, .int (nI i)), (2, .int (nI 4)), (3, .long cv), (5, .ref o), (6, .ref q)] [] := by
          have evz : mEv (fun x => x = r ∨ x = plA) M (mU (mU M4 va (aJ G (wsz w) (vF (eaD w (nI 4) cv) (wsz w)))) za (aZ G (wsz w) (zF (eaD w (nI 4) cv) (wsz w)))) := fun x hx => by
            have w1 : x ≠ va := fun z => hx (z ▸ fva)
            have w2 : x ≠ za := fun z => hx (z ▸ fza)
            have e1 := evK4 x hx
            have e : (mU (mU M4 va (aJ G (wsz w) (vF (eaD w (nI 4) cv) (wsz w)))) za (aZ G (wsz w) (zF (eaD w (nI 4) cv) (wsz w)))) x = M4 x := (mU_n w2).trans (mU_n w1)
            exact ⟨by rw [e]; exact e1.1, fun k => e.trans (e1.2 k)⟩
          have hBz : rfB G (mU (mU M4 va (aJ G (wsz w) (vF (eaD w (nI 4) cv) (wsz w)))) za (aZ G (wsz w) (zF (eaD w (nI 4) cv) (wsz w)))) r 0 σ vA nA pA plA dg dla dha dva dza dvf dzf vf nf pf tk su le gr := hB.ev2 evz (kr (wsz w)) ⟨_, kplA (wsz w)⟩
          have nb : ∀ {x : Nat}, M x = none → ¬ rBad plA pA dva dza x := fun h z => by
            rcases z with z | z | z | z
            · rw [z, hpl0] at h; cases h
            · rw [z, hB.2.2.2.1] at h; cases h
            · rw [z, hB.2.2.2.2.2.1.2.2.2.1] at h; cases h
            · rw [z, hB.2.2.2.2.2.1.2.2.2.2.1] at h; cases h
          have hg : isGrd G (mU (mU M4 va (aJ G (wsz w) (vF (eaD w (nI 4) cv) (wsz w)))) za (aZ G (wsz w) (zF (eaD w (nI 4) cv) (wsz w)))) (rBad plA pA dva dza) q (vm w, (vlo w), (vhi w), vdp w + 1, (eaD w (nI 4) cv)) := grd_mk (kq (wsz w)) (kla (wsz w)) (kha (wsz w)) (kva (wsz w)) (kza (wsz w)) (gCt_F (eaD w (nI 4) cv) (wsz w)) (nb fla) (nb fha) (nb fva) (nb fza)
          refine q_aload_n X dX13_apply_231 0 rfl ?_
          refine q_aload X dX13_apply_232 5 rfl ?_
          refine q_callV X (c_made hBz hg h150) Y_X13_made tw_1339 tw_1341 sel_28 (kr (wsz w)) rfl (by omega) rfl rfl (Nat.le_of_ble_eq_true rfl) (rc' := 0) (rs' := 0) (Nat.le_refl _) (Nat.le_refl _) dX13_apply_234 (fun v M' hp _ => ?_)
          obtain ⟨rfl, hz9⟩ := hp
          generalize M' = M9 at *
          show qJ G F _ 10 M9 0 0 237 [(0, .ref r), (1, .int (nI i)), (2, .int (nI 4)), (3, .long cv), (5, .ref o), (6, .ref q)] [.int (nI (aN σ).length)]
          exact q_iret X hr dX13_apply_237 (rfP_K (by rw [specE]; exact gLim_y hlim) hz9)
        have L0 : ∀ (kk : qJ G F (qQ G F (rfP G r cOp (some (.int 0)) (sp_apply σ (nI i) (nI 4) cv))) 10 (mU (mU M4 va (aJ G (wsz w) (vF (eaD w (nI 4) cv) (wsz w)))) za (aZ G (wsz w) (zF (eaD w (nI 4) cv) (wsz w)))) 0 0 231 [(0, .ref r), (1, .int (nI i)), (2, .int (nI 4)), (3, .long cv), (5, .ref o), (6, .ref q)] []) (t k : Nat), k + t = wsz w → qJ G F (qQ G F (rfP G r cOp (some (.int 0)) (sp_apply σ (nI i) (nI 4) cv))) 10 (mU (mU M4 va (aJ G (wsz w) (vF (eaD w (nI 4) cv) (k)))) za (aZ G (wsz w) (zF (eaD w (nI 4) cv) (k)))) 0 0 82 [(0, .ref r), (1, .int (nI i)), (2, .int (nI 4)), (3, .long cv), (5, .ref o), (6, .ref q), (7, .int (nI k))] [] := by
          intro  kk t
          induction t with
          | zero =>
            intro k hk0
            obtain rfl : k = wsz w := by omega
            refine q_iload X dX13_apply_82 6 rfl ?_
            refine q_aload X dX13_apply_84 5 rfl ?_
            refine q_get X (kq (wsz w)) rfl in_RX12 4 (by decide) tw_1163 rfl rfl dX13_apply_86 ?_
            refine q_alen X 1 (kva (wsz w)) rfl dX13_apply_89 ?_
            refine q_icmp_ge X 231 dX13_apply_90 (by decide) (fun c_84 => ?_) (fun c_84 => absurd (Int32.le_refl _) c_84)
            refine q_sub [0, 1, 2, 3, 4, 5] rfl ?_
            exact kk
          | succ t ih =>
            intro k hk0
            have hk : k < wsz w := by omega
            have hkz : wsz w ≤ 4096 := hw.2.1
            refine q_iload X dX13_apply_82 6 rfl ?_
            refine q_aload X dX13_apply_84 5 rfl ?_
            refine q_get X (kq (k)) rfl in_RX12 4 (by decide) tw_1163 rfl rfl dX13_apply_86 ?_
            refine q_alen X 1 (kva (k)) rfl dX13_apply_89 ?_
            refine q_icmp_ge X 231 dX13_apply_90 (by decide) (fun c_85 => absurd c_85 (nI_ge hk (by omega))) (fun c_85 => ?_)
            refine q_aload X dX13_apply_93 4 rfl ?_
            refine q_get X (ko (k)) rfl in_RX12 5 (by decide) tw_1165 rfl rfl dX13_apply_95 ?_
            refine q_iload X dX13_apply_98 6 rfl ?_
            refine q_zaldN X k (koza (k)) (rfl) (hk) (by omega) dX13_apply_100 ?_
            refine q_if_eq X 225 dX13_apply_101 (by decide) (fun c101 => ?_) (fun c101 => ?_)
            · refine q_iinc (v := (nI (k + 1))) (lv' := [(7, .int (nI (k + 1))), (0, .ref r), (1, .int (nI i)), (2, .int (nI 4)), (3, .long cv), (5, .ref o), (6, .ref q)]) X dX13_apply_225 6 rfl (nI_1 k) (by decide) rfl ?_
              refine q_goto X 82 dX13_apply_228 (by decide) ?_
              refine q_sub [1, 2, 3, 4, 5, 6, 0] rfl ?_
              have hdk : eaD w (nI 4) cv k = none := ea_none hw hk (ct_none hO.2.2.2.2.2 hk c101)
              refine q_memE (M' := mU (mU M4 va (aJ G (wsz w) (vF (eaD w (nI 4) cv) (k + 1)))) za (aZ G (wsz w) (zF (eaD w (nI 4) cv) (k + 1)))) (by rw [vF_no hdk, zF_no hdk]) ?_
              exact ih (k + 1) (by omega)
            · refine q_aload X dX13_apply_104 4 rfl ?_
              refine q_get X (ko (k)) rfl in_RX12 4 (by decide) tw_1163 rfl rfl dX13_apply_106 ?_
              refine q_iload X dX13_apply_109 6 rfl ?_
              refine q_laldN X k (kova (k)) (rfl) (hk) (by omega) dX13_apply_111 ?_
              refine q_lstore (lv' := [(8, .long (ovf k)), (0, .ref r), (1, .int (nI i)), (2, .int (nI 4)), (3, .long cv), (5, .ref o), (6, .ref q), (7, .int (nI k))]) X dX13_apply_112 (by decide) rfl ?_
              refine q_iload_n X dX13_apply_114 3 rfl ?_
              refine q_iconst (v := 2) X dX13_apply_115 (by decide) ?_
              refine q_icmp_eq X 124 dX13_apply_116 (by decide) (fun c_86 => absurd c_86 (by decide)) (fun c_86 => ?_)
              refine q_iload_n X dX13_apply_119 3 rfl ?_
              refine q_iconst (v := 3) X dX13_apply_120 (by decide) ?_
              refine q_icmp_ne X 130 dX13_apply_121 (by decide) (fun c_87 => ?_) (fun c_87 => absurd c_87 (by decide))
              refine q_iload_n X dX13_apply_130 3 rfl ?_
              refine q_iconst (v := 5) X dX13_apply_131 (by decide) ?_
              refine q_icmp_ne X 145 dX13_apply_132 (by decide) (fun c_88 => ?_) (fun c_88 => absurd c_88 (by decide))
              refine q_aload X dX13_apply_145 6 rfl ?_
              refine q_get X (kq (k)) rfl in_RX12 5 (by decide) tw_1165 rfl rfl dX13_apply_147 ?_
              refine q_iload X dX13_apply_150 7 rfl ?_
              refine q_iconst (v := 1) X dX13_apply_152 (by decide) ?_
              refine q_zastN X k (kza (k)) (rfl) (hk) (by omega) (Or.inr rfl) dX13_apply_153 ?_
              have m_89 : (mU (mU (mU M4 va (aJ G (wsz w) (vF (eaD w (nI 4) cv) (k)))) za (aZ G (wsz w) (zF (eaD w (nI 4) cv) (k)))) za (aZ G (wsz w) (upd (zF (eaD w (nI 4) cv) (k)) k 1))) q = some (oB 12 [.int (nI (vm w)), .int (nI (vdp w + 1)), .ref la, .ref ha, .ref va, .ref za]) := (mU_n (g_neoa (kq (k)) (kza (k)))).trans (kq (k))
              have m_90 : (mU (mU (mU M4 va (aJ G (wsz w) (vF (eaD w (nI 4) cv) (k)))) za (aZ G (wsz w) (zF (eaD w (nI 4) cv) (k)))) za (aZ G (wsz w) (upd (zF (eaD w (nI 4) cv) (k)) k 1))) va = some (aJ G (wsz w) (vF (eaD w (nI 4) cv) (k))) := (mU_n (lvz)).trans (kva (k))
              have m_91 : (mU (mU (mU M4 va (aJ G (wsz w) (vF (eaD w (nI 4) cv) (k)))) za (aZ G (wsz w) (zF (eaD w (nI 4) cv) (k)))) za (aZ G (wsz w) (upd (zF (eaD w (nI 4) cv) (k)) k 1))) za = some (aZ G (wsz w) (upd (zF (eaD w (nI 4) cv) (k)) k 1)) := mU_s
              refine q_aload X dX13_apply_154 6 rfl ?_
              refine q_get X m_89 rfl in_RX12 4 (by decide) tw_1163 rfl rfl dX13_apply_156 ?_
              refine q_iload X dX13_apply_159 7 rfl ?_
              refine q_iload_n X dX13_apply_161 3 rfl ?_
              refine q_if_ne X 172 dX13_apply_162 (by decide) (fun c_92 => ?_) (fun c_92 => absurd c_92 (by decide))
              refine q_iload_n X dX13_apply_172 3 rfl ?_
              refine q_iconst (v := 1) X dX13_apply_173 (by decide) ?_
              refine q_icmp_ne X 184 dX13_apply_174 (by decide) (fun c_93 => ?_) (fun c_93 => absurd c_93 (by decide))
              refine q_iload_n X dX13_apply_184 3 rfl ?_
              refine q_iconst (v := 2) X dX13_apply_185 (by decide) ?_
              refine q_icmp_ne X 196 dX13_apply_186 (by decide) (fun c_94 => ?_) (fun c_94 => absurd c_94 (by decide))
              refine q_iload_n X dX13_apply_196 3 rfl ?_
              refine q_iconst (v := 3) X dX13_apply_197 (by decide) ?_
              refine q_icmp_ne X 208 dX13_apply_198 (by decide) (fun c_95 => ?_) (fun c_95 => absurd c_95 (by decide))
              refine q_iload_n X dX13_apply_208 3 rfl ?_
              refine q_iconst (v := 4) X dX13_apply_209 (by decide) ?_
              refine q_icmp_ne X 220 dX13_apply_210 (by decide) (fun c_96 => absurd (by decide) c_96) (fun c_96 => ?_)
              refine q_lload_n X dX13_apply_213 4 rfl ?_
              refine q_lload X dX13_apply_214 0 rfl ?_
              refine q_lsub X dX13_apply_216 ?_
              refine q_goto X 224 dX13_apply_217 (by decide) ?_
              refine q_lastN X k m_90 (rfl) (hk) (by omega) dX13_apply_224 ?_
              have m_97 : (mU (mU (mU (mU M4 va (aJ G (wsz w) (vF (eaD w (nI 4) cv) (k)))) za (aZ G (wsz w) (zF (eaD w (nI 4) cv) (k)))) za (aZ G (wsz w) (upd (zF (eaD w (nI 4) cv) (k)) k 1))) va (aJ G (wsz w) (vp_updL (vF (eaD w (nI 4) cv) (k)) k (cv - (ovf k))))) q = some (oB 12 [.int (nI (vm w)), .int (nI (vdp w + 1)), .ref la, .ref ha, .ref va, .ref za]) := (mU_n (g_neoa m_89 m_90)).trans m_89
              have m_98 : (mU (mU (mU (mU M4 va (aJ G (wsz w) (vF (eaD w (nI 4) cv) (k)))) za (aZ G (wsz w) (zF (eaD w (nI 4) cv) (k)))) za (aZ G (wsz w) (upd (zF (eaD w (nI 4) cv) (k)) k 1))) va (aJ G (wsz w) (vp_updL (vF (eaD w (nI 4) cv) (k)) k (cv - (ovf k))))) va = some (aJ G (wsz w) (vp_updL (vF (eaD w (nI 4) cv) (k)) k (cv - (ovf k)))) := mU_s
              have m_99 : (mU (mU (mU (mU M4 va (aJ G (wsz w) (vF (eaD w (nI 4) cv) (k)))) za (aZ G (wsz w) (zF (eaD w (nI 4) cv) (k)))) za (aZ G (wsz w) (upd (zF (eaD w (nI 4) cv) (k)) k 1))) va (aJ G (wsz w) (vp_updL (vF (eaD w (nI 4) cv) (k)) k (cv - (ovf k))))) za = some (aZ G (wsz w) (upd (zF (eaD w (nI 4) cv) (k)) k 1)) := (mU_n (Ne.symm (lvz))).trans m_91
              refine q_iinc (v := (nI (k + 1))) (lv' := [(7, .int (nI (k + 1))), (8, .long (ovf k)), (0, .ref r), (1, .int (nI i)), (2, .int (nI 4)), (3, .long cv), (5, .ref o), (6, .ref q)]) X dX13_apply_225 7 rfl (nI_1 k) (by decide) rfl ?_
              refine q_goto X 82 dX13_apply_228 (by decide) ?_
              refine q_sub [2, 3, 4, 5, 6, 7, 0] rfl ?_
              have hdk := (ea_some (rule := nI 4) (c := cv) hw hk (ct_some hO.2.2.2.2.2 hk c101)).trans (by unfold eachD; rw [if_neg (by decide), if_neg (by decide), if_neg (by decide), if_neg (by decide), if_pos (by decide)])
              refine q_memE (M' := mU (mU M4 va (aJ G (wsz w) (vF (eaD w (nI 4) cv) (k + 1)))) za (aZ G (wsz w) (zF (eaD w (nI 4) cv) (k + 1)))) (by rw [← vF_y hdk, ← zF_y hdk]; exact mU_5 lvz) ?_
              exact ih (k + 1) (by omega)
        refine q_iconst (v := 0) X dX13_apply_79 (by decide) ?_
        refine q_istore (lv' := [(7, .int 0), (6, .ref q), (5, .ref o), (0, .ref r), (1, .int (nI i)), (2, .int (nI 4)), (3, .long cv)]) X dX13_apply_80 (by decide) rfl ?_
        refine q_sub [3, 4, 5, 6, 2, 1, 0] rfl ?_
        refine q_memE (M' := mU (mU M4 va (aJ G (wsz w) (vF (eaD w (nI 4) cv) (0)))) za (aZ G (wsz w) (zF (eaD w (nI 4) cv) (0)))) (by rw [vF_0, zF_0, mU_id hva4, mU_id hza4]) ?_
        exact L0 hfin (wsz w) 0 (by omega)
      · have kv : ∀ {x : Nat} {e : va_E}, M4 x = some e → x ≠ va → x ≠ za → ∀ c, (mU (mU M4 va (aJ G (wsz w) (vF (eaD w (nI 5) cv) (c)))) za (aZ G (wsz w) (zF (eaD w (nI 5) cv) (c)))) x = some e := fun h h1 h2 c => (mU_n h2).trans ((mU_n h1).trans h)
        have kr : ∀ c, (mU (mU M4 va (aJ G (wsz w) (vF (eaD w (nI 5) cv) (c)))) za (aZ G (wsz w) (zF (eaD w (nI 5) cv) (c)))) r = some (oB 13 [.int 0, .ref vA, .ref nA, .ref pA, .ref plA, .ref dg, .int (nI (aV σ).length), .int (nI (aN σ).length), .int (nI (aOf σ)), .int (nI (aBg σ)), .int tk, .long su, .long le, .long gr]) := kv m_21 (g_nef m_9 fva3) (g_nef m_9 fza3)
        have kplA : ∀ c, (mU (mU M4 va (aJ G (wsz w) (vF (eaD w (nI 5) cv) (c)))) za (aZ G (wsz w) (zF (eaD w (nI 5) cv) (c)))) plA = some (aI G 3 pl0) := kv m_28 (g_nef m_16 fva3) (g_nef m_16 fza3)
        have kq : ∀ c, (mU (mU M4 va (aJ G (wsz w) (vF (eaD w (nI 5) cv) (c)))) za (aZ G (wsz w) (zF (eaD w (nI 5) cv) (c)))) q = some (oB 12 [.int (nI (vm w)), .int (nI (vdp w + 1)), .ref la, .ref ha, .ref va, .ref za]) := kv hq4 (g_nef m_17 fva3) (g_nef m_17 fza3)
        have kla : ∀ c, (mU (mU M4 va (aJ G (wsz w) (vF (eaD w (nI 5) cv) (c)))) za (aZ G (wsz w) (zF (eaD w (nI 5) cv) (c)))) la = some (aI G 3 (vlo w)) := kv m_29 (g_nef m_18 fva3) (g_nef m_18 fza3)
        have kha : ∀ c, (mU (mU M4 va (aJ G (wsz w) (vF (eaD w (nI 5) cv) (c)))) za (aZ G (wsz w) (zF (eaD w (nI 5) cv) (c)))) ha = some (aI G 3 (vhi w)) := kv m_30 (g_nef m_19 fva3) (g_nef m_19 fza3)
        have ko : ∀ c, (mU (mU M4 va (aJ G (wsz w) (vF (eaD w (nI 5) cv) (c)))) za (aZ G (wsz w) (zF (eaD w (nI 5) cv) (c)))) o = some (oB 12 [.int (nI (vm w)), .int (nI (vdp w)), .ref ola, .ref oha, .ref ova, .ref oza]) := kv m_23 (g_nef m_11 fva3) (g_nef m_11 fza3)
        have kola : ∀ c, (mU (mU M4 va (aJ G (wsz w) (vF (eaD w (nI 5) cv) (c)))) za (aZ G (wsz w) (zF (eaD w (nI 5) cv) (c)))) ola = some (aI G 3 (vlo w)) := kv m_24 (g_nef m_12 fva3) (g_nef m_12 fza3)
        have koha : ∀ c, (mU (mU M4 va (aJ G (wsz w) (vF (eaD w (nI 5) cv) (c)))) za (aZ G (wsz w) (zF (eaD w (nI 5) cv) (c)))) oha = some (aI G 3 (vhi w)) := kv m_25 (g_nef m_13 fva3) (g_nef m_13 fza3)
        have kova : ∀ c, (mU (mU M4 va (aJ G (wsz w) (vF (eaD w (nI 5) cv) (c)))) za (aZ G (wsz w) (zF (eaD w (nI 5) cv) (c)))) ova = some (aJ G (wsz w) ovf) := kv m_26 (g_nef m_14 fva3) (g_nef m_14 fza3)
        have koza : ∀ c, (mU (mU M4 va (aJ G (wsz w) (vF (eaD w (nI 5) cv) (c)))) za (aZ G (wsz w) (zF (eaD w (nI 5) cv) (c)))) oza = some (aZ G (wsz w) ozf) := kv m_27 (g_nef m_15 fva3) (g_nef m_15 fza3)
        have kva : ∀ c, (mU (mU M4 va (aJ G (wsz w) (vF (eaD w (nI 5) cv) (c)))) za (aZ G (wsz w) (zF (eaD w (nI 5) cv) (c)))) va = some (aJ G (wsz w) (vF (eaD w (nI 5) cv) (c))) := fun c => (mU_n lvz).trans mU_s
        have kza : ∀ c, (mU (mU M4 va (aJ G (wsz w) (vF (eaD w (nI 5) cv) (c)))) za (aZ G (wsz w) (zF (eaD w (nI 5) cv) (c)))) za = some (aZ G (wsz w) (zF (eaD w (nI 5) cv) c)) := fun c => mU_s
        have koX : ∀ c, isGrX G (mU (mU M4 va (aJ G (wsz w) (vF (eaD w (nI 5) cv) (c)))) za (aZ G (wsz w) (zF (eaD w (nI 5) cv) (c)))) o ola oha ova oza ovf ozf w := fun c => ⟨ko c, kola c, koha c, kova c, koza c, hO.2.2.2.2.2⟩
        have l0 := hok.lo (d := 0) (by decide)
        have N0 := hok.N (d := 0) (by decide)
        have y0 := hok.hi (d := 0) (by decide)
        have l1 := hok.lo (d := 1) (by decide)
        have N1 := hok.N (d := 1) (by decide)
        have y1 := hok.hi (d := 1) (by decide)
        have l2 := hok.lo (d := 2) (by decide)
        have N2 := hok.N (d := 2) (by decide)
        have y2 := hok.hi (d := 2) (by decide)
        have hfin : qJ G F (qQ G F (rfP G r cOp (some (.int 0)) (sp_apply σ (nI i) (nI 5) cv))) 10 (mU (mU M4 va (aJ G (wsz w) (vF (eaD w (nI 5) cv) (wsz w)))) za (aZ G (wsz w) (zF (eaD w (nI 5) cv) (wsz w)))) 0 0 231 [(0, .ref r), (1, .int (nI i)), (2, .int (nI 5)), (3, .long cv), (5, .ref o), (6, .ref q)] [] := by
          have evz : mEv (fun x => x = r ∨ x = plA) M (mU (mU M4 va (aJ G (wsz w) (vF (eaD w (nI 5) cv) (wsz w)))) za (aZ G (wsz w) (zF (eaD w (nI 5) cv) (wsz w)))) := fun x hx => by
            have w1 : x ≠ va := fun z => hx (z ▸ fva)
            have w2 : x ≠ za := fun z => hx (z ▸ fza)
            have e1 := evK4 x hx
            have e : (mU (mU M4 va (aJ G (wsz w) (vF (eaD w (nI 5) cv) (wsz w)))) za (aZ G (wsz w) (zF (eaD w (nI 5) cv) (wsz w)))) x = M4 x := (mU_n w2).trans (mU_n w1)
            exact ⟨by rw [e]; exact e1.1, fun k => e.trans (e1.2 k)⟩
          have hBz : rfB G (mU (mU M4 va (aJ G (wsz w) (vF (eaD w (nI 5) cv) (wsz w)))) za (aZ G (wsz w) (zF (eaD w (nI 5) cv) (wsz w)))) r 0 σ vA nA pA plA dg dla dha dva dza dvf dzf vf nf pf tk su le gr := hB.ev2 evz (kr (wsz w)) ⟨_, kplA (wsz w)⟩
          have nb : ∀ {x : Nat}, M x = none → ¬ rBad plA pA dva dza x := fun h z => by
            rcases z with z | z | z | z
            · rw [z, hpl0] at h; cases h
            · rw [z, hB.2.2.2.1] at h; cases h
            · rw [z, hB.2.2.2.2.2.1.2.2.2.1] at h; cases h
            · rw [z, hB.2.2.2.2.2.1.2.2.2.2.1] at h; cases h
          have hg : isGrd G (mU (mU M4 va (aJ G (wsz w) (vF (eaD w (nI 5) cv) (wsz w)))) za (aZ G (wsz w) (zF (eaD w (nI 5) cv) (wsz w)))) (rBad plA pA dva dza) q (vm w, (vlo w), (vhi w), vdp w + 1, (eaD w (nI 5) cv)) := grd_mk (kq (wsz w)) (kla (wsz w)) (kha (wsz w)) (kva (wsz w)) (kza (wsz w)) (gCt_F (eaD w (nI 5) cv) (wsz w)) (nb fla) (nb fha) (nb fva) (nb fza)
          refine q_aload_n X dX13_apply_231 0 rfl ?_
          refine q_aload X dX13_apply_232 5 rfl ?_
          refine q_callV X (c_made hBz hg h150) Y_X13_made tw_1339 tw_1341 sel_28 (kr (wsz w)) rfl (by omega) rfl rfl (Nat.le_of_ble_eq_true rfl) (rc' := 0) (rs' := 0) (Nat.le_refl _) (Nat.le_refl _) dX13_apply_234 (fun v M' hp _ => ?_)
          obtain ⟨rfl, hz9⟩ := hp
          generalize M' = M9 at *
          show qJ G F _ 10 M9 0 0 237 [(0, .ref r), (1, .int (nI i)), (2, .int (nI 5)), (3, .long cv), (5, .ref o), (6, .ref q)] [.int (nI (aN σ).length)]
          exact q_iret X hr dX13_apply_237 (rfP_K (by rw [specE]; exact gLim_y hlim) hz9)
        have L0 : ∀ (kk : qJ G F (qQ G F (rfP G r cOp (some (.int 0)) (sp_apply σ (nI i) (nI 5) cv))) 10 (mU (mU M4 va (aJ G (wsz w) (vF (eaD w (nI 5) cv) (wsz w)))) za (aZ G (wsz w) (zF (eaD w (nI 5) cv) (wsz w)))) 0 0 231 [(0, .ref r), (1, .int (nI i)), (2, .int (nI 5)), (3, .long cv), (5, .ref o), (6, .ref q)] []) (t k : Nat), k + t = wsz w → qJ G F (qQ G F (rfP G r cOp (some (.int 0)) (sp_apply σ (nI i) (nI 5) cv))) 10 (mU (mU M4 va (aJ G (wsz w) (vF (eaD w (nI 5) cv) (k)))) za (aZ G (wsz w) (zF (eaD w (nI 5) cv) (k)))) 0 0 82 [(0, .ref r), (1, .int (nI i)), (2, .int (nI 5)), (3, .long cv), (5, .ref o), (6, .ref q), (7, .int (nI k))] [] := by
          intro  kk t
          induction t with
          | zero =>
            intro k hk0
            obtain rfl : k = wsz w := by omega
            refine q_iload X dX13_apply_82 6 rfl ?_
            refine q_aload X dX13_apply_84 5 rfl ?_
            refine q_get X (kq (wsz w)) rfl in_RX12 4 (by decide) tw_1163 rfl rfl dX13_apply_86 ?_
            refine q_alen X 1 (kva (wsz w)) rfl dX13_apply_89 ?_
            refine q_icmp_ge X 231 dX13_apply_90 (by decide) (fun c_100 => ?_) (fun c_100 => absurd (Int32.le_refl _) c_100)
            refine q_sub [0, 1, 2, 3, 4, 5] rfl ?_
            exact kk
          | succ t ih =>
            intro k hk0
            have hk : k < wsz w := by omega
            have hkz : wsz w ≤ 4096 := hw.2.1
            refine q_iload X dX13_apply_82 6 rfl ?_
            refine q_aload X dX13_apply_84 5 rfl ?_
            refine q_get X (kq (k)) rfl in_RX12 4 (by decide) tw_1163 rfl rfl dX13_apply_86 ?_
            refine q_alen X 1 (kva (k)) rfl dX13_apply_89 ?_
            refine q_icmp_ge X 231 dX13_apply_90 (by decide) (fun c_101 => absurd c_101 (nI_ge hk (by omega))) (fun c_101 => ?_)
            refine q_aload X dX13_apply_93 4 rfl ?_
            refine q_get X (ko (k)) rfl in_RX12 5 (by decide) tw_1165 rfl rfl dX13_apply_95 ?_
            refine q_iload X dX13_apply_98 6 rfl ?_
            refine q_zaldN X k (koza (k)) (rfl) (hk) (by omega) dX13_apply_100 ?_
            refine q_if_eq X 225 dX13_apply_101 (by decide) (fun c101 => ?_) (fun c101 => ?_)
            · refine q_iinc (v := (nI (k + 1))) (lv' := [(7, .int (nI (k + 1))), (0, .ref r), (1, .int (nI i)), (2, .int (nI 5)), (3, .long cv), (5, .ref o), (6, .ref q)]) X dX13_apply_225 6 rfl (nI_1 k) (by decide) rfl ?_
              refine q_goto X 82 dX13_apply_228 (by decide) ?_
              refine q_sub [1, 2, 3, 4, 5, 6, 0] rfl ?_
              have hdk : eaD w (nI 5) cv k = none := ea_none hw hk (ct_none hO.2.2.2.2.2 hk c101)
              refine q_memE (M' := mU (mU M4 va (aJ G (wsz w) (vF (eaD w (nI 5) cv) (k + 1)))) za (aZ G (wsz w) (zF (eaD w (nI 5) cv) (k + 1)))) (by rw [vF_no hdk, zF_no hdk]) ?_
              exact ih (k + 1) (by omega)
            · refine q_aload X dX13_apply_104 4 rfl ?_
              refine q_get X (ko (k)) rfl in_RX12 4 (by decide) tw_1163 rfl rfl dX13_apply_106 ?_
              refine q_iload X dX13_apply_109 6 rfl ?_
              refine q_laldN X k (kova (k)) (rfl) (hk) (by omega) dX13_apply_111 ?_
              refine q_lstore (lv' := [(8, .long (ovf k)), (0, .ref r), (1, .int (nI i)), (2, .int (nI 5)), (3, .long cv), (5, .ref o), (6, .ref q), (7, .int (nI k))]) X dX13_apply_112 (by decide) rfl ?_
              refine q_iload_n X dX13_apply_114 3 rfl ?_
              refine q_iconst (v := 2) X dX13_apply_115 (by decide) ?_
              refine q_icmp_eq X 124 dX13_apply_116 (by decide) (fun c_102 => absurd c_102 (by decide)) (fun c_102 => ?_)
              refine q_iload_n X dX13_apply_119 3 rfl ?_
              refine q_iconst (v := 3) X dX13_apply_120 (by decide) ?_
              refine q_icmp_ne X 130 dX13_apply_121 (by decide) (fun c_103 => ?_) (fun c_103 => absurd c_103 (by decide))
              refine q_iload_n X dX13_apply_130 3 rfl ?_
              refine q_iconst (v := 5) X dX13_apply_131 (by decide) ?_
              refine q_icmp_ne X 145 dX13_apply_132 (by decide) (fun c_104 => absurd (by decide) c_104) (fun c_104 => ?_)
              refine q_lload X dX13_apply_135 0 rfl ?_
              refine q_lconst (v := 0) X dX13_apply_137 (by decide) ?_
              refine q_lcmp X dX13_apply_138 ?_
              refine q_if_ne X 145 dX13_apply_139 (by decide) (fun c139 => ?_) (fun c139 => ?_)
              · refine q_aload X dX13_apply_145 6 rfl ?_
                refine q_get X (kq (k)) rfl in_RX12 5 (by decide) tw_1165 rfl rfl dX13_apply_147 ?_
                refine q_iload X dX13_apply_150 7 rfl ?_
                refine q_iconst (v := 1) X dX13_apply_152 (by decide) ?_
                refine q_zastN X k (kza (k)) (rfl) (hk) (by omega) (Or.inr rfl) dX13_apply_153 ?_
                have m_105 : (mU (mU (mU M4 va (aJ G (wsz w) (vF (eaD w (nI 5) cv) (k)))) za (aZ G (wsz w) (zF (eaD w (nI 5) cv) (k)))) za (aZ G (wsz w) (upd (zF (eaD w (nI 5) cv) (k)) k 1))) q = some (oB 12 [.int (nI (vm w)), .int (nI (vdp w + 1)), .ref la, .ref ha, .ref va, .ref za]) := (mU_n (g_neoa (kq (k)) (kza (k)))).trans (kq (k))
                have m_106 : (mU (mU (mU M4 va (aJ G (wsz w) (vF (eaD w (nI 5) cv) (k)))) za (aZ G (wsz w) (zF (eaD w (nI 5) cv) (k)))) za (aZ G (wsz w) (upd (zF (eaD w (nI 5) cv) (k)) k 1))) va = some (aJ G (wsz w) (vF (eaD w (nI 5) cv) (k))) := (mU_n (lvz)).trans (kva (k))
                have m_107 : (mU (mU (mU M4 va (aJ G (wsz w) (vF (eaD w (nI 5) cv) (k)))) za (aZ G (wsz w) (zF (eaD w (nI 5) cv) (k)))) za (aZ G (wsz w) (upd (zF (eaD w (nI 5) cv) (k)) k 1))) za = some (aZ G (wsz w) (upd (zF (eaD w (nI 5) cv) (k)) k 1)) := mU_s
                refine q_aload X dX13_apply_154 6 rfl ?_
                refine q_get X m_105 rfl in_RX12 4 (by decide) tw_1163 rfl rfl dX13_apply_156 ?_
                refine q_iload X dX13_apply_159 7 rfl ?_
                refine q_iload_n X dX13_apply_161 3 rfl ?_
                refine q_if_ne X 172 dX13_apply_162 (by decide) (fun c_108 => ?_) (fun c_108 => absurd c_108 (by decide))
                refine q_iload_n X dX13_apply_172 3 rfl ?_
                refine q_iconst (v := 1) X dX13_apply_173 (by decide) ?_
                refine q_icmp_ne X 184 dX13_apply_174 (by decide) (fun c_109 => ?_) (fun c_109 => absurd c_109 (by decide))
                refine q_iload_n X dX13_apply_184 3 rfl ?_
                refine q_iconst (v := 2) X dX13_apply_185 (by decide) ?_
                refine q_icmp_ne X 196 dX13_apply_186 (by decide) (fun c_110 => ?_) (fun c_110 => absurd c_110 (by decide))
                refine q_iload_n X dX13_apply_196 3 rfl ?_
                refine q_iconst (v := 3) X dX13_apply_197 (by decide) ?_
                refine q_icmp_ne X 208 dX13_apply_198 (by decide) (fun c_111 => ?_) (fun c_111 => absurd c_111 (by decide))
                refine q_iload_n X dX13_apply_208 3 rfl ?_
                refine q_iconst (v := 4) X dX13_apply_209 (by decide) ?_
                refine q_icmp_ne X 220 dX13_apply_210 (by decide) (fun c_112 => ?_) (fun c_112 => absurd c_112 (by decide))
                refine q_lload_n X dX13_apply_220 4 rfl ?_
                refine q_lload X dX13_apply_221 0 rfl ?_
                refine q_ldiv X dX13_apply_223 (fun q9 => c139 (by rw [lg_cmp_eq]; exact q9)) ?_
                refine q_lastN X k m_106 (rfl) (hk) (by omega) dX13_apply_224 ?_
                have m_113 : (mU (mU (mU (mU M4 va (aJ G (wsz w) (vF (eaD w (nI 5) cv) (k)))) za (aZ G (wsz w) (zF (eaD w (nI 5) cv) (k)))) za (aZ G (wsz w) (upd (zF (eaD w (nI 5) cv) (k)) k 1))) va (aJ G (wsz w) (vp_updL (vF (eaD w (nI 5) cv) (k)) k (cv / (ovf k))))) q = some (oB 12 [.int (nI (vm w)), .int (nI (vdp w + 1)), .ref la, .ref ha, .ref va, .ref za]) := (mU_n (g_neoa m_105 m_106)).trans m_105
                have m_114 : (mU (mU (mU (mU M4 va (aJ G (wsz w) (vF (eaD w (nI 5) cv) (k)))) za (aZ G (wsz w) (zF (eaD w (nI 5) cv) (k)))) za (aZ G (wsz w) (upd (zF (eaD w (nI 5) cv) (k)) k 1))) va (aJ G (wsz w) (vp_updL (vF (eaD w (nI 5) cv) (k)) k (cv / (ovf k))))) va = some (aJ G (wsz w) (vp_updL (vF (eaD w (nI 5) cv) (k)) k (cv / (ovf k)))) := mU_s
                have m_115 : (mU (mU (mU (mU M4 va (aJ G (wsz w) (vF (eaD w (nI 5) cv) (k)))) za (aZ G (wsz w) (zF (eaD w (nI 5) cv) (k)))) za (aZ G (wsz w) (upd (zF (eaD w (nI 5) cv) (k)) k 1))) va (aJ G (wsz w) (vp_updL (vF (eaD w (nI 5) cv) (k)) k (cv / (ovf k))))) za = some (aZ G (wsz w) (upd (zF (eaD w (nI 5) cv) (k)) k 1)) := (mU_n (Ne.symm (lvz))).trans m_107
                refine q_iinc (v := (nI (k + 1))) (lv' := [(7, .int (nI (k + 1))), (8, .long (ovf k)), (0, .ref r), (1, .int (nI i)), (2, .int (nI 5)), (3, .long cv), (5, .ref o), (6, .ref q)]) X dX13_apply_225 7 rfl (nI_1 k) (by decide) rfl ?_
                refine q_goto X 82 dX13_apply_228 (by decide) ?_
                refine q_sub [2, 3, 4, 5, 6, 7, 0] rfl ?_
                have hdk := (ea_some (rule := nI 5) (c := cv) hw hk (ct_some hO.2.2.2.2.2 hk c101)).trans (by unfold eachD; rw [if_neg (by decide), if_neg (by decide), if_neg (by decide), if_neg (by decide), if_neg (by decide), if_pos (by decide), if_neg (fun q9 => c139 (by rw [lg_cmp_eq]; exact q9))])
                refine q_memE (M' := mU (mU M4 va (aJ G (wsz w) (vF (eaD w (nI 5) cv) (k + 1)))) za (aZ G (wsz w) (zF (eaD w (nI 5) cv) (k + 1)))) (by rw [← vF_y hdk, ← zF_y hdk]; exact mU_5 lvz) ?_
                exact ih (k + 1) (by omega)
              · refine q_goto X 225 dX13_apply_142 (by decide) ?_
                refine q_iinc (v := (nI (k + 1))) (lv' := [(7, .int (nI (k + 1))), (8, .long (ovf k)), (0, .ref r), (1, .int (nI i)), (2, .int (nI 5)), (3, .long cv), (5, .ref o), (6, .ref q)]) X dX13_apply_225 7 rfl (nI_1 k) (by decide) rfl ?_
                refine q_goto X 82 dX13_apply_228 (by decide) ?_
                refine q_sub [2, 3, 4, 5, 6, 7, 0] rfl ?_
                have hdk : eaD w (nI 5) cv k = none := (ea_some hw hk (ct_some hO.2.2.2.2.2 hk c101)).trans (by have q9 := c139; rw [lg_cmp_eq] at q9; unfold eachD; rw [if_neg (by decide), if_neg (by decide), if_neg (by decide), if_neg (by decide), if_neg (by decide), if_pos (by decide), if_pos q9])
                refine q_memE (M' := mU (mU M4 va (aJ G (wsz w) (vF (eaD w (nI 5) cv) (k + 1)))) za (aZ G (wsz w) (zF (eaD w (nI 5) cv) (k + 1)))) (by rw [vF_no hdk, zF_no hdk]) ?_
                exact ih (k + 1) (by omega)
        refine q_iconst (v := 0) X dX13_apply_79 (by decide) ?_
        refine q_istore (lv' := [(7, .int 0), (6, .ref q), (5, .ref o), (0, .ref r), (1, .int (nI i)), (2, .int (nI 5)), (3, .long cv)]) X dX13_apply_80 (by decide) rfl ?_
        refine q_sub [3, 4, 5, 6, 2, 1, 0] rfl ?_
        refine q_memE (M' := mU (mU M4 va (aJ G (wsz w) (vF (eaD w (nI 5) cv) (0)))) za (aZ G (wsz w) (zF (eaD w (nI 5) cv) (0)))) (by rw [vF_0, zF_0, mU_id hva4, mU_id hza4]) ?_
        exact L0 hfin (wsz w) 0 (by omega)
    · refine q_callV X (c_large_n hB2 hok hd40 hq1 hla1 hha1 hlim) Y_X13_large tw_1359 tw_1361 sel_32 m_1 rfl (by omega) rfl rfl (Nat.le_of_ble_eq_true rfl) (rc' := 2) (rs' := 4096) (by omega) (by omega) dX13_apply_66 (fun v M' hp _ => ?_)
      obtain ⟨rfl, eM⟩ := hp
      have m_116 : M' r = some (oB 13 [.int 3, .ref vA, .ref nA, .ref pA, .ref plA, .ref dg, .int (nI (aV σ).length), .int (nI (aN σ).length), .int (nI (aOf σ)), .int (nI (aBg σ)), .int tk, .long su, .long le, .long gr]) := by rw [eM]; exact mU_s
      have m_117 : M' nA = some (aG G 150 nf) := by rw [eM]; exact (mU_n (Ne.symm (g_neoa m_1 m_2))).trans m_2
      have m_118 : M' o = some (oB 12 [.int (nI (vm w)), .int (nI (vdp w)), .ref ola, .ref oha, .ref ova, .ref oza]) := by rw [eM]; exact (mU_n (g_neoo m_3 m_1 (by decide))).trans m_3
      have m_119 : M' ola = some (aI G 3 (vlo w)) := by rw [eM]; exact (mU_n (Ne.symm (g_neoa m_1 m_4))).trans m_4
      have m_120 : M' oha = some (aI G 3 (vhi w)) := by rw [eM]; exact (mU_n (Ne.symm (g_neoa m_1 m_5))).trans m_5
      have m_121 : M' ova = some (aJ G (wsz w) ovf) := by rw [eM]; exact (mU_n (Ne.symm (g_neoa m_1 m_6))).trans m_6
      have m_122 : M' oza = some (aZ G (wsz w) ozf) := by rw [eM]; exact (mU_n (Ne.symm (g_neoa m_1 m_7))).trans m_7
      have m_123 : M' plA = some (aI G 3 pl0) := by rw [eM]; exact (mU_n (Ne.symm (g_neoa m_1 m_8))).trans m_8
      have m_124 : M' q = some (oB 12 [.int (nI (vm w)), .int (nI (vdp w + 1)), .ref la, .ref ha, .null, .null]) := by rw [eM]; exact (mU_n (Ne.symm (g_nef hB.1 fq))).trans hq1
      have m_125 : M' la = some (aI G 3 (vlo w)) := by rw [eM]; exact (mU_n (Ne.symm (g_nef hB.1 fla))).trans hla1
      have m_126 : M' ha = some (aI G 3 (vhi w)) := by rw [eM]; exact (mU_n (Ne.symm (g_nef hB.1 fha))).trans hha1
      have evK3 : mEv (fun x => x = r ∨ x = plA) M M' := by rw [eM]; exact evK1.trans (mEv_upd (K := (fun x => x = r ∨ x = plA)) (Or.inl rfl))
      have hB3 : rfB G M' r 3 σ vA nA pA plA dg dla dha dva dza dvf dzf vf nf pf tk su le gr := by rw [eM]; exact hB2.ro
      clear eM
      generalize M' = M3 at *
      show qJ G F _ 10 M3 2 4096 69 [(6, .ref q), (5, .ref o), (0, .ref r), (1, .int (nI i)), (2, .int op), (3, .long cv)] [.int 1]
      refine q_if_eq X 74 dX13_apply_69 (by decide) (fun c_127 => absurd c_127 (by decide)) (fun c_127 => ?_)
      refine q_iconst (v := 0) X dX13_apply_72 (by decide) ?_
      exact q_iret X hr dX13_apply_73 (rfP_T (by rw [specE]; exact gLim_n hlim) cOp_UO ⟨vA, nA, pA, plA, dg, dla, dha, dva, dza, dvf, dzf, vf, nf, pf, tk, su, le, gr, hB3⟩)
  show qJ G F _ 10 M 5 4108 0 [(0, .ref r), (1, .int a), (2, .int op), (3, .long cv)] []
  refine q_aload_n X dX13_apply_0 0 rfl ?_
  rcases Nat.lt_or_ge (aN σ).length 150 with q150 | q150
  · refine q_callV X (c_full_y hB q150) Y_X13_full tw_1332 tw_1334 sel_27 hB.1 rfl (by omega) rfl rfl (Nat.le_of_ble_eq_true rfl) (rc' := 5) (rs' := 4108) (by omega) (by omega) dX13_apply_1 (fun v M' hp _ => ?_)
    obtain ⟨rfl, eM⟩ := hp
    have hB228 : rfB G M' r 0 σ vA nA pA plA dg dla dha dva dza dvf dzf vf nf pf tk su le gr := by rw [eM]; exact hB.ro
    clear eM
    generalize M' = M228 at *
    show qJ G F _ 10 M228 5 4108 4 [(0, .ref r), (1, .int a), (2, .int op), (3, .long cv)] [.int 0]
    obtain ⟨z_129r, z_1291, z_1292, z_1293, ⟨z_129x, z_1294⟩, z_1295, z_1296, z_1297, z_1298, z_1299, z_12910⟩ := id hB228
    refine q_if_eq X 9 dX13_apply_4 (by decide) (fun c_130 => ?_) (fun c_130 => absurd (by decide) c_130)
    refine q_aload_n X dX13_apply_9 0 rfl ?_
    refine q_aload_n X dX13_apply_10 0 rfl ?_
    refine q_iload_n X dX13_apply_11 1 rfl ?_
    rcases hnd : ndAt σ a with _ | w
    · refine q_callVp X (c_none_n hB228 (by omega) hnd) Y_X13_none tw_1351 tw_1353 sel_30 z_129r rfl (by omega) rfl rfl (Nat.le_of_ble_eq_true rfl) dX13_apply_12 ?_
      refine q_if_ne X 27 dX13_apply_15 (by decide) (fun c_131 => ?_) (fun c_131 => absurd c_131 (by decide))
      refine q_iconst (v := 1) X dX13_apply_27 (by decide) ?_
      refine q_goto X 32 dX13_apply_28 (by decide) ?_
      refine q_iconst (v := 1) X dX13_apply_32 (by decide) ?_
      refine q_callV X (c_fails1 (why := 1) hB228.1) Y_X13_fails tw_1246 tw_1248 sel_23 z_129r rfl (by omega) rfl rfl (Nat.le_of_ble_eq_true rfl) (rc' := 5) (rs' := 4108) (by omega) (by omega) dX13_apply_33 (fun v M' hp _ => ?_)
      obtain ⟨rfl, eM⟩ := hp
      have hB232 : rfB G M' r 1 σ vA nA pA plA dg dla dha dva dza dvf dzf vf nf pf tk su le gr := by rw [eM]; exact hB228.ro
      clear eM
      generalize M' = M232 at *
      show qJ G F _ 10 M232 5 4108 36 [(0, .ref r), (1, .int a), (2, .int op), (3, .long cv)] [.int 1]
      obtain ⟨z_133r, z_1331, z_1332, z_1333, ⟨z_133x, z_1334⟩, z_1335, z_1336, z_1337, z_1338, z_1339, z_13310⟩ := id hB232
      refine q_if_eq X 41 dX13_apply_36 (by decide) (fun c_134 => absurd c_134 (by decide)) (fun c_134 => ?_)
      refine q_iconst (v := 0) X dX13_apply_39 (by decide) ?_
      exact q_iret X hr dX13_apply_40 (rfP_T ((gRoom_y q150).trans (gNode_n hnd)) cOp_IA ⟨vA, nA, pA, plA, dg, dla, dha, dva, dza, dvf, dzf, vf, nf, pf, tk, su, le, gr, hB232⟩)
    · refine q_callVp X (c_none_y hB228 (by omega) hnd) Y_X13_none tw_1351 tw_1353 sel_30 z_129r rfl (by omega) rfl rfl (Nat.le_of_ble_eq_true rfl) dX13_apply_12 ?_
      obtain ⟨i, hi9, rfl, hi⟩ := ndAt_some hnd
      have hw := hW.2 i w hi
      have hi150 : i < 150 := by omega
      refine q_if_ne X 27 dX13_apply_15 (by decide) (fun c_135 => absurd (by decide) c_135) (fun c_135 => ?_)
      refine q_iload_n X dX13_apply_18 2 rfl ?_
      refine q_if_lt X 27 dX13_apply_19 (by decide) (fun c19 => ?_) (fun c19 => ?_)
      · refine q_iconst (v := 1) X dX13_apply_27 (by decide) ?_
        refine q_goto X 32 dX13_apply_28 (by decide) ?_
        refine q_iconst (v := 1) X dX13_apply_32 (by decide) ?_
        refine q_callV X (c_fails1 (why := 1) hB228.1) Y_X13_fails tw_1246 tw_1248 sel_23 z_129r rfl (by omega) rfl rfl (Nat.le_of_ble_eq_true rfl) (rc' := 5) (rs' := 4108) (by omega) (by omega) dX13_apply_33 (fun v M' hp _ => ?_)
        obtain ⟨rfl, eM⟩ := hp
        have hB236 : rfB G M' r 1 σ vA nA pA plA dg dla dha dva dza dvf dzf vf nf pf tk su le gr := by rw [eM]; exact hB228.ro
        clear eM
        generalize M' = M236 at *
        show qJ G F _ 10 M236 5 4108 36 [(0, .ref r), (1, .int (nI i)), (2, .int op), (3, .long cv)] [.int 1]
        obtain ⟨z_137r, z_1371, z_1372, z_1373, ⟨z_137x, z_1374⟩, z_1375, z_1376, z_1377, z_1378, z_1379, z_13710⟩ := id hB236
        refine q_if_eq X 41 dX13_apply_36 (by decide) (fun c_138 => absurd c_138 (by decide)) (fun c_138 => ?_)
        refine q_iconst (v := 0) X dX13_apply_39 (by decide) ?_
        exact q_iret X hr dX13_apply_40 (rfP_T ((gRoom_y q150).trans ((gNode_y hnd).trans (gNeed_n (fun z => z.1 c19)))) cOp_IA ⟨vA, nA, pA, plA, dg, dla, dha, dva, dza, dvf, dzf, vf, nf, pf, tk, su, le, gr, hB236⟩)
      · refine q_iload_n X dX13_apply_22 2 rfl ?_
        refine q_iconst (v := 5) X dX13_apply_23 (by decide) ?_
        refine q_icmp_le X 31 dX13_apply_24 (by decide) (fun c24 => ?_) (fun c24 => ?_)
        · refine q_iconst (v := 0) X dX13_apply_31 (by decide) ?_
          refine q_iconst (v := 1) X dX13_apply_32 (by decide) ?_
          refine q_callV X (c_fails0 (why := 1) hB228.1) Y_X13_fails tw_1246 tw_1248 sel_23 z_129r rfl (by omega) rfl rfl (Nat.le_of_ble_eq_true rfl) (rc' := 5) (rs' := 4108) (by omega) (by omega) dX13_apply_33 (fun v M' hp _ => ?_)
          obtain ⟨rfl, eM⟩ := hp
          have hB239 : rfB G M' r 0 σ vA nA pA plA dg dla dha dva dza dvf dzf vf nf pf tk su le gr := by rw [eM]; exact hB228.ro
          clear eM
          generalize M' = M239 at *
          show qJ G F _ 10 M239 5 4108 36 [(0, .ref r), (1, .int (nI i)), (2, .int op), (3, .long cv)] [.int 0]
          obtain ⟨z_140r, z_1401, z_1402, z_1403, ⟨z_140x, z_1404⟩, z_1405, z_1406, z_1407, z_1408, z_1409, z_14010⟩ := id hB239
          refine q_if_eq X 41 dX13_apply_36 (by decide) (fun c_141 => ?_) (fun c_141 => absurd (by decide) c_141)
          refine q_sub [0, 1, 2, 3] rfl ?_
          exact tail _ i w hB239 hi hw q150 c19 (op_lt c24) ((gRoom_y q150).trans ((gNode_y hnd).trans (gNeed_y ⟨c19, op_lt c24⟩)))
        · refine q_iconst (v := 1) X dX13_apply_27 (by decide) ?_
          refine q_goto X 32 dX13_apply_28 (by decide) ?_
          refine q_iconst (v := 1) X dX13_apply_32 (by decide) ?_
          refine q_callV X (c_fails1 (why := 1) hB228.1) Y_X13_fails tw_1246 tw_1248 sel_23 z_129r rfl (by omega) rfl rfl (Nat.le_of_ble_eq_true rfl) (rc' := 5) (rs' := 4108) (by omega) (by omega) dX13_apply_33 (fun v M' hp _ => ?_)
          obtain ⟨rfl, eM⟩ := hp
          have hB242 : rfB G M' r 1 σ vA nA pA plA dg dla dha dva dza dvf dzf vf nf pf tk su le gr := by rw [eM]; exact hB228.ro
          clear eM
          generalize M' = M242 at *
          show qJ G F _ 10 M242 5 4108 36 [(0, .ref r), (1, .int (nI i)), (2, .int op), (3, .long cv)] [.int 1]
          obtain ⟨z_143r, z_1431, z_1432, z_1433, ⟨z_143x, z_1434⟩, z_1435, z_1436, z_1437, z_1438, z_1439, z_14310⟩ := id hB242
          refine q_if_eq X 41 dX13_apply_36 (by decide) (fun c_144 => absurd c_144 (by decide)) (fun c_144 => ?_)
          refine q_iconst (v := 0) X dX13_apply_39 (by decide) ?_
          exact q_iret X hr dX13_apply_40 (rfP_T ((gRoom_y q150).trans ((gNode_y hnd).trans (gNeed_n (fun z => z.2 (op_ge c24))))) cOp_IA ⟨vA, nA, pA, plA, dg, dla, dha, dva, dza, dvf, dzf, vf, nf, pf, tk, su, le, gr, hB242⟩)
  · refine q_callV X (c_full_n hB q150 hl150) Y_X13_full tw_1332 tw_1334 sel_27 hB.1 rfl (by omega) rfl rfl (Nat.le_of_ble_eq_true rfl) (rc' := 5) (rs' := 4108) (by omega) (by omega) dX13_apply_1 (fun v M' hp _ => ?_)
    obtain ⟨rfl, eM⟩ := hp
    have hB245 : rfB G M' r 2 σ vA nA pA plA dg dla dha dva dza dvf dzf vf nf pf tk su le gr := by rw [eM]; exact hB.ro
    clear eM
    generalize M' = M245 at *
    show qJ G F _ 10 M245 5 4108 4 [(0, .ref r), (1, .int a), (2, .int op), (3, .long cv)] [.int 1]
    obtain ⟨z_146r, z_1461, z_1462, z_1463, ⟨z_146x, z_1464⟩, z_1465, z_1466, z_1467, z_1468, z_1469, z_14610⟩ := id hB245
    refine q_if_eq X 9 dX13_apply_4 (by decide) (fun c_147 => absurd c_147 (by decide)) (fun c_147 => ?_)
    refine q_iconst (v := 0) X dX13_apply_7 (by decide) ?_
    exact q_iret X hr dX13_apply_8 (rfP_T (gRoom_n (Nat.not_lt.mpr q150)) cOp_IO ⟨vA, nA, pA, plA, dg, dla, dha, dva, dza, dvf, dzf, vf, nf, pf, tk, su, le, gr, hB245⟩)

set_option maxRecDepth 20000 in
theorem r_filter {l : Launch} {G : gV} {M : gMem} {r : Nat} {e : Int32} {σ : sA} (hW : gvW σ) (hR : isRF G M r e σ) {a op : Int32} {cv : Int64} : qC l G yX13_filter cX13_filter 10 (some .int) 6 5 4108 [.ref r, .int a, .int op, .long cv] M (rfP G r cOp (some (.int 0)) (sp_filter σ a op cv)) := by
  refine qC_of (by decide +kernel) (Nat.le_of_ble_eq_true rfl) (fun F hF X hr hn => ?_)
  subst hF
  have X : qX G F cX13_filter 10 RX13 6 := X
  obtain ⟨vA, nA, pA, plA, dg, dla, dha, dva, dza, dvf, dzf, vf, nf, pf, tk, su, le, gr, hB⟩ := hR
  have hl150 := hW.1.2.2.2.2.1
  have hl41 := hW.1.2.2.2.1
  have tail : ∀ (M : gMem) (i : Nat) (w : vN) (hB : rfB G M r 0 σ vA nA pA plA dg dla dha dva dza dvf dzf vf nf pf tk su le gr) (hi : (aN σ)[i]? = some w) (hw : vOk w) (h150 : (aN σ).length < 150) (c1 : ¬ op < 0) (c2 : ¬ nI 4 ≤ op) (specE : sp_filter σ (nI i) op cv = spEa σ w (6 + op) cv), qJ G F (qQ G F (rfP G r cOp (some (.int 0)) (sp_filter σ (nI i) op cv))) 10 M 5 4108 41 [(0, .ref r), (1, .int (nI i)), (2, .int op), (3, .long cv)] [] := by
    intro M i w hB hi hw h150 c1 c2 specE
    obtain ⟨o, hnfo, ola, oha, ova, oza, ovf, ozf, hO, bo1, bo2, bo3, bo4⟩ := hB.2.2.2.2.2.2.2.2.1 i w hi
    have hi150 : i < 150 := Nat.lt_of_lt_of_le (List.getElem?_eq_some_iff.mp hi).1 (by omega)
    obtain ⟨pl0, hpl0⟩ := hB.2.2.2.2.1
    have hd40 := hw.2.2
    have hok := hw.1
    refine q_aload_n X dX13_filter_41 0 rfl ?_
    refine q_get X hB.1 rfl in_RX13 2 (by decide) tw_1196 rfl rfl dX13_filter_42 ?_
    refine q_iload_n X dX13_filter_45 1 rfl ?_
    refine q_gald X i hB.2.2.1 (rfl) (hi150) (by decide) hnfo dX13_filter_46 ?_
    refine q_astore (lv' := [(5, .ref o), (0, .ref r), (1, .int (nI i)), (2, .int op), (3, .long cv)]) X dX13_filter_47 (by decide) rfl ?_
    refine q_aload X dX13_filter_49 0 rfl ?_
    refine q_aload X dX13_filter_51 0 rfl ?_
    refine q_get X hO.1 rfl in_RX12 1 (by decide) tw_1157 rfl rfl dX13_filter_53 ?_
    refine q_iconst (v := 1) X dX13_filter_56 (by decide) ?_
    refine q_iadd X dX13_filter_57 ?_
    rw [nI_1]
    refine q_callS X (c_like hO.1 hO.2.1 hO.2.2.1) Y_X13_like tw_1336 tw_1337 (by omega) rfl rfl (Nat.le_of_ble_eq_true rfl) (rc' := 2) (rs' := 4096) (by omega) (by omega) dX13_filter_58 (fun v M' hp _ => ?_)
    obtain ⟨q, la, ha, rfl, fq, fla, fha, llh, llq, lhq, hq1, hla1, hha1, ev1⟩ := hp
    generalize M' = M1 at *
    have m_1 : M1 r = some (oB 13 [.int 0, .ref vA, .ref nA, .ref pA, .ref plA, .ref dg, .int (nI (aV σ).length), .int (nI (aN σ).length), .int (nI (aOf σ)), .int (nI (aBg σ)), .int tk, .long su, .long le, .long gr]) := ev1.keep hB.1 id
    have m_2 : M1 nA = some (aG G 150 nf) := ev1.keep hB.2.2.1 id
    have m_3 : M1 o = some (oB 12 [.int (nI (vm w)), .int (nI (vdp w)), .ref ola, .ref oha, .ref ova, .ref oza]) := ev1.keep hO.1 id
    have m_4 : M1 ola = some (aI G 3 (vlo w)) := ev1.keep hO.2.1 id
    have m_5 : M1 oha = some (aI G 3 (vhi w)) := ev1.keep hO.2.2.1 id
    have m_6 : M1 ova = some (aJ G (wsz w) ovf) := ev1.keep hO.2.2.2.1 id
    have m_7 : M1 oza = some (aZ G (wsz w) ozf) := ev1.keep hO.2.2.2.2.1 id
    have m_8 : M1 plA = some (aI G 3 pl0) := ev1.keep hpl0 id
    have evK1 : mEv (fun x => x = r ∨ x = plA) M M1 := ev1.mono (fun _ _ z => z.elim)
    show qJ G F _ 10 M1 2 4096 61 [(5, .ref o), (0, .ref r), (1, .int (nI i)), (2, .int op), (3, .long cv)] [.ref q]
    refine q_astore (lv' := [(6, .ref q), (5, .ref o), (0, .ref r), (1, .int (nI i)), (2, .int op), (3, .long cv)]) X dX13_filter_61 (by decide) rfl ?_
    refine q_aload_n X dX13_filter_63 2 rfl ?_
    refine q_aload X dX13_filter_64 0 rfl ?_
    have hB2 : rfB G M1 r 0 σ vA nA pA plA dg dla dha dva dza dvf dzf vf nf pf tk su le gr := hB.ev2 evK1 m_1 ⟨_, m_8⟩
    by_cases hlim : ¬ sWithin (vlo w) (vhi w) = 0 ∧ nI (vdp w) < 40
    · refine q_callV X (c_large_y hB2 hok hd40 hq1 hla1 hha1 hlim) Y_X13_large tw_1359 tw_1361 sel_32 m_1 rfl (by omega) rfl rfl (Nat.le_of_ble_eq_true rfl) (rc' := 2) (rs' := 4096) (by omega) (by omega) dX13_filter_66 (fun v M' hp _ => ?_)
      obtain ⟨rfl, eM⟩ := hp
      have m_9 : M' r = some (oB 13 [.int 0, .ref vA, .ref nA, .ref pA, .ref plA, .ref dg, .int (nI (aV σ).length), .int (nI (aN σ).length), .int (nI (aOf σ)), .int (nI (aBg σ)), .int tk, .long su, .long le, .long gr]) := by rw [eM]; exact mU_s
      have m_10 : M' nA = some (aG G 150 nf) := by rw [eM]; exact (mU_n (Ne.symm (g_neoa m_1 m_2))).trans m_2
      have m_11 : M' o = some (oB 12 [.int (nI (vm w)), .int (nI (vdp w)), .ref ola, .ref oha, .ref ova, .ref oza]) := by rw [eM]; exact (mU_n (g_neoo m_3 m_1 (by decide))).trans m_3
      have m_12 : M' ola = some (aI G 3 (vlo w)) := by rw [eM]; exact (mU_n (Ne.symm (g_neoa m_1 m_4))).trans m_4
      have m_13 : M' oha = some (aI G 3 (vhi w)) := by rw [eM]; exact (mU_n (Ne.symm (g_neoa m_1 m_5))).trans m_5
      have m_14 : M' ova = some (aJ G (wsz w) ovf) := by rw [eM]; exact (mU_n (Ne.symm (g_neoa m_1 m_6))).trans m_6
      have m_15 : M' oza = some (aZ G (wsz w) ozf) := by rw [eM]; exact (mU_n (Ne.symm (g_neoa m_1 m_7))).trans m_7
      have m_16 : M' plA = some (aI G 3 pl0) := by rw [eM]; exact (mU_n (Ne.symm (g_neoa m_1 m_8))).trans m_8
      have m_17 : M' q = some (oB 12 [.int (nI (vm w)), .int (nI (vdp w + 1)), .ref la, .ref ha, .null, .null]) := by rw [eM]; exact (mU_n (Ne.symm (g_nef hB.1 fq))).trans hq1
      have m_18 : M' la = some (aI G 3 (vlo w)) := by rw [eM]; exact (mU_n (Ne.symm (g_nef hB.1 fla))).trans hla1
      have m_19 : M' ha = some (aI G 3 (vhi w)) := by rw [eM]; exact (mU_n (Ne.symm (g_nef hB.1 fha))).trans hha1
      have evK3 : mEv (fun x => x = r ∨ x = plA) M M' := by rw [eM]; exact evK1.trans (mEv_upd (K := (fun x => x = r ∨ x = plA)) (Or.inl rfl))
      have hB3 : rfB G M' r 0 σ vA nA pA plA dg dla dha dva dza dvf dzf vf nf pf tk su le gr := by rw [eM]; exact hB2.ro
      clear eM
      generalize M' = M3 at *
      show qJ G F _ 10 M3 2 4096 69 [(6, .ref q), (5, .ref o), (0, .ref r), (1, .int (nI i)), (2, .int op), (3, .long cv)] [.int 0]
      refine q_if_eq X 74 dX13_filter_69 (by decide) (fun c_20 => ?_) (fun c_20 => absurd (by decide) c_20)
      have hw2 : wsz w ≤ 2048 := (within_ok hok hlim.1).2
      refine q_aload X dX13_filter_74 0 rfl ?_
      refine q_callV X (c_X12_make (n := wsz w) m_17 m_18 m_19 hok.size (by omega)) Y_X12_make tw_1179 tw_1180 tw_1181 m_17 rfl (by omega) rfl rfl (Nat.le_of_ble_eq_true rfl) (rc' := 0) (rs' := 0) (by omega) (by omega) dX13_filter_76 (fun v M' hp _ => ?_)
      obtain ⟨rfl, va, za, fva3, fza3, lvz, hq4, hva4, hza4, ev4⟩ := hp
      generalize M' = M4 at *
      have fva : M va = none := evK3.none fva3
      have fza : M za = none := evK3.none fza3
      have m_21 : M4 r = some (oB 13 [.int 0, .ref vA, .ref nA, .ref pA, .ref plA, .ref dg, .int (nI (aV σ).length), .int (nI (aN σ).length), .int (nI (aOf σ)), .int (nI (aBg σ)), .int tk, .long su, .long le, .long gr]) := ev4.keep m_9 (g_nef hB.1 fq)
      have m_22 : M4 nA = some (aG G 150 nf) := ev4.keep m_10 (g_nef hB.2.2.1 fq)
      have m_23 : M4 o = some (oB 12 [.int (nI (vm w)), .int (nI (vdp w)), .ref ola, .ref oha, .ref ova, .ref oza]) := ev4.keep m_11 (g_nef hO.1 fq)
      have m_24 : M4 ola = some (aI G 3 (vlo w)) := ev4.keep m_12 (g_nef hO.2.1 fq)
      have m_25 : M4 oha = some (aI G 3 (vhi w)) := ev4.keep m_13 (g_nef hO.2.2.1 fq)
      have m_26 : M4 ova = some (aJ G (wsz w) ovf) := ev4.keep m_14 (g_nef hO.2.2.2.1 fq)
      have m_27 : M4 oza = some (aZ G (wsz w) ozf) := ev4.keep m_15 (g_nef hO.2.2.2.2.1 fq)
      have m_28 : M4 plA = some (aI G 3 pl0) := ev4.keep m_16 (g_nef hpl0 fq)
      have m_29 : M4 la = some (aI G 3 (vlo w)) := ev4.keep m_18 (llq)
      have m_30 : M4 ha = some (aI G 3 (vhi w)) := ev4.keep m_19 (lhq)
      have evK4 : mEv (fun x => x = r ∨ x = plA) M M4 := fun x hx => by
        have wq : x ≠ q := fun z => hx (z ▸ fq)
        have e1 := evK3 x hx
        have e2 := ev4 x e1.1
        exact ⟨e2.1, fun k => (e2.2 wq).trans (e1.2 k)⟩
      have hB4 : rfB G M4 r 0 σ vA nA pA plA dg dla dha dva dza dvf dzf vf nf pf tk su le gr := hB.ev2 evK4 m_21 ⟨_, m_28⟩
      show qJ G F _ 10 M4 0 0 79 [(6, .ref q), (5, .ref o), (0, .ref r), (1, .int (nI i)), (2, .int op), (3, .long cv)] []
      obtain ⟨rr, hrr, rfl⟩ := op_in (k := 4) (by decide) c1 c2
      rcases (show rr = 0 ∨ rr = 1 ∨ rr = 2 ∨ rr = 3 by omega) with rfl | rfl | rfl | rfl
      · have kv : ∀ {x : Nat} {e : va_E}, M4 x = some e → x ≠ va → x ≠ za → ∀ c, (mU (mU M4 va (aJ G (wsz w) (cpF ovf (c)))) za (aZ G (wsz w) (zF (eaD w (6 + nI 0) cv) (c)))) x = some e := fun h h1 h2 c => (mU_n h2).trans ((mU_n h1).trans h)
        have kr : ∀ c, (mU (mU M4 va (aJ G (wsz w) (cpF ovf (c)))) za (aZ G (wsz w) (zF (eaD w (6 + nI 0) cv) (c)))) r = some (oB 13 [.int 0, .ref vA, .ref nA, .ref pA, .ref plA, .ref dg, .int (nI (aV σ).length), .int (nI (aN σ).length), .int (nI (aOf σ)), .int (nI (aBg σ)), .int tk, .long su, .long le, .long gr]) := kv m_21 (g_nef m_9 fva3) (g_nef m_9 fza3)
        have kplA : ∀ c, (mU (mU M4 va (aJ G (wsz w) (cpF ovf (c)))) za (aZ G (wsz w) (zF (eaD w (6 + nI 0) cv) (c)))) plA = some (aI G 3 pl0) := kv m_28 (g_nef m_16 fva3) (g_nef m_16 fza3)
        have kq : ∀ c, (mU (mU M4 va (aJ G (wsz w) (cpF ovf (c)))) za (aZ G (wsz w) (zF (eaD w (6 + nI 0) cv) (c)))) q = some (oB 12 [.int (nI (vm w)), .int (nI (vdp w + 1)), .ref la, .ref ha, .ref va, .ref za]) := kv hq4 (g_nef m_17 fva3) (g_nef m_17 fza3)
        have kla : ∀ c, (mU (mU M4 va (aJ G (wsz w) (cpF ovf (c)))) za (aZ G (wsz w) (zF (eaD w (6 + nI 0) cv) (c)))) la = some (aI G 3 (vlo w)) := kv m_29 (g_nef m_18 fva3) (g_nef m_18 fza3)
        have kha : ∀ c, (mU (mU M4 va (aJ G (wsz w) (cpF ovf (c)))) za (aZ G (wsz w) (zF (eaD w (6 + nI 0) cv) (c)))) ha = some (aI G 3 (vhi w)) := kv m_30 (g_nef m_19 fva3) (g_nef m_19 fza3)
        have ko : ∀ c, (mU (mU M4 va (aJ G (wsz w) (cpF ovf (c)))) za (aZ G (wsz w) (zF (eaD w (6 + nI 0) cv) (c)))) o = some (oB 12 [.int (nI (vm w)), .int (nI (vdp w)), .ref ola, .ref oha, .ref ova, .ref oza]) := kv m_23 (g_nef m_11 fva3) (g_nef m_11 fza3)
        have kola : ∀ c, (mU (mU M4 va (aJ G (wsz w) (cpF ovf (c)))) za (aZ G (wsz w) (zF (eaD w (6 + nI 0) cv) (c)))) ola = some (aI G 3 (vlo w)) := kv m_24 (g_nef m_12 fva3) (g_nef m_12 fza3)
        have koha : ∀ c, (mU (mU M4 va (aJ G (wsz w) (cpF ovf (c)))) za (aZ G (wsz w) (zF (eaD w (6 + nI 0) cv) (c)))) oha = some (aI G 3 (vhi w)) := kv m_25 (g_nef m_13 fva3) (g_nef m_13 fza3)
        have kova : ∀ c, (mU (mU M4 va (aJ G (wsz w) (cpF ovf (c)))) za (aZ G (wsz w) (zF (eaD w (6 + nI 0) cv) (c)))) ova = some (aJ G (wsz w) ovf) := kv m_26 (g_nef m_14 fva3) (g_nef m_14 fza3)
        have koza : ∀ c, (mU (mU M4 va (aJ G (wsz w) (cpF ovf (c)))) za (aZ G (wsz w) (zF (eaD w (6 + nI 0) cv) (c)))) oza = some (aZ G (wsz w) ozf) := kv m_27 (g_nef m_15 fva3) (g_nef m_15 fza3)
        have kva : ∀ c, (mU (mU M4 va (aJ G (wsz w) (cpF ovf (c)))) za (aZ G (wsz w) (zF (eaD w (6 + nI 0) cv) (c)))) va = some (aJ G (wsz w) (cpF ovf (c))) := fun c => (mU_n lvz).trans mU_s
        have kza : ∀ c, (mU (mU M4 va (aJ G (wsz w) (cpF ovf (c)))) za (aZ G (wsz w) (zF (eaD w (6 + nI 0) cv) (c)))) za = some (aZ G (wsz w) (zF (eaD w (6 + nI 0) cv) c)) := fun c => mU_s
        have koX : ∀ c, isGrX G (mU (mU M4 va (aJ G (wsz w) (cpF ovf (c)))) za (aZ G (wsz w) (zF (eaD w (6 + nI 0) cv) (c)))) o ola oha ova oza ovf ozf w := fun c => ⟨ko c, kola c, koha c, kova c, koza c, hO.2.2.2.2.2⟩
        have l0 := hok.lo (d := 0) (by decide)
        have N0 := hok.N (d := 0) (by decide)
        have y0 := hok.hi (d := 0) (by decide)
        have l1 := hok.lo (d := 1) (by decide)
        have N1 := hok.N (d := 1) (by decide)
        have y1 := hok.hi (d := 1) (by decide)
        have l2 := hok.lo (d := 2) (by decide)
        have N2 := hok.N (d := 2) (by decide)
        have y2 := hok.hi (d := 2) (by decide)
        have hfin : qJ G F (qQ G F (rfP G r cOp (some (.int 0)) (sp_filter σ (nI i) (nI 0) cv))) 10 (mU (mU M4 va (aJ G (wsz w) (cpF ovf (wsz w)))) za (aZ G (wsz w) (zF (eaD w (6 + nI 0) cv) (wsz w)))) 0 0 194 [(0, .ref r), (1, .int (nI i)), (2, .int (nI 0)), (3, .long cv), (5, .ref o), (6, .ref q)] [] := by
          have evz : mEv (fun x => x = r ∨ x = plA) M (mU (mU M4 va (aJ G (wsz w) (cpF ovf (wsz w)))) za (aZ G (wsz w) (zF (eaD w (6 + nI 0) cv) (wsz w)))) := fun x hx => by
            have w1 : x ≠ va := fun z => hx (z ▸ fva)
            have w2 : x ≠ za := fun z => hx (z ▸ fza)
            have e1 := evK4 x hx
            have e : (mU (mU M4 va (aJ G (wsz w) (cpF ovf (wsz w)))) za (aZ G (wsz w) (zF (eaD w (6 + nI 0) cv) (wsz w)))) x = M4 x := (mU_n w2).trans (mU_n w1)
            exact ⟨by rw [e]; exact e1.1, fun k => e.trans (e1.2 k)⟩
          have hBz : rfB G (mU (mU M4 va (aJ G (wsz w) (cpF ovf (wsz w)))) za (aZ G (wsz w) (zF (eaD w (6 + nI 0) cv) (wsz w)))) r 0 σ vA nA pA plA dg dla dha dva dza dvf dzf vf nf pf tk su le gr := hB.ev2 evz (kr (wsz w)) ⟨_, kplA (wsz w)⟩
          have nb : ∀ {x : Nat}, M x = none → ¬ rBad plA pA dva dza x := fun h z => by
            rcases z with z | z | z | z
            · rw [z, hpl0] at h; cases h
            · rw [z, hB.2.2.2.1] at h; cases h
            · rw [z, hB.2.2.2.2.2.1.2.2.2.1] at h; cases h
            · rw [z, hB.2.2.2.2.2.1.2.2.2.2.1] at h; cases h
          have hg : isGrd G (mU (mU M4 va (aJ G (wsz w) (cpF ovf (wsz w)))) za (aZ G (wsz w) (zF (eaD w (6 + nI 0) cv) (wsz w)))) (rBad plA pA dva dza) q (vm w, (vlo w), (vhi w), vdp w + 1, (eaD w (6 + nI 0) cv)) := grd_mk (kq (wsz w)) (kla (wsz w)) (kha (wsz w)) (kva (wsz w)) (kza (wsz w)) (fi_ct hw hO.2.2.2.2.2 (by decide)) (nb fla) (nb fha) (nb fva) (nb fza)
          refine q_aload_n X dX13_filter_194 0 rfl ?_
          refine q_aload X dX13_filter_195 5 rfl ?_
          refine q_callV X (c_made hBz hg h150) Y_X13_made tw_1339 tw_1341 sel_28 (kr (wsz w)) rfl (by omega) rfl rfl (Nat.le_of_ble_eq_true rfl) (rc' := 0) (rs' := 0) (Nat.le_refl _) (Nat.le_refl _) dX13_filter_197 (fun v M' hp _ => ?_)
          obtain ⟨rfl, hz9⟩ := hp
          generalize M' = M9 at *
          show qJ G F _ 10 M9 0 0 200 [(0, .ref r), (1, .int (nI i)), (2, .int (nI 0)), (3, .long cv), (5, .ref o), (6, .ref q)] [.int (nI (aN σ).length)]
          exact q_iret X hr dX13_filter_200 (rfP_K (by rw [specE]; exact gLim_y hlim) hz9)
        have L0 : ∀ (kk : qJ G F (qQ G F (rfP G r cOp (some (.int 0)) (sp_filter σ (nI i) (nI 0) cv))) 10 (mU (mU M4 va (aJ G (wsz w) (cpF ovf (wsz w)))) za (aZ G (wsz w) (zF (eaD w (6 + nI 0) cv) (wsz w)))) 0 0 194 [(0, .ref r), (1, .int (nI i)), (2, .int (nI 0)), (3, .long cv), (5, .ref o), (6, .ref q)] []) (t k : Nat), k + t = wsz w → qJ G F (qQ G F (rfP G r cOp (some (.int 0)) (sp_filter σ (nI i) (nI 0) cv))) 10 (mU (mU M4 va (aJ G (wsz w) (cpF ovf (k)))) za (aZ G (wsz w) (zF (eaD w (6 + nI 0) cv) (k)))) 0 0 82 [(0, .ref r), (1, .int (nI i)), (2, .int (nI 0)), (3, .long cv), (5, .ref o), (6, .ref q), (7, .int (nI k))] [] := by
          intro  kk t
          induction t with
          | zero =>
            intro k hk0
            obtain rfl : k = wsz w := by omega
            refine q_iload X dX13_filter_82 6 rfl ?_
            refine q_aload X dX13_filter_84 5 rfl ?_
            refine q_get X (kq (wsz w)) rfl in_RX12 4 (by decide) tw_1163 rfl rfl dX13_filter_86 ?_
            refine q_alen X 1 (kva (wsz w)) rfl dX13_filter_89 ?_
            refine q_icmp_ge X 194 dX13_filter_90 (by decide) (fun c_31 => ?_) (fun c_31 => absurd (Int32.le_refl _) c_31)
            refine q_sub [0, 1, 2, 3, 4, 5] rfl ?_
            exact kk
          | succ t ih =>
            intro k hk0
            have hk : k < wsz w := by omega
            have hkz : wsz w ≤ 4096 := hw.2.1
            refine q_iload X dX13_filter_82 6 rfl ?_
            refine q_aload X dX13_filter_84 5 rfl ?_
            refine q_get X (kq (k)) rfl in_RX12 4 (by decide) tw_1163 rfl rfl dX13_filter_86 ?_
            refine q_alen X 1 (kva (k)) rfl dX13_filter_89 ?_
            refine q_icmp_ge X 194 dX13_filter_90 (by decide) (fun c_32 => absurd c_32 (nI_ge hk (by omega))) (fun c_32 => ?_)
            refine q_aload X dX13_filter_93 4 rfl ?_
            refine q_get X (ko (k)) rfl in_RX12 4 (by decide) tw_1163 rfl rfl dX13_filter_95 ?_
            refine q_iload X dX13_filter_98 6 rfl ?_
            refine q_laldN X k (kova (k)) (rfl) (hk) (by omega) dX13_filter_100 ?_
            refine q_lstore (lv' := [(8, .long (ovf k)), (0, .ref r), (1, .int (nI i)), (2, .int (nI 0)), (3, .long cv), (5, .ref o), (6, .ref q), (7, .int (nI k))]) X dX13_filter_101 (by decide) rfl ?_
            refine q_aload X dX13_filter_103 6 rfl ?_
            refine q_get X (kq (k)) rfl in_RX12 5 (by decide) tw_1165 rfl rfl dX13_filter_105 ?_
            refine q_iload X dX13_filter_108 7 rfl ?_
            refine q_aload X dX13_filter_110 5 rfl ?_
            refine q_get X (ko (k)) rfl in_RX12 5 (by decide) tw_1165 rfl rfl dX13_filter_112 ?_
            refine q_iload X dX13_filter_115 7 rfl ?_
            refine q_zaldN X k (koza (k)) (rfl) (hk) (by omega) dX13_filter_117 ?_
            refine q_if_eq X 176 dX13_filter_118 (by decide) (fun c118 => ?_) (fun c118 => ?_)
            · refine q_iconst (v := 0) X dX13_filter_176 (by decide) ?_
              refine q_zastN X k (kza (k)) (rfl) (hk) (by omega) (Or.inl rfl) dX13_filter_177 ?_
              have m_33 : (mU (mU (mU M4 va (aJ G (wsz w) (cpF ovf (k)))) za (aZ G (wsz w) (zF (eaD w (6 + nI 0) cv) (k)))) za (aZ G (wsz w) (upd (zF (eaD w (6 + nI 0) cv) (k)) k 0))) q = some (oB 12 [.int (nI (vm w)), .int (nI (vdp w + 1)), .ref la, .ref ha, .ref va, .ref za]) := (mU_n (g_neoa (kq (k)) (kza (k)))).trans (kq (k))
              have m_34 : (mU (mU (mU M4 va (aJ G (wsz w) (cpF ovf (k)))) za (aZ G (wsz w) (zF (eaD w (6 + nI 0) cv) (k)))) za (aZ G (wsz w) (upd (zF (eaD w (6 + nI 0) cv) (k)) k 0))) va = some (aJ G (wsz w) (cpF ovf (k))) := (mU_n (lvz)).trans (kva (k))
              have m_35 : (mU (mU (mU M4 va (aJ G (wsz w) (cpF ovf (k)))) za (aZ G (wsz w) (zF (eaD w (6 + nI 0) cv) (k)))) za (aZ G (wsz w) (upd (zF (eaD w (6 + nI 0) cv) (k)) k 0))) za = some (aZ G (wsz w) (upd (zF (eaD w (6 + nI 0) cv) (k)) k 0)) := mU_s
              refine q_aload X dX13_filter_178 6 rfl ?_
              refine q_get X m_33 rfl in_RX12 4 (by decide) tw_1163 rfl rfl dX13_filter_180 ?_
              refine q_iload X dX13_filter_183 7 rfl ?_
              refine q_lload X dX13_filter_185 0 rfl ?_
              refine q_lastN X k m_34 (rfl) (hk) (by omega) dX13_filter_187 ?_
              have m_36 : (mU (mU (mU (mU M4 va (aJ G (wsz w) (cpF ovf (k)))) za (aZ G (wsz w) (zF (eaD w (6 + nI 0) cv) (k)))) za (aZ G (wsz w) (upd (zF (eaD w (6 + nI 0) cv) (k)) k 0))) va (aJ G (wsz w) (vp_updL (cpF ovf (k)) k (ovf k)))) q = some (oB 12 [.int (nI (vm w)), .int (nI (vdp w + 1)), .ref la, .ref ha, .ref va, .ref za]) := (mU_n (g_neoa m_33 m_34)).trans m_33
              have m_37 : (mU (mU (mU (mU M4 va (aJ G (wsz w) (cpF ovf (k)))) za (aZ G (wsz w) (zF (eaD w (6 + nI 0) cv) (k)))) za (aZ G (wsz w) (upd (zF (eaD w (6 + nI 0) cv) (k)) k 0))) va (aJ G (wsz w) (vp_updL (cpF ovf (k)) k (ovf k)))) va = some (aJ G (wsz w) (vp_updL (cpF ovf (k)) k (ovf k))) := mU_s
              have m_38 : (mU (mU (mU (mU M4 va (aJ G (wsz w) (cpF ovf (k)))) za (aZ G (wsz w) (zF (eaD w (6 + nI 0) cv) (k)))) za (aZ G (wsz w) (upd (zF (eaD w (6 + nI 0) cv) (k)) k 0))) va (aJ G (wsz w) (vp_updL (cpF ovf (k)) k (ovf k)))) za = some (aZ G (wsz w) (upd (zF (eaD w (6 + nI 0) cv) (k)) k 0)) := (mU_n (Ne.symm (lvz))).trans m_35
              refine q_iinc (v := (nI (k + 1))) (lv' := [(7, .int (nI (k + 1))), (8, .long (ovf k)), (0, .ref r), (1, .int (nI i)), (2, .int (nI 0)), (3, .long cv), (5, .ref o), (6, .ref q)]) X dX13_filter_188 7 rfl (nI_1 k) (by decide) rfl ?_
              refine q_goto X 82 dX13_filter_191 (by decide) ?_
              refine q_sub [2, 3, 4, 5, 6, 7, 0] rfl ?_
              have hdk : eaD w (6 + nI 0) cv k = none := ea_none hw hk (ct_none hO.2.2.2.2.2 hk c118)
              refine q_memE (M' := mU (mU M4 va (aJ G (wsz w) (cpF ovf (k + 1)))) za (aZ G (wsz w) (zF (eaD w (6 + nI 0) cv) (k + 1)))) (by rw [← cpF_s, ← zF_z hdk]; exact mU_5 lvz) ?_
              exact ih (k + 1) (by omega)
            · refine q_iload_n X dX13_filter_121 3 rfl ?_
              refine q_if_ne X 135 dX13_filter_122 (by decide) (fun c_39 => absurd (by decide) c_39) (fun c_39 => ?_)
              refine q_lload X dX13_filter_125 0 rfl ?_
              refine q_lload_n X dX13_filter_127 4 rfl ?_
              refine q_lcmp X dX13_filter_128 ?_
              refine q_if_ne X 176 dX13_filter_129 (by decide) (fun c129 => ?_) (fun c129 => ?_)
              · refine q_iconst (v := 0) X dX13_filter_176 (by decide) ?_
                refine q_zastN X k (kza (k)) (rfl) (hk) (by omega) (Or.inl rfl) dX13_filter_177 ?_
                have m_40 : (mU (mU (mU M4 va (aJ G (wsz w) (cpF ovf (k)))) za (aZ G (wsz w) (zF (eaD w (6 + nI 0) cv) (k)))) za (aZ G (wsz w) (upd (zF (eaD w (6 + nI 0) cv) (k)) k 0))) q = some (oB 12 [.int (nI (vm w)), .int (nI (vdp w + 1)), .ref la, .ref ha, .ref va, .ref za]) := (mU_n (g_neoa (kq (k)) (kza (k)))).trans (kq (k))
                have m_41 : (mU (mU (mU M4 va (aJ G (wsz w) (cpF ovf (k)))) za (aZ G (wsz w) (zF (eaD w (6 + nI 0) cv) (k)))) za (aZ G (wsz w) (upd (zF (eaD w (6 + nI 0) cv) (k)) k 0))) va = some (aJ G (wsz w) (cpF ovf (k))) := (mU_n (lvz)).trans (kva (k))
                have m_42 : (mU (mU (mU M4 va (aJ G (wsz w) (cpF ovf (k)))) za (aZ G (wsz w) (zF (eaD w (6 + nI 0) cv) (k)))) za (aZ G (wsz w) (upd (zF (eaD w (6 + nI 0) cv) (k)) k 0))) za = some (aZ G (wsz w) (upd (zF (eaD w (6 + nI 0) cv) (k)) k 0)) := mU_s
                refine q_aload X dX13_filter_178 6 rfl ?_
                refine q_get X m_40 rfl in_RX12 4 (by decide) tw_1163 rfl rfl dX13_filter_180 ?_
                refine q_iload X dX13_filter_183 7 rfl ?_
                refine q_lload X dX13_filter_185 0 rfl ?_
                refine q_lastN X k m_41 (rfl) (hk) (by omega) dX13_filter_187 ?_
                have m_43 : (mU (mU (mU (mU M4 va (aJ G (wsz w) (cpF ovf (k)))) za (aZ G (wsz w) (zF (eaD w (6 + nI 0) cv) (k)))) za (aZ G (wsz w) (upd (zF (eaD w (6 + nI 0) cv) (k)) k 0))) va (aJ G (wsz w) (vp_updL (cpF ovf (k)) k (ovf k)))) q = some (oB 12 [.int (nI (vm w)), .int (nI (vdp w + 1)), .ref la, .ref ha, .ref va, .ref za]) := (mU_n (g_neoa m_40 m_41)).trans m_40
                have m_44 : (mU (mU (mU (mU M4 va (aJ G (wsz w) (cpF ovf (k)))) za (aZ G (wsz w) (zF (eaD w (6 + nI 0) cv) (k)))) za (aZ G (wsz w) (upd (zF (eaD w (6 + nI 0) cv) (k)) k 0))) va (aJ G (wsz w) (vp_updL (cpF ovf (k)) k (ovf k)))) va = some (aJ G (wsz w) (vp_updL (cpF ovf (k)) k (ovf k))) := mU_s
                have m_45 : (mU (mU (mU (mU M4 va (aJ G (wsz w) (cpF ovf (k)))) za (aZ G (wsz w) (zF (eaD w (6 + nI 0) cv) (k)))) za (aZ G (wsz w) (upd (zF (eaD w (6 + nI 0) cv) (k)) k 0))) va (aJ G (wsz w) (vp_updL (cpF ovf (k)) k (ovf k)))) za = some (aZ G (wsz w) (upd (zF (eaD w (6 + nI 0) cv) (k)) k 0)) := (mU_n (Ne.symm (lvz))).trans m_42
                refine q_iinc (v := (nI (k + 1))) (lv' := [(7, .int (nI (k + 1))), (8, .long (ovf k)), (0, .ref r), (1, .int (nI i)), (2, .int (nI 0)), (3, .long cv), (5, .ref o), (6, .ref q)]) X dX13_filter_188 7 rfl (nI_1 k) (by decide) rfl ?_
                refine q_goto X 82 dX13_filter_191 (by decide) ?_
                refine q_sub [2, 3, 4, 5, 6, 7, 0] rfl ?_
                have hdk : eaD w (6 + nI 0) cv k = none := (ea_some hw hk (ct_some hO.2.2.2.2.2 hk c118)).trans (by have q9 := c129; rw [lg_cmp_eq] at q9; unfold eachD; rw [if_neg (by decide), if_neg (by decide), if_neg (by decide), if_neg (by decide), if_neg (by decide), if_neg (by decide), if_pos (by decide), if_neg q9])
                refine q_memE (M' := mU (mU M4 va (aJ G (wsz w) (cpF ovf (k + 1)))) za (aZ G (wsz w) (zF (eaD w (6 + nI 0) cv) (k + 1)))) (by rw [← cpF_s, ← zF_z hdk]; exact mU_5 lvz) ?_
                exact ih (k + 1) (by omega)
              · refine q_goto X 172 dX13_filter_132 (by decide) ?_
                refine q_iconst (v := 1) X dX13_filter_172 (by decide) ?_
                refine q_goto X 177 dX13_filter_173 (by decide) ?_
                refine q_zastN X k (kza (k)) (rfl) (hk) (by omega) (Or.inr rfl) dX13_filter_177 ?_
                have m_46 : (mU (mU (mU M4 va (aJ G (wsz w) (cpF ovf (k)))) za (aZ G (wsz w) (zF (eaD w (6 + nI 0) cv) (k)))) za (aZ G (wsz w) (upd (zF (eaD w (6 + nI 0) cv) (k)) k 1))) q = some (oB 12 [.int (nI (vm w)), .int (nI (vdp w + 1)), .ref la, .ref ha, .ref va, .ref za]) := (mU_n (g_neoa (kq (k)) (kza (k)))).trans (kq (k))
                have m_47 : (mU (mU (mU M4 va (aJ G (wsz w) (cpF ovf (k)))) za (aZ G (wsz w) (zF (eaD w (6 + nI 0) cv) (k)))) za (aZ G (wsz w) (upd (zF (eaD w (6 + nI 0) cv) (k)) k 1))) va = some (aJ G (wsz w) (cpF ovf (k))) := (mU_n (lvz)).trans (kva (k))
                have m_48 : (mU (mU (mU M4 va (aJ G (wsz w) (cpF ovf (k)))) za (aZ G (wsz w) (zF (eaD w (6 + nI 0) cv) (k)))) za (aZ G (wsz w) (upd (zF (eaD w (6 + nI 0) cv) (k)) k 1))) za = some (aZ G (wsz w) (upd (zF (eaD w (6 + nI 0) cv) (k)) k 1)) := mU_s
                refine q_aload X dX13_filter_178 6 rfl ?_
                refine q_get X m_46 rfl in_RX12 4 (by decide) tw_1163 rfl rfl dX13_filter_180 ?_
                refine q_iload X dX13_filter_183 7 rfl ?_
                refine q_lload X dX13_filter_185 0 rfl ?_
                refine q_lastN X k m_47 (rfl) (hk) (by omega) dX13_filter_187 ?_
                have m_49 : (mU (mU (mU (mU M4 va (aJ G (wsz w) (cpF ovf (k)))) za (aZ G (wsz w) (zF (eaD w (6 + nI 0) cv) (k)))) za (aZ G (wsz w) (upd (zF (eaD w (6 + nI 0) cv) (k)) k 1))) va (aJ G (wsz w) (vp_updL (cpF ovf (k)) k (ovf k)))) q = some (oB 12 [.int (nI (vm w)), .int (nI (vdp w + 1)), .ref la, .ref ha, .ref va, .ref za]) := (mU_n (g_neoa m_46 m_47)).trans m_46
                have m_50 : (mU (mU (mU (mU M4 va (aJ G (wsz w) (cpF ovf (k)))) za (aZ G (wsz w) (zF (eaD w (6 + nI 0) cv) (k)))) za (aZ G (wsz w) (upd (zF (eaD w (6 + nI 0) cv) (k)) k 1))) va (aJ G (wsz w) (vp_updL (cpF ovf (k)) k (ovf k)))) va = some (aJ G (wsz w) (vp_updL (cpF ovf (k)) k (ovf k))) := mU_s
                have m_51 : (mU (mU (mU (mU M4 va (aJ G (wsz w) (cpF ovf (k)))) za (aZ G (wsz w) (zF (eaD w (6 + nI 0) cv) (k)))) za (aZ G (wsz w) (upd (zF (eaD w (6 + nI 0) cv) (k)) k 1))) va (aJ G (wsz w) (vp_updL (cpF ovf (k)) k (ovf k)))) za = some (aZ G (wsz w) (upd (zF (eaD w (6 + nI 0) cv) (k)) k 1)) := (mU_n (Ne.symm (lvz))).trans m_48
                refine q_iinc (v := (nI (k + 1))) (lv' := [(7, .int (nI (k + 1))), (8, .long (ovf k)), (0, .ref r), (1, .int (nI i)), (2, .int (nI 0)), (3, .long cv), (5, .ref o), (6, .ref q)]) X dX13_filter_188 7 rfl (nI_1 k) (by decide) rfl ?_
                refine q_goto X 82 dX13_filter_191 (by decide) ?_
                refine q_sub [2, 3, 4, 5, 6, 7, 0] rfl ?_
                have hdk : eaD w (6 + nI 0) cv k = some (ovf k) := (ea_some hw hk (ct_some hO.2.2.2.2.2 hk c118)).trans (by have q9 := c129; rw [lg_cmp_eq] at q9; unfold eachD; rw [if_neg (by decide), if_neg (by decide), if_neg (by decide), if_neg (by decide), if_neg (by decide), if_neg (by decide), if_pos (by decide), if_pos q9])
                refine q_memE (M' := mU (mU M4 va (aJ G (wsz w) (cpF ovf (k + 1)))) za (aZ G (wsz w) (zF (eaD w (6 + nI 0) cv) (k + 1)))) (by rw [← cpF_s, ← zF_y hdk]; exact mU_5 lvz) ?_
                exact ih (k + 1) (by omega)
        refine q_iconst (v := 0) X dX13_filter_79 (by decide) ?_
        refine q_istore (lv' := [(7, .int 0), (6, .ref q), (5, .ref o), (0, .ref r), (1, .int (nI i)), (2, .int (nI 0)), (3, .long cv)]) X dX13_filter_80 (by decide) rfl ?_
        refine q_sub [3, 4, 5, 6, 2, 1, 0] rfl ?_
        refine q_memE (M' := mU (mU M4 va (aJ G (wsz w) (cpF ovf (0)))) za (aZ G (wsz w) (zF (eaD w (6 + nI 0) cv) (0)))) (by rw [cpF_0, zF_0, mU_id hva4, mU_id hza4]) ?_
        exact L0 hfin (wsz w) 0 (by omega)
      · have kv : ∀ {x : Nat} {e : va_E}, M4 x = some e → x ≠ va → x ≠ za → ∀ c, (mU (mU M4 va (aJ G (wsz w) (cpF ovf (c)))) za (aZ G (wsz w) (zF (eaD w (6 + nI 1) cv) (c)))) x = some e := fun h h1 h2 c => (mU_n h2).trans ((mU_n h1).trans h)
        have kr : ∀ c, (mU (mU M4 va (aJ G (wsz w) (cpF ovf (c)))) za (aZ G (wsz w) (zF (eaD w (6 + nI 1) cv) (c)))) r = some (oB 13 [.int 0, .ref vA, .ref nA, .ref pA, .ref plA, .ref dg, .int (nI (aV σ).length), .int (nI (aN σ).length), .int (nI (aOf σ)), .int (nI (aBg σ)), .int tk, .long su, .long le, .long gr]) := kv m_21 (g_nef m_9 fva3) (g_nef m_9 fza3)
        have kplA : ∀ c, (mU (mU M4 va (aJ G (wsz w) (cpF ovf (c)))) za (aZ G (wsz w) (zF (eaD w (6 + nI 1) cv) (c)))) plA = some (aI G 3 pl0) := kv m_28 (g_nef m_16 fva3) (g_nef m_16 fza3)
        have kq : ∀ c, (mU (mU M4 va (aJ G (wsz w) (cpF ovf (c)))) za (aZ G (wsz w) (zF (eaD w (6 + nI 1) cv) (c)))) q = some (oB 12 [.int (nI (vm w)), .int (nI (vdp w + 1)), .ref la, .ref ha, .ref va, .ref za]) := kv hq4 (g_nef m_17 fva3) (g_nef m_17 fza3)
        have kla : ∀ c, (mU (mU M4 va (aJ G (wsz w) (cpF ovf (c)))) za (aZ G (wsz w) (zF (eaD w (6 + nI 1) cv) (c)))) la = some (aI G 3 (vlo w)) := kv m_29 (g_nef m_18 fva3) (g_nef m_18 fza3)
        have kha : ∀ c, (mU (mU M4 va (aJ G (wsz w) (cpF ovf (c)))) za (aZ G (wsz w) (zF (eaD w (6 + nI 1) cv) (c)))) ha = some (aI G 3 (vhi w)) := kv m_30 (g_nef m_19 fva3) (g_nef m_19 fza3)
        have ko : ∀ c, (mU (mU M4 va (aJ G (wsz w) (cpF ovf (c)))) za (aZ G (wsz w) (zF (eaD w (6 + nI 1) cv) (c)))) o = some (oB 12 [.int (nI (vm w)), .int (nI (vdp w)), .ref ola, .ref oha, .ref ova, .ref oza]) := kv m_23 (g_nef m_11 fva3) (g_nef m_11 fza3)
        have kola : ∀ c, (mU (mU M4 va (aJ G (wsz w) (cpF ovf (c)))) za (aZ G (wsz w) (zF (eaD w (6 + nI 1) cv) (c)))) ola = some (aI G 3 (vlo w)) := kv m_24 (g_nef m_12 fva3) (g_nef m_12 fza3)
        have koha : ∀ c, (mU (mU M4 va (aJ G (wsz w) (cpF ovf (c)))) za (aZ G (wsz w) (zF (eaD w (6 + nI 1) cv) (c)))) oha = some (aI G 3 (vhi w)) := kv m_25 (g_nef m_13 fva3) (g_nef m_13 fza3)
        have kova : ∀ c, (mU (mU M4 va (aJ G (wsz w) (cpF ovf (c)))) za (aZ G (wsz w) (zF (eaD w (6 + nI 1) cv) (c)))) ova = some (aJ G (wsz w) ovf) := kv m_26 (g_nef m_14 fva3) (g_nef m_14 fza3)
        have koza : ∀ c, (mU (mU M4 va (aJ G (wsz w) (cpF ovf (c)))) za (aZ G (wsz w) (zF (eaD w (6 + nI 1) cv) (c)))) oza = some (aZ G (wsz w) ozf) := kv m_27 (g_nef m_15 fva3) (g_nef m_15 fza3)
        have kva : ∀ c, (mU (mU M4 va (aJ G (wsz w) (cpF ovf (c)))) za (aZ G (wsz w) (zF (eaD w (6 + nI 1) cv) (c)))) va = some (aJ G (wsz w) (cpF ovf (c))) := fun c => (mU_n lvz).trans mU_s
        have kza : ∀ c, (mU (mU M4 va (aJ G (wsz w) (cpF ovf (c)))) za (aZ G (wsz w) (zF (eaD w (6 + nI 1) cv) (c)))) za = some (aZ G (wsz w) (zF (eaD w (6 + nI 1) cv) c)) := fun c => mU_s
        have koX : ∀ c, isGrX G (mU (mU M4 va (aJ G (wsz w) (cpF ovf (c)))) za (aZ G (wsz w) (zF (eaD w (6 + nI 1) cv) (c)))) o ola oha ova oza ovf ozf w := fun c => ⟨ko c, kola c, koha c, kova c, koza c, hO.2.2.2.2.2⟩
        have l0 := hok.lo (d := 0) (by decide)
        have N0 := hok.N (d := 0) (by decide)
        have y0 := hok.hi (d := 0) (by decide)
        have l1 := hok.lo (d := 1) (by decide)
        have N1 := hok.N (d := 1) (by decide)
        have y1 := hok.hi (d := 1) (by decide)
        have l2 := hok.lo (d := 2) (by decide)
        have N2 := hok.N (d := 2) (by decide)
        have y2 := hok.hi (d := 2) (by decide)
        have hfin : qJ G F (qQ G F (rfP G r cOp (some (.int 0)) (sp_filter σ (nI i) (nI 1) cv))) 10 (mU (mU M4 va (aJ G (wsz w) (cpF ovf (wsz w)))) za (aZ G (wsz w) (zF (eaD w (6 + nI 1) cv) (wsz w)))) 0 0 194 [(0, .ref r), (1, .int (nI i)), (2, .int (nI 1)), (3, .long cv), (5, .ref o), (6, .ref q)] [] := by
          have evz : mEv (fun x => x = r ∨ x = plA) M (mU (mU M4 va (aJ G (wsz w) (cpF ovf (wsz w)))) za (aZ G (wsz w) (zF (eaD w (6 + nI 1) cv) (wsz w)))) := fun x hx => by
            have w1 : x ≠ va := fun z => hx (z ▸ fva)
            have w2 : x ≠ za := fun z => hx (z ▸ fza)
            have e1 := evK4 x hx
            have e : (mU (mU M4 va (aJ G (wsz w) (cpF ovf (wsz w)))) za (aZ G (wsz w) (zF (eaD w (6 + nI 1) cv) (wsz w)))) x = M4 x := (mU_n w2).trans (mU_n w1)
            exact ⟨by rw [e]; exact e1.1, fun k => e.trans (e1.2 k)⟩
          have hBz : rfB G (mU (mU M4 va (aJ G (wsz w) (cpF ovf (wsz w)))) za (aZ G (wsz w) (zF (eaD w (6 + nI 1) cv) (wsz w)))) r 0 σ vA nA pA plA dg dla dha dva dza dvf dzf vf nf pf tk su le gr := hB.ev2 evz (kr (wsz w)) ⟨_, kplA (wsz w)⟩
          have nb : ∀ {x : Nat}, M x = none → ¬ rBad plA pA dva dza x := fun h z => by
            rcases z with z | z | z | z
            · rw [z, hpl0] at h; cases h
            · rw [z, hB.2.2.2.1] at h; cases h
            · rw [z, hB.2.2.2.2.2.1.2.2.2.1] at h; cases h
            · rw [z, hB.2.2.2.2.2.1.2.2.2.2.1] at h; cases h
          have hg : isGrd G (mU (mU M4 va (aJ G (wsz w) (cpF ovf (wsz w)))) za (aZ G (wsz w) (zF (eaD w (6 + nI 1) cv) (wsz w)))) (rBad plA pA dva dza) q (vm w, (vlo w), (vhi w), vdp w + 1, (eaD w (6 + nI 1) cv)) := grd_mk (kq (wsz w)) (kla (wsz w)) (kha (wsz w)) (kva (wsz w)) (kza (wsz w)) (fi_ct hw hO.2.2.2.2.2 (by decide)) (nb fla) (nb fha) (nb fva) (nb fza)
          refine q_aload_n X dX13_filter_194 0 rfl ?_
          refine q_aload X dX13_filter_195 5 rfl ?_
          refine q_callV X (c_made hBz hg h150) Y_X13_made tw_1339 tw_1341 sel_28 (kr (wsz w)) rfl (by omega) rfl rfl (Nat.le_of_ble_eq_true rfl) (rc' := 0) (rs' := 0) (Nat.le_refl _) (Nat.le_refl _) dX13_filter_197 (fun v M' hp _ => ?_)
          obtain ⟨rfl, hz9⟩ := hp
          generalize M' = M9 at *
          show qJ G F _ 10 M9 0 0 200 [(0, .ref r), (1, .int (nI i)), (2, .int (nI 1)), (3, .long cv), (5, .ref o), (6, .ref q)] [.int (nI (aN σ).length)]
          exact q_iret X hr dX13_filter_200 (rfP_K (by rw [specE]; exact gLim_y hlim) hz9)
        have L0 : ∀ (kk : qJ G F (qQ G F (rfP G r cOp (some (.int 0)) (sp_filter σ (nI i) (nI 1) cv))) 10 (mU (mU M4 va (aJ G (wsz w) (cpF ovf (wsz w)))) za (aZ G (wsz w) (zF (eaD w (6 + nI 1) cv) (wsz w)))) 0 0 194 [(0, .ref r), (1, .int (nI i)), (2, .int (nI 1)), (3, .long cv), (5, .ref o), (6, .ref q)] []) (t k : Nat), k + t = wsz w → qJ G F (qQ G F (rfP G r cOp (some (.int 0)) (sp_filter σ (nI i) (nI 1) cv))) 10 (mU (mU M4 va (aJ G (wsz w) (cpF ovf (k)))) za (aZ G (wsz w) (zF (eaD w (6 + nI 1) cv) (k)))) 0 0 82 [(0, .ref r), (1, .int (nI i)), (2, .int (nI 1)), (3, .long cv), (5, .ref o), (6, .ref q), (7, .int (nI k))] [] := by
          intro  kk t
          induction t with
          | zero =>
            intro k hk0
            obtain rfl : k = wsz w := by omega
            refine q_iload X dX13_filter_82 6 rfl ?_
            refine q_aload X dX13_filter_84 5 rfl ?_
            refine q_get X (kq (wsz w)) rfl in_RX12 4 (by decide) tw_1163 rfl rfl dX13_filter_86 ?_
            refine q_alen X 1 (kva (wsz w)) rfl dX13_filter_89 ?_
            refine q_icmp_ge X 194 dX13_filter_90 (by decide) (fun c_52 => ?_) (fun c_52 => absurd (Int32.le_refl _) c_52)
            refine q_sub [0, 1, 2, 3, 4, 5] rfl ?_
            exact kk
          | succ t ih =>
            intro k hk0
            have hk : k < wsz w := by omega
            have hkz : wsz w ≤ 4096 := hw.2.1
            refine q_iload X dX13_filter_82 6 rfl ?_
            refine q_aload X dX13_filter_84 5 rfl ?_
            refine q_get X (kq (k)) rfl in_RX12 4 (by decide) tw_1163 rfl rfl dX13_filter_86 ?_
            refine q_alen X 1 (kva (k)) rfl dX13_filter_89 ?_
            refine q_icmp_ge X 194 dX13_filter_90 (by decide) (fun c_53 => absurd c_53 (nI_ge hk (by omega))) (fun c_53 => ?_)
            refine q_aload X dX13_filter_93 4 rfl ?_
            refine q_get X (ko (k)) rfl in_RX12 4 (by decide) tw_1163 rfl rfl dX13_filter_95 ?_
            refine q_iload X dX13_filter_98 6 rfl ?_
            refine q_laldN X k (kova (k)) (rfl) (hk) (by omega) dX13_filter_100 ?_
            refine q_lstore (lv' := [(8, .long (ovf k)), (0, .ref r), (1, .int (nI i)), (2, .int (nI 1)), (3, .long cv), (5, .ref o), (6, .ref q), (7, .int (nI k))]) X dX13_filter_101 (by decide) rfl ?_
            refine q_aload X dX13_filter_103 6 rfl ?_
            refine q_get X (kq (k)) rfl in_RX12 5 (by decide) tw_1165 rfl rfl dX13_filter_105 ?_
            refine q_iload X dX13_filter_108 7 rfl ?_
            refine q_aload X dX13_filter_110 5 rfl ?_
            refine q_get X (ko (k)) rfl in_RX12 5 (by decide) tw_1165 rfl rfl dX13_filter_112 ?_
            refine q_iload X dX13_filter_115 7 rfl ?_
            refine q_zaldN X k (koza (k)) (rfl) (hk) (by omega) dX13_filter_117 ?_
            refine q_if_eq X 176 dX13_filter_118 (by decide) (fun c118 => ?_) (fun c118 => ?_)
            · refine q_iconst (v := 0) X dX13_filter_176 (by decide) ?_
              refine q_zastN X k (kza (k)) (rfl) (hk) (by omega) (Or.inl rfl) dX13_filter_177 ?_
              have m_54 : (mU (mU (mU M4 va (aJ G (wsz w) (cpF ovf (k)))) za (aZ G (wsz w) (zF (eaD w (6 + nI 1) cv) (k)))) za (aZ G (wsz w) (upd (zF (eaD w (6 + nI 1) cv) (k)) k 0))) q = some (oB 12 [.int (nI (vm w)), .int (nI (vdp w + 1)), .ref la, .ref ha, .ref va, .ref za]) := (mU_n (g_neoa (kq (k)) (kza (k)))).trans (kq (k))
              have m_55 : (mU (mU (mU M4 va (aJ G (wsz w) (cpF ovf (k)))) za (aZ G (wsz w) (zF (eaD w (6 + nI 1) cv) (k)))) za (aZ G (wsz w) (upd (zF (eaD w (6 + nI 1) cv) (k)) k 0))) va = some (aJ G (wsz w) (cpF ovf (k))) := (mU_n (lvz)).trans (kva (k))
              have m_56 : (mU (mU (mU M4 va (aJ G (wsz w) (cpF ovf (k)))) za (aZ G (wsz w) (zF (eaD w (6 + nI 1) cv) (k)))) za (aZ G (wsz w) (upd (zF (eaD w (6 + nI 1) cv) (k)) k 0))) za = some (aZ G (wsz w) (upd (zF (eaD w (6 + nI 1) cv) (k)) k 0)) := mU_s
              refine q_aload X dX13_filter_178 6 rfl ?_
              refine q_get X m_54 rfl in_RX12 4 (by decide) tw_1163 rfl rfl dX13_filter_180 ?_
              refine q_iload X dX13_filter_183 7 rfl ?_
              refine q_lload X dX13_filter_185 0 rfl ?_
              refine q_lastN X k m_55 (rfl) (hk) (by omega) dX13_filter_187 ?_
              have m_57 : (mU (mU (mU (mU M4 va (aJ G (wsz w) (cpF ovf (k)))) za (aZ G (wsz w) (zF (eaD w (6 + nI 1) cv) (k)))) za (aZ G (wsz w) (upd (zF (eaD w (6 + nI 1) cv) (k)) k 0))) va (aJ G (wsz w) (vp_updL (cpF ovf (k)) k (ovf k)))) q = some (oB 12 [.int (nI (vm w)), .int (nI (vdp w + 1)), .ref la, .ref ha, .ref va, .ref za]) := (mU_n (g_neoa m_54 m_55)).trans m_54
              have m_58 : (mU (mU (mU (mU M4 va (aJ G (wsz w) (cpF ovf (k)))) za (aZ G (wsz w) (zF (eaD w (6 + nI 1) cv) (k)))) za (aZ G (wsz w) (upd (zF (eaD w (6 + nI 1) cv) (k)) k 0))) va (aJ G (wsz w) (vp_updL (cpF ovf (k)) k (ovf k)))) va = some (aJ G (wsz w) (vp_updL (cpF ovf (k)) k (ovf k))) := mU_s
              have m_59 : (mU (mU (mU (mU M4 va (aJ G (wsz w) (cpF ovf (k)))) za (aZ G (wsz w) (zF (eaD w (6 + nI 1) cv) (k)))) za (aZ G (wsz w) (upd (zF (eaD w (6 + nI 1) cv) (k)) k 0))) va (aJ G (wsz w) (vp_updL (cpF ovf (k)) k (ovf k)))) za = some (aZ G (wsz w) (upd (zF (eaD w (6 + nI 1) cv) (k)) k 0)) := (mU_n (Ne.symm (lvz))).trans m_56
              refine q_iinc (v := (nI (k + 1))) (lv' := [(7, .int (nI (k + 1))), (8, .long (ovf k)), (0, .ref r), (1, .int (nI i)), (2, .int (nI 1)), (3, .long cv), (5, .ref o), (6, .ref q)]) X dX13_filter_188 7 rfl (nI_1 k) (by decide) rfl ?_
              refine q_goto X 82 dX13_filter_191 (by decide) ?_
              refine q_sub [2, 3, 4, 5, 6, 7, 0] rfl ?_
              have hdk : eaD w (6 + nI 1) cv k = none := ea_none hw hk (ct_none hO.2.2.2.2.2 hk c118)
              refine q_memE (M' := mU (mU M4 va (aJ G (wsz w) (cpF ovf (k + 1)))) za (aZ G (wsz w) (zF (eaD w (6 + nI 1) cv) (k + 1)))) (by rw [← cpF_s, ← zF_z hdk]; exact mU_5 lvz) ?_
              exact ih (k + 1) (by omega)
            · refine q_iload_n X dX13_filter_121 3 rfl ?_
              refine q_if_ne X 135 dX13_filter_122 (by decide) (fun c_60 => ?_) (fun c_60 => absurd c_60 (by decide))
              refine q_iload_n X dX13_filter_135 3 rfl ?_
              refine q_iconst (v := 1) X dX13_filter_136 (by decide) ?_
              refine q_icmp_ne X 150 dX13_filter_137 (by decide) (fun c_61 => absurd (by decide) c_61) (fun c_61 => ?_)
              refine q_lload X dX13_filter_140 0 rfl ?_
              refine q_lload_n X dX13_filter_142 4 rfl ?_
              refine q_lcmp X dX13_filter_143 ?_
              refine q_if_eq X 176 dX13_filter_144 (by decide) (fun c144 => ?_) (fun c144 => ?_)
              · refine q_iconst (v := 0) X dX13_filter_176 (by decide) ?_
                refine q_zastN X k (kza (k)) (rfl) (hk) (by omega) (Or.inl rfl) dX13_filter_177 ?_
                have m_62 : (mU (mU (mU M4 va (aJ G (wsz w) (cpF ovf (k)))) za (aZ G (wsz w) (zF (eaD w (6 + nI 1) cv) (k)))) za (aZ G (wsz w) (upd (zF (eaD w (6 + nI 1) cv) (k)) k 0))) q = some (oB 12 [.int (nI (vm w)), .int (nI (vdp w + 1)), .ref la, .ref ha, .ref va, .ref za]) := (mU_n (g_neoa (kq (k)) (kza (k)))).trans (kq (k))
                have m_63 : (mU (mU (mU M4 va (aJ G (wsz w) (cpF ovf (k)))) za (aZ G (wsz w) (zF (eaD w (6 + nI 1) cv) (k)))) za (aZ G (wsz w) (upd (zF (eaD w (6 + nI 1) cv) (k)) k 0))) va = some (aJ G (wsz w) (cpF ovf (k))) := (mU_n (lvz)).trans (kva (k))
                have m_64 : (mU (mU (mU M4 va (aJ G (wsz w) (cpF ovf (k)))) za (aZ G (wsz w) (zF (eaD w (6 + nI 1) cv) (k)))) za (aZ G (wsz w) (upd (zF (eaD w (6 + nI 1) cv) (k)) k 0))) za = some (aZ G (wsz w) (upd (zF (eaD w (6 + nI 1) cv) (k)) k 0)) := mU_s
                refine q_aload X dX13_filter_178 6 rfl ?_
                refine q_get X m_62 rfl in_RX12 4 (by decide) tw_1163 rfl rfl dX13_filter_180 ?_
                refine q_iload X dX13_filter_183 7 rfl ?_
                refine q_lload X dX13_filter_185 0 rfl ?_
                refine q_lastN X k m_63 (rfl) (hk) (by omega) dX13_filter_187 ?_
                have m_65 : (mU (mU (mU (mU M4 va (aJ G (wsz w) (cpF ovf (k)))) za (aZ G (wsz w) (zF (eaD w (6 + nI 1) cv) (k)))) za (aZ G (wsz w) (upd (zF (eaD w (6 + nI 1) cv) (k)) k 0))) va (aJ G (wsz w) (vp_updL (cpF ovf (k)) k (ovf k)))) q = some (oB 12 [.int (nI (vm w)), .int (nI (vdp w + 1)), .ref la, .ref ha, .ref va, .ref za]) := (mU_n (g_neoa m_62 m_63)).trans m_62
                have m_66 : (mU (mU (mU (mU M4 va (aJ G (wsz w) (cpF ovf (k)))) za (aZ G (wsz w) (zF (eaD w (6 + nI 1) cv) (k)))) za (aZ G (wsz w) (upd (zF (eaD w (6 + nI 1) cv) (k)) k 0))) va (aJ G (wsz w) (vp_updL (cpF ovf (k)) k (ovf k)))) va = some (aJ G (wsz w) (vp_updL (cpF ovf (k)) k (ovf k))) := mU_s
                have m_67 : (mU (mU (mU (mU M4 va (aJ G (wsz w) (cpF ovf (k)))) za (aZ G (wsz w) (zF (eaD w (6 + nI 1) cv) (k)))) za (aZ G (wsz w) (upd (zF (eaD w (6 + nI 1) cv) (k)) k 0))) va (aJ G (wsz w) (vp_updL (cpF ovf (k)) k (ovf k)))) za = some (aZ G (wsz w) (upd (zF (eaD w (6 + nI 1) cv) (k)) k 0)) := (mU_n (Ne.symm (lvz))).trans m_64
                refine q_iinc (v := (nI (k + 1))) (lv' := [(7, .int (nI (k + 1))), (8, .long (ovf k)), (0, .ref r), (1, .int (nI i)), (2, .int (nI 1)), (3, .long cv), (5, .ref o), (6, .ref q)]) X dX13_filter_188 7 rfl (nI_1 k) (by decide) rfl ?_
                refine q_goto X 82 dX13_filter_191 (by decide) ?_
                refine q_sub [2, 3, 4, 5, 6, 7, 0] rfl ?_
                have hdk : eaD w (6 + nI 1) cv k = none := (ea_some hw hk (ct_some hO.2.2.2.2.2 hk c118)).trans (by have q9 := c144; rw [lg_cmp_eq] at q9; unfold eachD; rw [if_neg (by decide), if_neg (by decide), if_neg (by decide), if_neg (by decide), if_neg (by decide), if_neg (by decide), if_neg (by decide), if_pos (by decide), if_pos q9])
                refine q_memE (M' := mU (mU M4 va (aJ G (wsz w) (cpF ovf (k + 1)))) za (aZ G (wsz w) (zF (eaD w (6 + nI 1) cv) (k + 1)))) (by rw [← cpF_s, ← zF_z hdk]; exact mU_5 lvz) ?_
                exact ih (k + 1) (by omega)
              · refine q_goto X 172 dX13_filter_147 (by decide) ?_
                refine q_iconst (v := 1) X dX13_filter_172 (by decide) ?_
                refine q_goto X 177 dX13_filter_173 (by decide) ?_
                refine q_zastN X k (kza (k)) (rfl) (hk) (by omega) (Or.inr rfl) dX13_filter_177 ?_
                have m_68 : (mU (mU (mU M4 va (aJ G (wsz w) (cpF ovf (k)))) za (aZ G (wsz w) (zF (eaD w (6 + nI 1) cv) (k)))) za (aZ G (wsz w) (upd (zF (eaD w (6 + nI 1) cv) (k)) k 1))) q = some (oB 12 [.int (nI (vm w)), .int (nI (vdp w + 1)), .ref la, .ref ha, .ref va, .ref za]) := (mU_n (g_neoa (kq (k)) (kza (k)))).trans (kq (k))
                have m_69 : (mU (mU (mU M4 va (aJ G (wsz w) (cpF ovf (k)))) za (aZ G (wsz w) (zF (eaD w (6 + nI 1) cv) (k)))) za (aZ G (wsz w) (upd (zF (eaD w (6 + nI 1) cv) (k)) k 1))) va = some (aJ G (wsz w) (cpF ovf (k))) := (mU_n (lvz)).trans (kva (k))
                have m_70 : (mU (mU (mU M4 va (aJ G (wsz w) (cpF ovf (k)))) za (aZ G (wsz w) (zF (eaD w (6 + nI 1) cv) (k)))) za (aZ G (wsz w) (upd (zF (eaD w (6 + nI 1) cv) (k)) k 1))) za = some (aZ G (wsz w) (upd (zF (eaD w (6 + nI 1) cv) (k)) k 1)) := mU_s
                refine q_aload X dX13_filter_178 6 rfl ?_
                refine q_get X m_68 rfl in_RX12 4 (by decide) tw_1163 rfl rfl dX13_filter_180 ?_
                refine q_iload X dX13_filter_183 7 rfl ?_
                refine q_lload X dX13_filter_185 0 rfl ?_
                refine q_lastN X k m_69 (rfl) (hk) (by omega) dX13_filter_187 ?_
                have m_71 : (mU (mU (mU (mU M4 va (aJ G (wsz w) (cpF ovf (k)))) za (aZ G (wsz w) (zF (eaD w (6 + nI 1) cv) (k)))) za (aZ G (wsz w) (upd (zF (eaD w (6 + nI 1) cv) (k)) k 1))) va (aJ G (wsz w) (vp_updL (cpF ovf (k)) k (ovf k)))) q = some (oB 12 [.int (nI (vm w)), .int (nI (vdp w + 1)), .ref la, .ref ha, .ref va, .ref za]) := (mU_n (g_neoa m_68 m_69)).trans m_68
                have m_72 : (mU (mU (mU (mU M4 va (aJ G (wsz w) (cpF ovf (k)))) za (aZ G (wsz w) (zF (eaD w (6 + nI 1) cv) (k)))) za (aZ G (wsz w) (upd (zF (eaD w (6 + nI 1) cv) (k)) k 1))) va (aJ G (wsz w) (vp_updL (cpF ovf (k)) k (ovf k)))) va = some (aJ G (wsz w) (vp_updL (cpF ovf (k)) k (ovf k))) := mU_s
                have m_73 : (mU (mU (mU (mU M4 va (aJ G (wsz w) (cpF ovf (k)))) za (aZ G (wsz w) (zF (eaD w (6 + nI 1) cv) (k)))) za (aZ G (wsz w) (upd (zF (eaD w (6 + nI 1) cv) (k)) k 1))) va (aJ G (wsz w) (vp_updL (cpF ovf (k)) k (ovf k)))) za = some (aZ G (wsz w) (upd (zF (eaD w (6 + nI 1) cv) (k)) k 1)) := (mU_n (Ne.symm (lvz))).trans m_70
                refine q_iinc (v := (nI (k + 1))) (lv' := [(7, .int (nI (k + 1))), (8, .long (ovf k)), (0, .ref r), (1, .int (nI i)), (2, .int (nI 1)), (3, .long cv), (5, .ref o), (6, .ref q)]) X dX13_filter_188 7 rfl (nI_1 k) (by decide) rfl ?_
                refine q_goto X 82 dX13_filter_191 (by decide) ?_
                refine q_sub [2, 3, 4, 5, 6, 7, 0] rfl ?_
                have hdk : eaD w (6 + nI 1) cv k = some (ovf k) := (ea_some hw hk (ct_some hO.2.2.2.2.2 hk c118)).trans (by have q9 := c144; rw [lg_cmp_eq] at q9; unfold eachD; rw [if_neg (by decide), if_neg (by decide), if_neg (by decide), if_neg (by decide), if_neg (by decide), if_neg (by decide), if_neg (by decide), if_pos (by decide), if_neg q9])
                refine q_memE (M' := mU (mU M4 va (aJ G (wsz w) (cpF ovf (k + 1)))) za (aZ G (wsz w) (zF (eaD w (6 + nI 1) cv) (k + 1)))) (by rw [← cpF_s, ← zF_y hdk]; exact mU_5 lvz) ?_
                exact ih (k + 1) (by omega)
        refine q_iconst (v := 0) X dX13_filter_79 (by decide) ?_
        refine q_istore (lv' := [(7, .int 0), (6, .ref q), (5, .ref o), (0, .ref r), (1, .int (nI i)), (2, .int (nI 1)), (3, .long cv)]) X dX13_filter_80 (by decide) rfl ?_
        refine q_sub [3, 4, 5, 6, 2, 1, 0] rfl ?_
        refine q_memE (M' := mU (mU M4 va (aJ G (wsz w) (cpF ovf (0)))) za (aZ G (wsz w) (zF (eaD w (6 + nI 1) cv) (0)))) (by rw [cpF_0, zF_0, mU_id hva4, mU_id hza4]) ?_
        exact L0 hfin (wsz w) 0 (by omega)
      · have kv : ∀ {x : Nat} {e : va_E}, M4 x = some e → x ≠ va → x ≠ za → ∀ c, (mU (mU M4 va (aJ G (wsz w) (cpF ovf (c)))) za (aZ G (wsz w) (zF (eaD w (6 + nI 2) cv) (c)))) x = some e := fun h h1 h2 c => (mU_n h2).trans ((mU_n h1).trans h)
        have kr : ∀ c, (mU (mU M4 va (aJ G (wsz w) (cpF ovf (c)))) za (aZ G (wsz w) (zF (eaD w (6 + nI 2) cv) (c)))) r = some (oB 13 [.int 0, .ref vA, .ref nA, .ref pA, .ref plA, .ref dg, .int (nI (aV σ).length), .int (nI (aN σ).length), .int (nI (aOf σ)), .int (nI (aBg σ)), .int tk, .long su, .long le, .long gr]) := kv m_21 (g_nef m_9 fva3) (g_nef m_9 fza3)
        have kplA : ∀ c, (mU (mU M4 va (aJ G (wsz w) (cpF ovf (c)))) za (aZ G (wsz w) (zF (eaD w (6 + nI 2) cv) (c)))) plA = some (aI G 3 pl0) := kv m_28 (g_nef m_16 fva3) (g_nef m_16 fza3)
        have kq : ∀ c, (mU (mU M4 va (aJ G (wsz w) (cpF ovf (c)))) za (aZ G (wsz w) (zF (eaD w (6 + nI 2) cv) (c)))) q = some (oB 12 [.int (nI (vm w)), .int (nI (vdp w + 1)), .ref la, .ref ha, .ref va, .ref za]) := kv hq4 (g_nef m_17 fva3) (g_nef m_17 fza3)
        have kla : ∀ c, (mU (mU M4 va (aJ G (wsz w) (cpF ovf (c)))) za (aZ G (wsz w) (zF (eaD w (6 + nI 2) cv) (c)))) la = some (aI G 3 (vlo w)) := kv m_29 (g_nef m_18 fva3) (g_nef m_18 fza3)
        have kha : ∀ c, (mU (mU M4 va (aJ G (wsz w) (cpF ovf (c)))) za (aZ G (wsz w) (zF (eaD w (6 + nI 2) cv) (c)))) ha = some (aI G 3 (vhi w)) := kv m_30 (g_nef m_19 fva3) (g_nef m_19 fza3)
        have ko : ∀ c, (mU (mU M4 va (aJ G (wsz w) (cpF ovf (c)))) za (aZ G (wsz w) (zF (eaD w (6 + nI 2) cv) (c)))) o = some (oB 12 [.int (nI (vm w)), .int (nI (vdp w)), .ref ola, .ref oha, .ref ova, .ref oza]) := kv m_23 (g_nef m_11 fva3) (g_nef m_11 fza3)
        have kola : ∀ c, (mU (mU M4 va (aJ G (wsz w) (cpF ovf (c)))) za (aZ G (wsz w) (zF (eaD w (6 + nI 2) cv) (c)))) ola = some (aI G 3 (vlo w)) := kv m_24 (g_nef m_12 fva3) (g_nef m_12 fza3)
        have koha : ∀ c, (mU (mU M4 va (aJ G (wsz w) (cpF ovf (c)))) za (aZ G (wsz w) (zF (eaD w (6 + nI 2) cv) (c)))) oha = some (aI G 3 (vhi w)) := kv m_25 (g_nef m_13 fva3) (g_nef m_13 fza3)
        have kova : ∀ c, (mU (mU M4 va (aJ G (wsz w) (cpF ovf (c)))) za (aZ G (wsz w) (zF (eaD w (6 + nI 2) cv) (c)))) ova = some (aJ G (wsz w) ovf) := kv m_26 (g_nef m_14 fva3) (g_nef m_14 fza3)
        have koza : ∀ c, (mU (mU M4 va (aJ G (wsz w) (cpF ovf (c)))) za (aZ G (wsz w) (zF (eaD w (6 + nI 2) cv) (c)))) oza = some (aZ G (wsz w) ozf) := kv m_27 (g_nef m_15 fva3) (g_nef m_15 fza3)
        have kva : ∀ c, (mU (mU M4 va (aJ G (wsz w) (cpF ovf (c)))) za (aZ G (wsz w) (zF (eaD w (6 + nI 2) cv) (c)))) va = some (aJ G (wsz w) (cpF ovf (c))) := fun c => (mU_n lvz).trans mU_s
        have kza : ∀ c, (mU (mU M4 va (aJ G (wsz w) (cpF ovf (c)))) za (aZ G (wsz w) (zF (eaD w (6 + nI 2) cv) (c)))) za = some (aZ G (wsz w) (zF (eaD w (6 + nI 2) cv) c)) := fun c => mU_s
        have koX : ∀ c, isGrX G (mU (mU M4 va (aJ G (wsz w) (cpF ovf (c)))) za (aZ G (wsz w) (zF (eaD w (6 + nI 2) cv) (c)))) o ola oha ova oza ovf ozf w := fun c => ⟨ko c, kola c, koha c, kova c, koza c, hO.2.2.2.2.2⟩
        have l0 := hok.lo (d := 0) (by decide)
        have N0 := hok.N (d := 0) (by decide)
        have y0 := hok.hi (d := 0) (by decide)
        have l1 := hok.lo (d := 1) (by decide)
        have N1 := hok.N (d := 1) (by decide)
        have y1 := hok.hi (d := 1) (by decide)
        have l2 := hok.lo (d := 2) (by decide)
        have N2 := hok.N (d := 2) (by decide)
        have y2 := hok.hi (d := 2) (by decide)
        have hfin : qJ G F (qQ G F (rfP G r cOp (some (.int 0)) (sp_filter σ (nI i) (nI 2) cv))) 10 (mU (mU M4 va (aJ G (wsz w) (cpF ovf (wsz w)))) za (aZ G (wsz w) (zF (eaD w (6 + nI 2) cv) (wsz w)))) 0 0 194 [(0, .ref r), (1, .int (nI i)), (2, .int (nI 2)), (3, .long cv), (5, .ref o), (6, .ref q)] [] := by
          have evz : mEv (fun x => x = r ∨ x = plA) M (mU (mU M4 va (aJ G (wsz w) (cpF ovf (wsz w)))) za (aZ G (wsz w) (zF (eaD w (6 + nI 2) cv) (wsz w)))) := fun x hx => by
            have w1 : x ≠ va := fun z => hx (z ▸ fva)
            have w2 : x ≠ za := fun z => hx (z ▸ fza)
            have e1 := evK4 x hx
            have e : (mU (mU M4 va (aJ G (wsz w) (cpF ovf (wsz w)))) za (aZ G (wsz w) (zF (eaD w (6 + nI 2) cv) (wsz w)))) x = M4 x := (mU_n w2).trans (mU_n w1)
            exact ⟨by rw [e]; exact e1.1, fun k => e.trans (e1.2 k)⟩
          have hBz : rfB G (mU (mU M4 va (aJ G (wsz w) (cpF ovf (wsz w)))) za (aZ G (wsz w) (zF (eaD w (6 + nI 2) cv) (wsz w)))) r 0 σ vA nA pA plA dg dla dha dva dza dvf dzf vf nf pf tk su le gr := hB.ev2 evz (kr (wsz w)) ⟨_, kplA (wsz w)⟩
          have nb : ∀ {x : Nat}, M x = none → ¬ rBad plA pA dva dza x := fun h z => by
            rcases z with z | z | z | z
            · rw [z, hpl0] at h; cases h
            · rw [z, hB.2.2.2.1] at h; cases h
            · rw [z, hB.2.2.2.2.2.1.2.2.2.1] at h; cases h
            · rw [z, hB.2.2.2.2.2.1.2.2.2.2.1] at h; cases h
          have hg : isGrd G (mU (mU M4 va (aJ G (wsz w) (cpF ovf (wsz w)))) za (aZ G (wsz w) (zF (eaD w (6 + nI 2) cv) (wsz w)))) (rBad plA pA dva dza) q (vm w, (vlo w), (vhi w), vdp w + 1, (eaD w (6 + nI 2) cv)) := grd_mk (kq (wsz w)) (kla (wsz w)) (kha (wsz w)) (kva (wsz w)) (kza (wsz w)) (fi_ct hw hO.2.2.2.2.2 (by decide)) (nb fla) (nb fha) (nb fva) (nb fza)
          refine q_aload_n X dX13_filter_194 0 rfl ?_
          refine q_aload X dX13_filter_195 5 rfl ?_
          refine q_callV X (c_made hBz hg h150) Y_X13_made tw_1339 tw_1341 sel_28 (kr (wsz w)) rfl (by omega) rfl rfl (Nat.le_of_ble_eq_true rfl) (rc' := 0) (rs' := 0) (Nat.le_refl _) (Nat.le_refl _) dX13_filter_197 (fun v M' hp _ => ?_)
          obtain ⟨rfl, hz9⟩ := hp
          generalize M' = M9 at *
          show qJ G F _ 10 M9 0 0 200 [(0, .ref r), (1, .int (nI i)), (2, .int (nI 2)), (3, .long cv), (5, .ref o), (6, .ref q)] [.int (nI (aN σ).length)]
          exact q_iret X hr dX13_filter_200 (rfP_K (by rw [specE]; exact gLim_y hlim) hz9)
        have L0 : ∀ (kk : qJ G F (qQ G F (rfP G r cOp (some (.int 0)) (sp_filter σ (nI i) (nI 2) cv))) 10 (mU (mU M4 va (aJ G (wsz w) (cpF ovf (wsz w)))) za (aZ G (wsz w) (zF (eaD w (6 + nI 2) cv) (wsz w)))) 0 0 194 [(0, .ref r), (1, .int (nI i)), (2, .int (nI 2)), (3, .long cv), (5, .ref o), (6, .ref q)] []) (t k : Nat), k + t = wsz w → qJ G F (qQ G F (rfP G r cOp (some (.int 0)) (sp_filter σ (nI i) (nI 2) cv))) 10 (mU (mU M4 va (aJ G (wsz w) (cpF ovf (k)))) za (aZ G (wsz w) (zF (eaD w (6 + nI 2) cv) (k)))) 0 0 82 [(0, .ref r), (1, .int (nI i)), (2, .int (nI 2)), (3, .long cv), (5, .ref o), (6, .ref q), (7, .int (nI k))] [] := by
          intro  kk t
          induction t with
          | zero =>
            intro k hk0
            obtain rfl : k = wsz w := by omega
            refine q_iload X dX13_filter_82 6 rfl ?_
            refine q_aload X dX13_filter_84 5 rfl ?_
            refine q_get X (kq (wsz w)) rfl in_RX12 4 (by decide) tw_1163 rfl rfl dX13_filter_86 ?_
            refine q_alen X 1 (kva (wsz w)) rfl dX13_filter_89 ?_
            refine q_icmp_ge X 194 dX13_filter_90 (by decide) (fun c_74 => ?_) (fun c_74 => absurd (Int32.le_refl _) c_74)
            refine q_sub [0, 1, 2, 3, 4, 5] rfl ?_
            exact kk
          | succ t ih =>
            intro k hk0
            have hk : k < wsz w := by omega
            have hkz : wsz w ≤ 4096 := hw.2.1
            refine q_iload X dX13_filter_82 6 rfl ?_
            refine q_aload X dX13_filter_84 5 rfl ?_
            refine q_get X (kq (k)) rfl in_RX12 4 (by decide) tw_1163 rfl rfl dX13_filter_86 ?_
            refine q_alen X 1 (kva (k)) rfl dX13_filter_89 ?_
            refine q_icmp_ge X 194 dX13_filter_90 (by decide) (fun c_75 => absurd c_75 (nI_ge hk (by omega))) (fun c_75 => ?_)
            refine q_aload X dX13_filter_93 4 rfl ?_
            refine q_get X (ko (k)) rfl in_RX12 4 (by decide) tw_1163 rfl rfl dX13_filter_95 ?_
            refine q_iload X dX13_filter_98 6 rfl ?_
            refine q_laldN X k (kova (k)) (rfl) (hk) (by omega) dX13_filter_100 ?_
            refine q_lstore (lv' := [(8, .long (ovf k)), (0, .ref r), (1, .int (nI i)), (2, .int (nI 2)), (3, .long cv), (5, .ref o), (6, .ref q), (7, .int (nI k))]) X dX13_filter_101 (by decide) rfl ?_
            refine q_aload X dX13_filter_103 6 rfl ?_
            refine q_get X (kq (k)) rfl in_RX12 5 (by decide) tw_1165 rfl rfl dX13_filter_105 ?_
            refine q_iload X dX13_filter_108 7 rfl ?_
            refine q_aload X dX13_filter_110 5 rfl ?_
            refine q_get X (ko (k)) rfl in_RX12 5 (by decide) tw_1165 rfl rfl dX13_filter_112 ?_
            refine q_iload X dX13_filter_115 7 rfl ?_
            refine q_zaldN X k (koza (k)) (rfl) (hk) (by omega) dX13_filter_117 ?_
            refine q_if_eq X 176 dX13_filter_118 (by decide) (fun c118 => ?_) (fun c118 => ?_)
            · refine q_iconst (v := 0) X dX13_filter_176 (by decide) ?_
              refine q_zastN X k (kza (k)) (rfl) (hk) (by omega) (Or.inl rfl) dX13_filter_177 ?_
              have m_76 : (mU (mU (mU M4 va (aJ G (wsz w) (cpF ovf (k)))) za (aZ G (wsz w) (zF (eaD w (6 + nI 2) cv) (k)))) za (aZ G (wsz w) (upd (zF (eaD w (6 + nI 2) cv) (k)) k 0))) q = some (oB 12 [.int (nI (vm w)), .int (nI (vdp w + 1)), .ref la, .ref ha, .ref va, .ref za]) := (mU_n (g_neoa (kq (k)) (kza (k)))).trans (kq (k))
              have m_77 : (mU (mU (mU M4 va (aJ G (wsz w) (cpF ovf (k)))) za (aZ G (wsz w) (zF (eaD w (6 + nI 2) cv) (k)))) za (aZ G (wsz w) (upd (zF (eaD w (6 + nI 2) cv) (k)) k 0))) va = some (aJ G (wsz w) (cpF ovf (k))) := (mU_n (lvz)).trans (kva (k))
              have m_78 : (mU (mU (mU M4 va (aJ G (wsz w) (cpF ovf (k)))) za (aZ G (wsz w) (zF (eaD w (6 + nI 2) cv) (k)))) za (aZ G (wsz w) (upd (zF (eaD w (6 + nI 2) cv) (k)) k 0))) za = some (aZ G (wsz w) (upd (zF (eaD w (6 + nI 2) cv) (k)) k 0)) := mU_s
              refine q_aload X dX13_filter_178 6 rfl ?_
              refine q_get X m_76 rfl in_RX12 4 (by decide) tw_1163 rfl rfl dX13_filter_180 ?_
              refine q_iload X dX13_filter_183 7 rfl ?_
              refine q_lload X dX13_filter_185 0 rfl ?_
              refine q_lastN X k m_77 (rfl) (hk) (by omega) dX13_filter_187 ?_
              have m_79 : (mU (mU (mU (mU M4 va (aJ G (wsz w) (cpF ovf (k)))) za (aZ G (wsz w) (zF (eaD w (6 + nI 2) cv) (k)))) za (aZ G (wsz w) (upd (zF (eaD w (6 + nI 2) cv) (k)) k 0))) va (aJ G (wsz w) (vp_updL (cpF ovf (k)) k (ovf k)))) q = some (oB 12 [.int (nI (vm w)), .int (nI (vdp w + 1)), .ref la, .ref ha, .ref va, .ref za]) := (mU_n (g_neoa m_76 m_77)).trans m_76
              have m_80 : (mU (mU (mU (mU M4 va (aJ G (wsz w) (cpF ovf (k)))) za (aZ G (wsz w) (zF (eaD w (6 + nI 2) cv) (k)))) za (aZ G (wsz w) (upd (zF (eaD w (6 + nI 2) cv) (k)) k 0))) va (aJ G (wsz w) (vp_updL (cpF ovf (k)) k (ovf k)))) va = some (aJ G (wsz w) (vp_updL (cpF ovf (k)) k (ovf k))) := mU_s
              have m_81 : (mU (mU (mU (mU M4 va (aJ G (wsz w) (cpF ovf (k)))) za (aZ G (wsz w) (zF (eaD w (6 + nI 2) cv) (k)))) za (aZ G (wsz w) (upd (zF (eaD w (6 + nI 2) cv) (k)) k 0))) va (aJ G (wsz w) (vp_updL (cpF ovf (k)) k (ovf k)))) za = some (aZ G (wsz w) (upd (zF (eaD w (6 + nI 2) cv) (k)) k 0)) := (mU_n (Ne.symm (lvz))).trans m_78
              refine q_iinc (v := (nI (k + 1))) (lv' := [(7, .int (nI (k + 1))), (8, .long (ovf k)), (0, .ref r), (1, .int (nI i)), (2, .int (nI 2)), (3, .long cv), (5, .ref o), (6, .ref q)]) X dX13_filter_188 7 rfl (nI_1 k) (by decide) rfl ?_
              refine q_goto X 82 dX13_filter_191 (by decide) ?_
              refine q_sub [2, 3, 4, 5, 6, 7, 0] rfl ?_
              have hdk : eaD w (6 + nI 2) cv k = none := ea_none hw hk (ct_none hO.2.2.2.2.2 hk c118)
              refine q_memE (M' := mU (mU M4 va (aJ G (wsz w) (cpF ovf (k + 1)))) za (aZ G (wsz w) (zF (eaD w (6 + nI 2) cv) (k + 1)))) (by rw [← cpF_s, ← zF_z hdk]; exact mU_5 lvz) ?_
              exact ih (k + 1) (by omega)
            · refine q_iload_n X dX13_filter_121 3 rfl ?_
              refine q_if_ne X 135 dX13_filter_122 (by decide) (fun c_82 => ?_) (fun c_82 => absurd c_82 (by decide))
              refine q_iload_n X dX13_filter_135 3 rfl ?_
              refine q_iconst (v := 1) X dX13_filter_136 (by decide) ?_
              refine q_icmp_ne X 150 dX13_filter_137 (by decide) (fun c_83 => ?_) (fun c_83 => absurd c_83 (by decide))
              refine q_iload_n X dX13_filter_150 3 rfl ?_
              refine q_iconst (v := 2) X dX13_filter_151 (by decide) ?_
              refine q_icmp_ne X 165 dX13_filter_152 (by decide) (fun c_84 => absurd (by decide) c_84) (fun c_84 => ?_)
              refine q_lload X dX13_filter_155 0 rfl ?_
              refine q_lload_n X dX13_filter_157 4 rfl ?_
              refine q_lcmp X dX13_filter_158 ?_
              refine q_if_ge X 176 dX13_filter_159 (by decide) (fun c159 => ?_) (fun c159 => ?_)
              · refine q_iconst (v := 0) X dX13_filter_176 (by decide) ?_
                refine q_zastN X k (kza (k)) (rfl) (hk) (by omega) (Or.inl rfl) dX13_filter_177 ?_
                have m_85 : (mU (mU (mU M4 va (aJ G (wsz w) (cpF ovf (k)))) za (aZ G (wsz w) (zF (eaD w (6 + nI 2) cv) (k)))) za (aZ G (wsz w) (upd (zF (eaD w (6 + nI 2) cv) (k)) k 0))) q = some (oB 12 [.int (nI (vm w)), .int (nI (vdp w + 1)), .ref la, .ref ha, .ref va, .ref za]) := (mU_n (g_neoa (kq (k)) (kza (k)))).trans (kq (k))
                have m_86 : (mU (mU (mU M4 va (aJ G (wsz w) (cpF ovf (k)))) za (aZ G (wsz w) (zF (eaD w (6 + nI 2) cv) (k)))) za (aZ G (wsz w) (upd (zF (eaD w (6 + nI 2) cv) (k)) k 0))) va = some (aJ G (wsz w) (cpF ovf (k))) := (mU_n (lvz)).trans (kva (k))
                have m_87 : (mU (mU (mU M4 va (aJ G (wsz w) (cpF ovf (k)))) za (aZ G (wsz w) (zF (eaD w (6 + nI 2) cv) (k)))) za (aZ G (wsz w) (upd (zF (eaD w (6 + nI 2) cv) (k)) k 0))) za = some (aZ G (wsz w) (upd (zF (eaD w (6 + nI 2) cv) (k)) k 0)) := mU_s
                refine q_aload X dX13_filter_178 6 rfl ?_
                refine q_get X m_85 rfl in_RX12 4 (by decide) tw_1163 rfl rfl dX13_filter_180 ?_
                refine q_iload X dX13_filter_183 7 rfl ?_
                refine q_lload X dX13_filter_185 0 rfl ?_
                refine q_lastN X k m_86 (rfl) (hk) (by omega) dX13_filter_187 ?_
                have m_88 : (mU (mU (mU (mU M4 va (aJ G (wsz w) (cpF ovf (k)))) za (aZ G (wsz w) (zF (eaD w (6 + nI 2) cv) (k)))) za (aZ G (wsz w) (upd (zF (eaD w (6 + nI 2) cv) (k)) k 0))) va (aJ G (wsz w) (vp_updL (cpF ovf (k)) k (ovf k)))) q = some (oB 12 [.int (nI (vm w)), .int (nI (vdp w + 1)), .ref la, .ref ha, .ref va, .ref za]) := (mU_n (g_neoa m_85 m_86)).trans m_85
                have m_89 : (mU (mU (mU (mU M4 va (aJ G (wsz w) (cpF ovf (k)))) za (aZ G (wsz w) (zF (eaD w (6 + nI 2) cv) (k)))) za (aZ G (wsz w) (upd (zF (eaD w (6 + nI 2) cv) (k)) k 0))) va (aJ G (wsz w) (vp_updL (cpF ovf (k)) k (ovf k)))) va = some (aJ G (wsz w) (vp_updL (cpF ovf (k)) k (ovf k))) := mU_s
                have m_90 : (mU (mU (mU (mU M4 va (aJ G (wsz w) (cpF ovf (k)))) za (aZ G (wsz w) (zF (eaD w (6 + nI 2) cv) (k)))) za (aZ G (wsz w) (upd (zF (eaD w (6 + nI 2) cv) (k)) k 0))) va (aJ G (wsz w) (vp_updL (cpF ovf (k)) k (ovf k)))) za = some (aZ G (wsz w) (upd (zF (eaD w (6 + nI 2) cv) (k)) k 0)) := (mU_n (Ne.symm (lvz))).trans m_87
                refine q_iinc (v := (nI (k + 1))) (lv' := [(7, .int (nI (k + 1))), (8, .long (ovf k)), (0, .ref r), (1, .int (nI i)), (2, .int (nI 2)), (3, .long cv), (5, .ref o), (6, .ref q)]) X dX13_filter_188 7 rfl (nI_1 k) (by decide) rfl ?_
                refine q_goto X 82 dX13_filter_191 (by decide) ?_
                refine q_sub [2, 3, 4, 5, 6, 7, 0] rfl ?_
                have hdk : eaD w (6 + nI 2) cv k = none := (ea_some hw hk (ct_some hO.2.2.2.2.2 hk c118)).trans (by have q9 := c159; rw [lg_cmp_ge] at q9; unfold eachD; rw [if_neg (by decide), if_neg (by decide), if_neg (by decide), if_neg (by decide), if_neg (by decide), if_neg (by decide), if_neg (by decide), if_neg (by decide), if_pos (by decide), if_neg (Int64.not_lt.mpr q9)])
                refine q_memE (M' := mU (mU M4 va (aJ G (wsz w) (cpF ovf (k + 1)))) za (aZ G (wsz w) (zF (eaD w (6 + nI 2) cv) (k + 1)))) (by rw [← cpF_s, ← zF_z hdk]; exact mU_5 lvz) ?_
                exact ih (k + 1) (by omega)
              · refine q_goto X 172 dX13_filter_162 (by decide) ?_
                refine q_iconst (v := 1) X dX13_filter_172 (by decide) ?_
                refine q_goto X 177 dX13_filter_173 (by decide) ?_
                refine q_zastN X k (kza (k)) (rfl) (hk) (by omega) (Or.inr rfl) dX13_filter_177 ?_
                have m_91 : (mU (mU (mU M4 va (aJ G (wsz w) (cpF ovf (k)))) za (aZ G (wsz w) (zF (eaD w (6 + nI 2) cv) (k)))) za (aZ G (wsz w) (upd (zF (eaD w (6 + nI 2) cv) (k)) k 1))) q = some (oB 12 [.int (nI (vm w)), .int (nI (vdp w + 1)), .ref la, .ref ha, .ref va, .ref za]) := (mU_n (g_neoa (kq (k)) (kza (k)))).trans (kq (k))
                have m_92 : (mU (mU (mU M4 va (aJ G (wsz w) (cpF ovf (k)))) za (aZ G (wsz w) (zF (eaD w (6 + nI 2) cv) (k)))) za (aZ G (wsz w) (upd (zF (eaD w (6 + nI 2) cv) (k)) k 1))) va = some (aJ G (wsz w) (cpF ovf (k))) := (mU_n (lvz)).trans (kva (k))
                have m_93 : (mU (mU (mU M4 va (aJ G (wsz w) (cpF ovf (k)))) za (aZ G (wsz w) (zF (eaD w (6 + nI 2) cv) (k)))) za (aZ G (wsz w) (upd (zF (eaD w (6 + nI 2) cv) (k)) k 1))) za = some (aZ G (wsz w) (upd (zF (eaD w (6 + nI 2) cv) (k)) k 1)) := mU_s
                refine q_aload X dX13_filter_178 6 rfl ?_
                refine q_get X m_91 rfl in_RX12 4 (by decide) tw_1163 rfl rfl dX13_filter_180 ?_
                refine q_iload X dX13_filter_183 7 rfl ?_
                refine q_lload X dX13_filter_185 0 rfl ?_
                refine q_lastN X k m_92 (rfl) (hk) (by omega) dX13_filter_187 ?_
                have m_94 : (mU (mU (mU (mU M4 va (aJ G (wsz w) (cpF ovf (k)))) za (aZ G (wsz w) (zF (eaD w (6 + nI 2) cv) (k)))) za (aZ G (wsz w) (upd (zF (eaD w (6 + nI 2) cv) (k)) k 1))) va (aJ G (wsz w) (vp_updL (cpF ovf (k)) k (ovf k)))) q = some (oB 12 [.int (nI (vm w)), .int (nI (vdp w + 1)), .ref la, .ref ha, .ref va, .ref za]) := (mU_n (g_neoa m_91 m_92)).trans m_91
                have m_95 : (mU (mU (mU (mU M4 va (aJ G (wsz w) (cpF ovf (k)))) za (aZ G (wsz w) (zF (eaD w (6 + nI 2) cv) (k)))) za (aZ G (wsz w) (upd (zF (eaD w (6 + nI 2) cv) (k)) k 1))) va (aJ G (wsz w) (vp_updL (cpF ovf (k)) k (ovf k)))) va = some (aJ G (wsz w) (vp_updL (cpF ovf (k)) k (ovf k))) := mU_s
                have m_96 : (mU (mU (mU (mU M4 va (aJ G (wsz w) (cpF ovf (k)))) za (aZ G (wsz w) (zF (eaD w (6 + nI 2) cv) (k)))) za (aZ G (wsz w) (upd (zF (eaD w (6 + nI 2) cv) (k)) k 1))) va (aJ G (wsz w) (vp_updL (cpF ovf (k)) k (ovf k)))) za = some (aZ G (wsz w) (upd (zF (eaD w (6 + nI 2) cv) (k)) k 1)) := (mU_n (Ne.symm (lvz))).trans m_93
                refine q_iinc (v := (nI (k + 1))) (lv' := [(7, .int (nI (k + 1))), (8, .long (ovf k)), (0, .ref r), (1, .int (nI i)), (2, .int (nI 2)), (3, .long cv), (5, .ref o), (6, .ref q)]) X dX13_filter_188 7 rfl (nI_1 k) (by decide) rfl ?_
                refine q_goto X 82 dX13_filter_191 (by decide) ?_
                refine q_sub [2, 3, 4, 5, 6, 7, 0] rfl ?_
                have hdk : eaD w (6 + nI 2) cv k = some (ovf k) := (ea_some hw hk (ct_some hO.2.2.2.2.2 hk c118)).trans (by have q9 := c159; rw [lg_cmp_ge] at q9; unfold eachD; rw [if_neg (by decide), if_neg (by decide), if_neg (by decide), if_neg (by decide), if_neg (by decide), if_neg (by decide), if_neg (by decide), if_neg (by decide), if_pos (by decide), if_pos (Int64.not_le.mp q9)])
                refine q_memE (M' := mU (mU M4 va (aJ G (wsz w) (cpF ovf (k + 1)))) za (aZ G (wsz w) (zF (eaD w (6 + nI 2) cv) (k + 1)))) (by rw [← cpF_s, ← zF_y hdk]; exact mU_5 lvz) ?_
                exact ih (k + 1) (by omega)
        refine q_iconst (v := 0) X dX13_filter_79 (by decide) ?_
        refine q_istore (lv' := [(7, .int 0), (6, .ref q), (5, .ref o), (0, .ref r), (1, .int (nI i)), (2, .int (nI 2)), (3, .long cv)]) X dX13_filter_80 (by decide) rfl ?_
        refine q_sub [3, 4, 5, 6, 2, 1, 0] rfl ?_
        refine q_memE (M' := mU (mU M4 va (aJ G (wsz w) (cpF ovf (0)))) za (aZ G (wsz w) (zF (eaD w (6 + nI 2) cv) (0)))) (by rw [cpF_0, zF_0, mU_id hva4, mU_id hza4]) ?_
        exact L0 hfin (wsz w) 0 (by omega)
      · have kv : ∀ {x : Nat} {e : va_E}, M4 x = some e → x ≠ va → x ≠ za → ∀ c, (mU (mU M4 va (aJ G (wsz w) (cpF ovf (c)))) za (aZ G (wsz w) (zF (eaD w (6 + nI 3) cv) (c)))) x = some e := fun h h1 h2 c => (mU_n h2).trans ((mU_n h1).trans h)
        have kr : ∀ c, (mU (mU M4 va (aJ G (wsz w) (cpF ovf (c)))) za (aZ G (wsz w) (zF (eaD w (6 + nI 3) cv) (c)))) r = some (oB 13 [.int 0, .ref vA, .ref nA, .ref pA, .ref plA, .ref dg, .int (nI (aV σ).length), .int (nI (aN σ).length), .int (nI (aOf σ)), .int (nI (aBg σ)), .int tk, .long su, .long le, .long gr]) := kv m_21 (g_nef m_9 fva3) (g_nef m_9 fza3)
        have kplA : ∀ c, (mU (mU M4 va (aJ G (wsz w) (cpF ovf (c)))) za (aZ G (wsz w) (zF (eaD w (6 + nI 3) cv) (c)))) plA = some (aI G 3 pl0) := kv m_28 (g_nef m_16 fva3) (g_nef m_16 fza3)
        have kq : ∀ c, (mU (mU M4 va (aJ G (wsz w) (cpF ovf (c)))) za (aZ G (wsz w) (zF (eaD w (6 + nI 3) cv) (c)))) q = some (oB 12 [.int (nI (vm w)), .int (nI (vdp w + 1)), .ref la, .ref ha, .ref va, .ref za]) := kv hq4 (g_nef m_17 fva3) (g_nef m_17 fza3)
        have kla : ∀ c, (mU (mU M4 va (aJ G (wsz w) (cpF ovf (c)))) za (aZ G (wsz w) (zF (eaD w (6 + nI 3) cv) (c)))) la = some (aI G 3 (vlo w)) := kv m_29 (g_nef m_18 fva3) (g_nef m_18 fza3)
        have kha : ∀ c, (mU (mU M4 va (aJ G (wsz w) (cpF ovf (c)))) za (aZ G (wsz w) (zF (eaD w (6 + nI 3) cv) (c)))) ha = some (aI G 3 (vhi w)) := kv m_30 (g_nef m_19 fva3) (g_nef m_19 fza3)
        have ko : ∀ c, (mU (mU M4 va (aJ G (wsz w) (cpF ovf (c)))) za (aZ G (wsz w) (zF (eaD w (6 + nI 3) cv) (c)))) o = some (oB 12 [.int (nI (vm w)), .int (nI (vdp w)), .ref ola, .ref oha, .ref ova, .ref oza]) := kv m_23 (g_nef m_11 fva3) (g_nef m_11 fza3)
        have kola : ∀ c, (mU (mU M4 va (aJ G (wsz w) (cpF ovf (c)))) za (aZ G (wsz w) (zF (eaD w (6 + nI 3) cv) (c)))) ola = some (aI G 3 (vlo w)) := kv m_24 (g_nef m_12 fva3) (g_nef m_12 fza3)
        have koha : ∀ c, (mU (mU M4 va (aJ G (wsz w) (cpF ovf (c)))) za (aZ G (wsz w) (zF (eaD w (6 + nI 3) cv) (c)))) oha = some (aI G 3 (vhi w)) := kv m_25 (g_nef m_13 fva3) (g_nef m_13 fza3)
        have kova : ∀ c, (mU (mU M4 va (aJ G (wsz w) (cpF ovf (c)))) za (aZ G (wsz w) (zF (eaD w (6 + nI 3) cv) (c)))) ova = some (aJ G (wsz w) ovf) := kv m_26 (g_nef m_14 fva3) (g_nef m_14 fza3)
        have koza : ∀ c, (mU (mU M4 va (aJ G (wsz w) (cpF ovf (c)))) za (aZ G (wsz w) (zF (eaD w (6 + nI 3) cv) (c)))) oza = some (aZ G (wsz w) ozf) := kv m_27 (g_nef m_15 fva3) (g_nef m_15 fza3)
        have kva : ∀ c, (mU (mU M4 va (aJ G (wsz w) (cpF ovf (c)))) za (aZ G (wsz w) (zF (eaD w (6 + nI 3) cv) (c)))) va = some (aJ G (wsz w) (cpF ovf (c))) := fun c => (mU_n lvz).trans mU_s
        have kza : ∀ c, (mU (mU M4 va (aJ G (wsz w) (cpF ovf (c)))) za (aZ G (wsz w) (zF (eaD w (6 + nI 3) cv) (c)))) za = some (aZ G (wsz w) (zF (eaD w (6 + nI 3) cv) c)) := fun c => mU_s
        have koX : ∀ c, isGrX G (mU (mU M4 va (aJ G (wsz w) (cpF ovf (c)))) za (aZ G (wsz w) (zF (eaD w (6 + nI 3) cv) (c)))) o ola oha ova oza ovf ozf w := fun c => ⟨ko c, kola c, koha c, kova c, koza c, hO.2.2.2.2.2⟩
        have l0 := hok.lo (d := 0) (by decide)
        have N0 := hok.N (d := 0) (by decide)
        have y0 := hok.hi (d := 0) (by decide)
        have l1 := hok.lo (d := 1) (by decide)
        have N1 := hok.N (d := 1) (by decide)
        have y1 := hok.hi (d := 1) (by decide)
        have l2 := hok.lo (d := 2) (by decide)
        have N2 := hok.N (d := 2) (by decide)
        have y2 := hok.hi (d := 2) (by decide)
        have hfin : qJ G F (qQ G F (rfP G r cOp (some (.int 0)) (sp_filter σ (nI i) (nI 3) cv))) 10 (mU (mU M4 va (aJ G (wsz w) (cpF ovf (wsz w)))) za (aZ G (wsz w) (zF (eaD w (6 + nI 3) cv) (wsz w)))) 0 0 194 [(0, .ref r), (1, .int (nI i)), (2, .int (nI 3)), (3, .long cv), (5, .ref o), (6, .ref q)] [] := by
          have evz : mEv (fun x => x = r ∨ x = plA) M (mU (mU M4 va (aJ G (wsz w) (cpF ovf (wsz w)))) za (aZ G (wsz w) (zF (eaD w (6 + nI 3) cv) (wsz w)))) := fun x hx => by
            have w1 : x ≠ va := fun z => hx (z ▸ fva)
            have w2 : x ≠ za := fun z => hx (z ▸ fza)
            have e1 := evK4 x hx
            have e : (mU (mU M4 va (aJ G (wsz w) (cpF ovf (wsz w)))) za (aZ G (wsz w) (zF (eaD w (6 + nI 3) cv) (wsz w)))) x = M4 x := (mU_n w2).trans (mU_n w1)
            exact ⟨by rw [e]; exact e1.1, fun k => e.trans (e1.2 k)⟩
          have hBz : rfB G (mU (mU M4 va (aJ G (wsz w) (cpF ovf (wsz w)))) za (aZ G (wsz w) (zF (eaD w (6 + nI 3) cv) (wsz w)))) r 0 σ vA nA pA plA dg dla dha dva dza dvf dzf vf nf pf tk su le gr := hB.ev2 evz (kr (wsz w)) ⟨_, kplA (wsz w)⟩
          have nb : ∀ {x : Nat}, M x = none → ¬ rBad plA pA dva dza x := fun h z => by
            rcases z with z | z | z | z
            · rw [z, hpl0] at h; cases h
            · rw [z, hB.2.2.2.1] at h; cases h
            · rw [z, hB.2.2.2.2.2.1.2.2.2.1] at h; cases h
            · rw [z, hB.2.2.2.2.2.1.2.2.2.2.1] at h; cases h
          have hg : isGrd G (mU (mU M4 va (aJ G (wsz w) (cpF ovf (wsz w)))) za (aZ G (wsz w) (zF (eaD w (6 + nI 3) cv) (wsz w)))) (rBad plA pA dva dza) q (vm w, (vlo w), (vhi w), vdp w + 1, (eaD w (6 + nI 3) cv)) := grd_mk (kq (wsz w)) (kla (wsz w)) (kha (wsz w)) (kva (wsz w)) (kza (wsz w)) (fi_ct hw hO.2.2.2.2.2 (by decide)) (nb fla) (nb fha) (nb fva) (nb fza)
          refine q_aload_n X dX13_filter_194 0 rfl ?_
          refine q_aload X dX13_filter_195 5 rfl ?_
          refine q_callV X (c_made hBz hg h150) Y_X13_made tw_1339 tw_1341 sel_28 (kr (wsz w)) rfl (by omega) rfl rfl (Nat.le_of_ble_eq_true rfl) (rc' := 0) (rs' := 0) (Nat.le_refl _) (Nat.le_refl _) dX13_filter_197 (fun v M' hp _ => ?_)
          obtain ⟨rfl, hz9⟩ := hp
          generalize M' = M9 at *
          show qJ G F _ 10 M9 0 0 200 [(0, .ref r), (1, .int (nI i)), (2, .int (nI 3)), (3, .long cv), (5, .ref o), (6, .ref q)] [.int (nI (aN σ).length)]
          exact q_iret X hr dX13_filter_200 (rfP_K (by rw [specE]; exact gLim_y hlim) hz9)
        have L0 : ∀ (kk : qJ G F (qQ G F (rfP G r cOp (some (.int 0)) (sp_filter σ (nI i) (nI 3) cv))) 10 (mU (mU M4 va (aJ G (wsz w) (cpF ovf (wsz w)))) za (aZ G (wsz w) (zF (eaD w (6 + nI 3) cv) (wsz w)))) 0 0 194 [(0, .ref r), (1, .int (nI i)), (2, .int (nI 3)), (3, .long cv), (5, .ref o), (6, .ref q)] []) (t k : Nat), k + t = wsz w → qJ G F (qQ G F (rfP G r cOp (some (.int 0)) (sp_filter σ (nI i) (nI 3) cv))) 10 (mU (mU M4 va (aJ G (wsz w) (cpF ovf (k)))) za (aZ G (wsz w) (zF (eaD w (6 + nI 3) cv) (k)))) 0 0 82 [(0, .ref r), (1, .int (nI i)), (2, .int (nI 3)), (3, .long cv), (5, .ref o), (6, .ref q), (7, .int (nI k))] [] := by
          intro  kk t
          induction t with
          | zero =>
            intro k hk0
            obtain rfl : k = wsz w := by omega
            refine q_iload X dX13_filter_82 6 rfl ?_
            refine q_aload X dX13_filter_84 5 rfl ?_
            refine q_get X (kq (wsz w)) rfl in_RX12 4 (by decide) tw_1163 rfl rfl dX13_filter_86 ?_
            refine q_alen X 1 (kva (wsz w)) rfl dX13_filter_89 ?_
            refine q_icmp_ge X 194 dX13_filter_90 (by decide) (fun c_97 => ?_) (fun c_97 => absurd (Int32.le_refl _) c_97)
            refine q_sub [0, 1, 2, 3, 4, 5] rfl ?_
            exact kk
          | succ t ih =>
            intro k hk0
            have hk : k < wsz w := by omega
            have hkz : wsz w ≤ 4096 := hw.2.1
            refine q_iload X dX13_filter_82 6 rfl ?_
            refine q_aload X dX13_filter_84 5 rfl ?_
            refine q_get X (kq (k)) rfl in_RX12 4 (by decide) tw_1163 rfl rfl dX13_filter_86 ?_
            refine q_alen X 1 (kva (k)) rfl dX13_filter_89 ?_
            refine q_icmp_ge X 194 dX13_filter_90 (by decide) (fun c_98 => absurd c_98 (nI_ge hk (by omega))) (fun c_98 => ?_)
            refine q_aload X dX13_filter_93 4 rfl ?_
            refine q_get X (ko (k)) rfl in_RX12 4 (by decide) tw_1163 rfl rfl dX13_filter_95 ?_
            refine q_iload X dX13_filter_98 6 rfl ?_
            refine q_laldN X k (kova (k)) (rfl) (hk) (by omega) dX13_filter_100 ?_
            refine q_lstore (lv' := [(8, .long (ovf k)), (0, .ref r), (1, .int (nI i)), (2, .int (nI 3)), (3, .long cv), (5, .ref o), (6, .ref q), (7, .int (nI k))]) X dX13_filter_101 (by decide) rfl ?_
            refine q_aload X dX13_filter_103 6 rfl ?_
            refine q_get X (kq (k)) rfl in_RX12 5 (by decide) tw_1165 rfl rfl dX13_filter_105 ?_
            refine q_iload X dX13_filter_108 7 rfl ?_
            refine q_aload X dX13_filter_110 5 rfl ?_
            refine q_get X (ko (k)) rfl in_RX12 5 (by decide) tw_1165 rfl rfl dX13_filter_112 ?_
            refine q_iload X dX13_filter_115 7 rfl ?_
            refine q_zaldN X k (koza (k)) (rfl) (hk) (by omega) dX13_filter_117 ?_
            refine q_if_eq X 176 dX13_filter_118 (by decide) (fun c118 => ?_) (fun c118 => ?_)
            · refine q_iconst (v := 0) X dX13_filter_176 (by decide) ?_
              refine q_zastN X k (kza (k)) (rfl) (hk) (by omega) (Or.inl rfl) dX13_filter_177 ?_
              have m_99 : (mU (mU (mU M4 va (aJ G (wsz w) (cpF ovf (k)))) za (aZ G (wsz w) (zF (eaD w (6 + nI 3) cv) (k)))) za (aZ G (wsz w) (upd (zF (eaD w (6 + nI 3) cv) (k)) k 0))) q = some (oB 12 [.int (nI (vm w)), .int (nI (vdp w + 1)), .ref la, .ref ha, .ref va, .ref za]) := (mU_n (g_neoa (kq (k)) (kza (k)))).trans (kq (k))
              have m_100 : (mU (mU (mU M4 va (aJ G (wsz w) (cpF ovf (k)))) za (aZ G (wsz w) (zF (eaD w (6 + nI 3) cv) (k)))) za (aZ G (wsz w) (upd (zF (eaD w (6 + nI 3) cv) (k)) k 0))) va = some (aJ G (wsz w) (cpF ovf (k))) := (mU_n (lvz)).trans (kva (k))
              have m_101 : (mU (mU (mU M4 va (aJ G (wsz w) (cpF ovf (k)))) za (aZ G (wsz w) (zF (eaD w (6 + nI 3) cv) (k)))) za (aZ G (wsz w) (upd (zF (eaD w (6 + nI 3) cv) (k)) k 0))) za = some (aZ G (wsz w) (upd (zF (eaD w (6 + nI 3) cv) (k)) k 0)) := mU_s
              refine q_aload X dX13_filter_178 6 rfl ?_
              refine q_get X m_99 rfl in_RX12 4 (by decide) tw_1163 rfl rfl dX13_filter_180 ?_
              refine q_iload X dX13_filter_183 7 rfl ?_
              refine q_lload X dX13_filter_185 0 rfl ?_
              refine q_lastN X k m_100 (rfl) (hk) (by omega) dX13_filter_187 ?_
              have m_102 : (mU (mU (mU (mU M4 va (aJ G (wsz w) (cpF ovf (k)))) za (aZ G (wsz w) (zF (eaD w (6 + nI 3) cv) (k)))) za (aZ G (wsz w) (upd (zF (eaD w (6 + nI 3) cv) (k)) k 0))) va (aJ G (wsz w) (vp_updL (cpF ovf (k)) k (ovf k)))) q = some (oB 12 [.int (nI (vm w)), .int (nI (vdp w + 1)), .ref la, .ref ha, .ref va, .ref za]) := (mU_n (g_neoa m_99 m_100)).trans m_99
              have m_103 : (mU (mU (mU (mU M4 va (aJ G (wsz w) (cpF ovf (k)))) za (aZ G (wsz w) (zF (eaD w (6 + nI 3) cv) (k)))) za (aZ G (wsz w) (upd (zF (eaD w (6 + nI 3) cv) (k)) k 0))) va (aJ G (wsz w) (vp_updL (cpF ovf (k)) k (ovf k)))) va = some (aJ G (wsz w) (vp_updL (cpF ovf (k)) k (ovf k))) := mU_s
              have m_104 : (mU (mU (mU (mU M4 va (aJ G (wsz w) (cpF ovf (k)))) za (aZ G (wsz w) (zF (eaD w (6 + nI 3) cv) (k)))) za (aZ G (wsz w) (upd (zF (eaD w (6 + nI 3) cv) (k)) k 0))) va (aJ G (wsz w) (vp_updL (cpF ovf (k)) k (ovf k)))) za = some (aZ G (wsz w) (upd (zF (eaD w (6 + nI 3) cv) (k)) k 0)) := (mU_n (Ne.symm (lvz))).trans m_101
              refine q_iinc (v := (nI (k + 1))) (lv' := [(7, .int (nI (k + 1))), (8, .long (ovf k)), (0, .ref r), (1, .int (nI i)), (2, .int (nI 3)), (3, .long cv), (5, .ref o), (6, .ref q)]) X dX13_filter_188 7 rfl (nI_1 k) (by decide) rfl ?_
              refine q_goto X 82 dX13_filter_191 (by decide) ?_
              refine q_sub [2, 3, 4, 5, 6, 7, 0] rfl ?_
              have hdk : eaD w (6 + nI 3) cv k = none := ea_none hw hk (ct_none hO.2.2.2.2.2 hk c118)
              refine q_memE (M' := mU (mU M4 va (aJ G (wsz w) (cpF ovf (k + 1)))) za (aZ G (wsz w) (zF (eaD w (6 + nI 3) cv) (k + 1)))) (by rw [← cpF_s, ← zF_z hdk]; exact mU_5 lvz) ?_
              exact ih (k + 1) (by omega)
            · refine q_iload_n X dX13_filter_121 3 rfl ?_
              refine q_if_ne X 135 dX13_filter_122 (by decide) (fun c_105 => ?_) (fun c_105 => absurd c_105 (by decide))
              refine q_iload_n X dX13_filter_135 3 rfl ?_
              refine q_iconst (v := 1) X dX13_filter_136 (by decide) ?_
              refine q_icmp_ne X 150 dX13_filter_137 (by decide) (fun c_106 => ?_) (fun c_106 => absurd c_106 (by decide))
              refine q_iload_n X dX13_filter_150 3 rfl ?_
              refine q_iconst (v := 2) X dX13_filter_151 (by decide) ?_
              refine q_icmp_ne X 165 dX13_filter_152 (by decide) (fun c_107 => ?_) (fun c_107 => absurd c_107 (by decide))
              refine q_lload X dX13_filter_165 0 rfl ?_
              refine q_lload_n X dX13_filter_167 4 rfl ?_
              refine q_lcmp X dX13_filter_168 ?_
              refine q_if_lt X 176 dX13_filter_169 (by decide) (fun c169 => ?_) (fun c169 => ?_)
              · refine q_iconst (v := 0) X dX13_filter_176 (by decide) ?_
                refine q_zastN X k (kza (k)) (rfl) (hk) (by omega) (Or.inl rfl) dX13_filter_177 ?_
                have m_108 : (mU (mU (mU M4 va (aJ G (wsz w) (cpF ovf (k)))) za (aZ G (wsz w) (zF (eaD w (6 + nI 3) cv) (k)))) za (aZ G (wsz w) (upd (zF (eaD w (6 + nI 3) cv) (k)) k 0))) q = some (oB 12 [.int (nI (vm w)), .int (nI (vdp w + 1)), .ref la, .ref ha, .ref va, .ref za]) := (mU_n (g_neoa (kq (k)) (kza (k)))).trans (kq (k))
                have m_109 : (mU (mU (mU M4 va (aJ G (wsz w) (cpF ovf (k)))) za (aZ G (wsz w) (zF (eaD w (6 + nI 3) cv) (k)))) za (aZ G (wsz w) (upd (zF (eaD w (6 + nI 3) cv) (k)) k 0))) va = some (aJ G (wsz w) (cpF ovf (k))) := (mU_n (lvz)).trans (kva (k))
                have m_110 : (mU (mU (mU M4 va (aJ G (wsz w) (cpF ovf (k)))) za (aZ G (wsz w) (zF (eaD w (6 + nI 3) cv) (k)))) za (aZ G (wsz w) (upd (zF (eaD w (6 + nI 3) cv) (k)) k 0))) za = some (aZ G (wsz w) (upd (zF (eaD w (6 + nI 3) cv) (k)) k 0)) := mU_s
                refine q_aload X dX13_filter_178 6 rfl ?_
                refine q_get X m_108 rfl in_RX12 4 (by decide) tw_1163 rfl rfl dX13_filter_180 ?_
                refine q_iload X dX13_filter_183 7 rfl ?_
                refine q_lload X dX13_filter_185 0 rfl ?_
                refine q_lastN X k m_109 (rfl) (hk) (by omega) dX13_filter_187 ?_
                have m_111 : (mU (mU (mU (mU M4 va (aJ G (wsz w) (cpF ovf (k)))) za (aZ G (wsz w) (zF (eaD w (6 + nI 3) cv) (k)))) za (aZ G (wsz w) (upd (zF (eaD w (6 + nI 3) cv) (k)) k 0))) va (aJ G (wsz w) (vp_updL (cpF ovf (k)) k (ovf k)))) q = some (oB 12 [.int (nI (vm w)), .int (nI (vdp w + 1)), .ref la, .ref ha, .ref va, .ref za]) := (mU_n (g_neoa m_108 m_109)).trans m_108
                have m_112 : (mU (mU (mU (mU M4 va (aJ G (wsz w) (cpF ovf (k)))) za (aZ G (wsz w) (zF (eaD w (6 + nI 3) cv) (k)))) za (aZ G (wsz w) (upd (zF (eaD w (6 + nI 3) cv) (k)) k 0))) va (aJ G (wsz w) (vp_updL (cpF ovf (k)) k (ovf k)))) va = some (aJ G (wsz w) (vp_updL (cpF ovf (k)) k (ovf k))) := mU_s
                have m_113 : (mU (mU (mU (mU M4 va (aJ G (wsz w) (cpF ovf (k)))) za (aZ G (wsz w) (zF (eaD w (6 + nI 3) cv) (k)))) za (aZ G (wsz w) (upd (zF (eaD w (6 + nI 3) cv) (k)) k 0))) va (aJ G (wsz w) (vp_updL (cpF ovf (k)) k (ovf k)))) za = some (aZ G (wsz w) (upd (zF (eaD w (6 + nI 3) cv) (k)) k 0)) := (mU_n (Ne.symm (lvz))).trans m_110
                refine q_iinc (v := (nI (k + 1))) (lv' := [(7, .int (nI (k + 1))), (8, .long (ovf k)), (0, .ref r), (1, .int (nI i)), (2, .int (nI 3)), (3, .long cv), (5, .ref o), (6, .ref q)]) X dX13_filter_188 7 rfl (nI_1 k) (by decide) rfl ?_
                refine q_goto X 82 dX13_filter_191 (by decide) ?_
                refine q_sub [2, 3, 4, 5, 6, 7, 0] rfl ?_
                have hdk : eaD w (6 + nI 3) cv k = none := (ea_some hw hk (ct_some hO.2.2.2.2.2 hk c118)).trans (by have q9 := c169; rw [lg_cmp_lt] at q9; unfold eachD; rw [if_neg (by decide), if_neg (by decide), if_neg (by decide), if_neg (by decide), if_neg (by decide), if_neg (by decide), if_neg (by decide), if_neg (by decide), if_neg (by decide), if_neg (Int64.not_le.mpr q9)])
                refine q_memE (M' := mU (mU M4 va (aJ G (wsz w) (cpF ovf (k + 1)))) za (aZ G (wsz w) (zF (eaD w (6 + nI 3) cv) (k + 1)))) (by rw [← cpF_s, ← zF_z hdk]; exact mU_5 lvz) ?_
                exact ih (k + 1) (by omega)
              · refine q_iconst (v := 1) X dX13_filter_172 (by decide) ?_
                refine q_goto X 177 dX13_filter_173 (by decide) ?_
                refine q_zastN X k (kza (k)) (rfl) (hk) (by omega) (Or.inr rfl) dX13_filter_177 ?_
                have m_114 : (mU (mU (mU M4 va (aJ G (wsz w) (cpF ovf (k)))) za (aZ G (wsz w) (zF (eaD w (6 + nI 3) cv) (k)))) za (aZ G (wsz w) (upd (zF (eaD w (6 + nI 3) cv) (k)) k 1))) q = some (oB 12 [.int (nI (vm w)), .int (nI (vdp w + 1)), .ref la, .ref ha, .ref va, .ref za]) := (mU_n (g_neoa (kq (k)) (kza (k)))).trans (kq (k))
                have m_115 : (mU (mU (mU M4 va (aJ G (wsz w) (cpF ovf (k)))) za (aZ G (wsz w) (zF (eaD w (6 + nI 3) cv) (k)))) za (aZ G (wsz w) (upd (zF (eaD w (6 + nI 3) cv) (k)) k 1))) va = some (aJ G (wsz w) (cpF ovf (k))) := (mU_n (lvz)).trans (kva (k))
                have m_116 : (mU (mU (mU M4 va (aJ G (wsz w) (cpF ovf (k)))) za (aZ G (wsz w) (zF (eaD w (6 + nI 3) cv) (k)))) za (aZ G (wsz w) (upd (zF (eaD w (6 + nI 3) cv) (k)) k 1))) za = some (aZ G (wsz w) (upd (zF (eaD w (6 + nI 3) cv) (k)) k 1)) := mU_s
                refine q_aload X dX13_filter_178 6 rfl ?_
                refine q_get X m_114 rfl in_RX12 4 (by decide) tw_1163 rfl rfl dX13_filter_180 ?_
                refine q_iload X dX13_filter_183 7 rfl ?_
                refine q_lload X dX13_filter_185 0 rfl ?_
                refine q_lastN X k m_115 (rfl) (hk) (by omega) dX13_filter_187 ?_
                have m_117 : (mU (mU (mU (mU M4 va (aJ G (wsz w) (cpF ovf (k)))) za (aZ G (wsz w) (zF (eaD w (6 + nI 3) cv) (k)))) za (aZ G (wsz w) (upd (zF (eaD w (6 + nI 3) cv) (k)) k 1))) va (aJ G (wsz w) (vp_updL (cpF ovf (k)) k (ovf k)))) q = some (oB 12 [.int (nI (vm w)), .int (nI (vdp w + 1)), .ref la, .ref ha, .ref va, .ref za]) := (mU_n (g_neoa m_114 m_115)).trans m_114
                have m_118 : (mU (mU (mU (mU M4 va (aJ G (wsz w) (cpF ovf (k)))) za (aZ G (wsz w) (zF (eaD w (6 + nI 3) cv) (k)))) za (aZ G (wsz w) (upd (zF (eaD w (6 + nI 3) cv) (k)) k 1))) va (aJ G (wsz w) (vp_updL (cpF ovf (k)) k (ovf k)))) va = some (aJ G (wsz w) (vp_updL (cpF ovf (k)) k (ovf k))) := mU_s
                have m_119 : (mU (mU (mU (mU M4 va (aJ G (wsz w) (cpF ovf (k)))) za (aZ G (wsz w) (zF (eaD w (6 + nI 3) cv) (k)))) za (aZ G (wsz w) (upd (zF (eaD w (6 + nI 3) cv) (k)) k 1))) va (aJ G (wsz w) (vp_updL (cpF ovf (k)) k (ovf k)))) za = some (aZ G (wsz w) (upd (zF (eaD w (6 + nI 3) cv) (k)) k 1)) := (mU_n (Ne.symm (lvz))).trans m_116
                refine q_iinc (v := (nI (k + 1))) (lv' := [(7, .int (nI (k + 1))), (8, .long (ovf k)), (0, .ref r), (1, .int (nI i)), (2, .int (nI 3)), (3, .long cv), (5, .ref o), (6, .ref q)]) X dX13_filter_188 7 rfl (nI_1 k) (by decide) rfl ?_
                refine q_goto X 82 dX13_filter_191 (by decide) ?_
                refine q_sub [2, 3, 4, 5, 6, 7, 0] rfl ?_
                have hdk : eaD w (6 + nI 3) cv k = some (ovf k) := (ea_some hw hk (ct_some hO.2.2.2.2.2 hk c118)).trans (by have q9 := c169; rw [lg_cmp_lt] at q9; unfold eachD; rw [if_neg (by decide), if_neg (by decide), if_neg (by decide), if_neg (by decide), if_neg (by decide), if_neg (by decide), if_neg (by decide), if_neg (by decide), if_neg (by decide), if_pos (Int64.not_lt.mp q9)])
                refine q_memE (M' := mU (mU M4 va (aJ G (wsz w) (cpF ovf (k + 1)))) za (aZ G (wsz w) (zF (eaD w (6 + nI 3) cv) (k + 1)))) (by rw [← cpF_s, ← zF_y hdk]; exact mU_5 lvz) ?_
                exact ih (k + 1) (by omega)
        refine q_iconst (v := 0) X dX13_filter_79 (by decide) ?_
        refine q_istore (lv' := [(7, .int 0), (6, .ref q), (5, .ref o), (0, .ref r), (1, .int (nI i)), (2, .int (nI 3)), (3, .long cv)]) X dX13_filter_80 (by decide) rfl ?_
        refine q_sub [3, 4, 5, 6, 2, 1, 0] rfl ?_
        refine q_memE (M' := mU (mU M4 va (aJ G (wsz w) (cpF ovf (0)))) za (aZ G (wsz w) (zF (eaD w (6 + nI 3) cv) (0)))) (by rw [cpF_0, zF_0, mU_id hva4, mU_id hza4]) ?_
        exact L0 hfin (wsz w) 0 (by omega)
    · refine q_callV X (c_large_n hB2 hok hd40 hq1 hla1 hha1 hlim) Y_X13_large tw_1359 tw_1361 sel_32 m_1 rfl (by omega) rfl rfl (Nat.le_of_ble_eq_true rfl) (rc' := 2) (rs' := 4096) (by omega) (by omega) dX13_filter_66 (fun v M' hp _ => ?_)
      obtain ⟨rfl, eM⟩ := hp
      have m_120 : M' r = some (oB 13 [.int 3, .ref vA, .ref nA, .ref pA, .ref plA, .ref dg, .int (nI (aV σ).length), .int (nI (aN σ).length), .int (nI (aOf σ)), .int (nI (aBg σ)), .int tk, .long su, .long le, .long gr]) := by rw [eM]; exact mU_s
      have m_121 : M' nA = some (aG G 150 nf) := by rw [eM]; exact (mU_n (Ne.symm (g_neoa m_1 m_2))).trans m_2
      have m_122 : M' o = some (oB 12 [.int (nI (vm w)), .int (nI (vdp w)), .ref ola, .ref oha, .ref ova, .ref oza]) := by rw [eM]; exact (mU_n (g_neoo m_3 m_1 (by decide))).trans m_3
      have m_123 : M' ola = some (aI G 3 (vlo w)) := by rw [eM]; exact (mU_n (Ne.symm (g_neoa m_1 m_4))).trans m_4
      have m_124 : M' oha = some (aI G 3 (vhi w)) := by rw [eM]; exact (mU_n (Ne.symm (g_neoa m_1 m_5))).trans m_5
      have m_125 : M' ova = some (aJ G (wsz w) ovf) := by rw [eM]; exact (mU_n (Ne.symm (g_neoa m_1 m_6))).trans m_6
      have m_126 : M' oza = some (aZ G (wsz w) ozf) := by rw [eM]; exact (mU_n (Ne.symm (g_neoa m_1 m_7))).trans m_7
      have m_127 : M' plA = some (aI G 3 pl0) := by rw [eM]; exact (mU_n (Ne.symm (g_neoa m_1 m_8))).trans m_8
      have m_128 : M' q = some (oB 12 [.int (nI (vm w)), .int (nI (vdp w + 1)), .ref la, .ref ha, .null, .null]) := by rw [eM]; exact (mU_n (Ne.symm (g_nef hB.1 fq))).trans hq1
      have m_129 : M' la = some (aI G 3 (vlo w)) := by rw [eM]; exact (mU_n (Ne.symm (g_nef hB.1 fla))).trans hla1
      have m_130 : M' ha = some (aI G 3 (vhi w)) := by rw [eM]; exact (mU_n (Ne.symm (g_nef hB.1 fha))).trans hha1
      have evK3 : mEv (fun x => x = r ∨ x = plA) M M' := by rw [eM]; exact evK1.trans (mEv_upd (K := (fun x => x = r ∨ x = plA)) (Or.inl rfl))
      have hB3 : rfB G M' r 3 σ vA nA pA plA dg dla dha dva dza dvf dzf vf nf pf tk su le gr := by rw [eM]; exact hB2.ro
      clear eM
      generalize M' = M3 at *
      show qJ G F _ 10 M3 2 4096 69 [(6, .ref q), (5, .ref o), (0, .ref r), (1, .int (nI i)), (2, .int op), (3, .long cv)] [.int 1]
      refine q_if_eq X 74 dX13_filter_69 (by decide) (fun c_131 => absurd c_131 (by decide)) (fun c_131 => ?_)
      refine q_iconst (v := 0) X dX13_filter_72 (by decide) ?_
      exact q_iret X hr dX13_filter_73 (rfP_T (by rw [specE]; exact gLim_n hlim) cOp_UO ⟨vA, nA, pA, plA, dg, dla, dha, dva, dza, dvf, dzf, vf, nf, pf, tk, su, le, gr, hB3⟩)
  show qJ G F _ 10 M 5 4108 0 [(0, .ref r), (1, .int a), (2, .int op), (3, .long cv)] []
  refine q_aload_n X dX13_filter_0 0 rfl ?_
  rcases Nat.lt_or_ge (aN σ).length 150 with q150 | q150
  · refine q_callV X (c_full_y hB q150) Y_X13_full tw_1332 tw_1334 sel_27 hB.1 rfl (by omega) rfl rfl (Nat.le_of_ble_eq_true rfl) (rc' := 5) (rs' := 4108) (by omega) (by omega) dX13_filter_1 (fun v M' hp _ => ?_)
    obtain ⟨rfl, eM⟩ := hp
    have hB232 : rfB G M' r 0 σ vA nA pA plA dg dla dha dva dza dvf dzf vf nf pf tk su le gr := by rw [eM]; exact hB.ro
    clear eM
    generalize M' = M232 at *
    show qJ G F _ 10 M232 5 4108 4 [(0, .ref r), (1, .int a), (2, .int op), (3, .long cv)] [.int 0]
    obtain ⟨z_133r, z_1331, z_1332, z_1333, ⟨z_133x, z_1334⟩, z_1335, z_1336, z_1337, z_1338, z_1339, z_13310⟩ := id hB232
    refine q_if_eq X 9 dX13_filter_4 (by decide) (fun c_134 => ?_) (fun c_134 => absurd (by decide) c_134)
    refine q_aload_n X dX13_filter_9 0 rfl ?_
    refine q_aload_n X dX13_filter_10 0 rfl ?_
    refine q_iload_n X dX13_filter_11 1 rfl ?_
    rcases hnd : ndAt σ a with _ | w
    · refine q_callVp X (c_none_n hB232 (by omega) hnd) Y_X13_none tw_1351 tw_1353 sel_30 z_133r rfl (by omega) rfl rfl (Nat.le_of_ble_eq_true rfl) dX13_filter_12 ?_
      refine q_if_ne X 27 dX13_filter_15 (by decide) (fun c_135 => ?_) (fun c_135 => absurd c_135 (by decide))
      refine q_iconst (v := 1) X dX13_filter_27 (by decide) ?_
      refine q_goto X 32 dX13_filter_28 (by decide) ?_
      refine q_iconst (v := 1) X dX13_filter_32 (by decide) ?_
      refine q_callV X (c_fails1 (why := 1) hB232.1) Y_X13_fails tw_1246 tw_1248 sel_23 z_133r rfl (by omega) rfl rfl (Nat.le_of_ble_eq_true rfl) (rc' := 5) (rs' := 4108) (by omega) (by omega) dX13_filter_33 (fun v M' hp _ => ?_)
      obtain ⟨rfl, eM⟩ := hp
      have hB236 : rfB G M' r 1 σ vA nA pA plA dg dla dha dva dza dvf dzf vf nf pf tk su le gr := by rw [eM]; exact hB232.ro
      clear eM
      generalize M' = M236 at *
      show qJ G F _ 10 M236 5 4108 36 [(0, .ref r), (1, .int a), (2, .int op), (3, .long cv)] [.int 1]
      obtain ⟨z_137r, z_1371, z_1372, z_1373, ⟨z_137x, z_1374⟩, z_1375, z_1376, z_1377, z_1378, z_1379, z_13710⟩ := id hB236
      refine q_if_eq X 41 dX13_filter_36 (by decide) (fun c_138 => absurd c_138 (by decide)) (fun c_138 => ?_)
      refine q_iconst (v := 0) X dX13_filter_39 (by decide) ?_
      exact q_iret X hr dX13_filter_40 (rfP_T ((gRoom_y q150).trans (gNode_n hnd)) cOp_IA ⟨vA, nA, pA, plA, dg, dla, dha, dva, dza, dvf, dzf, vf, nf, pf, tk, su, le, gr, hB236⟩)
    · refine q_callVp X (c_none_y hB232 (by omega) hnd) Y_X13_none tw_1351 tw_1353 sel_30 z_133r rfl (by omega) rfl rfl (Nat.le_of_ble_eq_true rfl) dX13_filter_12 ?_
      obtain ⟨i, hi9, rfl, hi⟩ := ndAt_some hnd
      have hw := hW.2 i w hi
      have hi150 : i < 150 := by omega
      refine q_if_ne X 27 dX13_filter_15 (by decide) (fun c_139 => absurd (by decide) c_139) (fun c_139 => ?_)
      refine q_iload_n X dX13_filter_18 2 rfl ?_
      refine q_if_lt X 27 dX13_filter_19 (by decide) (fun c19 => ?_) (fun c19 => ?_)
      · refine q_iconst (v := 1) X dX13_filter_27 (by decide) ?_
        refine q_goto X 32 dX13_filter_28 (by decide) ?_
        refine q_iconst (v := 1) X dX13_filter_32 (by decide) ?_
        refine q_callV X (c_fails1 (why := 1) hB232.1) Y_X13_fails tw_1246 tw_1248 sel_23 z_133r rfl (by omega) rfl rfl (Nat.le_of_ble_eq_true rfl) (rc' := 5) (rs' := 4108) (by omega) (by omega) dX13_filter_33 (fun v M' hp _ => ?_)
        obtain ⟨rfl, eM⟩ := hp
        have hB240 : rfB G M' r 1 σ vA nA pA plA dg dla dha dva dza dvf dzf vf nf pf tk su le gr := by rw [eM]; exact hB232.ro
        clear eM
        generalize M' = M240 at *
        show qJ G F _ 10 M240 5 4108 36 [(0, .ref r), (1, .int (nI i)), (2, .int op), (3, .long cv)] [.int 1]
        obtain ⟨z_141r, z_1411, z_1412, z_1413, ⟨z_141x, z_1414⟩, z_1415, z_1416, z_1417, z_1418, z_1419, z_14110⟩ := id hB240
        refine q_if_eq X 41 dX13_filter_36 (by decide) (fun c_142 => absurd c_142 (by decide)) (fun c_142 => ?_)
        refine q_iconst (v := 0) X dX13_filter_39 (by decide) ?_
        exact q_iret X hr dX13_filter_40 (rfP_T ((gRoom_y q150).trans ((gNode_y hnd).trans (gNeed_n (fun z => z.1 c19)))) cOp_IA ⟨vA, nA, pA, plA, dg, dla, dha, dva, dza, dvf, dzf, vf, nf, pf, tk, su, le, gr, hB240⟩)
      · refine q_iload_n X dX13_filter_22 2 rfl ?_
        refine q_iconst (v := 3) X dX13_filter_23 (by decide) ?_
        refine q_icmp_le X 31 dX13_filter_24 (by decide) (fun c24 => ?_) (fun c24 => ?_)
        · refine q_iconst (v := 0) X dX13_filter_31 (by decide) ?_
          refine q_iconst (v := 1) X dX13_filter_32 (by decide) ?_
          refine q_callV X (c_fails0 (why := 1) hB232.1) Y_X13_fails tw_1246 tw_1248 sel_23 z_133r rfl (by omega) rfl rfl (Nat.le_of_ble_eq_true rfl) (rc' := 5) (rs' := 4108) (by omega) (by omega) dX13_filter_33 (fun v M' hp _ => ?_)
          obtain ⟨rfl, eM⟩ := hp
          have hB243 : rfB G M' r 0 σ vA nA pA plA dg dla dha dva dza dvf dzf vf nf pf tk su le gr := by rw [eM]; exact hB232.ro
          clear eM
          generalize M' = M243 at *
          show qJ G F _ 10 M243 5 4108 36 [(0, .ref r), (1, .int (nI i)), (2, .int op), (3, .long cv)] [.int 0]
          obtain ⟨z_144r, z_1441, z_1442, z_1443, ⟨z_144x, z_1444⟩, z_1445, z_1446, z_1447, z_1448, z_1449, z_14410⟩ := id hB243
          refine q_if_eq X 41 dX13_filter_36 (by decide) (fun c_145 => ?_) (fun c_145 => absurd (by decide) c_145)
          refine q_sub [0, 1, 2, 3] rfl ?_
          exact tail _ i w hB243 hi hw q150 c19 (op_lt c24) ((gRoom_y q150).trans ((gNode_y hnd).trans (gNeed_y ⟨c19, op_lt c24⟩)))
        · refine q_iconst (v := 1) X dX13_filter_27 (by decide) ?_
          refine q_goto X 32 dX13_filter_28 (by decide) ?_
          refine q_iconst (v := 1) X dX13_filter_32 (by decide) ?_
          refine q_callV X (c_fails1 (why := 1) hB232.1) Y_X13_fails tw_1246 tw_1248 sel_23 z_133r rfl (by omega) rfl rfl (Nat.le_of_ble_eq_true rfl) (rc' := 5) (rs' := 4108) (by omega) (by omega) dX13_filter_33 (fun v M' hp _ => ?_)
          obtain ⟨rfl, eM⟩ := hp
          have hB246 : rfB G M' r 1 σ vA nA pA plA dg dla dha dva dza dvf dzf vf nf pf tk su le gr := by rw [eM]; exact hB232.ro
          clear eM
          generalize M' = M246 at *
          show qJ G F _ 10 M246 5 4108 36 [(0, .ref r), (1, .int (nI i)), (2, .int op), (3, .long cv)] [.int 1]
          obtain ⟨z_147r, z_1471, z_1472, z_1473, ⟨z_147x, z_1474⟩, z_1475, z_1476, z_1477, z_1478, z_1479, z_14710⟩ := id hB246
          refine q_if_eq X 41 dX13_filter_36 (by decide) (fun c_148 => absurd c_148 (by decide)) (fun c_148 => ?_)
          refine q_iconst (v := 0) X dX13_filter_39 (by decide) ?_
          exact q_iret X hr dX13_filter_40 (rfP_T ((gRoom_y q150).trans ((gNode_y hnd).trans (gNeed_n (fun z => z.2 (op_ge c24))))) cOp_IA ⟨vA, nA, pA, plA, dg, dla, dha, dva, dza, dvf, dzf, vf, nf, pf, tk, su, le, gr, hB246⟩)
  · refine q_callV X (c_full_n hB q150 hl150) Y_X13_full tw_1332 tw_1334 sel_27 hB.1 rfl (by omega) rfl rfl (Nat.le_of_ble_eq_true rfl) (rc' := 5) (rs' := 4108) (by omega) (by omega) dX13_filter_1 (fun v M' hp _ => ?_)
    obtain ⟨rfl, eM⟩ := hp
    have hB249 : rfB G M' r 2 σ vA nA pA plA dg dla dha dva dza dvf dzf vf nf pf tk su le gr := by rw [eM]; exact hB.ro
    clear eM
    generalize M' = M249 at *
    show qJ G F _ 10 M249 5 4108 4 [(0, .ref r), (1, .int a), (2, .int op), (3, .long cv)] [.int 1]
    obtain ⟨z_150r, z_1501, z_1502, z_1503, ⟨z_150x, z_1504⟩, z_1505, z_1506, z_1507, z_1508, z_1509, z_15010⟩ := id hB249
    refine q_if_eq X 9 dX13_filter_4 (by decide) (fun c_151 => absurd c_151 (by decide)) (fun c_151 => ?_)
    refine q_iconst (v := 0) X dX13_filter_7 (by decide) ?_
    exact q_iret X hr dX13_filter_8 (rfP_T (gRoom_n (Nat.not_lt.mpr q150)) cOp_IO ⟨vA, nA, pA, plA, dg, dla, dha, dva, dza, dvf, dzf, vf, nf, pf, tk, su, le, gr, hB249⟩)
