/-! the reference: open, fill -/
def cpJ (f g : Nat → Int64) (c : Nat) : Nat → Int64 := fun i => if i < c then f i else g i
def cpZ (f g : Nat → Int32) (c : Nat) : Nat → Int32 := fun i => if i < c then f i else g i
theorem cpJ_0 {f g : Nat → Int64} : cpJ f g 0 = g := by funext i; unfold cpJ; rw [if_neg (by omega)]
theorem cpZ_0 {f g : Nat → Int32} : cpZ f g 0 = g := by funext i; unfold cpZ; rw [if_neg (by omega)]
theorem cpJ_s {f g : Nat → Int64} {c : Nat} : vp_updL (cpJ f g c) c (f c) = cpJ f g (c + 1) := by
  funext i; unfold vp_updL cpJ
  by_cases h : i = c
  · rw [if_pos h, if_pos (by omega), h]
  · rw [if_neg h]
    by_cases h2 : i < c
    · rw [if_pos h2, if_pos (by omega)]
    · rw [if_neg h2, if_neg (by omega)]
theorem cpZ_s {f g : Nat → Int32} {c : Nat} : upd (cpZ f g c) c (f c) = cpZ f g (c + 1) := by
  funext i; unfold upd cpZ
  by_cases h : i = c
  · rw [if_pos h, if_pos (by omega), h]
  · rw [if_neg h]
    by_cases h2 : i < c
    · rw [if_pos h2, if_pos (by omega)]
    · rw [if_neg h2, if_neg (by omega)]
theorem gCt_cp {n : Nat} {vf vg : Nat → Int64} {zf zg : Nat → Int32} {den : Nat → Option Int64} (h : gCt n vf zf den) : gCt n (cpJ vf vg n) (cpZ zf zg n) den := fun i hi => by
  unfold cpJ cpZ; rw [if_pos hi, if_pos hi]; exact h i hi
theorem fl_pl {m : Nat} {lo hi : Nat → Int32} (h : okS m lo hi) (hz : sz3 lo hi ≤ 4096) {jd : Nat} (hjd : jd < 3) {e j k : Nat} (he : e < sN lo hi 0) (hj : j < sN lo hi 1) (hk : k < sN lo hi 2) : sPlace lo hi (nI (c3 (sN lo hi 1) (sN lo hi 2) e j k)) (nI jd) = pck (nI jd) (lo 0 + nI e) (lo 1 + nI j) (lo 2 + nI k) := by
  obtain ⟨p0, p1, p2⟩ := pl3_c3 h hz he hj hk
  rcases (show jd = 0 ∨ jd = 1 ∨ jd = 2 by omega) with rfl | rfl | rfl
  · unfold pck; rw [if_pos (by decide)]; exact p0
  · unfold pck; rw [if_neg (by decide), if_pos (by decide)]; exact p1
  · unfold pck; rw [if_neg (by decide), if_neg (by decide)]; exact p2

set_option maxRecDepth 20000 in
theorem r_open {l : Launch} {G : gV} {M : gMem} {r : Nat} {e : Int32} {σ : sA} (hW : gvW σ) (hR : isRF G M r e σ) {i : Int32} : qC l G yX13_open cX13_open 4 none 6 0 0 [.ref r, .int i] M (rfP G r cOne none (sp_open σ i)) := by
  refine qC_of (by decide +kernel) (Nat.le_of_ble_eq_true rfl) (fun F hF X hr hn => ?_)
  subst hF
  have X : qX G F cX13_open 4 RX13 6 := X
  obtain ⟨vA, nA, pA, plA, dg, dla, dha, dva, dza, dvf, dzf, vf, nf, pf, tk, su, le, gr, hB⟩ := hR
  have hl150 := hW.1.2.2.2.2.1
  have hl41 := hW.1.2.2.2.1
  have hz := hW.1.sz
  have hcI := cI_ne X
  have tail : ∀ (M : gMem) (jv : Nat) (c : (Nat → Option Int64) × Nat) (hB : rfB G M r 0 σ vA nA pA plA dg dla dha dva dza dvf dzf vf nf pf tk su le gr) (hc : (aV σ)[jv]? = some c) (hvr : vAt σ (nI jv) = some c) (hjv : jv < (aV σ).length), qJ G F (qQ G F (rfP G r cOne none (sp_open σ (nI jv)))) 4 M 0 0 14 [(0, .ref r), (1, .int (nI jv))] [] := by
    intro M jv c hB hc hvr hjv
    have hj41 : jv < 41 := by omega
    obtain ⟨o, hvfo, ⟨ola, oha, ova, oza, ovf, ozf, hO, bo1, bo2, bo3, bo4⟩, hpar⟩ := hB.2.2.2.2.2.2.2.1 jv c hc
    obtain ⟨pl0, hpl0⟩ := hB.2.2.2.2.1
    have k5 : M dg = some (oB 12 [.int (nI (aM σ)), .int (nI 0), .ref dla, .ref dha, .ref dva, .ref dza]) := hB.2.2.2.2.2.1.1
    have k6 : M dla = some (aI G 3 (aLo σ)) := hB.2.2.2.2.2.1.2.1
    have k7 : M dha = some (aI G 3 (aHi σ)) := hB.2.2.2.2.2.1.2.2.1
    have k8 : M dva = some (aJ G (aSz σ) dvf) := hB.2.2.2.2.2.1.2.2.2.1
    have k9 : M dza = some (aZ G (aSz σ) dzf) := hB.2.2.2.2.2.1.2.2.2.2.1
    have dvz : dva ≠ dza := g_neaa k8 k9 (fun z => by simp at z)
    have p8 : M ova = some (aJ G (aSz σ) ovf) := hO.2.2.2.1
    have p9 : M oza = some (aZ G (aSz σ) ozf) := hO.2.2.2.2.1
    have kv : ∀ {x : Nat} {e : va_E}, M x = some e → x ≠ dva → x ≠ dza → ∀ t8, (mU (mU M dva (aJ G (aSz σ) (cpJ ovf dvf (t8)))) dza (aZ G (aSz σ) (cpZ ozf dzf (t8)))) x = some e := fun h h1 h2 t8 => (mU_n h2).trans ((mU_n h1).trans h)
    have kr : ∀ t8, (mU (mU M dva (aJ G (aSz σ) (cpJ ovf dvf (t8)))) dza (aZ G (aSz σ) (cpZ ozf dzf (t8)))) r = some (oB 13 [.int 0, .ref vA, .ref nA, .ref pA, .ref plA, .ref dg, .int (nI (aV σ).length), .int (nI (aN σ).length), .int (nI (aOf σ)), .int (nI (aBg σ)), .int tk, .long su, .long le, .long gr]) := kv hB.1 (g_neoa hB.1 k8) (g_neoa hB.1 k9)
    have kdg : ∀ t8, (mU (mU M dva (aJ G (aSz σ) (cpJ ovf dvf (t8)))) dza (aZ G (aSz σ) (cpZ ozf dzf (t8)))) dg = some (oB 12 [.int (nI (aM σ)), .int (nI 0), .ref dla, .ref dha, .ref dva, .ref dza]) := kv k5 (g_neoa k5 k8) (g_neoa k5 k9)
    have ko : ∀ t8, (mU (mU M dva (aJ G (aSz σ) (cpJ ovf dvf (t8)))) dza (aZ G (aSz σ) (cpZ ozf dzf (t8)))) o = some (oB 12 [.int (nI (vm (veV σ c))), .int (nI (vdp (veV σ c))), .ref ola, .ref oha, .ref ova, .ref oza]) := kv hO.1 (g_neoa hO.1 k8) (g_neoa hO.1 k9)
    have kova : ∀ t8, (mU (mU M dva (aJ G (aSz σ) (cpJ ovf dvf (t8)))) dza (aZ G (aSz σ) (cpZ ozf dzf (t8)))) ova = some (aJ G (aSz σ) ovf) := kv p8 (fun z => bo3 (Or.inr (Or.inr (Or.inl z)))) (g_neaa p8 k9 (fun z => by simp at z))
    have koza : ∀ t8, (mU (mU M dva (aJ G (aSz σ) (cpJ ovf dvf (t8)))) dza (aZ G (aSz σ) (cpZ ozf dzf (t8)))) oza = some (aZ G (aSz σ) ozf) := kv p9 (g_neaa p9 k8 (fun z => by simp at z)) (fun z => bo4 (Or.inr (Or.inr (Or.inr z))))
    have kdva : ∀ t8, (mU (mU M dva (aJ G (aSz σ) (cpJ ovf dvf (t8)))) dza (aZ G (aSz σ) (cpZ ozf dzf (t8)))) dva = some (aJ G (aSz σ) (cpJ ovf dvf t8)) := fun t8 => (mU_n dvz).trans mU_s
    have kdza : ∀ t8, (mU (mU M dva (aJ G (aSz σ) (cpJ ovf dvf (t8)))) dza (aZ G (aSz σ) (cpZ ozf dzf (t8)))) dza = some (aZ G (aSz σ) (cpZ ozf dzf t8)) := fun t8 => mU_s
    have hfin : qJ G F (qQ G F (rfP G r cOne none (sp_open σ (nI jv)))) 4 (mU (mU M dva (aJ G (aSz σ) (cpJ ovf dvf (aSz σ)))) dza (aZ G (aSz σ) (cpZ ozf dzf (aSz σ)))) 0 0 68 [(0, .ref r), (1, .int (nI jv)), (2, .ref o)] [] := by
      have hBz := hB.desk hcI (D := c.1) (kdva (aSz σ)) (kdza (aSz σ)) (fun q a b => (mU_n b).trans (mU_n a)) (gCt_cp hO.2.2.2.2.2)
      refine q_aload_n X dX13_open_68 0 rfl ?_
      refine q_iload_n X dX13_open_69 1 rfl ?_
      refine q_put X (kr (aSz σ)) rfl in_RX13 tyX13 tyX13_ok nmX13 8 (by decide) tw_1202 rfl rfl rfl rfl rfl (Nat.le_of_ble_eq_true rfl) (fs1 := [.int 0, .ref vA, .ref nA, .ref pA, .ref plA, .ref dg, .int (nI (aV σ).length), .int (nI (aN σ).length), .int (nI jv), .int (nI (aBg σ)), .int tk, .long su, .long le, .long gr]) rfl dX13_open_70 ?_
      have m_1 : (mU (mU (mU M dva (aJ G (aSz σ) (cpJ ovf dvf (aSz σ)))) dza (aZ G (aSz σ) (cpZ ozf dzf (aSz σ)))) r (oB 13 [.int 0, .ref vA, .ref nA, .ref pA, .ref plA, .ref dg, .int (nI (aV σ).length), .int (nI (aN σ).length), .int (nI jv), .int (nI (aBg σ)), .int tk, .long su, .long le, .long gr])) r = some (oB 13 [.int 0, .ref vA, .ref nA, .ref pA, .ref plA, .ref dg, .int (nI (aV σ).length), .int (nI (aN σ).length), .int (nI jv), .int (nI (aBg σ)), .int tk, .long su, .long le, .long gr]) := mU_s
      exact q_vret X hr dX13_open_73 (rfP_K (by unfold sp_open; rw [hvr]; show oK none (aSetO (aSetD σ c.1) (nI jv).toNatClampNeg) = _; rw [nI_nn (by omega)]) ⟨vA, nA, pA, plA, dg, dla, dha, dva, dza, _, _, vf, nf, pf, _, _, _, _, hBz.of jv⟩)
    have L0 : ∀ (kk : qJ G F (qQ G F (rfP G r cOne none (sp_open σ (nI jv)))) 4 (mU (mU M dva (aJ G (aSz σ) (cpJ ovf dvf (aSz σ)))) dza (aZ G (aSz σ) (cpZ ozf dzf (aSz σ)))) 0 0 68 [(0, .ref r), (1, .int (nI jv)), (2, .ref o)] []) (t t9 : Nat), t9 + t = aSz σ → qJ G F (qQ G F (rfP G r cOne none (sp_open σ (nI jv)))) 4 (mU (mU M dva (aJ G (aSz σ) (cpJ ovf dvf (t9)))) dza (aZ G (aSz σ) (cpZ ozf dzf (t9)))) 0 0 23 [(0, .ref r), (1, .int (nI jv)), (2, .ref o), (3, .int (nI (t9)))] [] := by
      intro  kk t
      induction t with
      | zero =>
        intro t9 ht90
        obtain rfl : t9 = aSz σ := by omega
        refine q_iload_n X dX13_open_23 3 rfl ?_
        refine q_aload_n X dX13_open_24 2 rfl ?_
        refine q_get X (ko (aSz σ)) rfl in_RX12 4 (by decide) tw_1163 rfl rfl dX13_open_25 ?_
        refine q_alen X 1 (kova (aSz σ)) rfl dX13_open_28 ?_
        refine q_icmp_ge X 68 dX13_open_29 (by decide) (fun c_2 => ?_) (fun c_2 => absurd (Int32.le_refl _) c_2)
        refine q_sub [0, 1, 2] rfl ?_
        exact kk
      | succ t ih =>
        intro t9 ht90
        have ht9 : t9 < aSz σ := by omega
        have hb9 : ozf t9 = 0 ∨ ozf t9 = 1 := by rw [(hO.2.2.2.2.2 t9 ht9).1]; exact bI_01 _
        refine q_iload_n X dX13_open_23 3 rfl ?_
        refine q_aload_n X dX13_open_24 2 rfl ?_
        refine q_get X (ko (t9)) rfl in_RX12 4 (by decide) tw_1163 rfl rfl dX13_open_25 ?_
        refine q_alen X 1 (kova (t9)) rfl dX13_open_28 ?_
        refine q_icmp_ge X 68 dX13_open_29 (by decide) (fun c_3 => absurd c_3 (nI_ge ht9 (by omega))) (fun c_3 => ?_)
        refine q_aload_n X dX13_open_32 0 rfl ?_
        refine q_get X (kr (t9)) rfl in_RX13 5 (by decide) tw_1199 rfl rfl dX13_open_33 ?_
        refine q_get X (kdg (t9)) rfl in_RX12 4 (by decide) tw_1163 rfl rfl dX13_open_36 ?_
        refine q_iload_n X dX13_open_39 3 rfl ?_
        refine q_aload_n X dX13_open_40 2 rfl ?_
        refine q_get X (ko (t9)) rfl in_RX12 4 (by decide) tw_1163 rfl rfl dX13_open_41 ?_
        refine q_iload_n X dX13_open_44 3 rfl ?_
        refine q_laldN X t9 (kova (t9)) (rfl) (ht9) (by omega) dX13_open_45 ?_
        refine q_lastN X t9 (kdva (t9)) (rfl) (ht9) (by omega) dX13_open_46 ?_
        have m_4 : (mU (mU (mU M dva (aJ G (aSz σ) (cpJ ovf dvf (t9)))) dza (aZ G (aSz σ) (cpZ ozf dzf (t9)))) dva (aJ G (aSz σ) (vp_updL (cpJ ovf dvf (t9)) t9 (ovf t9)))) r = some (oB 13 [.int 0, .ref vA, .ref nA, .ref pA, .ref plA, .ref dg, .int (nI (aV σ).length), .int (nI (aN σ).length), .int (nI (aOf σ)), .int (nI (aBg σ)), .int tk, .long su, .long le, .long gr]) := (mU_n (g_neoa (kr (t9)) (kdva (t9)))).trans (kr (t9))
        have m_5 : (mU (mU (mU M dva (aJ G (aSz σ) (cpJ ovf dvf (t9)))) dza (aZ G (aSz σ) (cpZ ozf dzf (t9)))) dva (aJ G (aSz σ) (vp_updL (cpJ ovf dvf (t9)) t9 (ovf t9)))) dg = some (oB 12 [.int (nI (aM σ)), .int (nI 0), .ref dla, .ref dha, .ref dva, .ref dza]) := (mU_n (g_neoa (kdg (t9)) (kdva (t9)))).trans (kdg (t9))
        have m_6 : (mU (mU (mU M dva (aJ G (aSz σ) (cpJ ovf dvf (t9)))) dza (aZ G (aSz σ) (cpZ ozf dzf (t9)))) dva (aJ G (aSz σ) (vp_updL (cpJ ovf dvf (t9)) t9 (ovf t9)))) o = some (oB 12 [.int (nI (vm (veV σ c))), .int (nI (vdp (veV σ c))), .ref ola, .ref oha, .ref ova, .ref oza]) := (mU_n (g_neoa (ko (t9)) (kdva (t9)))).trans (ko (t9))
        have m_7 : (mU (mU (mU M dva (aJ G (aSz σ) (cpJ ovf dvf (t9)))) dza (aZ G (aSz σ) (cpZ ozf dzf (t9)))) dva (aJ G (aSz σ) (vp_updL (cpJ ovf dvf (t9)) t9 (ovf t9)))) ova = some (aJ G (aSz σ) ovf) := (mU_n ((fun z => bo3 (Or.inr (Or.inr (Or.inl z)))))).trans (kova (t9))
        have m_8 : (mU (mU (mU M dva (aJ G (aSz σ) (cpJ ovf dvf (t9)))) dza (aZ G (aSz σ) (cpZ ozf dzf (t9)))) dva (aJ G (aSz σ) (vp_updL (cpJ ovf dvf (t9)) t9 (ovf t9)))) oza = some (aZ G (aSz σ) ozf) := (mU_n (g_neaa (koza (t9)) (kdva (t9)) (fun z => by simp at z))).trans (koza (t9))
        have m_9 : (mU (mU (mU M dva (aJ G (aSz σ) (cpJ ovf dvf (t9)))) dza (aZ G (aSz σ) (cpZ ozf dzf (t9)))) dva (aJ G (aSz σ) (vp_updL (cpJ ovf dvf (t9)) t9 (ovf t9)))) dva = some (aJ G (aSz σ) (vp_updL (cpJ ovf dvf (t9)) t9 (ovf t9))) := mU_s
        have m_10 : (mU (mU (mU M dva (aJ G (aSz σ) (cpJ ovf dvf (t9)))) dza (aZ G (aSz σ) (cpZ ozf dzf (t9)))) dva (aJ G (aSz σ) (vp_updL (cpJ ovf dvf (t9)) t9 (ovf t9)))) dza = some (aZ G (aSz σ) (cpZ ozf dzf (t9))) := (mU_n (Ne.symm (dvz))).trans (kdza (t9))
        refine q_aload_n X dX13_open_47 0 rfl ?_
        refine q_get X m_4 rfl in_RX13 5 (by decide) tw_1199 rfl rfl dX13_open_48 ?_
        refine q_get X m_5 rfl in_RX12 5 (by decide) tw_1165 rfl rfl dX13_open_51 ?_
        refine q_iload_n X dX13_open_54 3 rfl ?_
        refine q_aload_n X dX13_open_55 2 rfl ?_
        refine q_get X m_6 rfl in_RX12 5 (by decide) tw_1165 rfl rfl dX13_open_56 ?_
        refine q_iload_n X dX13_open_59 3 rfl ?_
        refine q_zaldN X t9 m_8 (rfl) (ht9) (by omega) dX13_open_60 ?_
        refine q_zastN X t9 m_10 (rfl) (ht9) (by omega) (hb9) dX13_open_61 ?_
        have m_11 : (mU (mU (mU (mU M dva (aJ G (aSz σ) (cpJ ovf dvf (t9)))) dza (aZ G (aSz σ) (cpZ ozf dzf (t9)))) dva (aJ G (aSz σ) (vp_updL (cpJ ovf dvf (t9)) t9 (ovf t9)))) dza (aZ G (aSz σ) (upd (cpZ ozf dzf (t9)) t9 (ozf t9)))) r = some (oB 13 [.int 0, .ref vA, .ref nA, .ref pA, .ref plA, .ref dg, .int (nI (aV σ).length), .int (nI (aN σ).length), .int (nI (aOf σ)), .int (nI (aBg σ)), .int tk, .long su, .long le, .long gr]) := (mU_n (g_neoa m_4 m_10)).trans m_4
        have m_12 : (mU (mU (mU (mU M dva (aJ G (aSz σ) (cpJ ovf dvf (t9)))) dza (aZ G (aSz σ) (cpZ ozf dzf (t9)))) dva (aJ G (aSz σ) (vp_updL (cpJ ovf dvf (t9)) t9 (ovf t9)))) dza (aZ G (aSz σ) (upd (cpZ ozf dzf (t9)) t9 (ozf t9)))) dg = some (oB 12 [.int (nI (aM σ)), .int (nI 0), .ref dla, .ref dha, .ref dva, .ref dza]) := (mU_n (g_neoa m_5 m_10)).trans m_5
        have m_13 : (mU (mU (mU (mU M dva (aJ G (aSz σ) (cpJ ovf dvf (t9)))) dza (aZ G (aSz σ) (cpZ ozf dzf (t9)))) dva (aJ G (aSz σ) (vp_updL (cpJ ovf dvf (t9)) t9 (ovf t9)))) dza (aZ G (aSz σ) (upd (cpZ ozf dzf (t9)) t9 (ozf t9)))) o = some (oB 12 [.int (nI (vm (veV σ c))), .int (nI (vdp (veV σ c))), .ref ola, .ref oha, .ref ova, .ref oza]) := (mU_n (g_neoa m_6 m_10)).trans m_6
        have m_14 : (mU (mU (mU (mU M dva (aJ G (aSz σ) (cpJ ovf dvf (t9)))) dza (aZ G (aSz σ) (cpZ ozf dzf (t9)))) dva (aJ G (aSz σ) (vp_updL (cpJ ovf dvf (t9)) t9 (ovf t9)))) dza (aZ G (aSz σ) (upd (cpZ ozf dzf (t9)) t9 (ozf t9)))) ova = some (aJ G (aSz σ) ovf) := (mU_n (g_neaa m_7 m_10 (fun z => by simp at z))).trans m_7
        have m_15 : (mU (mU (mU (mU M dva (aJ G (aSz σ) (cpJ ovf dvf (t9)))) dza (aZ G (aSz σ) (cpZ ozf dzf (t9)))) dva (aJ G (aSz σ) (vp_updL (cpJ ovf dvf (t9)) t9 (ovf t9)))) dza (aZ G (aSz σ) (upd (cpZ ozf dzf (t9)) t9 (ozf t9)))) oza = some (aZ G (aSz σ) ozf) := (mU_n ((fun z => bo4 (Or.inr (Or.inr (Or.inr z)))))).trans m_8
        have m_16 : (mU (mU (mU (mU M dva (aJ G (aSz σ) (cpJ ovf dvf (t9)))) dza (aZ G (aSz σ) (cpZ ozf dzf (t9)))) dva (aJ G (aSz σ) (vp_updL (cpJ ovf dvf (t9)) t9 (ovf t9)))) dza (aZ G (aSz σ) (upd (cpZ ozf dzf (t9)) t9 (ozf t9)))) dva = some (aJ G (aSz σ) (vp_updL (cpJ ovf dvf (t9)) t9 (ovf t9))) := (mU_n (dvz)).trans m_9
        have m_17 : (mU (mU (mU (mU M dva (aJ G (aSz σ) (cpJ ovf dvf (t9)))) dza (aZ G (aSz σ) (cpZ ozf dzf (t9)))) dva (aJ G (aSz σ) (vp_updL (cpJ ovf dvf (t9)) t9 (ovf t9)))) dza (aZ G (aSz σ) (upd (cpZ ozf dzf (t9)) t9 (ozf t9)))) dza = some (aZ G (aSz σ) (upd (cpZ ozf dzf (t9)) t9 (ozf t9))) := mU_s
        refine q_iinc (v := (nI (t9 + 1))) (lv' := [(3, .int (nI (t9 + 1))), (0, .ref r), (1, .int (nI jv)), (2, .ref o)]) X dX13_open_62 3 rfl (nI_1 t9) (by decide) rfl ?_
        refine q_goto X 23 dX13_open_65 (by decide) ?_
        refine q_sub [1, 2, 3, 0] rfl ?_
        refine q_memE (M' := mU (mU M dva (aJ G (aSz σ) (cpJ ovf dvf (t9 + 1)))) dza (aZ G (aSz σ) (cpZ ozf dzf (t9 + 1)))) (by rw [← cpJ_s, ← cpZ_s]; exact mU_4 dvz) ?_
        exact ih (t9 + 1) (by omega)
    refine q_aload_n X dX13_open_14 0 rfl ?_
    refine q_get X hB.1 rfl in_RX13 1 (by decide) tw_1195 rfl rfl dX13_open_15 ?_
    refine q_iload_n X dX13_open_18 1 rfl ?_
    refine q_gald X jv hB.2.1 (rfl) (hj41) (by decide) hvfo dX13_open_19 ?_
    refine q_astore_n (lv' := [(2, .ref o), (0, .ref r), (1, .int (nI jv))]) X dX13_open_20 (by decide) rfl ?_
    refine q_iconst (v := 0) X dX13_open_21 (by decide) ?_
    refine q_istore_n (lv' := [(3, .int 0), (2, .ref o), (0, .ref r), (1, .int (nI jv))]) X dX13_open_22 (by decide) rfl ?_
    refine q_sub [2, 3, 1, 0] rfl ?_
    refine q_memE (M' := mU (mU M dva (aJ G (aSz σ) (cpJ ovf dvf (0)))) dza (aZ G (aSz σ) (cpZ ozf dzf (0)))) (by rw [cpJ_0, cpZ_0, mU_id k8, mU_id k9]) ?_
    exact L0 hfin (aSz σ) 0 (Nat.zero_add _)
  show qJ G F _ 4 M 0 0 0 [(0, .ref r), (1, .int i)] []
  refine q_aload_n X dX13_open_0 0 rfl ?_
  refine q_aload_n X dX13_open_1 0 rfl ?_
  refine q_iload_n X dX13_open_2 1 rfl ?_
  rcases hvr : vAt σ i with _ | c
  · refine q_callVp X (c_noVersion_n hB (by omega) hvr) Y_X13_noVersion tw_1292 tw_1294 sel_26 hB.1 rfl (by omega) rfl rfl (Nat.le_of_ble_eq_true rfl) dX13_open_3 ?_
    refine q_iconst (v := 1) X dX13_open_6 (by decide) ?_
    refine q_callV X (c_fails1 (why := 1) hB.1) Y_X13_fails tw_1246 tw_1248 sel_23 hB.1 rfl (by omega) rfl rfl (Nat.le_of_ble_eq_true rfl) (rc' := 0) (rs' := 0) (by omega) (by omega) dX13_open_7 (fun v M' hp _ => ?_)
    obtain ⟨rfl, eM⟩ := hp
    have hB118 : rfB G M' r 1 σ vA nA pA plA dg dla dha dva dza dvf dzf vf nf pf tk su le gr := by rw [eM]; exact hB.ro
    clear eM
    generalize M' = M118 at *
    show qJ G F _ 4 M118 0 0 10 [(0, .ref r), (1, .int i)] [.int 1]
    obtain ⟨z_19r, z_191, z_192, z_193, ⟨z_19x, z_194⟩, z_195, z_196, z_197, z_198, z_199, z_1910⟩ := id hB118
    refine q_if_eq X 14 dX13_open_10 (by decide) (fun c_20 => absurd c_20 (by decide)) (fun c_20 => ?_)
    exact q_vret X hr dX13_open_13 (rfP_T (by unfold sp_open; rw [hvr]) cOne_1 ⟨vA, nA, pA, plA, dg, dla, dha, dva, dza, dvf, dzf, vf, nf, pf, tk, su, le, gr, hB118⟩)
  · refine q_callVp X (c_noVersion_y hB (by omega) hvr) Y_X13_noVersion tw_1292 tw_1294 sel_26 hB.1 rfl (by omega) rfl rfl (Nat.le_of_ble_eq_true rfl) dX13_open_3 ?_
    obtain ⟨jv, hjv, rfl, hc⟩ := vAt_some hvr
    refine q_iconst (v := 1) X dX13_open_6 (by decide) ?_
    refine q_callV X (c_fails0 (why := 1) hB.1) Y_X13_fails tw_1246 tw_1248 sel_23 hB.1 rfl (by omega) rfl rfl (Nat.le_of_ble_eq_true rfl) (rc' := 0) (rs' := 0) (by omega) (by omega) dX13_open_7 (fun v M' hp _ => ?_)
    obtain ⟨rfl, eM⟩ := hp
    have hB121 : rfB G M' r 0 σ vA nA pA plA dg dla dha dva dza dvf dzf vf nf pf tk su le gr := by rw [eM]; exact hB.ro
    clear eM
    generalize M' = M121 at *
    show qJ G F _ 4 M121 0 0 10 [(0, .ref r), (1, .int (nI jv))] [.int 0]
    obtain ⟨z_22r, z_221, z_222, z_223, ⟨z_22x, z_224⟩, z_225, z_226, z_227, z_228, z_229, z_2210⟩ := id hB121
    refine q_if_eq X 14 dX13_open_10 (by decide) (fun c_23 => ?_) (fun c_23 => absurd (by decide) c_23)
    refine q_sub [0, 1] rfl ?_
    exact tail _ jv c hB121 hc hvr hjv

set_option maxRecDepth 20000 in
theorem r_fill {l : Launch} {G : gV} {M : gMem} {r : Nat} {e : Int32} {σ : sA} (hW : gvW σ) (hR : isRF G M r e σ) {d x y : Int32} {v : Int64} : qC l G yX13_fill cX13_fill 10 none 6 0 0 [.ref r, .int d, .int x, .int y, .long v] M (rfP G r cOne none (sp_fill σ d x y v)) := by
  refine qC_of (by decide +kernel) (Nat.le_of_ble_eq_true rfl) (fun F hF X hr hn => ?_)
  subst hF
  have X : qX G F cX13_fill 10 RX13 6 := X
  obtain ⟨vA, nA, pA, plA, dg, dla, dha, dva, dza, dvf, dzf, vf, nf, pf, tk, su, le, gr, hB⟩ := hR
  have hl150 := hW.1.2.2.2.2.1
  have hl41 := hW.1.2.2.2.1
  have hz := hW.1.sz
  have hcI := cI_ne X
  have tail : ∀ (M : gMem) (jd : Nat) (hB : rfB G M r 0 σ vA nA pA plA dg dla dha dva dza dvf dzf vf nf pf tk su le gr) (hjd3 : jd < 3) (specE : sp_fill σ (nI jd) x y v = oK none (aSetD σ (fillD (aLo σ) (aHi σ) (aD σ) (nI jd) x y v (aSz σ)))), qJ G F (qQ G F (rfP G r cOne none (sp_fill σ (nI jd) x y v))) 10 M 0 0 60 [(0, .ref r), (1, .int (nI jd)), (2, .int x), (3, .int y), (4, .long v)] [] := by
    intro M jd hB hjd3 specE
    obtain ⟨pl0, hpl0⟩ := hB.2.2.2.2.1
    have k5 : M dg = some (oB 12 [.int (nI (aM σ)), .int (nI 0), .ref dla, .ref dha, .ref dva, .ref dza]) := hB.2.2.2.2.2.1.1
    have k6 : M dla = some (aI G 3 (aLo σ)) := hB.2.2.2.2.2.1.2.1
    have k7 : M dha = some (aI G 3 (aHi σ)) := hB.2.2.2.2.2.1.2.2.1
    have k8 : M dva = some (aJ G (aSz σ) dvf) := hB.2.2.2.2.2.1.2.2.2.1
    have k9 : M dza = some (aZ G (aSz σ) dzf) := hB.2.2.2.2.2.1.2.2.2.2.1
    have dvz : dva ≠ dza := g_neaa k8 k9 (fun z => by simp at z)
    have kv : ∀ {x : Nat} {e : va_E}, M x = some e → x ≠ dva → x ≠ dza → ∀ (v9 : Nat → Int64) (z9 : Nat → Int32), (mU (mU M dva (aJ G (aSz σ) (v9))) dza (aZ G (aSz σ) (z9))) x = some e := fun h h1 h2 v9 z9 => (mU_n h2).trans ((mU_n h1).trans h)
    have kr : ∀ (v9 : Nat → Int64) (z9 : Nat → Int32), (mU (mU M dva (aJ G (aSz σ) (v9))) dza (aZ G (aSz σ) (z9))) r = some (oB 13 [.int 0, .ref vA, .ref nA, .ref pA, .ref plA, .ref dg, .int (nI (aV σ).length), .int (nI (aN σ).length), .int (nI (aOf σ)), .int (nI (aBg σ)), .int tk, .long su, .long le, .long gr]) := kv hB.1 (g_neoa hB.1 k8) (g_neoa hB.1 k9)
    have kdg : ∀ (v9 : Nat → Int64) (z9 : Nat → Int32), (mU (mU M dva (aJ G (aSz σ) (v9))) dza (aZ G (aSz σ) (z9))) dg = some (oB 12 [.int (nI (aM σ)), .int (nI 0), .ref dla, .ref dha, .ref dva, .ref dza]) := kv k5 (g_neoa k5 k8) (g_neoa k5 k9)
    have kdla : ∀ (v9 : Nat → Int64) (z9 : Nat → Int32), (mU (mU M dva (aJ G (aSz σ) (v9))) dza (aZ G (aSz σ) (z9))) dla = some (aI G 3 (aLo σ)) := kv k6 (g_neaa k6 k8 (fun z => by simp at z)) (g_neIZ hcI k6 k9)
    have kdha : ∀ (v9 : Nat → Int64) (z9 : Nat → Int32), (mU (mU M dva (aJ G (aSz σ) (v9))) dza (aZ G (aSz σ) (z9))) dha = some (aI G 3 (aHi σ)) := kv k7 (g_neaa k7 k8 (fun z => by simp at z)) (g_neIZ hcI k7 k9)
    have kdva : ∀ (v9 : Nat → Int64) (z9 : Nat → Int32), (mU (mU M dva (aJ G (aSz σ) (v9))) dza (aZ G (aSz σ) (z9))) dva = some (aJ G (aSz σ) v9) := fun v9 z9 => (mU_n dvz).trans mU_s
    have kdza : ∀ (v9 : Nat → Int64) (z9 : Nat → Int32), (mU (mU M dva (aJ G (aSz σ) (v9))) dza (aZ G (aSz σ) (z9))) dza = some (aZ G (aSz σ) z9) := fun v9 z9 => mU_s
    have l0 := hW.1.1.lo (d := 0) (by decide)
    have N0 := hW.1.1.N (d := 0) (by decide)
    have y0 := hW.1.1.hi (d := 0) (by decide)
    have l1 := hW.1.1.lo (d := 1) (by decide)
    have N1 := hW.1.1.N (d := 1) (by decide)
    have y1 := hW.1.1.hi (d := 1) (by decide)
    have l2 := hW.1.1.lo (d := 2) (by decide)
    have N2 := hW.1.1.N (d := 2) (by decide)
    have y2 := hW.1.1.hi (d := 2) (by decide)
    have hfin : ∀ M2 : gMem, (∃ (v9 : Nat → Int64) (z9 : Nat → Int32), M2 = mU (mU M dva (aJ G (aSz σ) (v9))) dza (aZ G (aSz σ) (z9)) ∧ gCt (aSz σ) v9 z9 (fillD (aLo σ) (aHi σ) (aD σ) (nI jd) x y v (c3 (sN (aLo σ) (aHi σ) 1) (sN (aLo σ) (aHi σ) 2) (sN (aLo σ) (aHi σ) 0) 0 0))) → qJ G F (qQ G F (rfP G r cOne none (sp_fill σ (nI jd) x y v))) 10 M2 0 0 225 [(0, .ref r), (1, .int (nI jd)), (2, .int x), (3, .int y), (4, .long v)] [] := by
      intro M2 hI
      obtain ⟨v9, z9, rfl, hT⟩ := hI
      rw [c3_A] at hT
      have hT : gCt (aSz σ) v9 z9 (fillD (aLo σ) (aHi σ) (aD σ) (nI jd) x y v (aSz σ)) := hT
      have hBz := hB.desk hcI (kdva v9 z9) (kdza v9 z9) (fun q a b => (mU_n b).trans (mU_n a)) hT
      exact q_vret X hr dX13_fill_225 (rfP_K specE ⟨vA, nA, pA, plA, dg, dla, dha, dva, dza, _, _, vf, nf, pf, _, _, _, _, hBz⟩)
    have L2 : ∀ (e j : Nat) (he : e < sN (aLo σ) (aHi σ) 0) (hj : j < sN (aLo σ) (aHi σ) 1) (kk : ∀ M2 : gMem, (∃ (v9 : Nat → Int64) (z9 : Nat → Int32), M2 = mU (mU M dva (aJ G (aSz σ) (v9))) dza (aZ G (aSz σ) (z9)) ∧ gCt (aSz σ) v9 z9 (fillD (aLo σ) (aHi σ) (aD σ) (nI jd) x y v (c3 (sN (aLo σ) (aHi σ) 1) (sN (aLo σ) (aHi σ) 2) e j (sN (aLo σ) (aHi σ) 2)))) → qJ G F (qQ G F (rfP G r cOne none (sp_fill σ (nI jd) x y v))) 10 M2 0 0 213 [(0, .ref r), (1, .int (nI jd)), (2, .int x), (3, .int y), (4, .long v), (6, .int ((aLo σ) 0 + nI (e))), (7, .int ((aLo σ) 1 + nI (j)))] []) (t k : Nat) (M1 : gMem), k + t = sN (aLo σ) (aHi σ) 2 → (∃ (v9 : Nat → Int64) (z9 : Nat → Int32), M1 = mU (mU M dva (aJ G (aSz σ) (v9))) dza (aZ G (aSz σ) (z9)) ∧ gCt (aSz σ) v9 z9 (fillD (aLo σ) (aHi σ) (aD σ) (nI jd) x y v (c3 (sN (aLo σ) (aHi σ) 1) (sN (aLo σ) (aHi σ) 2) e j k))) → qJ G F (qQ G F (rfP G r cOne none (sp_fill σ (nI jd) x y v))) 10 M1 0 0 121 [(0, .ref r), (1, .int (nI jd)), (2, .int x), (3, .int y), (4, .long v), (6, .int ((aLo σ) 0 + nI (e))), (7, .int ((aLo σ) 1 + nI (j))), (8, .int ((aLo σ) 2 + nI (k)))] [] := by
      intro e j he hj kk t
      induction t with
      | zero =>
        intro k M1 hk0 hI
        obtain rfl : k = sN (aLo σ) (aHi σ) 2 := by omega
        have hI0 := hI
        obtain ⟨v9, z9, rfl, hT⟩ := hI
        refine q_iload X dX13_fill_121 7 rfl ?_
        refine q_aload_n X dX13_fill_123 0 rfl ?_
        refine q_get X (kr v9 z9) rfl in_RX13 5 (by decide) tw_1199 rfl rfl dX13_fill_124 ?_
        refine q_get X (kdg v9 z9) rfl in_RX12 3 (by decide) tw_1161 rfl rfl dX13_fill_127 ?_
        refine q_iconst (v := 2) X dX13_fill_130 (by decide) ?_
        refine q_ialdN X 2 (kdha v9 z9) (rfl) (by decide) (by decide) dX13_fill_131 ?_
        refine q_icmp_gt X 213 dX13_fill_132 (by decide) (fun c_1 => ?_) (fun c_1 => absurd (by rw [y2]; exact (lo_lt l2.1 l2.2 (by omega) (by omega)).mpr (by omega)) c_1)
        refine q_sub [0, 1, 2, 3, 4, 5, 6] rfl ?_
        exact kk _ hI0
      | succ t ih =>
        intro k M1 hk0 hI
        have hk : k < sN (aLo σ) (aHi σ) 2 := by omega
        have hI0 := hI
        obtain ⟨v9, z9, rfl, hT⟩ := hI
        have hc9 : c3 (sN (aLo σ) (aHi σ) 1) (sN (aLo σ) (aHi σ) 2) e j k < aSz σ := c3_lt he hj hk
        have fp9 := fl_pl hW.1.1 hz hjd3 he hj hk
        refine q_iload X dX13_fill_121 7 rfl ?_
        refine q_aload_n X dX13_fill_123 0 rfl ?_
        refine q_get X (kr v9 z9) rfl in_RX13 5 (by decide) tw_1199 rfl rfl dX13_fill_124 ?_
        refine q_get X (kdg v9 z9) rfl in_RX12 3 (by decide) tw_1161 rfl rfl dX13_fill_127 ?_
        refine q_iconst (v := 2) X dX13_fill_130 (by decide) ?_
        refine q_ialdN X 2 (kdha v9 z9) (rfl) (by decide) (by decide) dX13_fill_131 ?_
        refine q_icmp_gt X 213 dX13_fill_132 (by decide) (fun c_2 => absurd ((lo_lt l2.1 l2.2 (by omega) (by omega)).mp (y2 ▸ c_2)) (by omega)) (fun c_2 => ?_)
        refine q_iload_n X dX13_fill_135 1 rfl ?_
        refine q_iload X dX13_fill_136 5 rfl ?_
        refine q_iload X dX13_fill_138 6 rfl ?_
        refine q_iload X dX13_fill_140 7 rfl ?_
        refine q_callSp X (c_pick) Y_X13_pick tw_1281 tw_1282 (by omega) rfl rfl (Nat.le_of_ble_eq_true rfl) dX13_fill_142 ?_
        refine q_istore (lv' := [(9, .int (pck (nI jd) ((aLo σ) 0 + nI (e)) ((aLo σ) 1 + nI (j)) ((aLo σ) 2 + nI (k)))), (0, .ref r), (1, .int (nI jd)), (2, .int x), (3, .int y), (4, .long v), (6, .int ((aLo σ) 0 + nI (e))), (7, .int ((aLo σ) 1 + nI (j))), (8, .int ((aLo σ) 2 + nI (k)))]) X dX13_fill_145 (by decide) rfl ?_
        refine q_iload X dX13_fill_147 0 rfl ?_
        refine q_iload_n X dX13_fill_149 3 rfl ?_
        refine q_icmp_lt X 207 dX13_fill_150 (by decide) (fun c150 => ?_) (fun c150 => ?_)
        · refine q_iinc (v := ((aLo σ) 2 + nI (k + 1))) (lv' := [(8, .int ((aLo σ) 2 + nI (k + 1))), (9, .int (pck (nI jd) ((aLo σ) 0 + nI (e)) ((aLo σ) 1 + nI (j)) ((aLo σ) 2 + nI (k)))), (0, .ref r), (1, .int (nI jd)), (2, .int x), (3, .int y), (4, .long v), (6, .int ((aLo σ) 0 + nI (e))), (7, .int ((aLo σ) 1 + nI (j)))]) X dX13_fill_207 8 rfl (lo_s) (by decide) rfl ?_
          refine q_goto X 121 dX13_fill_210 (by decide) ?_
          refine q_sub [2, 3, 4, 5, 6, 7, 8, 0] rfl ?_
          exact ih (k + 1) _ (by omega) ⟨_, _, rfl, fillD_n (K := c3 (sN (aLo σ) (aHi σ) 1) (sN (aLo σ) (aHi σ) 2) e j k) (by rw [fp9]; exact Or.inl c150) ▸ hT⟩
        · refine q_iload X dX13_fill_153 0 rfl ?_
          refine q_iload_n X dX13_fill_155 4 rfl ?_
          refine q_icmp_le X 162 dX13_fill_156 (by decide) (fun c156 => ?_) (fun c156 => ?_)
          · refine q_aload_n X dX13_fill_162 1 rfl ?_
            refine q_get X (kr v9 z9) rfl in_RX13 5 (by decide) tw_1199 rfl rfl dX13_fill_163 ?_
            refine q_get X (kdg v9 z9) rfl in_RX12 4 (by decide) tw_1163 rfl rfl dX13_fill_166 ?_
            refine q_aload_n X dX13_fill_169 1 rfl ?_
            refine q_get X (kr v9 z9) rfl in_RX13 5 (by decide) tw_1199 rfl rfl dX13_fill_170 ?_
            refine q_iload X dX13_fill_173 6 rfl ?_
            refine q_iload X dX13_fill_175 7 rfl ?_
            refine q_iload X dX13_fill_177 8 rfl ?_
            refine q_callVp X (c_X12_at (kdg v9 z9) (kdla v9 z9) (kdha v9 z9)) Y_X12_at tw_1269 tw_1270 tw_1271 (kdg v9 z9) rfl (by omega) rfl rfl (Nat.le_of_ble_eq_true rfl) dX13_fill_179 ?_
            rw [gAt_lo hW.1.1]
            refine q_lload X dX13_fill_182 5 rfl ?_
            refine q_lastN X (c3 (sN (aLo σ) (aHi σ) 1) (sN (aLo σ) (aHi σ) 2) e j k) (kdva v9 z9) (rfl) (hc9) (by omega) dX13_fill_184 ?_
            have m_3 : (mU (mU (mU M dva (aJ G (aSz σ) (v9))) dza (aZ G (aSz σ) (z9))) dva (aJ G (aSz σ) (vp_updL v9 (c3 (sN (aLo σ) (aHi σ) 1) (sN (aLo σ) (aHi σ) 2) e j k) v))) r = some (oB 13 [.int 0, .ref vA, .ref nA, .ref pA, .ref plA, .ref dg, .int (nI (aV σ).length), .int (nI (aN σ).length), .int (nI (aOf σ)), .int (nI (aBg σ)), .int tk, .long su, .long le, .long gr]) := (mU_n (g_neoa (kr v9 z9) (kdva v9 z9))).trans (kr v9 z9)
            have m_4 : (mU (mU (mU M dva (aJ G (aSz σ) (v9))) dza (aZ G (aSz σ) (z9))) dva (aJ G (aSz σ) (vp_updL v9 (c3 (sN (aLo σ) (aHi σ) 1) (sN (aLo σ) (aHi σ) 2) e j k) v))) dg = some (oB 12 [.int (nI (aM σ)), .int (nI 0), .ref dla, .ref dha, .ref dva, .ref dza]) := (mU_n (g_neoa (kdg v9 z9) (kdva v9 z9))).trans (kdg v9 z9)
            have m_5 : (mU (mU (mU M dva (aJ G (aSz σ) (v9))) dza (aZ G (aSz σ) (z9))) dva (aJ G (aSz σ) (vp_updL v9 (c3 (sN (aLo σ) (aHi σ) 1) (sN (aLo σ) (aHi σ) 2) e j k) v))) dla = some (aI G 3 (aLo σ)) := (mU_n (g_neaa (kdla v9 z9) (kdva v9 z9) (fun z => by simp at z))).trans (kdla v9 z9)
            have m_6 : (mU (mU (mU M dva (aJ G (aSz σ) (v9))) dza (aZ G (aSz σ) (z9))) dva (aJ G (aSz σ) (vp_updL v9 (c3 (sN (aLo σ) (aHi σ) 1) (sN (aLo σ) (aHi σ) 2) e j k) v))) dha = some (aI G 3 (aHi σ)) := (mU_n (g_neaa (kdha v9 z9) (kdva v9 z9) (fun z => by simp at z))).trans (kdha v9 z9)
            have m_7 : (mU (mU (mU M dva (aJ G (aSz σ) (v9))) dza (aZ G (aSz σ) (z9))) dva (aJ G (aSz σ) (vp_updL v9 (c3 (sN (aLo σ) (aHi σ) 1) (sN (aLo σ) (aHi σ) 2) e j k) v))) dva = some (aJ G (aSz σ) (vp_updL v9 (c3 (sN (aLo σ) (aHi σ) 1) (sN (aLo σ) (aHi σ) 2) e j k) v)) := mU_s
            have m_8 : (mU (mU (mU M dva (aJ G (aSz σ) (v9))) dza (aZ G (aSz σ) (z9))) dva (aJ G (aSz σ) (vp_updL v9 (c3 (sN (aLo σ) (aHi σ) 1) (sN (aLo σ) (aHi σ) 2) e j k) v))) dza = some (aZ G (aSz σ) z9) := (mU_n (Ne.symm (dvz))).trans (kdza v9 z9)
            refine q_aload_n X dX13_fill_185 1 rfl ?_
            refine q_get X m_3 rfl in_RX13 5 (by decide) tw_1199 rfl rfl dX13_fill_186 ?_
            refine q_get X m_4 rfl in_RX12 5 (by decide) tw_1165 rfl rfl dX13_fill_189 ?_
            refine q_aload_n X dX13_fill_192 1 rfl ?_
            refine q_get X m_3 rfl in_RX13 5 (by decide) tw_1199 rfl rfl dX13_fill_193 ?_
            refine q_iload X dX13_fill_196 6 rfl ?_
            refine q_iload X dX13_fill_198 7 rfl ?_
            refine q_iload X dX13_fill_200 8 rfl ?_
            refine q_callVp X (c_X12_at m_4 m_5 m_6) Y_X12_at tw_1269 tw_1270 tw_1271 m_4 rfl (by omega) rfl rfl (Nat.le_of_ble_eq_true rfl) dX13_fill_202 ?_
            rw [gAt_lo hW.1.1]
            refine q_iconst (v := 1) X dX13_fill_205 (by decide) ?_
            refine q_zastN X (c3 (sN (aLo σ) (aHi σ) 1) (sN (aLo σ) (aHi σ) 2) e j k) m_8 (rfl) (hc9) (by omega) (Or.inr rfl) dX13_fill_206 ?_
            have m_9 : (mU (mU (mU (mU M dva (aJ G (aSz σ) (v9))) dza (aZ G (aSz σ) (z9))) dva (aJ G (aSz σ) (vp_updL v9 (c3 (sN (aLo σ) (aHi σ) 1) (sN (aLo σ) (aHi σ) 2) e j k) v))) dza (aZ G (aSz σ) (upd z9 (c3 (sN (aLo σ) (aHi σ) 1) (sN (aLo σ) (aHi σ) 2) e j k) 1))) r = some (oB 13 [.int 0, .ref vA, .ref nA, .ref pA, .ref plA, .ref dg, .int (nI (aV σ).length), .int (nI (aN σ).length), .int (nI (aOf σ)), .int (nI (aBg σ)), .int tk, .long su, .long le, .long gr]) := (mU_n (g_neoa m_3 m_8)).trans m_3
            have m_10 : (mU (mU (mU (mU M dva (aJ G (aSz σ) (v9))) dza (aZ G (aSz σ) (z9))) dva (aJ G (aSz σ) (vp_updL v9 (c3 (sN (aLo σ) (aHi σ) 1) (sN (aLo σ) (aHi σ) 2) e j k) v))) dza (aZ G (aSz σ) (upd z9 (c3 (sN (aLo σ) (aHi σ) 1) (sN (aLo σ) (aHi σ) 2) e j k) 1))) dg = some (oB 12 [.int (nI (aM σ)), .int (nI 0), .ref dla, .ref dha, .ref dva, .ref dza]) := (mU_n (g_neoa m_4 m_8)).trans m_4
            have m_11 : (mU (mU (mU (mU M dva (aJ G (aSz σ) (v9))) dza (aZ G (aSz σ) (z9))) dva (aJ G (aSz σ) (vp_updL v9 (c3 (sN (aLo σ) (aHi σ) 1) (sN (aLo σ) (aHi σ) 2) e j k) v))) dza (aZ G (aSz σ) (upd z9 (c3 (sN (aLo σ) (aHi σ) 1) (sN (aLo σ) (aHi σ) 2) e j k) 1))) dla = some (aI G 3 (aLo σ)) := (mU_n ((g_neIZ hcI k6 k9))).trans m_5
            have m_12 : (mU (mU (mU (mU M dva (aJ G (aSz σ) (v9))) dza (aZ G (aSz σ) (z9))) dva (aJ G (aSz σ) (vp_updL v9 (c3 (sN (aLo σ) (aHi σ) 1) (sN (aLo σ) (aHi σ) 2) e j k) v))) dza (aZ G (aSz σ) (upd z9 (c3 (sN (aLo σ) (aHi σ) 1) (sN (aLo σ) (aHi σ) 2) e j k) 1))) dha = some (aI G 3 (aHi σ)) := (mU_n ((g_neIZ hcI k7 k9))).trans m_6
            have m_13 : (mU (mU (mU (mU M dva (aJ G (aSz σ) (v9))) dza (aZ G (aSz σ) (z9))) dva (aJ G (aSz σ) (vp_updL v9 (c3 (sN (aLo σ) (aHi σ) 1) (sN (aLo σ) (aHi σ) 2) e j k) v))) dza (aZ G (aSz σ) (upd z9 (c3 (sN (aLo σ) (aHi σ) 1) (sN (aLo σ) (aHi σ) 2) e j k) 1))) dva = some (aJ G (aSz σ) (vp_updL v9 (c3 (sN (aLo σ) (aHi σ) 1) (sN (aLo σ) (aHi σ) 2) e j k) v)) := (mU_n (dvz)).trans m_7
            have m_14 : (mU (mU (mU (mU M dva (aJ G (aSz σ) (v9))) dza (aZ G (aSz σ) (z9))) dva (aJ G (aSz σ) (vp_updL v9 (c3 (sN (aLo σ) (aHi σ) 1) (sN (aLo σ) (aHi σ) 2) e j k) v))) dza (aZ G (aSz σ) (upd z9 (c3 (sN (aLo σ) (aHi σ) 1) (sN (aLo σ) (aHi σ) 2) e j k) 1))) dza = some (aZ G (aSz σ) (upd z9 (c3 (sN (aLo σ) (aHi σ) 1) (sN (aLo σ) (aHi σ) 2) e j k) 1)) := mU_s
            refine q_iinc (v := ((aLo σ) 2 + nI (k + 1))) (lv' := [(8, .int ((aLo σ) 2 + nI (k + 1))), (9, .int (pck (nI jd) ((aLo σ) 0 + nI (e)) ((aLo σ) 1 + nI (j)) ((aLo σ) 2 + nI (k)))), (0, .ref r), (1, .int (nI jd)), (2, .int x), (3, .int y), (4, .long v), (6, .int ((aLo σ) 0 + nI (e))), (7, .int ((aLo σ) 1 + nI (j)))]) X dX13_fill_207 8 rfl (lo_s) (by decide) rfl ?_
            refine q_goto X 121 dX13_fill_210 (by decide) ?_
            refine q_sub [2, 3, 4, 5, 6, 7, 8, 0] rfl ?_
            exact ih (k + 1) _ (by omega) ⟨_, _, mU_4 dvz, fillD_y (K := c3 (sN (aLo σ) (aHi σ) 1) (sN (aLo σ) (aHi σ) 2) e j k) (by rw [fp9]; exact c150) (by rw [fp9]; exact Int32.not_lt.mpr c156) ▸ gCt_set hT⟩
          · refine q_goto X 207 dX13_fill_159 (by decide) ?_
            refine q_iinc (v := ((aLo σ) 2 + nI (k + 1))) (lv' := [(8, .int ((aLo σ) 2 + nI (k + 1))), (9, .int (pck (nI jd) ((aLo σ) 0 + nI (e)) ((aLo σ) 1 + nI (j)) ((aLo σ) 2 + nI (k)))), (0, .ref r), (1, .int (nI jd)), (2, .int x), (3, .int y), (4, .long v), (6, .int ((aLo σ) 0 + nI (e))), (7, .int ((aLo σ) 1 + nI (j)))]) X dX13_fill_207 8 rfl (lo_s) (by decide) rfl ?_
            refine q_goto X 121 dX13_fill_210 (by decide) ?_
            refine q_sub [2, 3, 4, 5, 6, 7, 8, 0] rfl ?_
            exact ih (k + 1) _ (by omega) ⟨_, _, rfl, fillD_n (K := c3 (sN (aLo σ) (aHi σ) 1) (sN (aLo σ) (aHi σ) 2) e j k) (by rw [fp9]; exact Or.inr (Int32.not_le.mp c156)) ▸ hT⟩
    have L1 : ∀ (e : Nat) (he : e < sN (aLo σ) (aHi σ) 0) (kk : ∀ M2 : gMem, (∃ (v9 : Nat → Int64) (z9 : Nat → Int32), M2 = mU (mU M dva (aJ G (aSz σ) (v9))) dza (aZ G (aSz σ) (z9)) ∧ gCt (aSz σ) v9 z9 (fillD (aLo σ) (aHi σ) (aD σ) (nI jd) x y v (c3 (sN (aLo σ) (aHi σ) 1) (sN (aLo σ) (aHi σ) 2) e (sN (aLo σ) (aHi σ) 1) 0))) → qJ G F (qQ G F (rfP G r cOne none (sp_fill σ (nI jd) x y v))) 10 M2 0 0 219 [(0, .ref r), (1, .int (nI jd)), (2, .int x), (3, .int y), (4, .long v), (6, .int ((aLo σ) 0 + nI (e)))] []) (t j : Nat) (M1 : gMem), j + t = sN (aLo σ) (aHi σ) 1 → (∃ (v9 : Nat → Int64) (z9 : Nat → Int32), M1 = mU (mU M dva (aJ G (aSz σ) (v9))) dza (aZ G (aSz σ) (z9)) ∧ gCt (aSz σ) v9 z9 (fillD (aLo σ) (aHi σ) (aD σ) (nI jd) x y v (c3 (sN (aLo σ) (aHi σ) 1) (sN (aLo σ) (aHi σ) 2) e j 0))) → qJ G F (qQ G F (rfP G r cOne none (sp_fill σ (nI jd) x y v))) 10 M1 0 0 96 [(0, .ref r), (1, .int (nI jd)), (2, .int x), (3, .int y), (4, .long v), (6, .int ((aLo σ) 0 + nI (e))), (7, .int ((aLo σ) 1 + nI (j)))] [] := by
      intro e he kk t
      induction t with
      | zero =>
        intro j M1 hj0 hI
        obtain rfl : j = sN (aLo σ) (aHi σ) 1 := by omega
        have hI0 := hI
        obtain ⟨v9, z9, rfl, hT⟩ := hI
        refine q_iload X dX13_fill_96 6 rfl ?_
        refine q_aload_n X dX13_fill_98 0 rfl ?_
        refine q_get X (kr v9 z9) rfl in_RX13 5 (by decide) tw_1199 rfl rfl dX13_fill_99 ?_
        refine q_get X (kdg v9 z9) rfl in_RX12 3 (by decide) tw_1161 rfl rfl dX13_fill_102 ?_
        refine q_iconst (v := 1) X dX13_fill_105 (by decide) ?_
        refine q_ialdN X 1 (kdha v9 z9) (rfl) (by decide) (by decide) dX13_fill_106 ?_
        refine q_icmp_gt X 219 dX13_fill_107 (by decide) (fun c_15 => ?_) (fun c_15 => absurd (by rw [y1]; exact (lo_lt l1.1 l1.2 (by omega) (by omega)).mpr (by omega)) c_15)
        refine q_sub [0, 1, 2, 3, 4, 5] rfl ?_
        exact kk _ hI0
      | succ t ih =>
        intro j M1 hj0 hI
        have hj : j < sN (aLo σ) (aHi σ) 1 := by omega
        have hI0 := hI
        obtain ⟨v9, z9, rfl, hT⟩ := hI
        refine q_iload X dX13_fill_96 6 rfl ?_
        refine q_aload_n X dX13_fill_98 0 rfl ?_
        refine q_get X (kr v9 z9) rfl in_RX13 5 (by decide) tw_1199 rfl rfl dX13_fill_99 ?_
        refine q_get X (kdg v9 z9) rfl in_RX12 3 (by decide) tw_1161 rfl rfl dX13_fill_102 ?_
        refine q_iconst (v := 1) X dX13_fill_105 (by decide) ?_
        refine q_ialdN X 1 (kdha v9 z9) (rfl) (by decide) (by decide) dX13_fill_106 ?_
        refine q_icmp_gt X 219 dX13_fill_107 (by decide) (fun c_16 => absurd ((lo_lt l1.1 l1.2 (by omega) (by omega)).mp (y1 ▸ c_16)) (by omega)) (fun c_16 => ?_)
        refine q_aload_n X dX13_fill_110 0 rfl ?_
        refine q_get X (kr v9 z9) rfl in_RX13 5 (by decide) tw_1199 rfl rfl dX13_fill_111 ?_
        refine q_get X (kdg v9 z9) rfl in_RX12 2 (by decide) tw_1159 rfl rfl dX13_fill_114 ?_
        refine q_iconst (v := 2) X dX13_fill_117 (by decide) ?_
        refine q_ialdN X 2 (kdla v9 z9) (rfl) (by decide) (by decide) dX13_fill_118 ?_
        rw [show (aLo σ) 2 = (aLo σ) 2 + nI 0 from lo_0.symm]
        refine q_istore (lv' := [(8, .int ((aLo σ) 2 + nI (0))), (0, .ref r), (1, .int (nI jd)), (2, .int x), (3, .int y), (4, .long v), (6, .int ((aLo σ) 0 + nI (e))), (7, .int ((aLo σ) 1 + nI (j)))]) X dX13_fill_119 (by decide) rfl ?_
        refine q_sub [1, 2, 3, 4, 5, 6, 7, 0] rfl ?_
        refine L2 e j he hj (fun M2 hI2 => ?_) (sN (aLo σ) (aHi σ) 2) 0 _ (Nat.zero_add _) hI0
        rw [c3_k] at hI2
        refine q_iinc (v := ((aLo σ) 1 + nI (j + 1))) (lv' := [(7, .int ((aLo σ) 1 + nI (j + 1))), (0, .ref r), (1, .int (nI jd)), (2, .int x), (3, .int y), (4, .long v), (6, .int ((aLo σ) 0 + nI (e)))]) X dX13_fill_213 6 rfl (lo_s) (by decide) rfl ?_
        refine q_goto X 96 dX13_fill_216 (by decide) ?_
        refine q_sub [1, 2, 3, 4, 5, 6, 0] rfl ?_
        exact ih (j + 1) M2 (by omega) hI2
    have L0 : ∀ (kk : ∀ M2 : gMem, (∃ (v9 : Nat → Int64) (z9 : Nat → Int32), M2 = mU (mU M dva (aJ G (aSz σ) (v9))) dza (aZ G (aSz σ) (z9)) ∧ gCt (aSz σ) v9 z9 (fillD (aLo σ) (aHi σ) (aD σ) (nI jd) x y v (c3 (sN (aLo σ) (aHi σ) 1) (sN (aLo σ) (aHi σ) 2) (sN (aLo σ) (aHi σ) 0) 0 0))) → qJ G F (qQ G F (rfP G r cOne none (sp_fill σ (nI jd) x y v))) 10 M2 0 0 225 [(0, .ref r), (1, .int (nI jd)), (2, .int x), (3, .int y), (4, .long v)] []) (t e : Nat) (M1 : gMem), e + t = sN (aLo σ) (aHi σ) 0 → (∃ (v9 : Nat → Int64) (z9 : Nat → Int32), M1 = mU (mU M dva (aJ G (aSz σ) (v9))) dza (aZ G (aSz σ) (z9)) ∧ gCt (aSz σ) v9 z9 (fillD (aLo σ) (aHi σ) (aD σ) (nI jd) x y v (c3 (sN (aLo σ) (aHi σ) 1) (sN (aLo σ) (aHi σ) 2) e 0 0))) → qJ G F (qQ G F (rfP G r cOne none (sp_fill σ (nI jd) x y v))) 10 M1 0 0 71 [(0, .ref r), (1, .int (nI jd)), (2, .int x), (3, .int y), (4, .long v), (6, .int ((aLo σ) 0 + nI (e)))] [] := by
      intro  kk t
      induction t with
      | zero =>
        intro e M1 he0 hI
        obtain rfl : e = sN (aLo σ) (aHi σ) 0 := by omega
        have hI0 := hI
        obtain ⟨v9, z9, rfl, hT⟩ := hI
        refine q_iload X dX13_fill_71 5 rfl ?_
        refine q_aload_n X dX13_fill_73 0 rfl ?_
        refine q_get X (kr v9 z9) rfl in_RX13 5 (by decide) tw_1199 rfl rfl dX13_fill_74 ?_
        refine q_get X (kdg v9 z9) rfl in_RX12 3 (by decide) tw_1161 rfl rfl dX13_fill_77 ?_
        refine q_iconst (v := 0) X dX13_fill_80 (by decide) ?_
        refine q_ialdN X 0 (kdha v9 z9) (rfl) (by decide) (by decide) dX13_fill_81 ?_
        refine q_icmp_gt X 225 dX13_fill_82 (by decide) (fun c_17 => ?_) (fun c_17 => absurd (by rw [y0]; exact (lo_lt l0.1 l0.2 (by omega) (by omega)).mpr (by omega)) c_17)
        refine q_sub [0, 1, 2, 3, 4] rfl ?_
        exact kk _ hI0
      | succ t ih =>
        intro e M1 he0 hI
        have he : e < sN (aLo σ) (aHi σ) 0 := by omega
        have hI0 := hI
        obtain ⟨v9, z9, rfl, hT⟩ := hI
        refine q_iload X dX13_fill_71 5 rfl ?_
        refine q_aload_n X dX13_fill_73 0 rfl ?_
        refine q_get X (kr v9 z9) rfl in_RX13 5 (by decide) tw_1199 rfl rfl dX13_fill_74 ?_
        refine q_get X (kdg v9 z9) rfl in_RX12 3 (by decide) tw_1161 rfl rfl dX13_fill_77 ?_
        refine q_iconst (v := 0) X dX13_fill_80 (by decide) ?_
        refine q_ialdN X 0 (kdha v9 z9) (rfl) (by decide) (by decide) dX13_fill_81 ?_
        refine q_icmp_gt X 225 dX13_fill_82 (by decide) (fun c_18 => absurd ((lo_lt l0.1 l0.2 (by omega) (by omega)).mp (y0 ▸ c_18)) (by omega)) (fun c_18 => ?_)
        refine q_aload_n X dX13_fill_85 0 rfl ?_
        refine q_get X (kr v9 z9) rfl in_RX13 5 (by decide) tw_1199 rfl rfl dX13_fill_86 ?_
        refine q_get X (kdg v9 z9) rfl in_RX12 2 (by decide) tw_1159 rfl rfl dX13_fill_89 ?_
        refine q_iconst (v := 1) X dX13_fill_92 (by decide) ?_
        refine q_ialdN X 1 (kdla v9 z9) (rfl) (by decide) (by decide) dX13_fill_93 ?_
        rw [show (aLo σ) 1 = (aLo σ) 1 + nI 0 from lo_0.symm]
        refine q_istore (lv' := [(7, .int ((aLo σ) 1 + nI (0))), (0, .ref r), (1, .int (nI jd)), (2, .int x), (3, .int y), (4, .long v), (6, .int ((aLo σ) 0 + nI (e)))]) X dX13_fill_94 (by decide) rfl ?_
        refine q_sub [1, 2, 3, 4, 5, 6, 0] rfl ?_
        refine L1 e he (fun M2 hI2 => ?_) (sN (aLo σ) (aHi σ) 1) 0 _ (Nat.zero_add _) hI0
        rw [c3_j] at hI2
        refine q_iinc (v := ((aLo σ) 0 + nI (e + 1))) (lv' := [(6, .int ((aLo σ) 0 + nI (e + 1))), (0, .ref r), (1, .int (nI jd)), (2, .int x), (3, .int y), (4, .long v)]) X dX13_fill_219 5 rfl (lo_s) (by decide) rfl ?_
        refine q_goto X 71 dX13_fill_222 (by decide) ?_
        refine q_sub [1, 2, 3, 4, 5, 0] rfl ?_
        exact ih (e + 1) M2 (by omega) hI2
    refine q_aload_n X dX13_fill_60 0 rfl ?_
    refine q_get X hB.1 rfl in_RX13 5 (by decide) tw_1199 rfl rfl dX13_fill_61 ?_
    refine q_get X k5 rfl in_RX12 2 (by decide) tw_1159 rfl rfl dX13_fill_64 ?_
    refine q_iconst (v := 0) X dX13_fill_67 (by decide) ?_
    refine q_ialdN X 0 k6 (rfl) (by decide) (by decide) dX13_fill_68 ?_
    rw [show (aLo σ) 0 = (aLo σ) 0 + nI 0 from lo_0.symm]
    refine q_istore (lv' := [(6, .int ((aLo σ) 0 + nI (0))), (0, .ref r), (1, .int (nI jd)), (2, .int x), (3, .int y), (4, .long v)]) X dX13_fill_69 (by decide) rfl ?_
    refine q_sub [1, 2, 3, 4, 5, 0] rfl ?_
    exact L0 hfin (sN (aLo σ) (aHi σ) 0) 0 _ (Nat.zero_add _) ⟨dvf, dzf, by rw [mU_id k8, mU_id k9], by rw [c3_0, fillD_0]; exact hB.2.2.2.2.2.1.2.2.2.2.2⟩
  show qJ G F _ 10 M 0 0 0 [(0, .ref r), (1, .int d), (2, .int x), (3, .int y), (4, .long v)] []
  have k5 : M dg = some (oB 12 [.int (nI (aM σ)), .int (nI 0), .ref dla, .ref dha, .ref dva, .ref dza]) := hB.2.2.2.2.2.1.1
  have k6 : M dla = some (aI G 3 (aLo σ)) := hB.2.2.2.2.2.1.2.1
  have k7 : M dha = some (aI G 3 (aHi σ)) := hB.2.2.2.2.2.1.2.2.1
  have k8 : M dva = some (aJ G (aSz σ) dvf) := hB.2.2.2.2.2.1.2.2.2.1
  have k9 : M dza = some (aZ G (aSz σ) dzf) := hB.2.2.2.2.2.1.2.2.2.2.1
  refine q_aload_n X dX13_fill_0 0 rfl ?_
  refine q_iload_n X dX13_fill_1 1 rfl ?_
  refine q_if_lt X 47 dX13_fill_2 (by decide) (fun c2 => ?_) (fun c2 => ?_)
  · refine q_iconst (v := 1) X dX13_fill_47 (by decide) ?_
    refine q_goto X 52 dX13_fill_48 (by decide) ?_
    refine q_iconst (v := 1) X dX13_fill_52 (by decide) ?_
    refine q_callV X (c_fails1 (why := 1) hB.1) Y_X13_fails tw_1246 tw_1248 sel_23 hB.1 rfl (by omega) rfl rfl (Nat.le_of_ble_eq_true rfl) (rc' := 0) (rs' := 0) (by omega) (by omega) dX13_fill_53 (fun v M' hp _ => ?_)
    obtain ⟨rfl, eM⟩ := hp
    have hB119 : rfB G M' r 1 σ vA nA pA plA dg dla dha dva dza dvf dzf vf nf pf tk su le gr := by rw [eM]; exact hB.ro
    clear eM
    generalize M' = M119 at *
    show qJ G F _ 10 M119 0 0 56 [(0, .ref r), (1, .int d), (2, .int x), (3, .int y), (4, .long v)] [.int 1]
    obtain ⟨z_20r, z_201, z_202, z_203, ⟨z_20x, z_204⟩, z_205, z_206, z_207, z_208, z_209, z_2010⟩ := id hB119
    refine q_if_eq X 60 dX13_fill_56 (by decide) (fun c_21 => absurd c_21 (by decide)) (fun c_21 => ?_)
    exact q_vret X hr dX13_fill_59 (rfP_T (by unfold sp_fill; rw [if_pos (sR_no (Or.inl (by unfold sHas; rw [if_pos c2])))]) cOne_1 ⟨vA, nA, pA, plA, dg, dla, dha, dva, dza, dvf, dzf, vf, nf, pf, tk, su, le, gr, hB119⟩)
  · refine q_iload_n X dX13_fill_5 1 rfl ?_
    refine q_aload_n X dX13_fill_6 0 rfl ?_
    refine q_get X hB.1 rfl in_RX13 5 (by decide) tw_1199 rfl rfl dX13_fill_7 ?_
    refine q_get X k5 rfl in_RX12 0 (by decide) tw_1156 rfl rfl dX13_fill_10 ?_
    refine q_icmp_ge X 47 dX13_fill_13 (by decide) (fun c13 => ?_) (fun c13 => ?_)
    · refine q_iconst (v := 1) X dX13_fill_47 (by decide) ?_
      refine q_goto X 52 dX13_fill_48 (by decide) ?_
      refine q_iconst (v := 1) X dX13_fill_52 (by decide) ?_
      refine q_callV X (c_fails1 (why := 1) hB.1) Y_X13_fails tw_1246 tw_1248 sel_23 hB.1 rfl (by omega) rfl rfl (Nat.le_of_ble_eq_true rfl) (rc' := 0) (rs' := 0) (by omega) (by omega) dX13_fill_53 (fun v M' hp _ => ?_)
      obtain ⟨rfl, eM⟩ := hp
      have hB122 : rfB G M' r 1 σ vA nA pA plA dg dla dha dva dza dvf dzf vf nf pf tk su le gr := by rw [eM]; exact hB.ro
      clear eM
      generalize M' = M122 at *
      show qJ G F _ 10 M122 0 0 56 [(0, .ref r), (1, .int d), (2, .int x), (3, .int y), (4, .long v)] [.int 1]
      obtain ⟨z_23r, z_231, z_232, z_233, ⟨z_23x, z_234⟩, z_235, z_236, z_237, z_238, z_239, z_2310⟩ := id hB122
      refine q_if_eq X 60 dX13_fill_56 (by decide) (fun c_24 => absurd c_24 (by decide)) (fun c_24 => ?_)
      exact q_vret X hr dX13_fill_59 (rfP_T (by unfold sp_fill; rw [if_pos (sR_no (Or.inl (by unfold sHas; rw [if_neg c2, if_pos c13])))]) cOne_1 ⟨vA, nA, pA, plA, dg, dla, dha, dva, dza, dvf, dzf, vf, nf, pf, tk, su, le, gr, hB122⟩)
    · obtain ⟨jd, hjd, rfl⟩ := sHas_in hW.1.1.2.1 (show ¬ sHas (nI (aM σ)) d = 0 by unfold sHas; rw [if_neg c2, if_neg c13]; decide)
      have hjd3 : jd < 3 := Nat.lt_of_lt_of_le hjd hW.1.1.2.1
      refine q_iload_n X dX13_fill_16 2 rfl ?_
      refine q_iload_n X dX13_fill_17 3 rfl ?_
      refine q_icmp_gt X 47 dX13_fill_18 (by decide) (fun c18 => ?_) (fun c18 => ?_)
      · refine q_iconst (v := 1) X dX13_fill_47 (by decide) ?_
        refine q_goto X 52 dX13_fill_48 (by decide) ?_
        refine q_iconst (v := 1) X dX13_fill_52 (by decide) ?_
        refine q_callV X (c_fails1 (why := 1) hB.1) Y_X13_fails tw_1246 tw_1248 sel_23 hB.1 rfl (by omega) rfl rfl (Nat.le_of_ble_eq_true rfl) (rc' := 0) (rs' := 0) (by omega) (by omega) dX13_fill_53 (fun v M' hp _ => ?_)
        obtain ⟨rfl, eM⟩ := hp
        have hB125 : rfB G M' r 1 σ vA nA pA plA dg dla dha dva dza dvf dzf vf nf pf tk su le gr := by rw [eM]; exact hB.ro
        clear eM
        generalize M' = M125 at *
        show qJ G F _ 10 M125 0 0 56 [(0, .ref r), (1, .int (nI jd)), (2, .int x), (3, .int y), (4, .long v)] [.int 1]
        obtain ⟨z_26r, z_261, z_262, z_263, ⟨z_26x, z_264⟩, z_265, z_266, z_267, z_268, z_269, z_2610⟩ := id hB125
        refine q_if_eq X 60 dX13_fill_56 (by decide) (fun c_27 => absurd c_27 (by decide)) (fun c_27 => ?_)
        exact q_vret X hr dX13_fill_59 (rfP_T (by unfold sp_fill; rw [if_pos (sR_no (Or.inr (Or.inl c18)))]) cOne_1 ⟨vA, nA, pA, plA, dg, dla, dha, dva, dza, dvf, dzf, vf, nf, pf, tk, su, le, gr, hB125⟩)
      · refine q_iload_n X dX13_fill_21 2 rfl ?_
        refine q_aload_n X dX13_fill_22 0 rfl ?_
        refine q_get X hB.1 rfl in_RX13 5 (by decide) tw_1199 rfl rfl dX13_fill_23 ?_
        refine q_get X k5 rfl in_RX12 2 (by decide) tw_1159 rfl rfl dX13_fill_26 ?_
        refine q_iload_n X dX13_fill_29 1 rfl ?_
        refine q_ialdN X jd k6 (rfl) (hjd3) (by decide) dX13_fill_30 ?_
        refine q_icmp_lt X 47 dX13_fill_31 (by decide) (fun c31 => ?_) (fun c31 => ?_)
        · refine q_iconst (v := 1) X dX13_fill_47 (by decide) ?_
          refine q_goto X 52 dX13_fill_48 (by decide) ?_
          refine q_iconst (v := 1) X dX13_fill_52 (by decide) ?_
          refine q_callV X (c_fails1 (why := 1) hB.1) Y_X13_fails tw_1246 tw_1248 sel_23 hB.1 rfl (by omega) rfl rfl (Nat.le_of_ble_eq_true rfl) (rc' := 0) (rs' := 0) (by omega) (by omega) dX13_fill_53 (fun v M' hp _ => ?_)
          obtain ⟨rfl, eM⟩ := hp
          have hB128 : rfB G M' r 1 σ vA nA pA plA dg dla dha dva dza dvf dzf vf nf pf tk su le gr := by rw [eM]; exact hB.ro
          clear eM
          generalize M' = M128 at *
          show qJ G F _ 10 M128 0 0 56 [(0, .ref r), (1, .int (nI jd)), (2, .int x), (3, .int y), (4, .long v)] [.int 1]
          obtain ⟨z_29r, z_291, z_292, z_293, ⟨z_29x, z_294⟩, z_295, z_296, z_297, z_298, z_299, z_2910⟩ := id hB128
          refine q_if_eq X 60 dX13_fill_56 (by decide) (fun c_30 => absurd c_30 (by decide)) (fun c_30 => ?_)
          exact q_vret X hr dX13_fill_59 (rfP_T (by unfold sp_fill; rw [if_pos (sR_no (Or.inr (Or.inr (Or.inl (by rw [s3_N jd hjd3 rfl]; exact c31)))))]) cOne_1 ⟨vA, nA, pA, plA, dg, dla, dha, dva, dza, dvf, dzf, vf, nf, pf, tk, su, le, gr, hB128⟩)
        · refine q_iload_n X dX13_fill_34 3 rfl ?_
          refine q_aload_n X dX13_fill_35 0 rfl ?_
          refine q_get X hB.1 rfl in_RX13 5 (by decide) tw_1199 rfl rfl dX13_fill_36 ?_
          refine q_get X k5 rfl in_RX12 3 (by decide) tw_1161 rfl rfl dX13_fill_39 ?_
          refine q_iload_n X dX13_fill_42 1 rfl ?_
          refine q_ialdN X jd k7 (rfl) (hjd3) (by decide) dX13_fill_43 ?_
          refine q_icmp_le X 51 dX13_fill_44 (by decide) (fun c44 => ?_) (fun c44 => ?_)
          · refine q_iconst (v := 0) X dX13_fill_51 (by decide) ?_
            refine q_iconst (v := 1) X dX13_fill_52 (by decide) ?_
            refine q_callV X (c_fails0 (why := 1) hB.1) Y_X13_fails tw_1246 tw_1248 sel_23 hB.1 rfl (by omega) rfl rfl (Nat.le_of_ble_eq_true rfl) (rc' := 0) (rs' := 0) (by omega) (by omega) dX13_fill_53 (fun v M' hp _ => ?_)
            obtain ⟨rfl, eM⟩ := hp
            have hB131 : rfB G M' r 0 σ vA nA pA plA dg dla dha dva dza dvf dzf vf nf pf tk su le gr := by rw [eM]; exact hB.ro
            clear eM
            generalize M' = M131 at *
            show qJ G F _ 10 M131 0 0 56 [(0, .ref r), (1, .int (nI jd)), (2, .int x), (3, .int y), (4, .long v)] [.int 0]
            obtain ⟨z_32r, z_321, z_322, z_323, ⟨z_32x, z_324⟩, z_325, z_326, z_327, z_328, z_329, z_3210⟩ := id hB131
            refine q_if_eq X 60 dX13_fill_56 (by decide) (fun c_33 => ?_) (fun c_33 => absurd (by decide) c_33)
            refine q_sub [0, 1, 2, 3, 4] rfl ?_
            exact tail _ jd hB131 hjd3 (by unfold sp_fill; rw [if_neg (sR_ok (show ¬ sHas (nI (aM σ)) (nI jd) = 0 by unfold sHas; rw [if_neg c2, if_neg c13]; decide) c18 (by rw [s3_N jd hjd3 rfl]; exact c31) (by rw [s3_N jd hjd3 rfl]; exact Int32.not_lt.mpr c44))])
          · refine q_iconst (v := 1) X dX13_fill_47 (by decide) ?_
            refine q_goto X 52 dX13_fill_48 (by decide) ?_
            refine q_iconst (v := 1) X dX13_fill_52 (by decide) ?_
            refine q_callV X (c_fails1 (why := 1) hB.1) Y_X13_fails tw_1246 tw_1248 sel_23 hB.1 rfl (by omega) rfl rfl (Nat.le_of_ble_eq_true rfl) (rc' := 0) (rs' := 0) (by omega) (by omega) dX13_fill_53 (fun v M' hp _ => ?_)
            obtain ⟨rfl, eM⟩ := hp
            have hB134 : rfB G M' r 1 σ vA nA pA plA dg dla dha dva dza dvf dzf vf nf pf tk su le gr := by rw [eM]; exact hB.ro
            clear eM
            generalize M' = M134 at *
            show qJ G F _ 10 M134 0 0 56 [(0, .ref r), (1, .int (nI jd)), (2, .int x), (3, .int y), (4, .long v)] [.int 1]
            obtain ⟨z_35r, z_351, z_352, z_353, ⟨z_35x, z_354⟩, z_355, z_356, z_357, z_358, z_359, z_3510⟩ := id hB134
            refine q_if_eq X 60 dX13_fill_56 (by decide) (fun c_36 => absurd c_36 (by decide)) (fun c_36 => ?_)
            exact q_vret X hr dX13_fill_59 (rfP_T (by unfold sp_fill; rw [if_pos (sR_no (Or.inr (Or.inr (Or.inr (by rw [s3_N jd hjd3 rfl]; exact Int32.not_le.mp c44)))))]) cOne_1 ⟨vA, nA, pA, plA, dg, dla, dha, dva, dza, dvf, dzf, vf, nf, pf, tk, su, le, gr, hB134⟩)
