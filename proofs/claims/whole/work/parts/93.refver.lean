/-! the reference: version -/
theorem vr_no {σ : sA} {i what : Int32} (h : what < 0 ∨ ¬ what ≤ 3) : sp_version σ i what = oT eIA σ := by
  have n0 : ¬ what = 0 := fun e => by subst e; rcases h with h | h; exact absurd h (by decide); exact h (by decide)
  have n1 : ¬ what = 1 := fun e => by subst e; rcases h with h | h; exact absurd h (by decide); exact h (by decide)
  have n2 : ¬ what = 2 := fun e => by subst e; rcases h with h | h; exact absurd h (by decide); exact h (by decide)
  have n3 : ¬ what = 3 := fun e => by subst e; rcases h with h | h; exact absurd h (by decide); exact h (by decide)
  unfold sp_version
  cases vAt σ i with
  | none => rfl
  | some c => show (if what = 0 then _ else _) = _; rw [if_neg n0, if_neg n1, if_neg n2, if_neg n3]
theorem is_2 {what : Int32} (a : ¬ what < 0) (b : what ≤ 3) (n0 : ¬ what = 0) (n3 : ¬ what = 3) (n1 : ¬ what = 1) : what = 2 := by
  obtain ⟨r, hr, rfl⟩ := op_in (k := 4) (by decide) a (fun z => absurd (Int32.le_trans z b) (by decide))
  rcases (show r = 0 ∨ r = 1 ∨ r = 2 ∨ r = 3 by omega) with rfl | rfl | rfl | rfl
  · exact absurd rfl n0
  · exact absurd rfl n1
  · rfl
  · exact absurd rfl n3
theorem vr_0 {σ : sA} {i what : Int32} {c : (Nat → Option Int64) × Nat} (hv : vAt σ i = some c) (hi : i.toNatClampNeg = 0) (a1 : ¬ what < 0) (a2 : what ≤ 3) (d0 : ¬ what = 0) (d3 : ¬ what = 3) : sp_version σ i what = oI 0 σ := by
  unfold sp_version
  rw [hv]
  show (if what = 0 then _ else _) = _
  rw [hi, if_neg d0]
  by_cases d1 : what = 1
  · rw [if_pos d1]; rfl
  · rw [if_neg d1, if_pos (is_2 a1 a2 d0 d3 d1)]; rfl

set_option maxRecDepth 20000 in
theorem r_version {l : Launch} {G : gV} {M : gMem} {r : Nat} {e : Int32} {σ : sA} (hW : gvW σ) (hR : isRF G M r e σ) {i what : Int32} : qC l G yX13_version cX13_version 10 (some .int) 6 0 0 [.ref r, .int i, .int what] M (rfP G r cOne (some (.int 0)) (sp_version σ i what)) := by
  refine qC_of (by decide +kernel) (Nat.le_of_ble_eq_true rfl) (fun F hF X hr hn => ?_)
  subst hF
  have X : qX G F cX13_version 10 RX13 6 := X
  obtain ⟨vA, nA, pA, plA, dg, dla, dha, dva, dza, dvf, dzf, vf, nf, pf, tk, su, le, gr, hB⟩ := hR
  have hl150 := hW.1.2.2.2.2.1
  have hl41 := hW.1.2.2.2.1
  have hz := hW.1.sz
  have hcI := cI_ne X
  have tail : ∀ (M : gMem) (jv : Nat) (c : (Nat → Option Int64) × Nat) (hB : rfB G M r 0 σ vA nA pA plA dg dla dha dva dza dvf dzf vf nf pf tk su le gr) (hc : (aV σ)[jv]? = some c) (hvr : vAt σ (nI jv) = some c) (hjv : jv < (aV σ).length) (a1 : ¬ what < 0) (a2 : what ≤ 3), qJ G F (qQ G F (rfP G r cOne (some (.int 0)) (sp_version σ (nI jv) what))) 10 M 0 0 32 [(0, .ref r), (1, .int (nI jv)), (2, .int what)] [] := by
    intro M jv c hB hc hvr hjv a1 a2
    have hj41 : jv < 41 := by omega
    obtain ⟨o, hvfo, ⟨ola, oha, ova, oza, ovf, ozf, hO, bo1, bo2, bo3, bo4⟩, hpar⟩ := hB.2.2.2.2.2.2.2.1 jv c hc
    have hj31 : (nI jv).toNatClampNeg = jv := nI_nn (by omega)
    have hok := hW.1.1
    have hOn : M o = some (oB 12 [.int (nI (aM σ)), .int (nI 0), .ref ola, .ref oha, .ref ova, .ref oza]) := hO.1
    have hOl : M ola = some (aI G 3 (aLo σ)) := hO.2.1
    have hOh : M oha = some (aI G 3 (aHi σ)) := hO.2.2.1
    have hOv : M ova = some (aJ G (aSz σ) ovf) := hO.2.2.2.1
    have hOz : M oza = some (aZ G (aSz σ) ozf) := hO.2.2.2.2.1
    refine q_aload_n X dX13_version_32 0 rfl ?_
    refine q_get X hB.1 rfl in_RX13 1 (by decide) tw_1195 rfl rfl dX13_version_33 ?_
    refine q_iload_n X dX13_version_36 1 rfl ?_
    refine q_gald X jv hB.2.1 (rfl) (hj41) (by decide) hvfo dX13_version_37 ?_
    refine q_astore_n (lv' := [(3, .ref o), (0, .ref r), (1, .int (nI jv)), (2, .int what)]) X dX13_version_38 (by decide) rfl ?_
    refine q_iload_n X dX13_version_39 3 rfl ?_
    refine q_if_ne X 50 dX13_version_40 (by decide) (fun d0 => ?_) (fun d0 => ?_)
    · refine q_iload_n X dX13_version_50 3 rfl ?_
      refine q_iconst (v := 3) X dX13_version_51 (by decide) ?_
      refine q_icmp_ne X 60 dX13_version_52 (by decide) (fun d3 => ?_) (fun d3 => ?_)
      · refine q_iload_n X dX13_version_60 2 rfl ?_
        refine q_if_ne X 66 dX13_version_61 (by decide) (fun d61 => ?_) (fun d61 => ?_)
        · have jn0 : ¬ jv = 0 := fun z => d61 (by rw [z]; rfl)
          have hcp2 := (hW.1.2.2.2.2.2.2.2 jv c hc).1 (by omega)
          obtain ⟨cp, hcp⟩ : ∃ cp, (aV σ)[c.2]? = some cp := ⟨(aV σ)[c.2], List.getElem?_eq_some_iff.mpr ⟨by omega, rfl⟩⟩
          obtain ⟨s, hvfs, ⟨sla, sha, sva, sza, svf, szf, hOs, bs1, bs2, bs3, bs4⟩, hpars⟩ := hB.2.2.2.2.2.2.2.1 c.2 cp hcp
          have hSn : M s = some (oB 12 [.int (nI (aM σ)), .int (nI 0), .ref sla, .ref sha, .ref sva, .ref sza]) := hOs.1
          have hSv : M sva = some (aJ G (aSz σ) svf) := hOs.2.2.2.1
          have hSz : M sza = some (aZ G (aSz σ) szf) := hOs.2.2.2.2.1
          have e2 : pf jv = nI c.2 := by rw [hpar]; unfold aPar; rw [if_neg jn0]
          have encE : aEnc σ jv = encS c.1 cp.1 (aCs σ) (aCN σ) := by unfold aEnc; rw [if_neg jn0, hc]; show (match (aV σ)[c.2]? with | none => (0, 0) | some p => encS c.1 p.1 (aCs σ) (aCN σ)) = _; rw [hcp]
          have NA0 := hok.N (d := 0) (by decide)
          have h160 := hW.1.2.1 0 (by decide)
          have b0 : ∀ t, t < (n4 (sN (aLo σ) (aHi σ) 0)) ↔ 4 * t < (sN (aLo σ) (aHi σ) 0) := fun t => by unfold n4; omega
          have z0 : 4 * (n4 (sN (aLo σ) (aHi σ) 0)) < 100 := by unfold n4; omega
          have eL0 := hok.L (d := 0) (by decide)
          have NA1 := hok.N (d := 1) (by decide)
          have h161 := hW.1.2.1 1 (by decide)
          have b1 : ∀ t, t < (n4 (sN (aLo σ) (aHi σ) 1)) ↔ 4 * t < (sN (aLo σ) (aHi σ) 1) := fun t => by unfold n4; omega
          have z1 : 4 * (n4 (sN (aLo σ) (aHi σ) 1)) < 100 := by unfold n4; omega
          have eL1 := hok.L (d := 1) (by decide)
          have NA2 := hok.N (d := 2) (by decide)
          have h162 := hW.1.2.1 2 (by decide)
          have b2 : ∀ t, t < (n4 (sN (aLo σ) (aHi σ) 2)) ↔ 4 * t < (sN (aLo σ) (aHi σ) 2) := fun t => by unfold n4; omega
          have z2 : 4 * (n4 (sN (aLo σ) (aHi σ) 2)) < 100 := by unfold n4; omega
          have eL2 := hok.L (d := 2) (by decide)
          have hCN : aCN σ ≤ 64 := Nat.le_trans (Nat.mul_le_mul (Nat.mul_le_mul (show (n4 (sN (aLo σ) (aHi σ) 0)) ≤ 4 by unfold n4; omega) (show (n4 (sN (aLo σ) (aHi σ) 1)) ≤ 4 by unfold n4; omega)) (show (n4 (sN (aLo σ) (aHi σ) 2)) ≤ 4 by unfold n4; omega)) (by decide)
          have hfin : qJ G F (qQ G F (rfP G r cOne (some (.int 0)) (sp_version σ (nI jv) what))) 10 M 0 0 178 [(0, .ref r), (1, .int (nI jv)), (2, .int what), (3, .ref o), (4, .ref s), (5, .int (nI (encS c.1 cp.1 (aCs σ) (c3 (n4 (sN (aLo σ) (aHi σ) 1)) (n4 (sN (aLo σ) (aHi σ) 2)) (n4 (sN (aLo σ) (aHi σ) 0)) 0 0)).1)), (6, .int (nI (encS c.1 cp.1 (aCs σ) (c3 (n4 (sN (aLo σ) (aHi σ) 1)) (n4 (sN (aLo σ) (aHi σ) 2)) (n4 (sN (aLo σ) (aHi σ) 0)) 0 0)).2))] [] := by
            rw [c3_A, show (n4 (sN (aLo σ) (aHi σ) 0)) * (n4 (sN (aLo σ) (aHi σ) 1)) * (n4 (sN (aLo σ) (aHi σ) 2)) = aCN σ from rfl, ← encE]
            refine q_iload_n X dX13_version_178 2 rfl ?_
            refine q_iconst (v := 1) X dX13_version_179 (by decide) ?_
            refine q_icmp_ne X 188 dX13_version_180 (by decide) (fun d1 => ?_) (fun d1 => ?_)
            · refine q_iload X dX13_version_188 6 rfl ?_
              exact q_iret X hr dX13_version_190 (rfP_K (by unfold sp_version; rw [hvr]; show (if what = 0 then _ else _) = _; rw [hj31, if_neg d0, if_neg d1, if_pos (is_2 a1 a2 d0 d3 d1)]; rfl) ⟨vA, nA, pA, plA, dg, dla, dha, dva, dza, dvf, dzf, vf, nf, pf, tk, su, le, gr, hB⟩)
            · refine q_iload X dX13_version_183 5 rfl ?_
              refine q_goto X 190 dX13_version_185 (by decide) ?_
              exact q_iret X hr dX13_version_190 (rfP_K (by unfold sp_version; rw [hvr]; show (if what = 0 then _ else _) = _; rw [hj31, if_neg d0, if_pos d1]; rfl) ⟨vA, nA, pA, plA, dg, dla, dha, dva, dza, dvf, dzf, vf, nf, pf, tk, su, le, gr, hB⟩)
          have L2 : ∀ (e j : Nat) (he : e < (n4 (sN (aLo σ) (aHi σ) 0))) (hj : j < (n4 (sN (aLo σ) (aHi σ) 1))) (kk : qJ G F (qQ G F (rfP G r cOne (some (.int 0)) (sp_version σ (nI jv) what))) 10 M 0 0 166 [(0, .ref r), (1, .int (nI jv)), (2, .int what), (3, .ref o), (4, .ref s), (5, .int (nI (encS c.1 cp.1 (aCs σ) (c3 (n4 (sN (aLo σ) (aHi σ) 1)) (n4 (sN (aLo σ) (aHi σ) 2)) e j (n4 (sN (aLo σ) (aHi σ) 2)))).1)), (6, .int (nI (encS c.1 cp.1 (aCs σ) (c3 (n4 (sN (aLo σ) (aHi σ) 1)) (n4 (sN (aLo σ) (aHi σ) 2)) e j (n4 (sN (aLo σ) (aHi σ) 2)))).2)), (7, .int (nI (4 * e))), (8, .int (nI (4 * j)))] []) (t k : Nat), k + t = n4 (sN (aLo σ) (aHi σ) 2) → qJ G F (qQ G F (rfP G r cOne (some (.int 0)) (sp_version σ (nI jv) what))) 10 M 0 0 114 [(0, .ref r), (1, .int (nI jv)), (2, .int what), (3, .ref o), (4, .ref s), (5, .int (nI (encS c.1 cp.1 (aCs σ) (c3 (n4 (sN (aLo σ) (aHi σ) 1)) (n4 (sN (aLo σ) (aHi σ) 2)) e j k)).1)), (6, .int (nI (encS c.1 cp.1 (aCs σ) (c3 (n4 (sN (aLo σ) (aHi σ) 1)) (n4 (sN (aLo σ) (aHi σ) 2)) e j k)).2)), (7, .int (nI (4 * e))), (8, .int (nI (4 * j))), (9, .int (nI (4 * k)))] [] := by
            intro e j he hj kk t
            induction t with
            | zero =>
              intro k hk0
              obtain rfl : k = n4 (sN (aLo σ) (aHi σ) 2) := by omega
              refine q_iload X dX13_version_114 9 rfl ?_
              refine q_aload_n X dX13_version_116 3 rfl ?_
              refine q_iconst (v := 2) X dX13_version_117 (by decide) ?_
              refine q_callVp X (c_X12_size hOn hOl hOh 2 (by decide) (by decide)) Y_X12_size tw_1314 tw_1188 tw_1189 hOn rfl (by omega) rfl rfl (Nat.le_of_ble_eq_true rfl) dX13_version_118 ?_
              rw [eL2]
              refine q_icmp_ge X 166 dX13_version_121 (by decide) (fun c_1 => ?_) (fun c_1 => absurd (nI_le (show (sN (aLo σ) (aHi σ) 2) ≤ 4 * (n4 (sN (aLo σ) (aHi σ) 2)) by unfold n4; omega) (by omega)) c_1)
              refine q_sub [0, 1, 2, 3, 4, 5, 6, 7, 8] rfl ?_
              exact kk
            | succ t ih =>
              intro k hk0
              have hk : k < n4 (sN (aLo σ) (aHi σ) 2) := by omega
              have hcb : c3 (n4 (sN (aLo σ) (aHi σ) 1)) (n4 (sN (aLo σ) (aHi σ) 2)) e j k < aCN σ := c3_lt he hj hk
              have hcs : (aCs σ)[c3 (n4 (sN (aLo σ) (aHi σ) 1)) (n4 (sN (aLo σ) (aHi σ) 2)) e j k]? = some ((ckN (sN (aLo σ) (aHi σ) 0) (sN (aLo σ) (aHi σ) 1) (sN (aLo σ) (aHi σ) 2) (4 * e) (4 * j) (4 * k)), (ckP (sN (aLo σ) (aHi σ) 1) (sN (aLo σ) (aHi σ) 2) (4 * e) (4 * j) (4 * k) (ckW (sN (aLo σ) (aHi σ) 1) (4 * j)) (ckW (sN (aLo σ) (aHi σ) 2) (4 * k)))) := by rw [aCs_at hcb, chW_c3 hj hk, chP_c3 hj hk]
              refine q_iload X dX13_version_114 9 rfl ?_
              refine q_aload_n X dX13_version_116 3 rfl ?_
              refine q_iconst (v := 2) X dX13_version_117 (by decide) ?_
              refine q_callVp X (c_X12_size hOn hOl hOh 2 (by decide) (by decide)) Y_X12_size tw_1314 tw_1188 tw_1189 hOn rfl (by omega) rfl rfl (Nat.le_of_ble_eq_true rfl) dX13_version_118 ?_
              rw [eL2]
              refine q_icmp_ge X 166 dX13_version_121 (by decide) (fun c_2 => absurd c_2 (nI_ge ((b2 k).mp hk) (by omega))) (fun c_2 => ?_)
              refine q_aload_n X dX13_version_124 3 rfl ?_
              refine q_aload X dX13_version_125 4 rfl ?_
              refine q_iload X dX13_version_127 7 rfl ?_
              refine q_iload X dX13_version_129 8 rfl ?_
              refine q_iload X dX13_version_131 9 rfl ?_
              refine q_callSp X (c_changed hOn hOl hOh hOv hOz hO.2.2.2.2.2 hok rfl hz hSn hSv hSz hOs.2.2.2.2.2 ((b0 e).mp he) ((b1 j).mp hj) ((b2 k).mp hk)) Y_X13_changed tw_1315 tw_1316 (by omega) rfl rfl (Nat.le_of_ble_eq_true rfl) dX13_version_133 ?_
              refine q_if_ne X 142 dX13_version_136 (by decide) (fun k1 => ?_) (fun k1 => ?_)
              · refine q_iinc (v := (nI ((encS c.1 cp.1 (aCs σ) (c3 (n4 (sN (aLo σ) (aHi σ) 1)) (n4 (sN (aLo σ) (aHi σ) 2)) e j k)).1 + 1))) (lv' := [(5, .int (nI ((encS c.1 cp.1 (aCs σ) (c3 (n4 (sN (aLo σ) (aHi σ) 1)) (n4 (sN (aLo σ) (aHi σ) 2)) e j k)).1 + 1))), (0, .ref r), (1, .int (nI jv)), (2, .int what), (3, .ref o), (4, .ref s), (6, .int (nI (encS c.1 cp.1 (aCs σ) (c3 (n4 (sN (aLo σ) (aHi σ) 1)) (n4 (sN (aLo σ) (aHi σ) 2)) e j k)).2)), (7, .int (nI (4 * e))), (8, .int (nI (4 * j))), (9, .int (nI (4 * k)))]) X dX13_version_142 5 rfl (nI_1 _) (by decide) rfl ?_
                refine q_iload X dX13_version_145 6 rfl ?_
                refine q_aload_n X dX13_version_147 4 rfl ?_
                refine q_iload X dX13_version_148 7 rfl ?_
                refine q_iload X dX13_version_150 8 rfl ?_
                refine q_iload X dX13_version_152 9 rfl ?_
                refine q_callSp X (c_octets hOn hOl hOh hOv hOz hO.2.2.2.2.2 hok rfl hz ((b0 e).mp he) ((b1 j).mp hj) ((b2 k).mp hk)) Y_X13_octets tw_1325 tw_1326 (by omega) rfl rfl (Nat.le_of_ble_eq_true rfl) dX13_version_154 ?_
                refine q_iadd X dX13_version_157 ?_
                rw [nI_add]
                refine q_istore (lv' := [(6, .int (nI ((encS c.1 cp.1 (aCs σ) (c3 (n4 (sN (aLo σ) (aHi σ) 1)) (n4 (sN (aLo σ) (aHi σ) 2)) e j k)).2 + (octS c.1 (ckP (sN (aLo σ) (aHi σ) 1) (sN (aLo σ) (aHi σ) 2) (4 * e) (4 * j) (4 * k) (ckW (sN (aLo σ) (aHi σ) 1) (4 * j)) (ckW (sN (aLo σ) (aHi σ) 2) (4 * k))) (ckN (sN (aLo σ) (aHi σ) 0) (sN (aLo σ) (aHi σ) 1) (sN (aLo σ) (aHi σ) 2) (4 * e) (4 * j) (4 * k))).1))), (5, .int (nI ((encS c.1 cp.1 (aCs σ) (c3 (n4 (sN (aLo σ) (aHi σ) 1)) (n4 (sN (aLo σ) (aHi σ) 2)) e j k)).1 + 1))), (0, .ref r), (1, .int (nI jv)), (2, .int what), (3, .ref o), (4, .ref s), (7, .int (nI (4 * e))), (8, .int (nI (4 * j))), (9, .int (nI (4 * k)))]) X dX13_version_158 (by decide) rfl ?_
                refine q_iinc (v := (nI (4 * (k + 1)))) (lv' := [(9, .int (nI (4 * (k + 1)))), (6, .int (nI ((encS c.1 cp.1 (aCs σ) (c3 (n4 (sN (aLo σ) (aHi σ) 1)) (n4 (sN (aLo σ) (aHi σ) 2)) e j k)).2 + (octS c.1 (ckP (sN (aLo σ) (aHi σ) 1) (sN (aLo σ) (aHi σ) 2) (4 * e) (4 * j) (4 * k) (ckW (sN (aLo σ) (aHi σ) 1) (4 * j)) (ckW (sN (aLo σ) (aHi σ) 2) (4 * k))) (ckN (sN (aLo σ) (aHi σ) 0) (sN (aLo σ) (aHi σ) 1) (sN (aLo σ) (aHi σ) 2) (4 * e) (4 * j) (4 * k))).1))), (5, .int (nI ((encS c.1 cp.1 (aCs σ) (c3 (n4 (sN (aLo σ) (aHi σ) 1)) (n4 (sN (aLo σ) (aHi σ) 2)) e j k)).1 + 1))), (0, .ref r), (1, .int (nI jv)), (2, .int what), (3, .ref o), (4, .ref s), (7, .int (nI (4 * e))), (8, .int (nI (4 * j)))]) X dX13_version_160 9 rfl (nI_add _ 4) (by decide) rfl ?_
                refine q_goto X 114 dX13_version_163 (by decide) ?_
                refine q_sub [3, 4, 5, 6, 7, 2, 1, 8, 9, 0] rfl ?_
                have hs := (show encS c.1 cp.1 (aCs σ) (c3 (n4 (sN (aLo σ) (aHi σ) 1)) (n4 (sN (aLo σ) (aHi σ) 2)) e j k + 1) = _ from encS_n hcs (by cases h7 : sameB c.1 cp.1 (ckP (sN (aLo σ) (aHi σ) 1) (sN (aLo σ) (aHi σ) 2) (4 * e) (4 * j) (4 * k) (ckW (sN (aLo σ) (aHi σ) 1) (4 * j)) (ckW (sN (aLo σ) (aHi σ) 2) (4 * k))) (ckN (sN (aLo σ) (aHi σ) 0) (sN (aLo σ) (aHi σ) 1) (sN (aLo σ) (aHi σ) 2) (4 * e) (4 * j) (4 * k)) with | false => rfl | true => have k2 : ¬ bI (!sameB c.1 cp.1 (ckP (sN (aLo σ) (aHi σ) 1) (sN (aLo σ) (aHi σ) 2) (4 * e) (4 * j) (4 * k) (ckW (sN (aLo σ) (aHi σ) 1) (4 * j)) (ckW (sN (aLo σ) (aHi σ) 2) (4 * k))) (ckN (sN (aLo σ) (aHi σ) 0) (sN (aLo σ) (aHi σ) 1) (sN (aLo σ) (aHi σ) 2) (4 * e) (4 * j) (4 * k))) = 0 := k1; rw [h7] at k2; exact absurd rfl k2))
                have G5 := ih (k + 1) (by omega)
                rw [show c3 (n4 (sN (aLo σ) (aHi σ) 1)) (n4 (sN (aLo σ) (aHi σ) 2)) e j (k + 1) = c3 (n4 (sN (aLo σ) (aHi σ) 1)) (n4 (sN (aLo σ) (aHi σ) 2)) e j k + 1 from rfl, hs] at G5
                exact G5
              · refine q_goto X 160 dX13_version_139 (by decide) ?_
                refine q_iinc (v := (nI (4 * (k + 1)))) (lv' := [(9, .int (nI (4 * (k + 1)))), (0, .ref r), (1, .int (nI jv)), (2, .int what), (3, .ref o), (4, .ref s), (5, .int (nI (encS c.1 cp.1 (aCs σ) (c3 (n4 (sN (aLo σ) (aHi σ) 1)) (n4 (sN (aLo σ) (aHi σ) 2)) e j k)).1)), (6, .int (nI (encS c.1 cp.1 (aCs σ) (c3 (n4 (sN (aLo σ) (aHi σ) 1)) (n4 (sN (aLo σ) (aHi σ) 2)) e j k)).2)), (7, .int (nI (4 * e))), (8, .int (nI (4 * j)))]) X dX13_version_160 9 rfl (nI_add _ 4) (by decide) rfl ?_
                refine q_goto X 114 dX13_version_163 (by decide) ?_
                refine q_sub [1, 2, 3, 4, 5, 6, 7, 8, 9, 0] rfl ?_
                have hs := (show encS c.1 cp.1 (aCs σ) (c3 (n4 (sN (aLo σ) (aHi σ) 1)) (n4 (sN (aLo σ) (aHi σ) 2)) e j k + 1) = _ from encS_y hcs (by cases h7 : sameB c.1 cp.1 (ckP (sN (aLo σ) (aHi σ) 1) (sN (aLo σ) (aHi σ) 2) (4 * e) (4 * j) (4 * k) (ckW (sN (aLo σ) (aHi σ) 1) (4 * j)) (ckW (sN (aLo σ) (aHi σ) 2) (4 * k))) (ckN (sN (aLo σ) (aHi σ) 0) (sN (aLo σ) (aHi σ) 1) (sN (aLo σ) (aHi σ) 2) (4 * e) (4 * j) (4 * k)) with | true => rfl | false => have k2 : bI (!sameB c.1 cp.1 (ckP (sN (aLo σ) (aHi σ) 1) (sN (aLo σ) (aHi σ) 2) (4 * e) (4 * j) (4 * k) (ckW (sN (aLo σ) (aHi σ) 1) (4 * j)) (ckW (sN (aLo σ) (aHi σ) 2) (4 * k))) (ckN (sN (aLo σ) (aHi σ) 0) (sN (aLo σ) (aHi σ) 1) (sN (aLo σ) (aHi σ) 2) (4 * e) (4 * j) (4 * k))) = 0 := k1; rw [h7] at k2; exact absurd k2 (by decide)))
                have G5 := ih (k + 1) (by omega)
                rw [show c3 (n4 (sN (aLo σ) (aHi σ) 1)) (n4 (sN (aLo σ) (aHi σ) 2)) e j (k + 1) = c3 (n4 (sN (aLo σ) (aHi σ) 1)) (n4 (sN (aLo σ) (aHi σ) 2)) e j k + 1 from rfl, hs] at G5
                exact G5
          have L1 : ∀ (e : Nat) (he : e < (n4 (sN (aLo σ) (aHi σ) 0))) (kk : qJ G F (qQ G F (rfP G r cOne (some (.int 0)) (sp_version σ (nI jv) what))) 10 M 0 0 172 [(0, .ref r), (1, .int (nI jv)), (2, .int what), (3, .ref o), (4, .ref s), (5, .int (nI (encS c.1 cp.1 (aCs σ) (c3 (n4 (sN (aLo σ) (aHi σ) 1)) (n4 (sN (aLo σ) (aHi σ) 2)) e (n4 (sN (aLo σ) (aHi σ) 1)) 0)).1)), (6, .int (nI (encS c.1 cp.1 (aCs σ) (c3 (n4 (sN (aLo σ) (aHi σ) 1)) (n4 (sN (aLo σ) (aHi σ) 2)) e (n4 (sN (aLo σ) (aHi σ) 1)) 0)).2)), (7, .int (nI (4 * e)))] []) (t j : Nat), j + t = n4 (sN (aLo σ) (aHi σ) 1) → qJ G F (qQ G F (rfP G r cOne (some (.int 0)) (sp_version σ (nI jv) what))) 10 M 0 0 101 [(0, .ref r), (1, .int (nI jv)), (2, .int what), (3, .ref o), (4, .ref s), (5, .int (nI (encS c.1 cp.1 (aCs σ) (c3 (n4 (sN (aLo σ) (aHi σ) 1)) (n4 (sN (aLo σ) (aHi σ) 2)) e j 0)).1)), (6, .int (nI (encS c.1 cp.1 (aCs σ) (c3 (n4 (sN (aLo σ) (aHi σ) 1)) (n4 (sN (aLo σ) (aHi σ) 2)) e j 0)).2)), (7, .int (nI (4 * e))), (8, .int (nI (4 * j)))] [] := by
            intro e he kk t
            induction t with
            | zero =>
              intro j hj0
              obtain rfl : j = n4 (sN (aLo σ) (aHi σ) 1) := by omega
              refine q_iload X dX13_version_101 8 rfl ?_
              refine q_aload_n X dX13_version_103 3 rfl ?_
              refine q_iconst (v := 1) X dX13_version_104 (by decide) ?_
              refine q_callVp X (c_X12_size hOn hOl hOh 1 (by decide) (by decide)) Y_X12_size tw_1314 tw_1188 tw_1189 hOn rfl (by omega) rfl rfl (Nat.le_of_ble_eq_true rfl) dX13_version_105 ?_
              rw [eL1]
              refine q_icmp_ge X 172 dX13_version_108 (by decide) (fun c_3 => ?_) (fun c_3 => absurd (nI_le (show (sN (aLo σ) (aHi σ) 1) ≤ 4 * (n4 (sN (aLo σ) (aHi σ) 1)) by unfold n4; omega) (by omega)) c_3)
              refine q_sub [0, 1, 2, 3, 4, 5, 6, 7] rfl ?_
              exact kk
            | succ t ih =>
              intro j hj0
              have hj : j < n4 (sN (aLo σ) (aHi σ) 1) := by omega
              refine q_iload X dX13_version_101 8 rfl ?_
              refine q_aload_n X dX13_version_103 3 rfl ?_
              refine q_iconst (v := 1) X dX13_version_104 (by decide) ?_
              refine q_callVp X (c_X12_size hOn hOl hOh 1 (by decide) (by decide)) Y_X12_size tw_1314 tw_1188 tw_1189 hOn rfl (by omega) rfl rfl (Nat.le_of_ble_eq_true rfl) dX13_version_105 ?_
              rw [eL1]
              refine q_icmp_ge X 172 dX13_version_108 (by decide) (fun c_4 => absurd c_4 (nI_ge ((b1 j).mp hj) (by omega))) (fun c_4 => ?_)
              refine q_iconst (v := 0) X dX13_version_111 (by decide) ?_
              refine q_istore (lv' := [(9, .int (nI (4 * 0))), (0, .ref r), (1, .int (nI jv)), (2, .int what), (3, .ref o), (4, .ref s), (5, .int (nI (encS c.1 cp.1 (aCs σ) (c3 (n4 (sN (aLo σ) (aHi σ) 1)) (n4 (sN (aLo σ) (aHi σ) 2)) e j 0)).1)), (6, .int (nI (encS c.1 cp.1 (aCs σ) (c3 (n4 (sN (aLo σ) (aHi σ) 1)) (n4 (sN (aLo σ) (aHi σ) 2)) e j 0)).2)), (7, .int (nI (4 * e))), (8, .int (nI (4 * j)))]) X dX13_version_112 (by decide) rfl ?_
              refine q_sub [1, 2, 3, 4, 5, 6, 7, 8, 9, 0] rfl ?_
              refine L2 e j he hj ?_ (n4 (sN (aLo σ) (aHi σ) 2)) 0 (Nat.zero_add _)
              rw [c3_k]
              refine q_iinc (v := (nI (4 * (j + 1)))) (lv' := [(8, .int (nI (4 * (j + 1)))), (0, .ref r), (1, .int (nI jv)), (2, .int what), (3, .ref o), (4, .ref s), (5, .int (nI (encS c.1 cp.1 (aCs σ) (c3 (n4 (sN (aLo σ) (aHi σ) 1)) (n4 (sN (aLo σ) (aHi σ) 2)) e (j + 1) 0)).1)), (6, .int (nI (encS c.1 cp.1 (aCs σ) (c3 (n4 (sN (aLo σ) (aHi σ) 1)) (n4 (sN (aLo σ) (aHi σ) 2)) e (j + 1) 0)).2)), (7, .int (nI (4 * e)))]) X dX13_version_166 8 rfl (nI_add _ 4) (by decide) rfl ?_
              refine q_goto X 101 dX13_version_169 (by decide) ?_
              refine q_sub [1, 2, 3, 4, 5, 6, 7, 8, 0] rfl ?_
              exact ih (j + 1) (by omega)
          have L0 : ∀ (kk : qJ G F (qQ G F (rfP G r cOne (some (.int 0)) (sp_version σ (nI jv) what))) 10 M 0 0 178 [(0, .ref r), (1, .int (nI jv)), (2, .int what), (3, .ref o), (4, .ref s), (5, .int (nI (encS c.1 cp.1 (aCs σ) (c3 (n4 (sN (aLo σ) (aHi σ) 1)) (n4 (sN (aLo σ) (aHi σ) 2)) (n4 (sN (aLo σ) (aHi σ) 0)) 0 0)).1)), (6, .int (nI (encS c.1 cp.1 (aCs σ) (c3 (n4 (sN (aLo σ) (aHi σ) 1)) (n4 (sN (aLo σ) (aHi σ) 2)) (n4 (sN (aLo σ) (aHi σ) 0)) 0 0)).2))] []) (t e : Nat), e + t = n4 (sN (aLo σ) (aHi σ) 0) → qJ G F (qQ G F (rfP G r cOne (some (.int 0)) (sp_version σ (nI jv) what))) 10 M 0 0 88 [(0, .ref r), (1, .int (nI jv)), (2, .int what), (3, .ref o), (4, .ref s), (5, .int (nI (encS c.1 cp.1 (aCs σ) (c3 (n4 (sN (aLo σ) (aHi σ) 1)) (n4 (sN (aLo σ) (aHi σ) 2)) e 0 0)).1)), (6, .int (nI (encS c.1 cp.1 (aCs σ) (c3 (n4 (sN (aLo σ) (aHi σ) 1)) (n4 (sN (aLo σ) (aHi σ) 2)) e 0 0)).2)), (7, .int (nI (4 * e)))] [] := by
            intro  kk t
            induction t with
            | zero =>
              intro e he0
              obtain rfl : e = n4 (sN (aLo σ) (aHi σ) 0) := by omega
              refine q_iload X dX13_version_88 7 rfl ?_
              refine q_aload_n X dX13_version_90 3 rfl ?_
              refine q_iconst (v := 0) X dX13_version_91 (by decide) ?_
              refine q_callVp X (c_X12_size hOn hOl hOh 0 (by decide) (by decide)) Y_X12_size tw_1314 tw_1188 tw_1189 hOn rfl (by omega) rfl rfl (Nat.le_of_ble_eq_true rfl) dX13_version_92 ?_
              rw [eL0]
              refine q_icmp_ge X 178 dX13_version_95 (by decide) (fun c_5 => ?_) (fun c_5 => absurd (nI_le (show (sN (aLo σ) (aHi σ) 0) ≤ 4 * (n4 (sN (aLo σ) (aHi σ) 0)) by unfold n4; omega) (by omega)) c_5)
              refine q_sub [0, 1, 2, 3, 4, 5, 6] rfl ?_
              exact kk
            | succ t ih =>
              intro e he0
              have he : e < n4 (sN (aLo σ) (aHi σ) 0) := by omega
              refine q_iload X dX13_version_88 7 rfl ?_
              refine q_aload_n X dX13_version_90 3 rfl ?_
              refine q_iconst (v := 0) X dX13_version_91 (by decide) ?_
              refine q_callVp X (c_X12_size hOn hOl hOh 0 (by decide) (by decide)) Y_X12_size tw_1314 tw_1188 tw_1189 hOn rfl (by omega) rfl rfl (Nat.le_of_ble_eq_true rfl) dX13_version_92 ?_
              rw [eL0]
              refine q_icmp_ge X 178 dX13_version_95 (by decide) (fun c_6 => absurd c_6 (nI_ge ((b0 e).mp he) (by omega))) (fun c_6 => ?_)
              refine q_iconst (v := 0) X dX13_version_98 (by decide) ?_
              refine q_istore (lv' := [(8, .int (nI (4 * 0))), (0, .ref r), (1, .int (nI jv)), (2, .int what), (3, .ref o), (4, .ref s), (5, .int (nI (encS c.1 cp.1 (aCs σ) (c3 (n4 (sN (aLo σ) (aHi σ) 1)) (n4 (sN (aLo σ) (aHi σ) 2)) e 0 0)).1)), (6, .int (nI (encS c.1 cp.1 (aCs σ) (c3 (n4 (sN (aLo σ) (aHi σ) 1)) (n4 (sN (aLo σ) (aHi σ) 2)) e 0 0)).2)), (7, .int (nI (4 * e)))]) X dX13_version_99 (by decide) rfl ?_
              refine q_sub [1, 2, 3, 4, 5, 6, 7, 8, 0] rfl ?_
              refine L1 e he ?_ (n4 (sN (aLo σ) (aHi σ) 1)) 0 (Nat.zero_add _)
              rw [c3_j]
              refine q_iinc (v := (nI (4 * (e + 1)))) (lv' := [(7, .int (nI (4 * (e + 1)))), (0, .ref r), (1, .int (nI jv)), (2, .int what), (3, .ref o), (4, .ref s), (5, .int (nI (encS c.1 cp.1 (aCs σ) (c3 (n4 (sN (aLo σ) (aHi σ) 1)) (n4 (sN (aLo σ) (aHi σ) 2)) (e + 1) 0 0)).1)), (6, .int (nI (encS c.1 cp.1 (aCs σ) (c3 (n4 (sN (aLo σ) (aHi σ) 1)) (n4 (sN (aLo σ) (aHi σ) 2)) (e + 1) 0 0)).2))]) X dX13_version_172 7 rfl (nI_add _ 4) (by decide) rfl ?_
              refine q_goto X 88 dX13_version_175 (by decide) ?_
              refine q_sub [1, 2, 3, 4, 5, 6, 7, 0] rfl ?_
              exact ih (e + 1) (by omega)
          refine q_aload_n X dX13_version_66 1 rfl ?_
          refine q_get X hB.1 rfl in_RX13 1 (by decide) tw_1195 rfl rfl dX13_version_67 ?_
          refine q_aload_n X dX13_version_70 1 rfl ?_
          refine q_get X hB.1 rfl in_RX13 3 (by decide) tw_1197 rfl rfl dX13_version_71 ?_
          refine q_iload_n X dX13_version_74 2 rfl ?_
          refine q_ialdN X jv hB.2.2.2.1 (rfl) (hj41) (by decide) dX13_version_75 ?_
          rw [e2]
          refine q_gald X c.2 hB.2.1 (rfl) (by omega) (by decide) hvfs dX13_version_76 ?_
          refine q_astore (lv' := [(4, .ref s), (3, .ref o), (0, .ref r), (1, .int (nI jv)), (2, .int what)]) X dX13_version_77 (by decide) rfl ?_
          refine q_iconst (v := 0) X dX13_version_79 (by decide) ?_
          refine q_istore (lv' := [(5, .int 0), (4, .ref s), (3, .ref o), (0, .ref r), (1, .int (nI jv)), (2, .int what)]) X dX13_version_80 (by decide) rfl ?_
          refine q_iconst (v := 0) X dX13_version_82 (by decide) ?_
          refine q_istore (lv' := [(6, .int 0), (5, .int 0), (4, .ref s), (3, .ref o), (0, .ref r), (1, .int (nI jv)), (2, .int what)]) X dX13_version_83 (by decide) rfl ?_
          refine q_iconst (v := 0) X dX13_version_85 (by decide) ?_
          refine q_istore (lv' := [(7, .int (nI (4 * 0))), (6, .int 0), (5, .int 0), (4, .ref s), (3, .ref o), (0, .ref r), (1, .int (nI jv)), (2, .int what)]) X dX13_version_86 (by decide) rfl ?_
          refine q_sub [5, 6, 7, 4, 3, 2, 1, 0] rfl ?_
          have G5 := L0 hfin (n4 (sN (aLo σ) (aHi σ) 0)) 0 (Nat.zero_add _)
          rw [c3_0] at G5
          exact G5
        · have j0 : jv = 0 := nI_inj (by omega) (by decide) (show nI jv = nI 0 from d61)
          refine q_iconst (v := 0) X dX13_version_64 (by decide) ?_
          exact q_iret X hr dX13_version_65 (rfP_K (vr_0 hvr (hj31.trans j0) a1 a2 d0 d3) ⟨vA, nA, pA, plA, dg, dla, dha, dva, dza, dvf, dzf, vf, nf, pf, tk, su, le, gr, hB⟩)
      · refine q_aload_n X dX13_version_55 0 rfl ?_
        refine q_callVp X (c_X12_filled hOn hOz (fun i hi => (hO.2.2.2.2.2 i hi).1) hz) Y_X12_filled tw_1310 tw_1311 tw_1312 hOn rfl (by omega) rfl rfl (Nat.le_of_ble_eq_true rfl) dX13_version_56 ?_
        exact q_iret X hr dX13_version_59 (rfP_K (by unfold sp_version; rw [hvr]; subst d3; rfl) ⟨vA, nA, pA, plA, dg, dla, dha, dva, dza, dvf, dzf, vf, nf, pf, tk, su, le, gr, hB⟩)
    · refine q_aload_n X dX13_version_43 1 rfl ?_
      refine q_get X hB.1 rfl in_RX13 3 (by decide) tw_1197 rfl rfl dX13_version_44 ?_
      refine q_iload_n X dX13_version_47 2 rfl ?_
      refine q_ialdN X jv hB.2.2.2.1 (rfl) (hj41) (by decide) dX13_version_48 ?_
      rw [hpar]
      exact q_iret X hr dX13_version_49 (rfP_K (by unfold sp_version; rw [hvr]; show (if what = 0 then _ else _) = _; rw [if_pos d0]; rw [hj31]; rfl) ⟨vA, nA, pA, plA, dg, dla, dha, dva, dza, dvf, dzf, vf, nf, pf, tk, su, le, gr, hB⟩)
  show qJ G F _ 10 M 0 0 0 [(0, .ref r), (1, .int i), (2, .int what)] []
  refine q_aload_n X dX13_version_0 0 rfl ?_
  refine q_aload_n X dX13_version_1 0 rfl ?_
  refine q_iload_n X dX13_version_2 1 rfl ?_
  rcases hvr : vAt σ i with _ | c
  · refine q_callVp X (c_noVersion_n hB (by omega) hvr) Y_X13_noVersion tw_1292 tw_1294 sel_26 hB.1 rfl (by omega) rfl rfl (Nat.le_of_ble_eq_true rfl) dX13_version_3 ?_
    refine q_if_ne X 18 dX13_version_6 (by decide) (fun c_7 => ?_) (fun c_7 => absurd c_7 (by decide))
    refine q_iconst (v := 1) X dX13_version_18 (by decide) ?_
    refine q_goto X 23 dX13_version_19 (by decide) ?_
    refine q_iconst (v := 1) X dX13_version_23 (by decide) ?_
    refine q_callV X (c_fails1 (why := 1) hB.1) Y_X13_fails tw_1246 tw_1248 sel_23 hB.1 rfl (by omega) rfl rfl (Nat.le_of_ble_eq_true rfl) (rc' := 0) (rs' := 0) (by omega) (by omega) dX13_version_24 (fun v M' hp _ => ?_)
    obtain ⟨rfl, eM⟩ := hp
    have hB108 : rfB G M' r 1 σ vA nA pA plA dg dla dha dva dza dvf dzf vf nf pf tk su le gr := by rw [eM]; exact hB.ro
    clear eM
    generalize M' = M108 at *
    show qJ G F _ 10 M108 0 0 27 [(0, .ref r), (1, .int i), (2, .int what)] [.int 1]
    obtain ⟨z_9r, z_91, z_92, z_93, ⟨z_9x, z_94⟩, z_95, z_96, z_97, z_98, z_99, z_910⟩ := id hB108
    refine q_if_eq X 32 dX13_version_27 (by decide) (fun c_10 => absurd c_10 (by decide)) (fun c_10 => ?_)
    refine q_iconst (v := 0) X dX13_version_30 (by decide) ?_
    exact q_iret X hr dX13_version_31 (rfP_T (by unfold sp_version; rw [hvr]) cOne_1 ⟨vA, nA, pA, plA, dg, dla, dha, dva, dza, dvf, dzf, vf, nf, pf, tk, su, le, gr, hB108⟩)
  · refine q_callVp X (c_noVersion_y hB (by omega) hvr) Y_X13_noVersion tw_1292 tw_1294 sel_26 hB.1 rfl (by omega) rfl rfl (Nat.le_of_ble_eq_true rfl) dX13_version_3 ?_
    obtain ⟨jv, hjv, rfl, hc⟩ := vAt_some hvr
    refine q_if_ne X 18 dX13_version_6 (by decide) (fun c_11 => absurd (by decide) c_11) (fun c_11 => ?_)
    refine q_iload_n X dX13_version_9 2 rfl ?_
    refine q_if_lt X 18 dX13_version_10 (by decide) (fun c10 => ?_) (fun c10 => ?_)
    · refine q_iconst (v := 1) X dX13_version_18 (by decide) ?_
      refine q_goto X 23 dX13_version_19 (by decide) ?_
      refine q_iconst (v := 1) X dX13_version_23 (by decide) ?_
      refine q_callV X (c_fails1 (why := 1) hB.1) Y_X13_fails tw_1246 tw_1248 sel_23 hB.1 rfl (by omega) rfl rfl (Nat.le_of_ble_eq_true rfl) (rc' := 0) (rs' := 0) (by omega) (by omega) dX13_version_24 (fun v M' hp _ => ?_)
      obtain ⟨rfl, eM⟩ := hp
      have hB112 : rfB G M' r 1 σ vA nA pA plA dg dla dha dva dza dvf dzf vf nf pf tk su le gr := by rw [eM]; exact hB.ro
      clear eM
      generalize M' = M112 at *
      show qJ G F _ 10 M112 0 0 27 [(0, .ref r), (1, .int (nI jv)), (2, .int what)] [.int 1]
      obtain ⟨z_13r, z_131, z_132, z_133, ⟨z_13x, z_134⟩, z_135, z_136, z_137, z_138, z_139, z_1310⟩ := id hB112
      refine q_if_eq X 32 dX13_version_27 (by decide) (fun c_14 => absurd c_14 (by decide)) (fun c_14 => ?_)
      refine q_iconst (v := 0) X dX13_version_30 (by decide) ?_
      exact q_iret X hr dX13_version_31 (rfP_T (vr_no (Or.inl c10)) cOne_1 ⟨vA, nA, pA, plA, dg, dla, dha, dva, dza, dvf, dzf, vf, nf, pf, tk, su, le, gr, hB112⟩)
    · refine q_iload_n X dX13_version_13 2 rfl ?_
      refine q_iconst (v := 3) X dX13_version_14 (by decide) ?_
      refine q_icmp_le X 22 dX13_version_15 (by decide) (fun c15 => ?_) (fun c15 => ?_)
      · refine q_iconst (v := 0) X dX13_version_22 (by decide) ?_
        refine q_iconst (v := 1) X dX13_version_23 (by decide) ?_
        refine q_callV X (c_fails0 (why := 1) hB.1) Y_X13_fails tw_1246 tw_1248 sel_23 hB.1 rfl (by omega) rfl rfl (Nat.le_of_ble_eq_true rfl) (rc' := 0) (rs' := 0) (by omega) (by omega) dX13_version_24 (fun v M' hp _ => ?_)
        obtain ⟨rfl, eM⟩ := hp
        have hB115 : rfB G M' r 0 σ vA nA pA plA dg dla dha dva dza dvf dzf vf nf pf tk su le gr := by rw [eM]; exact hB.ro
        clear eM
        generalize M' = M115 at *
        show qJ G F _ 10 M115 0 0 27 [(0, .ref r), (1, .int (nI jv)), (2, .int what)] [.int 0]
        obtain ⟨z_16r, z_161, z_162, z_163, ⟨z_16x, z_164⟩, z_165, z_166, z_167, z_168, z_169, z_1610⟩ := id hB115
        refine q_if_eq X 32 dX13_version_27 (by decide) (fun c_17 => ?_) (fun c_17 => absurd (by decide) c_17)
        refine q_sub [0, 1, 2] rfl ?_
        exact tail _ jv c hB115 hc hvr hjv c10 c15
      · refine q_iconst (v := 1) X dX13_version_18 (by decide) ?_
        refine q_goto X 23 dX13_version_19 (by decide) ?_
        refine q_iconst (v := 1) X dX13_version_23 (by decide) ?_
        refine q_callV X (c_fails1 (why := 1) hB.1) Y_X13_fails tw_1246 tw_1248 sel_23 hB.1 rfl (by omega) rfl rfl (Nat.le_of_ble_eq_true rfl) (rc' := 0) (rs' := 0) (by omega) (by omega) dX13_version_24 (fun v M' hp _ => ?_)
        obtain ⟨rfl, eM⟩ := hp
        have hB118 : rfB G M' r 1 σ vA nA pA plA dg dla dha dva dza dvf dzf vf nf pf tk su le gr := by rw [eM]; exact hB.ro
        clear eM
        generalize M' = M118 at *
        show qJ G F _ 10 M118 0 0 27 [(0, .ref r), (1, .int (nI jv)), (2, .int what)] [.int 1]
        obtain ⟨z_19r, z_191, z_192, z_193, ⟨z_19x, z_194⟩, z_195, z_196, z_197, z_198, z_199, z_1910⟩ := id hB118
        refine q_if_eq X 32 dX13_version_27 (by decide) (fun c_20 => absurd c_20 (by decide)) (fun c_20 => ?_)
        refine q_iconst (v := 0) X dX13_version_30 (by decide) ?_
        exact q_iret X hr dX13_version_31 (rfP_T (vr_no (Or.inr c15)) cOne_1 ⟨vA, nA, pA, plA, dg, dla, dha, dva, dza, dvf, dzf, vf, nf, pf, tk, su, le, gr, hB118⟩)
