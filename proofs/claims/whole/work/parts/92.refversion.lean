/-! the reference: version -/
theorem en_ok {m : Nat} {lo hi : Nat → Int32} (h : okS m lo hi) {j x0 : Nat} (hj : j < 3) (hX : x0 ≤ sN lo hi j) : mnI (nI x0 + 4) (sL lo hi j) = nI (x0 + ckW (sN lo hi j) x0) := by
  have n := h.N hj
  rw [h.L hj, show nI x0 + 4 = nI (x0 + 4) from nI_add x0 4]
  apply Int32.toInt_inj.mp
  rw [mnI_t, nI_toInt (by omega), nI_toInt (by omega), nI_toInt (by unfold ckW; omega)]
  unfold ckW; omega
theorem u_sh7 (r : Int64) : (sh7 r).toUInt64.toNat = r.toUInt64.toNat / 128 := by
  unfold sh7
  rw [UInt64.toUInt64_toInt64, UInt64.toNat_shiftRight, show ((7 : Int32).toInt64.toUInt64 &&& Int64.toUInt64 63).toNat % 64 = 7 by decide, Nat.shiftRight_eq_div_pow]
theorem u_0 {r : Int64} (h : r.toUInt64.toNat = 0) : r = 0 := by
  have e : r.toUInt64 = 0 := UInt64.toNat_inj.mp h
  rw [← Int64.toInt64_toUInt64 r, e]; rfl
theorem u_z {r : Int64} (h : r.toUInt64.toNat < 2 ^ (7 * 0 + 1)) : sh7 r = 0 := u_0 (by rw [u_sh7]; omega)
theorem u_s {r : Int64} {t : Nat} (h : r.toUInt64.toNat < 2 ^ (7 * (t + 1) + 1)) : (sh7 r).toUInt64.toNat < 2 ^ (7 * t + 1) := by
  rw [u_sh7]
  have : 2 ^ (7 * (t + 1) + 1) = 2 ^ (7 * t + 1) * 128 := by rw [show 7 * (t + 1) + 1 = 7 * t + 1 + 7 by omega, Nat.pow_add]
  rw [this] at h
  exact Nat.div_lt_of_lt_mul (by rw [Nat.mul_comm]; exact h)
theorem u_64 (r : Int64) : r.toUInt64.toNat < 2 ^ (7 * 9 + 1) := r.toUInt64.toNat_lt
theorem octF_y {t : Nat} {r : Int64} (h : sh7 r = 0) : octF t r = 0 := by
  cases t with
  | zero => rfl
  | succ t => unfold octF; rw [if_pos h]
theorem octF_n {t : Nat} {r : Int64} (h : ¬ sh7 r = 0) : octF (t + 1) r = 1 + octF t (sh7 r) := by
  show (if sh7 r = 0 then 0 else 1 + octF t (sh7 r)) = _; rw [if_neg h]

set_option maxRecDepth 20000 in
theorem c_end {l : Launch} {G : gV} {M : gMem} {a la ha m : Nat} {w0 w1 w4 w5 : Value} {lo hi : Nat → Int32} (hA : M a = some (oB 12 [w0, w1, .ref la, .ref ha, w4, w5])) (h1 : M la = some (aI G 3 lo)) (h2 : M ha = some (aI G 3 hi)) (hok : okS m lo hi) (j : Nat) (hj : j < 3) {e : Int32} (he : e = nI j) {x0 : Nat} (hX : x0 ≤ sN lo hi j) : qC l G yX13_end cX13_end 3 (some .int) 2 0 0 [.ref a, .int e, .int (nI x0)] M (pP (.int (nI (x0 + ckW (sN lo hi j) x0))) M) := by
  refine qC_of (by decide +kernel) (Nat.le_of_ble_eq_true rfl) (fun F hF X hr hn => ?_)
  subst hF
  have X : qX G F cX13_end 3 RX13 2 := X
  show qJ G F _ 3 M 0 0 0 [(0, .ref a), (1, .int e), (2, .int (nI x0))] []
  refine q_iload_n X dX13_end_0 2 rfl ?_
  refine q_iconst (v := 4) X dX13_end_1 (by decide) ?_
  refine q_iadd X dX13_end_2 ?_
  refine q_aload_n X dX13_end_3 0 rfl ?_
  refine q_iload_n X dX13_end_4 1 rfl ?_
  refine q_callVp X (c_X12_size hA h1 h2 j hj he) Y_X12_size tw_1314 tw_1188 tw_1189 hA rfl (by omega) rfl rfl (Nat.le_of_ble_eq_true rfl) dX13_end_5 ?_
  refine q_callSp X (c_J9_min_7cf53) Y_J9_min_7cf53 tw_1321 tw_239 (by omega) rfl rfl (Nat.le_of_ble_eq_true rfl) dX13_end_8 ?_
  exact q_iret X hr dX13_end_11 (⟨congrArg (fun z => some (Value.int z)) (en_ok hok hj hX), rfl⟩)

set_option maxRecDepth 20000 in
theorem c_number {l : Launch} {G : gV} {M : gMem} {a la ha m : Nat} {w0 w1 w4 w5 : Value} {lo hi : Nat → Int32} (hA : M a = some (oB 12 [w0, w1, .ref la, .ref ha, w4, w5])) (h1 : M la = some (aI G 3 lo)) (h2 : M ha = some (aI G 3 hi)) (hok : okS m lo hi) {x y z : Nat} : qC l G yX13_number cX13_number 4 (some .int) 2 0 0 [.ref a, .int (nI x), .int (nI y), .int (nI z)] M (pP (.int (nI (c3 (sN lo hi 1) (sN lo hi 2) x y z))) M) := by
  refine qC_of (by decide +kernel) (Nat.le_of_ble_eq_true rfl) (fun F hF X hr hn => ?_)
  subst hF
  have X : qX G F cX13_number 4 RX13 2 := X
  show qJ G F _ 4 M 0 0 0 [(0, .ref a), (1, .int (nI x)), (2, .int (nI y)), (3, .int (nI z))] []
  refine q_iload_n X dX13_number_0 1 rfl ?_
  refine q_aload_n X dX13_number_1 0 rfl ?_
  refine q_iconst (v := 1) X dX13_number_2 (by decide) ?_
  refine q_callVp X (c_X12_size hA h1 h2 1 (by decide) (by decide)) Y_X12_size tw_1314 tw_1188 tw_1189 hA rfl (by omega) rfl rfl (Nat.le_of_ble_eq_true rfl) dX13_number_3 ?_
  refine q_imul X dX13_number_6 ?_
  refine q_iload_n X dX13_number_7 2 rfl ?_
  refine q_iadd X dX13_number_8 ?_
  refine q_aload_n X dX13_number_9 0 rfl ?_
  refine q_iconst (v := 2) X dX13_number_10 (by decide) ?_
  refine q_callVp X (c_X12_size hA h1 h2 2 (by decide) (by decide)) Y_X12_size tw_1314 tw_1188 tw_1189 hA rfl (by omega) rfl rfl (Nat.le_of_ble_eq_true rfl) dX13_number_11 ?_
  refine q_imul X dX13_number_14 ?_
  refine q_iload_n X dX13_number_15 3 rfl ?_
  refine q_iadd X dX13_number_16 ?_
  exact q_iret X hr dX13_number_17 (⟨congrArg (fun z => some (Value.int z)) (by rw [hok.L (by decide), hok.L (by decide), nI_mul9, nI_add, nI_mul9, nI_add]; rfl), rfl⟩)

set_option maxRecDepth 20000 in
theorem c_changed {l : Launch} {G : gV} {M : gMem} {a la ha va za n m : Nat} {w0 w1 : Value} {lo hi : Nat → Int32} {vf : Nat → Int64} {zf : Nat → Int32} {f : Nat → Option Int64} (hA : M a = some (oB 12 [w0, w1, .ref la, .ref ha, .ref va, .ref za])) (h1 : M la = some (aI G 3 lo)) (h2 : M ha = some (aI G 3 hi)) (h3 : M va = some (aJ G n vf)) (h4 : M za = some (aZ G n zf)) (hC : gCt n vf zf f) (hok : okS m lo hi) (hn8 : n = sz3 lo hi) (hn9 : n ≤ 4096) {b vb zb : Nat} {u0 u1 u2 u3 : Value} {vf2 : Nat → Int64} {zf2 : Nat → Int32} {g : Nat → Option Int64} (hB : M b = some (oB 12 [u0, u1, u2, u3, .ref vb, .ref zb])) (h5 : M vb = some (aJ G n vf2)) (h6 : M zb = some (aZ G n zf2)) (hD : gCt n vf2 zf2 g) {x0 y0 z0 : Nat} (hX : x0 < sN lo hi 0) (hY : y0 < sN lo hi 1) (hZ : z0 < sN lo hi 2) : qC l G yX13_changed cX13_changed 8 (some .boolean) 4 0 0 [.ref a, .ref b, .int (nI x0), .int (nI y0), .int (nI z0)] M (pP (.int (bI (!sameB f g (ckP (sN lo hi 1) (sN lo hi 2) x0 y0 z0 (ckW (sN lo hi 1) y0) (ckW (sN lo hi 2) z0)) (ckN (sN lo hi 0) (sN lo hi 1) (sN lo hi 2) x0 y0 z0)))) M) := by
  refine qC_of (by decide +kernel) (Nat.le_of_ble_eq_true rfl) (fun F hF X hr hn => ?_)
  subst hF
  have X : qX G F cX13_changed 8 RX13 4 := X
  have NA := hok.N (d := 0) (by decide)
  have NB := hok.N (d := 1) (by decide)
  have NC := hok.N (d := 2) (by decide)
  have eA : (ckW (sN lo hi 0) x0) = min 4 ((sN lo hi 0) - x0) := rfl
  have eB : (ckW (sN lo hi 1) y0) = min 4 ((sN lo hi 1) - y0) := rfl
  have eC : (ckW (sN lo hi 2) z0) = min 4 ((sN lo hi 2) - z0) := rfl
  have hfin : ∀ M2 : gMem, (M2 = M ∧ sameB f g (ckP (sN lo hi 1) (sN lo hi 2) x0 y0 z0 (ckW (sN lo hi 1) y0) (ckW (sN lo hi 2) z0)) (c3 (ckW (sN lo hi 1) y0) (ckW (sN lo hi 2) z0) (ckW (sN lo hi 0) x0) 0 0) = true) → qJ G F (qQ G F (pP (.int (bI (!sameB f g (ckP (sN lo hi 1) (sN lo hi 2) x0 y0 z0 (ckW (sN lo hi 1) y0) (ckW (sN lo hi 2) z0)) (ckN (sN lo hi 0) (sN lo hi 1) (sN lo hi 2) x0 y0 z0)))) M)) 8 M2 0 0 82 [(0, .ref a), (1, .ref b), (2, .int (nI x0)), (3, .int (nI y0)), (4, .int (nI z0))] [] := by
    intro M2 hI
    obtain ⟨rfl, hs⟩ := hI
    rw [c3_A] at hs
    have hs : sameB f g (ckP (sN lo hi 1) (sN lo hi 2) x0 y0 z0 (ckW (sN lo hi 1) y0) (ckW (sN lo hi 2) z0)) (ckN (sN lo hi 0) (sN lo hi 1) (sN lo hi 2) x0 y0 z0) = true := hs
    refine q_iconst (v := 0) X dX13_changed_82 (by decide) ?_
    exact q_zret X hr (by decide) dX13_changed_83 ⟨by rw [hs]; rfl, rfl⟩
  have L2 : ∀ (e j : Nat) (he : e < (ckW (sN lo hi 0) x0)) (hj : j < (ckW (sN lo hi 1) y0)) (kk : ∀ M2 : gMem, (M2 = M ∧ sameB f g (ckP (sN lo hi 1) (sN lo hi 2) x0 y0 z0 (ckW (sN lo hi 1) y0) (ckW (sN lo hi 2) z0)) (c3 (ckW (sN lo hi 1) y0) (ckW (sN lo hi 2) z0) e j (ckW (sN lo hi 2) z0)) = true) → qJ G F (qQ G F (pP (.int (bI (!sameB f g (ckP (sN lo hi 1) (sN lo hi 2) x0 y0 z0 (ckW (sN lo hi 1) y0) (ckW (sN lo hi 2) z0)) (ckN (sN lo hi 0) (sN lo hi 1) (sN lo hi 2) x0 y0 z0)))) M)) 8 M2 0 0 70 [(0, .ref a), (1, .ref b), (2, .int (nI x0)), (3, .int (nI y0)), (4, .int (nI z0)), (5, .int (nI (x0 + e))), (6, .int (nI (y0 + j)))] []) (t k : Nat) (M1 : gMem), k + t = ckW (sN lo hi 2) z0 → (M1 = M ∧ sameB f g (ckP (sN lo hi 1) (sN lo hi 2) x0 y0 z0 (ckW (sN lo hi 1) y0) (ckW (sN lo hi 2) z0)) (c3 (ckW (sN lo hi 1) y0) (ckW (sN lo hi 2) z0) e j k) = true) → qJ G F (qQ G F (pP (.int (bI (!sameB f g (ckP (sN lo hi 1) (sN lo hi 2) x0 y0 z0 (ckW (sN lo hi 1) y0) (ckW (sN lo hi 2) z0)) (ckN (sN lo hi 0) (sN lo hi 1) (sN lo hi 2) x0 y0 z0)))) M)) 8 M1 0 0 32 [(0, .ref a), (1, .ref b), (2, .int (nI x0)), (3, .int (nI y0)), (4, .int (nI z0)), (5, .int (nI (x0 + e))), (6, .int (nI (y0 + j))), (7, .int (nI (z0 + k)))] [] := by
    intro e j he hj kk t
    induction t with
    | zero =>
      intro k M1 hk0 hI
      obtain rfl : k = ckW (sN lo hi 2) z0 := by omega
      have hI0 := hI
      obtain ⟨rfl, hs⟩ := hI
      refine q_iload X dX13_changed_32 7 rfl ?_
      refine q_aload_n X dX13_changed_34 0 rfl ?_
      refine q_iconst (v := 2) X dX13_changed_35 (by decide) ?_
      refine q_iload X dX13_changed_36 4 rfl ?_
      refine q_callSp X (c_end hA h1 h2 hok 2 (by decide) (by decide) (Nat.le_of_lt hZ)) Y_X13_end tw_1318 tw_1319 (by omega) rfl rfl (Nat.le_of_ble_eq_true rfl) dX13_changed_38 ?_
      refine q_icmp_ge X 70 dX13_changed_41 (by decide) (fun c_1 => ?_) (fun c_1 => absurd (Int32.le_refl _) c_1)
      refine q_sub [0, 1, 2, 3, 4, 5, 6] rfl ?_
      exact kk _ hI0
    | succ t ih =>
      intro k M1 hk0 hI
      have hk : k < ckW (sN lo hi 2) z0 := by omega
      have hI0 := hI
      obtain ⟨rfl, hs⟩ := hI
      have hc9 : c3 (sN lo hi 1) (sN lo hi 2) (x0 + e) (y0 + j) (z0 + k) < n := by rw [hn8]; exact c3_lt (show x0 + e < (sN lo hi 0) by omega) (show y0 + j < (sN lo hi 1) by omega) (show z0 + k < (sN lo hi 2) by omega)
      have hpj : (ckP (sN lo hi 1) (sN lo hi 2) x0 y0 z0 (ckW (sN lo hi 1) y0) (ckW (sN lo hi 2) z0)) (c3 (ckW (sN lo hi 1) y0) (ckW (sN lo hi 2) z0) e j k) = c3 (sN lo hi 1) (sN lo hi 2) (x0 + e) (y0 + j) (z0 + k) := by rw [ckP_c3 hj hk, c3_ix]
      refine q_iload X dX13_changed_32 7 rfl ?_
      refine q_aload_n X dX13_changed_34 0 rfl ?_
      refine q_iconst (v := 2) X dX13_changed_35 (by decide) ?_
      refine q_iload X dX13_changed_36 4 rfl ?_
      refine q_callSp X (c_end hA h1 h2 hok 2 (by decide) (by decide) (Nat.le_of_lt hZ)) Y_X13_end tw_1318 tw_1319 (by omega) rfl rfl (Nat.le_of_ble_eq_true rfl) dX13_changed_38 ?_
      refine q_icmp_ge X 70 dX13_changed_41 (by decide) (fun c_2 => absurd c_2 (nI_ge (by omega) (by omega))) (fun c_2 => ?_)
      refine q_aload_n X dX13_changed_44 0 rfl ?_
      refine q_aload_n X dX13_changed_45 1 rfl ?_
      refine q_aload_n X dX13_changed_46 0 rfl ?_
      refine q_iload X dX13_changed_47 5 rfl ?_
      refine q_iload X dX13_changed_49 6 rfl ?_
      refine q_iload X dX13_changed_51 7 rfl ?_
      refine q_callSp X (c_number hA h1 h2 hok) Y_X13_number tw_1322 tw_1323 (by omega) rfl rfl (Nat.le_of_ble_eq_true rfl) dX13_changed_53 ?_
      refine q_callSp X (c_same hA h3 h4 hC hB h5 h6 hD hn9 hc9) Y_X13_same tw_1303 tw_1304 (by omega) rfl rfl (Nat.le_of_ble_eq_true rfl) dX13_changed_56 ?_
      refine q_if_ne X 64 dX13_changed_59 (by decide) (fun k1 => ?_) (fun k1 => ?_)
      · refine q_iinc (v := (nI (z0 + (k + 1)))) (lv' := [(7, .int (nI (z0 + (k + 1)))), (0, .ref a), (1, .ref b), (2, .int (nI x0)), (3, .int (nI y0)), (4, .int (nI z0)), (5, .int (nI (x0 + e))), (6, .int (nI (y0 + j)))]) X dX13_changed_64 7 rfl (nI_1 _) (by decide) rfl ?_
        refine q_goto X 32 dX13_changed_67 (by decide) ?_
        refine q_sub [1, 2, 3, 4, 5, 6, 7, 0] rfl ?_
        exact ih (k + 1) _ (by omega) ⟨rfl, by show (sameB f g (ckP (sN lo hi 1) (sN lo hi 2) x0 y0 z0 (ckW (sN lo hi 1) y0) (ckW (sN lo hi 2) z0)) (c3 (ckW (sN lo hi 1) y0) (ckW (sN lo hi 2) z0) e j k) && decide (f ((ckP (sN lo hi 1) (sN lo hi 2) x0 y0 z0 (ckW (sN lo hi 1) y0) (ckW (sN lo hi 2) z0)) (c3 (ckW (sN lo hi 1) y0) (ckW (sN lo hi 2) z0) e j k)) = g ((ckP (sN lo hi 1) (sN lo hi 2) x0 y0 z0 (ckW (sN lo hi 1) y0) (ckW (sN lo hi 2) z0)) (c3 (ckW (sN lo hi 1) y0) (ckW (sN lo hi 2) z0) e j k)))) = true; rw [hs, hpj, bI_ne k1]; rfl⟩
      · refine q_iconst (v := 1) X dX13_changed_62 (by decide) ?_
        exact q_zret X hr (by decide) dX13_changed_63 (⟨congrArg (fun z => some (Value.int z)) (by rw [sameB_not (j := c3 (ckW (sN lo hi 1) y0) (ckW (sN lo hi 2) z0) e j k) (W := (ckN (sN lo hi 0) (sN lo hi 1) (sN lo hi 2) x0 y0 z0)) (c3_lt he hj hk) (by rw [hpj]; exact of_decide_eq_false (bI_fl k1))]; rfl), rfl⟩)
  have L1 : ∀ (e : Nat) (he : e < (ckW (sN lo hi 0) x0)) (kk : ∀ M2 : gMem, (M2 = M ∧ sameB f g (ckP (sN lo hi 1) (sN lo hi 2) x0 y0 z0 (ckW (sN lo hi 1) y0) (ckW (sN lo hi 2) z0)) (c3 (ckW (sN lo hi 1) y0) (ckW (sN lo hi 2) z0) e (ckW (sN lo hi 1) y0) 0) = true) → qJ G F (qQ G F (pP (.int (bI (!sameB f g (ckP (sN lo hi 1) (sN lo hi 2) x0 y0 z0 (ckW (sN lo hi 1) y0) (ckW (sN lo hi 2) z0)) (ckN (sN lo hi 0) (sN lo hi 1) (sN lo hi 2) x0 y0 z0)))) M)) 8 M2 0 0 76 [(0, .ref a), (1, .ref b), (2, .int (nI x0)), (3, .int (nI y0)), (4, .int (nI z0)), (5, .int (nI (x0 + e)))] []) (t j : Nat) (M1 : gMem), j + t = ckW (sN lo hi 1) y0 → (M1 = M ∧ sameB f g (ckP (sN lo hi 1) (sN lo hi 2) x0 y0 z0 (ckW (sN lo hi 1) y0) (ckW (sN lo hi 2) z0)) (c3 (ckW (sN lo hi 1) y0) (ckW (sN lo hi 2) z0) e j 0) = true) → qJ G F (qQ G F (pP (.int (bI (!sameB f g (ckP (sN lo hi 1) (sN lo hi 2) x0 y0 z0 (ckW (sN lo hi 1) y0) (ckW (sN lo hi 2) z0)) (ckN (sN lo hi 0) (sN lo hi 1) (sN lo hi 2) x0 y0 z0)))) M)) 8 M1 0 0 17 [(0, .ref a), (1, .ref b), (2, .int (nI x0)), (3, .int (nI y0)), (4, .int (nI z0)), (5, .int (nI (x0 + e))), (6, .int (nI (y0 + j)))] [] := by
    intro e he kk t
    induction t with
    | zero =>
      intro j M1 hj0 hI
      obtain rfl : j = ckW (sN lo hi 1) y0 := by omega
      have hI0 := hI
      obtain ⟨rfl, hs⟩ := hI
      refine q_iload X dX13_changed_17 6 rfl ?_
      refine q_aload_n X dX13_changed_19 0 rfl ?_
      refine q_iconst (v := 1) X dX13_changed_20 (by decide) ?_
      refine q_iload_n X dX13_changed_21 3 rfl ?_
      refine q_callSp X (c_end hA h1 h2 hok 1 (by decide) (by decide) (Nat.le_of_lt hY)) Y_X13_end tw_1318 tw_1319 (by omega) rfl rfl (Nat.le_of_ble_eq_true rfl) dX13_changed_22 ?_
      refine q_icmp_ge X 76 dX13_changed_25 (by decide) (fun c_3 => ?_) (fun c_3 => absurd (Int32.le_refl _) c_3)
      refine q_sub [0, 1, 2, 3, 4, 5] rfl ?_
      exact kk _ hI0
    | succ t ih =>
      intro j M1 hj0 hI
      have hj : j < ckW (sN lo hi 1) y0 := by omega
      have hI0 := hI
      obtain ⟨rfl, hs⟩ := hI
      refine q_iload X dX13_changed_17 6 rfl ?_
      refine q_aload_n X dX13_changed_19 0 rfl ?_
      refine q_iconst (v := 1) X dX13_changed_20 (by decide) ?_
      refine q_iload_n X dX13_changed_21 3 rfl ?_
      refine q_callSp X (c_end hA h1 h2 hok 1 (by decide) (by decide) (Nat.le_of_lt hY)) Y_X13_end tw_1318 tw_1319 (by omega) rfl rfl (Nat.le_of_ble_eq_true rfl) dX13_changed_22 ?_
      refine q_icmp_ge X 76 dX13_changed_25 (by decide) (fun c_4 => absurd c_4 (nI_ge (by omega) (by omega))) (fun c_4 => ?_)
      refine q_iload X dX13_changed_28 4 rfl ?_
      refine q_istore (lv' := [(7, .int (nI (z0 + 0))), (0, .ref a), (1, .ref b), (2, .int (nI x0)), (3, .int (nI y0)), (4, .int (nI z0)), (5, .int (nI (x0 + e))), (6, .int (nI (y0 + j)))]) X dX13_changed_30 (by decide) rfl ?_
      refine q_sub [1, 2, 3, 4, 5, 6, 7, 0] rfl ?_
      refine L2 e j he hj (fun M2 hI2 => ?_) (ckW (sN lo hi 2) z0) 0 _ (Nat.zero_add _) hI0
      rw [c3_k] at hI2
      refine q_iinc (v := (nI (y0 + (j + 1)))) (lv' := [(6, .int (nI (y0 + (j + 1)))), (0, .ref a), (1, .ref b), (2, .int (nI x0)), (3, .int (nI y0)), (4, .int (nI z0)), (5, .int (nI (x0 + e)))]) X dX13_changed_70 6 rfl (nI_1 _) (by decide) rfl ?_
      refine q_goto X 17 dX13_changed_73 (by decide) ?_
      refine q_sub [1, 2, 3, 4, 5, 6, 0] rfl ?_
      exact ih (j + 1) M2 (by omega) hI2
  have L0 : ∀ (kk : ∀ M2 : gMem, (M2 = M ∧ sameB f g (ckP (sN lo hi 1) (sN lo hi 2) x0 y0 z0 (ckW (sN lo hi 1) y0) (ckW (sN lo hi 2) z0)) (c3 (ckW (sN lo hi 1) y0) (ckW (sN lo hi 2) z0) (ckW (sN lo hi 0) x0) 0 0) = true) → qJ G F (qQ G F (pP (.int (bI (!sameB f g (ckP (sN lo hi 1) (sN lo hi 2) x0 y0 z0 (ckW (sN lo hi 1) y0) (ckW (sN lo hi 2) z0)) (ckN (sN lo hi 0) (sN lo hi 1) (sN lo hi 2) x0 y0 z0)))) M)) 8 M2 0 0 82 [(0, .ref a), (1, .ref b), (2, .int (nI x0)), (3, .int (nI y0)), (4, .int (nI z0))] []) (t e : Nat) (M1 : gMem), e + t = ckW (sN lo hi 0) x0 → (M1 = M ∧ sameB f g (ckP (sN lo hi 1) (sN lo hi 2) x0 y0 z0 (ckW (sN lo hi 1) y0) (ckW (sN lo hi 2) z0)) (c3 (ckW (sN lo hi 1) y0) (ckW (sN lo hi 2) z0) e 0 0) = true) → qJ G F (qQ G F (pP (.int (bI (!sameB f g (ckP (sN lo hi 1) (sN lo hi 2) x0 y0 z0 (ckW (sN lo hi 1) y0) (ckW (sN lo hi 2) z0)) (ckN (sN lo hi 0) (sN lo hi 1) (sN lo hi 2) x0 y0 z0)))) M)) 8 M1 0 0 3 [(0, .ref a), (1, .ref b), (2, .int (nI x0)), (3, .int (nI y0)), (4, .int (nI z0)), (5, .int (nI (x0 + e)))] [] := by
    intro  kk t
    induction t with
    | zero =>
      intro e M1 he0 hI
      obtain rfl : e = ckW (sN lo hi 0) x0 := by omega
      have hI0 := hI
      obtain ⟨rfl, hs⟩ := hI
      refine q_iload X dX13_changed_3 5 rfl ?_
      refine q_aload_n X dX13_changed_5 0 rfl ?_
      refine q_iconst (v := 0) X dX13_changed_6 (by decide) ?_
      refine q_iload_n X dX13_changed_7 2 rfl ?_
      refine q_callSp X (c_end hA h1 h2 hok 0 (by decide) (by decide) (Nat.le_of_lt hX)) Y_X13_end tw_1318 tw_1319 (by omega) rfl rfl (Nat.le_of_ble_eq_true rfl) dX13_changed_8 ?_
      refine q_icmp_ge X 82 dX13_changed_11 (by decide) (fun c_5 => ?_) (fun c_5 => absurd (Int32.le_refl _) c_5)
      refine q_sub [0, 1, 2, 3, 4] rfl ?_
      exact kk _ hI0
    | succ t ih =>
      intro e M1 he0 hI
      have he : e < ckW (sN lo hi 0) x0 := by omega
      have hI0 := hI
      obtain ⟨rfl, hs⟩ := hI
      refine q_iload X dX13_changed_3 5 rfl ?_
      refine q_aload_n X dX13_changed_5 0 rfl ?_
      refine q_iconst (v := 0) X dX13_changed_6 (by decide) ?_
      refine q_iload_n X dX13_changed_7 2 rfl ?_
      refine q_callSp X (c_end hA h1 h2 hok 0 (by decide) (by decide) (Nat.le_of_lt hX)) Y_X13_end tw_1318 tw_1319 (by omega) rfl rfl (Nat.le_of_ble_eq_true rfl) dX13_changed_8 ?_
      refine q_icmp_ge X 82 dX13_changed_11 (by decide) (fun c_6 => absurd c_6 (nI_ge (by omega) (by omega))) (fun c_6 => ?_)
      refine q_iload_n X dX13_changed_14 3 rfl ?_
      refine q_istore (lv' := [(6, .int (nI (y0 + 0))), (0, .ref a), (1, .ref b), (2, .int (nI x0)), (3, .int (nI y0)), (4, .int (nI z0)), (5, .int (nI (x0 + e)))]) X dX13_changed_15 (by decide) rfl ?_
      refine q_sub [1, 2, 3, 4, 5, 6, 0] rfl ?_
      refine L1 e he (fun M2 hI2 => ?_) (ckW (sN lo hi 1) y0) 0 _ (Nat.zero_add _) hI0
      rw [c3_j] at hI2
      refine q_iinc (v := (nI (x0 + (e + 1)))) (lv' := [(5, .int (nI (x0 + (e + 1)))), (0, .ref a), (1, .ref b), (2, .int (nI x0)), (3, .int (nI y0)), (4, .int (nI z0))]) X dX13_changed_76 5 rfl (nI_1 _) (by decide) rfl ?_
      refine q_goto X 3 dX13_changed_79 (by decide) ?_
      refine q_sub [1, 2, 3, 4, 5, 0] rfl ?_
      exact ih (e + 1) M2 (by omega) hI2
  show qJ G F (qQ G F (pP (.int (bI (!sameB f g (ckP (sN lo hi 1) (sN lo hi 2) x0 y0 z0 (ckW (sN lo hi 1) y0) (ckW (sN lo hi 2) z0)) (ckN (sN lo hi 0) (sN lo hi 1) (sN lo hi 2) x0 y0 z0)))) M)) 8 M 0 0 0 [(0, .ref a), (1, .ref b), (2, .int (nI x0)), (3, .int (nI y0)), (4, .int (nI z0))] []
  refine q_iload_n X dX13_changed_0 2 rfl ?_
  refine q_istore (lv' := [(5, .int (nI (x0 + 0))), (0, .ref a), (1, .ref b), (2, .int (nI x0)), (3, .int (nI y0)), (4, .int (nI z0))]) X dX13_changed_1 (by decide) rfl ?_
  refine q_sub [1, 2, 3, 4, 5, 0] rfl ?_
  exact L0 hfin (ckW (sN lo hi 0) x0) 0 _ (Nat.zero_add _) ⟨rfl, by rw [c3_0]; rfl⟩

set_option maxRecDepth 20000 in
theorem c_octets {l : Launch} {G : gV} {M : gMem} {a la ha va za n m : Nat} {w0 w1 : Value} {lo hi : Nat → Int32} {vf : Nat → Int64} {zf : Nat → Int32} {f : Nat → Option Int64} (hA : M a = some (oB 12 [w0, w1, .ref la, .ref ha, .ref va, .ref za])) (h1 : M la = some (aI G 3 lo)) (h2 : M ha = some (aI G 3 hi)) (h3 : M va = some (aJ G n vf)) (h4 : M za = some (aZ G n zf)) (hC : gCt n vf zf f) (hok : okS m lo hi) (hn8 : n = sz3 lo hi) (hn9 : n ≤ 4096) {x0 y0 z0 : Nat} (hX : x0 < sN lo hi 0) (hY : y0 < sN lo hi 1) (hZ : z0 < sN lo hi 2) : qC l G yX13_octets cX13_octets 16 (some .int) 4 0 0 [.ref a, .int (nI x0), .int (nI y0), .int (nI z0)] M (pP (.int (nI (octS f (ckP (sN lo hi 1) (sN lo hi 2) x0 y0 z0 (ckW (sN lo hi 1) y0) (ckW (sN lo hi 2) z0)) (ckN (sN lo hi 0) (sN lo hi 1) (sN lo hi 2) x0 y0 z0)).1)) M) := by
  refine qC_of (by decide +kernel) (Nat.le_of_ble_eq_true rfl) (fun F hF X hr hn => ?_)
  subst hF
  have X : qX G F cX13_octets 16 RX13 4 := X
  have NA := hok.N (d := 0) (by decide)
  have NB := hok.N (d := 1) (by decide)
  have NC := hok.N (d := 2) (by decide)
  have eA : (ckW (sN lo hi 0) x0) = min 4 ((sN lo hi 0) - x0) := rfl
  have eB : (ckW (sN lo hi 1) y0) = min 4 ((sN lo hi 1) - y0) := rfl
  have eC : (ckW (sN lo hi 2) z0) = min 4 ((sN lo hi 2) - z0) := rfl
  have hfin : qJ G F (qQ G F (pP (.int (nI (octS f (ckP (sN lo hi 1) (sN lo hi 2) x0 y0 z0 (ckW (sN lo hi 1) y0) (ckW (sN lo hi 2) z0)) (ckN (sN lo hi 0) (sN lo hi 1) (sN lo hi 2) x0 y0 z0)).1)) M)) 16 M 0 0 179 [(0, .ref a), (1, .int (nI x0)), (2, .int (nI y0)), (3, .int (nI z0)), (4, .int (nI (octS f (ckP (sN lo hi 1) (sN lo hi 2) x0 y0 z0 (ckW (sN lo hi 1) y0) (ckW (sN lo hi 2) z0)) (c3 (ckW (sN lo hi 1) y0) (ckW (sN lo hi 2) z0) (ckW (sN lo hi 0) x0) 0 0)).1))] [] := by
    rw [c3_A]
    refine q_iload X dX13_octets_179 4 rfl ?_
    exact q_iret X hr dX13_octets_181 ⟨rfl, rfl⟩
  have LW : ∀ (e j k tot : Nat) (kk : qJ G F (qQ G F (pP (.int (nI (octS f (ckP (sN lo hi 1) (sN lo hi 2) x0 y0 z0 (ckW (sN lo hi 1) y0) (ckW (sN lo hi 2) z0)) (ckN (sN lo hi 0) (sN lo hi 1) (sN lo hi 2) x0 y0 z0)).1)) M)) 16 M 0 0 149 [(0, .ref a), (1, .int (nI x0)), (2, .int (nI y0)), (3, .int (nI z0)), (4, .int (nI tot)), (8, .int (nI (x0 + e))), (9, .int (nI (y0 + j))), (10, .int (nI (z0 + k))), (11, .int (nI (c3 (sN lo hi 1) (sN lo hi 2) (x0 + e) (y0 + j) (z0 + k))))] []) (t : Nat) (r : Int64) (n7 : Nat), r.toUInt64.toNat < 2 ^ (7 * t + 1) → n7 + octF t r = tot → qJ G F (qQ G F (pP (.int (nI (octS f (ckP (sN lo hi 1) (sN lo hi 2) x0 y0 z0 (ckW (sN lo hi 1) y0) (ckW (sN lo hi 2) z0)) (ckN (sN lo hi 0) (sN lo hi 1) (sN lo hi 2) x0 y0 z0)).1)) M)) 16 M 0 0 129 [(0, .ref a), (1, .int (nI x0)), (2, .int (nI y0)), (3, .int (nI z0)), (4, .int (nI n7)), (8, .int (nI (x0 + e))), (9, .int (nI (y0 + j))), (10, .int (nI (z0 + k))), (11, .int (nI (c3 (sN lo hi 1) (sN lo hi 2) (x0 + e) (y0 + j) (z0 + k)))), (14, .long (sh7 r))] [] := by
    intro e j k tot kk t
    induction t with
    | zero =>
      intro r n7 hu he
      have h0 := u_z hu
      have e7 : n7 = tot := by rw [octF_y h0] at he; omega
      refine q_lload X dX13_octets_129 9 rfl ?_
      refine q_lconst (v := 0) X dX13_octets_131 (by decide) ?_
      refine q_lcmp X dX13_octets_132 ?_
      refine q_if_eq X 149 dX13_octets_133 (by decide) (fun k1 => ?_) (fun k1 => absurd ((lg_cmp_eq _ _).mpr h0) k1)
      refine q_sub [0, 1, 2, 3, 4, 5, 6, 7, 8] rfl ?_
      rw [e7]
      exact kk
    | succ t ih =>
      intro r n7 hu he
      refine q_lload X dX13_octets_129 9 rfl ?_
      refine q_lconst (v := 0) X dX13_octets_131 (by decide) ?_
      refine q_lcmp X dX13_octets_132 ?_
      refine q_if_eq X 149 dX13_octets_133 (by decide) (fun k1 => ?_) (fun k1 => ?_)
      · have h0 : sh7 r = 0 := (lg_cmp_eq _ _).mp k1
        have e7 : n7 = tot := by rw [octF_y h0] at he; omega
        refine q_sub [0, 1, 2, 3, 4, 5, 6, 7, 8] rfl ?_
        rw [e7]
        exact kk
      · refine q_iinc (v := (nI (n7 + 1))) (lv' := [(4, .int (nI (n7 + 1))), (0, .ref a), (1, .int (nI x0)), (2, .int (nI y0)), (3, .int (nI z0)), (8, .int (nI (x0 + e))), (9, .int (nI (y0 + j))), (10, .int (nI (z0 + k))), (11, .int (nI (c3 (sN lo hi 1) (sN lo hi 2) (x0 + e) (y0 + j) (z0 + k)))), (14, .long (sh7 r))]) X dX13_octets_136 4 rfl (nI_1 _) (by decide) rfl ?_
        refine q_lload X dX13_octets_139 9 rfl ?_
        refine q_bipush (v := 7) X dX13_octets_141 (by decide) ?_
        refine q_lushr X dX13_octets_143 ?_
        refine q_lstore (lv' := [(14, .long (((sh7 r).toUInt64 >>> ((7 : Int32).toInt64.toUInt64 &&& Int64.toUInt64 63)).toInt64)), (4, .int (nI (n7 + 1))), (0, .ref a), (1, .int (nI x0)), (2, .int (nI y0)), (3, .int (nI z0)), (8, .int (nI (x0 + e))), (9, .int (nI (y0 + j))), (10, .int (nI (z0 + k))), (11, .int (nI (c3 (sN lo hi 1) (sN lo hi 2) (x0 + e) (y0 + j) (z0 + k))))]) X dX13_octets_144 (by decide) rfl ?_
        refine q_goto X 129 dX13_octets_146 (by decide) ?_
        have h0 : ¬ sh7 r = 0 := fun z => k1 ((lg_cmp_eq _ _).mpr z)
        refine q_sub [2, 3, 4, 5, 1, 6, 7, 8, 9, 0] rfl ?_
        exact ih (sh7 r) (n7 + 1) (u_s hu) (by rw [octF_n h0] at he; omega)
  have L2 : ∀ (e j : Nat) (he : e < (ckW (sN lo hi 0) x0)) (hj : j < (ckW (sN lo hi 1) y0)) (kk : qJ G F (qQ G F (pP (.int (nI (octS f (ckP (sN lo hi 1) (sN lo hi 2) x0 y0 z0 (ckW (sN lo hi 1) y0) (ckW (sN lo hi 2) z0)) (ckN (sN lo hi 0) (sN lo hi 1) (sN lo hi 2) x0 y0 z0)).1)) M)) 16 M 0 0 167 [(0, .ref a), (1, .int (nI x0)), (2, .int (nI y0)), (3, .int (nI z0)), (4, .int (nI (octS f (ckP (sN lo hi 1) (sN lo hi 2) x0 y0 z0 (ckW (sN lo hi 1) y0) (ckW (sN lo hi 2) z0)) (c3 (ckW (sN lo hi 1) y0) (ckW (sN lo hi 2) z0) e j (ckW (sN lo hi 2) z0))).1)), (5, .int (bI (!(octS f (ckP (sN lo hi 1) (sN lo hi 2) x0 y0 z0 (ckW (sN lo hi 1) y0) (ckW (sN lo hi 2) z0)) (c3 (ckW (sN lo hi 1) y0) (ckW (sN lo hi 2) z0) e j (ckW (sN lo hi 2) z0))).2.1))), (6, .long ((octS f (ckP (sN lo hi 1) (sN lo hi 2) x0 y0 z0 (ckW (sN lo hi 1) y0) (ckW (sN lo hi 2) z0)) (c3 (ckW (sN lo hi 1) y0) (ckW (sN lo hi 2) z0) e j (ckW (sN lo hi 2) z0))).2.2)), (8, .int (nI (x0 + e))), (9, .int (nI (y0 + j)))] []) (t k : Nat), k + t = ckW (sN lo hi 2) z0 → qJ G F (qQ G F (pP (.int (nI (octS f (ckP (sN lo hi 1) (sN lo hi 2) x0 y0 z0 (ckW (sN lo hi 1) y0) (ckW (sN lo hi 2) z0)) (ckN (sN lo hi 0) (sN lo hi 1) (sN lo hi 2) x0 y0 z0)).1)) M)) 16 M 0 0 41 [(0, .ref a), (1, .int (nI x0)), (2, .int (nI y0)), (3, .int (nI z0)), (4, .int (nI (octS f (ckP (sN lo hi 1) (sN lo hi 2) x0 y0 z0 (ckW (sN lo hi 1) y0) (ckW (sN lo hi 2) z0)) (c3 (ckW (sN lo hi 1) y0) (ckW (sN lo hi 2) z0) e j k)).1)), (5, .int (bI (!(octS f (ckP (sN lo hi 1) (sN lo hi 2) x0 y0 z0 (ckW (sN lo hi 1) y0) (ckW (sN lo hi 2) z0)) (c3 (ckW (sN lo hi 1) y0) (ckW (sN lo hi 2) z0) e j k)).2.1))), (6, .long ((octS f (ckP (sN lo hi 1) (sN lo hi 2) x0 y0 z0 (ckW (sN lo hi 1) y0) (ckW (sN lo hi 2) z0)) (c3 (ckW (sN lo hi 1) y0) (ckW (sN lo hi 2) z0) e j k)).2.2)), (8, .int (nI (x0 + e))), (9, .int (nI (y0 + j))), (10, .int (nI (z0 + k)))] [] := by
    intro e j he hj kk t
    induction t with
    | zero =>
      intro k hk0
      obtain rfl : k = ckW (sN lo hi 2) z0 := by omega
      refine q_iload X dX13_octets_41 9 rfl ?_
      refine q_aload_n X dX13_octets_43 0 rfl ?_
      refine q_iconst (v := 2) X dX13_octets_44 (by decide) ?_
      refine q_iload_n X dX13_octets_45 3 rfl ?_
      refine q_callSp X (c_end hA h1 h2 hok 2 (by decide) (by decide) (Nat.le_of_lt hZ)) Y_X13_end tw_1318 tw_1319 (by omega) rfl rfl (Nat.le_of_ble_eq_true rfl) dX13_octets_46 ?_
      refine q_icmp_ge X 167 dX13_octets_49 (by decide) (fun c_1 => ?_) (fun c_1 => absurd (Int32.le_refl _) c_1)
      refine q_sub [0, 1, 2, 3, 4, 5, 6, 7, 8] rfl ?_
      exact kk
    | succ t ih =>
      intro k hk0
      have hk : k < ckW (sN lo hi 2) z0 := by omega
      have hc9 : c3 (sN lo hi 1) (sN lo hi 2) (x0 + e) (y0 + j) (z0 + k) < n := by rw [hn8]; exact c3_lt (show x0 + e < (sN lo hi 0) by omega) (show y0 + j < (sN lo hi 1) by omega) (show z0 + k < (sN lo hi 2) by omega)
      have hpj : (ckP (sN lo hi 1) (sN lo hi 2) x0 y0 z0 (ckW (sN lo hi 1) y0) (ckW (sN lo hi 2) z0)) (c3 (ckW (sN lo hi 1) y0) (ckW (sN lo hi 2) z0) e j k) = c3 (sN lo hi 1) (sN lo hi 2) (x0 + e) (y0 + j) (z0 + k) := by rw [ckP_c3 hj hk, c3_ix]
      refine q_iload X dX13_octets_41 9 rfl ?_
      refine q_aload_n X dX13_octets_43 0 rfl ?_
      refine q_iconst (v := 2) X dX13_octets_44 (by decide) ?_
      refine q_iload_n X dX13_octets_45 3 rfl ?_
      refine q_callSp X (c_end hA h1 h2 hok 2 (by decide) (by decide) (Nat.le_of_lt hZ)) Y_X13_end tw_1318 tw_1319 (by omega) rfl rfl (Nat.le_of_ble_eq_true rfl) dX13_octets_46 ?_
      refine q_icmp_ge X 167 dX13_octets_49 (by decide) (fun c_2 => absurd c_2 (nI_ge (by omega) (by omega))) (fun c_2 => ?_)
      refine q_aload_n X dX13_octets_52 0 rfl ?_
      refine q_iload X dX13_octets_53 7 rfl ?_
      refine q_iload X dX13_octets_55 8 rfl ?_
      refine q_iload X dX13_octets_57 9 rfl ?_
      refine q_callSp X (c_number hA h1 h2 hok) Y_X13_number tw_1322 tw_1323 (by omega) rfl rfl (Nat.le_of_ble_eq_true rfl) dX13_octets_59 ?_
      refine q_istore (lv' := [(11, .int (nI (c3 (sN lo hi 1) (sN lo hi 2) (x0 + e) (y0 + j) (z0 + k)))), (0, .ref a), (1, .int (nI x0)), (2, .int (nI y0)), (3, .int (nI z0)), (4, .int (nI (octS f (ckP (sN lo hi 1) (sN lo hi 2) x0 y0 z0 (ckW (sN lo hi 1) y0) (ckW (sN lo hi 2) z0)) (c3 (ckW (sN lo hi 1) y0) (ckW (sN lo hi 2) z0) e j k)).1)), (5, .int (bI (!(octS f (ckP (sN lo hi 1) (sN lo hi 2) x0 y0 z0 (ckW (sN lo hi 1) y0) (ckW (sN lo hi 2) z0)) (c3 (ckW (sN lo hi 1) y0) (ckW (sN lo hi 2) z0) e j k)).2.1))), (6, .long ((octS f (ckP (sN lo hi 1) (sN lo hi 2) x0 y0 z0 (ckW (sN lo hi 1) y0) (ckW (sN lo hi 2) z0)) (c3 (ckW (sN lo hi 1) y0) (ckW (sN lo hi 2) z0) e j k)).2.2)), (8, .int (nI (x0 + e))), (9, .int (nI (y0 + j))), (10, .int (nI (z0 + k)))]) X dX13_octets_62 (by decide) rfl ?_
      refine q_aload_n X dX13_octets_64 1 rfl ?_
      refine q_get X hA rfl in_RX12 5 (by decide) tw_1165 rfl rfl dX13_octets_65 ?_
      refine q_iload X dX13_octets_68 0 rfl ?_
      refine q_zaldN X (c3 (sN lo hi 1) (sN lo hi 2) (x0 + e) (y0 + j) (z0 + k)) h4 (rfl) (hc9) (by omega) dX13_octets_70 ?_
      refine q_if_eq X 161 dX13_octets_71 (by decide) (fun k1 => ?_) (fun k1 => ?_)
      · refine q_iinc (v := (nI (z0 + (k + 1)))) (lv' := [(10, .int (nI (z0 + (k + 1)))), (11, .int (nI (c3 (sN lo hi 1) (sN lo hi 2) (x0 + e) (y0 + j) (z0 + k)))), (0, .ref a), (1, .int (nI x0)), (2, .int (nI y0)), (3, .int (nI z0)), (4, .int (nI (octS f (ckP (sN lo hi 1) (sN lo hi 2) x0 y0 z0 (ckW (sN lo hi 1) y0) (ckW (sN lo hi 2) z0)) (c3 (ckW (sN lo hi 1) y0) (ckW (sN lo hi 2) z0) e j k)).1)), (5, .int (bI (!(octS f (ckP (sN lo hi 1) (sN lo hi 2) x0 y0 z0 (ckW (sN lo hi 1) y0) (ckW (sN lo hi 2) z0)) (c3 (ckW (sN lo hi 1) y0) (ckW (sN lo hi 2) z0) e j k)).2.1))), (6, .long ((octS f (ckP (sN lo hi 1) (sN lo hi 2) x0 y0 z0 (ckW (sN lo hi 1) y0) (ckW (sN lo hi 2) z0)) (c3 (ckW (sN lo hi 1) y0) (ckW (sN lo hi 2) z0) e j k)).2.2)), (8, .int (nI (x0 + e))), (9, .int (nI (y0 + j)))]) X dX13_octets_161 10 rfl (nI_1 _) (by decide) rfl ?_
        refine q_goto X 41 dX13_octets_164 (by decide) ?_
        refine q_sub [2, 3, 4, 5, 6, 7, 8, 9, 10, 0] rfl ?_
        have hs := (show octS f (ckP (sN lo hi 1) (sN lo hi 2) x0 y0 z0 (ckW (sN lo hi 1) y0) (ckW (sN lo hi 2) z0)) (c3 (ckW (sN lo hi 1) y0) (ckW (sN lo hi 2) z0) e j k + 1) = _ from octS_n (by rw [hpj]; exact ct_none hC hc9 k1))
        have G5 := ih (k + 1) (by omega)
        rw [show c3 (ckW (sN lo hi 1) y0) (ckW (sN lo hi 2) z0) e j (k + 1) = c3 (ckW (sN lo hi 1) y0) (ckW (sN lo hi 2) z0) e j k + 1 from rfl, hs] at G5
        exact G5
      · refine q_iload X dX13_octets_74 6 rfl ?_
        refine q_if_eq X 95 dX13_octets_76 (by decide) (fun k2 => ?_) (fun k2 => ?_)
        · refine q_aload_n X dX13_octets_95 1 rfl ?_
          refine q_get X hA rfl in_RX12 4 (by decide) tw_1163 rfl rfl dX13_octets_96 ?_
          refine q_iload X dX13_octets_99 0 rfl ?_
          refine q_laldN X (c3 (sN lo hi 1) (sN lo hi 2) (x0 + e) (y0 + j) (z0 + k)) h3 (rfl) (hc9) (by omega) dX13_octets_101 ?_
          refine q_lload X dX13_octets_102 7 rfl ?_
          refine q_lsub X dX13_octets_104 ?_
          refine q_lstore (lv' := [(12, .long ((vf (c3 (sN lo hi 1) (sN lo hi 2) (x0 + e) (y0 + j) (z0 + k))) - ((octS f (ckP (sN lo hi 1) (sN lo hi 2) x0 y0 z0 (ckW (sN lo hi 1) y0) (ckW (sN lo hi 2) z0)) (c3 (ckW (sN lo hi 1) y0) (ckW (sN lo hi 2) z0) e j k)).2.2))), (11, .int (nI (c3 (sN lo hi 1) (sN lo hi 2) (x0 + e) (y0 + j) (z0 + k)))), (0, .ref a), (1, .int (nI x0)), (2, .int (nI y0)), (3, .int (nI z0)), (4, .int (nI (octS f (ckP (sN lo hi 1) (sN lo hi 2) x0 y0 z0 (ckW (sN lo hi 1) y0) (ckW (sN lo hi 2) z0)) (c3 (ckW (sN lo hi 1) y0) (ckW (sN lo hi 2) z0) e j k)).1)), (5, .int (bI (!(octS f (ckP (sN lo hi 1) (sN lo hi 2) x0 y0 z0 (ckW (sN lo hi 1) y0) (ckW (sN lo hi 2) z0)) (c3 (ckW (sN lo hi 1) y0) (ckW (sN lo hi 2) z0) e j k)).2.1))), (6, .long ((octS f (ckP (sN lo hi 1) (sN lo hi 2) x0 y0 z0 (ckW (sN lo hi 1) y0) (ckW (sN lo hi 2) z0)) (c3 (ckW (sN lo hi 1) y0) (ckW (sN lo hi 2) z0) e j k)).2.2)), (8, .int (nI (x0 + e))), (9, .int (nI (y0 + j))), (10, .int (nI (z0 + k)))]) X dX13_octets_105 (by decide) rfl ?_
          refine q_lload X dX13_octets_107 0 rfl ?_
          refine q_iconst (v := 1) X dX13_octets_109 (by decide) ?_
          refine q_lshl X dX13_octets_110 ?_
          refine q_lload X dX13_octets_111 0 rfl ?_
          refine q_bipush (v := 63) X dX13_octets_113 (by decide) ?_
          refine q_lshr X dX13_octets_115 ?_
          refine q_lxor X dX13_octets_116 ?_
          refine q_lstore (lv' := [(14, .long ((((vf (c3 (sN lo hi 1) (sN lo hi 2) (x0 + e) (y0 + j) (z0 + k))) - ((octS f (ckP (sN lo hi 1) (sN lo hi 2) x0 y0 z0 (ckW (sN lo hi 1) y0) (ckW (sN lo hi 2) z0)) (c3 (ckW (sN lo hi 1) y0) (ckW (sN lo hi 2) z0) e j k)).2.2)) <<< ((1 : Int32).toInt64 &&& 63)) ^^^ (((vf (c3 (sN lo hi 1) (sN lo hi 2) (x0 + e) (y0 + j) (z0 + k))) - ((octS f (ckP (sN lo hi 1) (sN lo hi 2) x0 y0 z0 (ckW (sN lo hi 1) y0) (ckW (sN lo hi 2) z0)) (c3 (ckW (sN lo hi 1) y0) (ckW (sN lo hi 2) z0) e j k)).2.2)) >>> ((63 : Int32).toInt64 &&& 63)))), (12, .long ((vf (c3 (sN lo hi 1) (sN lo hi 2) (x0 + e) (y0 + j) (z0 + k))) - ((octS f (ckP (sN lo hi 1) (sN lo hi 2) x0 y0 z0 (ckW (sN lo hi 1) y0) (ckW (sN lo hi 2) z0)) (c3 (ckW (sN lo hi 1) y0) (ckW (sN lo hi 2) z0) e j k)).2.2))), (11, .int (nI (c3 (sN lo hi 1) (sN lo hi 2) (x0 + e) (y0 + j) (z0 + k)))), (0, .ref a), (1, .int (nI x0)), (2, .int (nI y0)), (3, .int (nI z0)), (4, .int (nI (octS f (ckP (sN lo hi 1) (sN lo hi 2) x0 y0 z0 (ckW (sN lo hi 1) y0) (ckW (sN lo hi 2) z0)) (c3 (ckW (sN lo hi 1) y0) (ckW (sN lo hi 2) z0) e j k)).1)), (5, .int (bI (!(octS f (ckP (sN lo hi 1) (sN lo hi 2) x0 y0 z0 (ckW (sN lo hi 1) y0) (ckW (sN lo hi 2) z0)) (c3 (ckW (sN lo hi 1) y0) (ckW (sN lo hi 2) z0) e j k)).2.1))), (6, .long ((octS f (ckP (sN lo hi 1) (sN lo hi 2) x0 y0 z0 (ckW (sN lo hi 1) y0) (ckW (sN lo hi 2) z0)) (c3 (ckW (sN lo hi 1) y0) (ckW (sN lo hi 2) z0) e j k)).2.2)), (8, .int (nI (x0 + e))), (9, .int (nI (y0 + j))), (10, .int (nI (z0 + k)))]) X dX13_octets_117 (by decide) rfl ?_
          refine q_iinc (v := (nI ((octS f (ckP (sN lo hi 1) (sN lo hi 2) x0 y0 z0 (ckW (sN lo hi 1) y0) (ckW (sN lo hi 2) z0)) (c3 (ckW (sN lo hi 1) y0) (ckW (sN lo hi 2) z0) e j k)).1 + 2))) (lv' := [(4, .int (nI ((octS f (ckP (sN lo hi 1) (sN lo hi 2) x0 y0 z0 (ckW (sN lo hi 1) y0) (ckW (sN lo hi 2) z0)) (c3 (ckW (sN lo hi 1) y0) (ckW (sN lo hi 2) z0) e j k)).1 + 2))), (14, .long ((((vf (c3 (sN lo hi 1) (sN lo hi 2) (x0 + e) (y0 + j) (z0 + k))) - ((octS f (ckP (sN lo hi 1) (sN lo hi 2) x0 y0 z0 (ckW (sN lo hi 1) y0) (ckW (sN lo hi 2) z0)) (c3 (ckW (sN lo hi 1) y0) (ckW (sN lo hi 2) z0) e j k)).2.2)) <<< ((1 : Int32).toInt64 &&& 63)) ^^^ (((vf (c3 (sN lo hi 1) (sN lo hi 2) (x0 + e) (y0 + j) (z0 + k))) - ((octS f (ckP (sN lo hi 1) (sN lo hi 2) x0 y0 z0 (ckW (sN lo hi 1) y0) (ckW (sN lo hi 2) z0)) (c3 (ckW (sN lo hi 1) y0) (ckW (sN lo hi 2) z0) e j k)).2.2)) >>> ((63 : Int32).toInt64 &&& 63)))), (12, .long ((vf (c3 (sN lo hi 1) (sN lo hi 2) (x0 + e) (y0 + j) (z0 + k))) - ((octS f (ckP (sN lo hi 1) (sN lo hi 2) x0 y0 z0 (ckW (sN lo hi 1) y0) (ckW (sN lo hi 2) z0)) (c3 (ckW (sN lo hi 1) y0) (ckW (sN lo hi 2) z0) e j k)).2.2))), (11, .int (nI (c3 (sN lo hi 1) (sN lo hi 2) (x0 + e) (y0 + j) (z0 + k)))), (0, .ref a), (1, .int (nI x0)), (2, .int (nI y0)), (3, .int (nI z0)), (5, .int (bI (!(octS f (ckP (sN lo hi 1) (sN lo hi 2) x0 y0 z0 (ckW (sN lo hi 1) y0) (ckW (sN lo hi 2) z0)) (c3 (ckW (sN lo hi 1) y0) (ckW (sN lo hi 2) z0) e j k)).2.1))), (6, .long ((octS f (ckP (sN lo hi 1) (sN lo hi 2) x0 y0 z0 (ckW (sN lo hi 1) y0) (ckW (sN lo hi 2) z0)) (c3 (ckW (sN lo hi 1) y0) (ckW (sN lo hi 2) z0) e j k)).2.2)), (8, .int (nI (x0 + e))), (9, .int (nI (y0 + j))), (10, .int (nI (z0 + k)))]) X dX13_octets_119 7 rfl (nI_add _ 2) (by decide) rfl ?_
          refine q_lload X dX13_octets_122 1 rfl ?_
          refine q_bipush (v := 7) X dX13_octets_124 (by decide) ?_
          refine q_lushr X dX13_octets_126 ?_
          refine q_lstore (lv' := [(14, .long ((((((vf (c3 (sN lo hi 1) (sN lo hi 2) (x0 + e) (y0 + j) (z0 + k))) - ((octS f (ckP (sN lo hi 1) (sN lo hi 2) x0 y0 z0 (ckW (sN lo hi 1) y0) (ckW (sN lo hi 2) z0)) (c3 (ckW (sN lo hi 1) y0) (ckW (sN lo hi 2) z0) e j k)).2.2)) <<< ((1 : Int32).toInt64 &&& 63)) ^^^ (((vf (c3 (sN lo hi 1) (sN lo hi 2) (x0 + e) (y0 + j) (z0 + k))) - ((octS f (ckP (sN lo hi 1) (sN lo hi 2) x0 y0 z0 (ckW (sN lo hi 1) y0) (ckW (sN lo hi 2) z0)) (c3 (ckW (sN lo hi 1) y0) (ckW (sN lo hi 2) z0) e j k)).2.2)) >>> ((63 : Int32).toInt64 &&& 63))).toUInt64 >>> ((7 : Int32).toInt64.toUInt64 &&& Int64.toUInt64 63)).toInt64)), (4, .int (nI ((octS f (ckP (sN lo hi 1) (sN lo hi 2) x0 y0 z0 (ckW (sN lo hi 1) y0) (ckW (sN lo hi 2) z0)) (c3 (ckW (sN lo hi 1) y0) (ckW (sN lo hi 2) z0) e j k)).1 + 2))), (12, .long ((vf (c3 (sN lo hi 1) (sN lo hi 2) (x0 + e) (y0 + j) (z0 + k))) - ((octS f (ckP (sN lo hi 1) (sN lo hi 2) x0 y0 z0 (ckW (sN lo hi 1) y0) (ckW (sN lo hi 2) z0)) (c3 (ckW (sN lo hi 1) y0) (ckW (sN lo hi 2) z0) e j k)).2.2))), (11, .int (nI (c3 (sN lo hi 1) (sN lo hi 2) (x0 + e) (y0 + j) (z0 + k)))), (0, .ref a), (1, .int (nI x0)), (2, .int (nI y0)), (3, .int (nI z0)), (5, .int (bI (!(octS f (ckP (sN lo hi 1) (sN lo hi 2) x0 y0 z0 (ckW (sN lo hi 1) y0) (ckW (sN lo hi 2) z0)) (c3 (ckW (sN lo hi 1) y0) (ckW (sN lo hi 2) z0) e j k)).2.1))), (6, .long ((octS f (ckP (sN lo hi 1) (sN lo hi 2) x0 y0 z0 (ckW (sN lo hi 1) y0) (ckW (sN lo hi 2) z0)) (c3 (ckW (sN lo hi 1) y0) (ckW (sN lo hi 2) z0) e j k)).2.2)), (8, .int (nI (x0 + e))), (9, .int (nI (y0 + j))), (10, .int (nI (z0 + k)))]) X dX13_octets_127 (by decide) rfl ?_
          refine q_sub [4, 5, 6, 7, 1, 10, 11, 12, 3, 0] rfl ?_
          refine LW e j k ((octS f (ckP (sN lo hi 1) (sN lo hi 2) x0 y0 z0 (ckW (sN lo hi 1) y0) (ckW (sN lo hi 2) z0)) (c3 (ckW (sN lo hi 1) y0) (ckW (sN lo hi 2) z0) e j k)).1 + (1 + octOf (vf (c3 (sN lo hi 1) (sN lo hi 2) (x0 + e) (y0 + j) (z0 + k)) - (octS f (ckP (sN lo hi 1) (sN lo hi 2) x0 y0 z0 (ckW (sN lo hi 1) y0) (ckW (sN lo hi 2) z0)) (c3 (ckW (sN lo hi 1) y0) (ckW (sN lo hi 2) z0) e j k)).2.2))) ?_ 9 (zig (vf (c3 (sN lo hi 1) (sN lo hi 2) (x0 + e) (y0 + j) (z0 + k)) - (octS f (ckP (sN lo hi 1) (sN lo hi 2) x0 y0 z0 (ckW (sN lo hi 1) y0) (ckW (sN lo hi 2) z0)) (c3 (ckW (sN lo hi 1) y0) (ckW (sN lo hi 2) z0) e j k)).2.2)) ((octS f (ckP (sN lo hi 1) (sN lo hi 2) x0 y0 z0 (ckW (sN lo hi 1) y0) (ckW (sN lo hi 2) z0)) (c3 (ckW (sN lo hi 1) y0) (ckW (sN lo hi 2) z0) e j k)).1 + 2) (u_64 _) (by unfold octOf; omega)
          refine q_iconst (v := 1) X dX13_octets_149 (by decide) ?_
          refine q_istore (lv' := [(5, .int 1), (0, .ref a), (1, .int (nI x0)), (2, .int (nI y0)), (3, .int (nI z0)), (4, .int (nI ((octS f (ckP (sN lo hi 1) (sN lo hi 2) x0 y0 z0 (ckW (sN lo hi 1) y0) (ckW (sN lo hi 2) z0)) (c3 (ckW (sN lo hi 1) y0) (ckW (sN lo hi 2) z0) e j k)).1 + (1 + octOf (vf (c3 (sN lo hi 1) (sN lo hi 2) (x0 + e) (y0 + j) (z0 + k)) - (octS f (ckP (sN lo hi 1) (sN lo hi 2) x0 y0 z0 (ckW (sN lo hi 1) y0) (ckW (sN lo hi 2) z0)) (c3 (ckW (sN lo hi 1) y0) (ckW (sN lo hi 2) z0) e j k)).2.2))))), (8, .int (nI (x0 + e))), (9, .int (nI (y0 + j))), (10, .int (nI (z0 + k))), (11, .int (nI (c3 (sN lo hi 1) (sN lo hi 2) (x0 + e) (y0 + j) (z0 + k))))]) X dX13_octets_150 (by decide) rfl ?_
          refine q_aload_n X dX13_octets_152 1 rfl ?_
          refine q_get X hA rfl in_RX12 4 (by decide) tw_1163 rfl rfl dX13_octets_153 ?_
          refine q_iload X dX13_octets_156 9 rfl ?_
          refine q_laldN X (c3 (sN lo hi 1) (sN lo hi 2) (x0 + e) (y0 + j) (z0 + k)) h3 (rfl) (hc9) (by omega) dX13_octets_158 ?_
          refine q_lstore (lv' := [(6, .long (vf (c3 (sN lo hi 1) (sN lo hi 2) (x0 + e) (y0 + j) (z0 + k)))), (5, .int 1), (0, .ref a), (1, .int (nI x0)), (2, .int (nI y0)), (3, .int (nI z0)), (4, .int (nI ((octS f (ckP (sN lo hi 1) (sN lo hi 2) x0 y0 z0 (ckW (sN lo hi 1) y0) (ckW (sN lo hi 2) z0)) (c3 (ckW (sN lo hi 1) y0) (ckW (sN lo hi 2) z0) e j k)).1 + (1 + octOf (vf (c3 (sN lo hi 1) (sN lo hi 2) (x0 + e) (y0 + j) (z0 + k)) - (octS f (ckP (sN lo hi 1) (sN lo hi 2) x0 y0 z0 (ckW (sN lo hi 1) y0) (ckW (sN lo hi 2) z0)) (c3 (ckW (sN lo hi 1) y0) (ckW (sN lo hi 2) z0) e j k)).2.2))))), (8, .int (nI (x0 + e))), (9, .int (nI (y0 + j))), (10, .int (nI (z0 + k))), (11, .int (nI (c3 (sN lo hi 1) (sN lo hi 2) (x0 + e) (y0 + j) (z0 + k))))]) X dX13_octets_159 (by decide) rfl ?_
          refine q_iinc (v := (nI (z0 + (k + 1)))) (lv' := [(10, .int (nI (z0 + (k + 1)))), (6, .long (vf (c3 (sN lo hi 1) (sN lo hi 2) (x0 + e) (y0 + j) (z0 + k)))), (5, .int 1), (0, .ref a), (1, .int (nI x0)), (2, .int (nI y0)), (3, .int (nI z0)), (4, .int (nI ((octS f (ckP (sN lo hi 1) (sN lo hi 2) x0 y0 z0 (ckW (sN lo hi 1) y0) (ckW (sN lo hi 2) z0)) (c3 (ckW (sN lo hi 1) y0) (ckW (sN lo hi 2) z0) e j k)).1 + (1 + octOf (vf (c3 (sN lo hi 1) (sN lo hi 2) (x0 + e) (y0 + j) (z0 + k)) - (octS f (ckP (sN lo hi 1) (sN lo hi 2) x0 y0 z0 (ckW (sN lo hi 1) y0) (ckW (sN lo hi 2) z0)) (c3 (ckW (sN lo hi 1) y0) (ckW (sN lo hi 2) z0) e j k)).2.2))))), (8, .int (nI (x0 + e))), (9, .int (nI (y0 + j))), (11, .int (nI (c3 (sN lo hi 1) (sN lo hi 2) (x0 + e) (y0 + j) (z0 + k))))]) X dX13_octets_161 9 rfl (nI_1 _) (by decide) rfl ?_
          refine q_goto X 41 dX13_octets_164 (by decide) ?_
          refine q_sub [3, 4, 5, 6, 7, 2, 1, 8, 9, 0] rfl ?_
          have hs := (show octS f (ckP (sN lo hi 1) (sN lo hi 2) x0 y0 z0 (ckW (sN lo hi 1) y0) (ckW (sN lo hi 2) z0)) (c3 (ckW (sN lo hi 1) y0) (ckW (sN lo hi 2) z0) e j k + 1) = _ from octS_p (by rw [hpj]; exact ct_some hC hc9 k1) (Or.inl (by have h7 := bI_fl k2; cases h8 : (octS f (ckP (sN lo hi 1) (sN lo hi 2) x0 y0 z0 (ckW (sN lo hi 1) y0) (ckW (sN lo hi 2) z0)) (c3 (ckW (sN lo hi 1) y0) (ckW (sN lo hi 2) z0) e j k)).2.1 with | true => rfl | false => rw [h8] at h7; cases h7)))
          have G5 := ih (k + 1) (by omega)
          rw [show c3 (ckW (sN lo hi 1) y0) (ckW (sN lo hi 2) z0) e j (k + 1) = c3 (ckW (sN lo hi 1) y0) (ckW (sN lo hi 2) z0) e j k + 1 from rfl, hs] at G5
          exact G5
        · refine q_aload_n X dX13_octets_79 1 rfl ?_
          refine q_get X hA rfl in_RX12 4 (by decide) tw_1163 rfl rfl dX13_octets_80 ?_
          refine q_iload X dX13_octets_83 0 rfl ?_
          refine q_laldN X (c3 (sN lo hi 1) (sN lo hi 2) (x0 + e) (y0 + j) (z0 + k)) h3 (rfl) (hc9) (by omega) dX13_octets_85 ?_
          refine q_lload X dX13_octets_86 7 rfl ?_
          refine q_lcmp X dX13_octets_88 ?_
          refine q_if_ne X 95 dX13_octets_89 (by decide) (fun k3 => ?_) (fun k3 => ?_)
          · refine q_aload_n X dX13_octets_95 1 rfl ?_
            refine q_get X hA rfl in_RX12 4 (by decide) tw_1163 rfl rfl dX13_octets_96 ?_
            refine q_iload X dX13_octets_99 0 rfl ?_
            refine q_laldN X (c3 (sN lo hi 1) (sN lo hi 2) (x0 + e) (y0 + j) (z0 + k)) h3 (rfl) (hc9) (by omega) dX13_octets_101 ?_
            refine q_lload X dX13_octets_102 7 rfl ?_
            refine q_lsub X dX13_octets_104 ?_
            refine q_lstore (lv' := [(12, .long ((vf (c3 (sN lo hi 1) (sN lo hi 2) (x0 + e) (y0 + j) (z0 + k))) - ((octS f (ckP (sN lo hi 1) (sN lo hi 2) x0 y0 z0 (ckW (sN lo hi 1) y0) (ckW (sN lo hi 2) z0)) (c3 (ckW (sN lo hi 1) y0) (ckW (sN lo hi 2) z0) e j k)).2.2))), (11, .int (nI (c3 (sN lo hi 1) (sN lo hi 2) (x0 + e) (y0 + j) (z0 + k)))), (0, .ref a), (1, .int (nI x0)), (2, .int (nI y0)), (3, .int (nI z0)), (4, .int (nI (octS f (ckP (sN lo hi 1) (sN lo hi 2) x0 y0 z0 (ckW (sN lo hi 1) y0) (ckW (sN lo hi 2) z0)) (c3 (ckW (sN lo hi 1) y0) (ckW (sN lo hi 2) z0) e j k)).1)), (5, .int (bI (!(octS f (ckP (sN lo hi 1) (sN lo hi 2) x0 y0 z0 (ckW (sN lo hi 1) y0) (ckW (sN lo hi 2) z0)) (c3 (ckW (sN lo hi 1) y0) (ckW (sN lo hi 2) z0) e j k)).2.1))), (6, .long ((octS f (ckP (sN lo hi 1) (sN lo hi 2) x0 y0 z0 (ckW (sN lo hi 1) y0) (ckW (sN lo hi 2) z0)) (c3 (ckW (sN lo hi 1) y0) (ckW (sN lo hi 2) z0) e j k)).2.2)), (8, .int (nI (x0 + e))), (9, .int (nI (y0 + j))), (10, .int (nI (z0 + k)))]) X dX13_octets_105 (by decide) rfl ?_
            refine q_lload X dX13_octets_107 0 rfl ?_
            refine q_iconst (v := 1) X dX13_octets_109 (by decide) ?_
            refine q_lshl X dX13_octets_110 ?_
            refine q_lload X dX13_octets_111 0 rfl ?_
            refine q_bipush (v := 63) X dX13_octets_113 (by decide) ?_
            refine q_lshr X dX13_octets_115 ?_
            refine q_lxor X dX13_octets_116 ?_
            refine q_lstore (lv' := [(14, .long ((((vf (c3 (sN lo hi 1) (sN lo hi 2) (x0 + e) (y0 + j) (z0 + k))) - ((octS f (ckP (sN lo hi 1) (sN lo hi 2) x0 y0 z0 (ckW (sN lo hi 1) y0) (ckW (sN lo hi 2) z0)) (c3 (ckW (sN lo hi 1) y0) (ckW (sN lo hi 2) z0) e j k)).2.2)) <<< ((1 : Int32).toInt64 &&& 63)) ^^^ (((vf (c3 (sN lo hi 1) (sN lo hi 2) (x0 + e) (y0 + j) (z0 + k))) - ((octS f (ckP (sN lo hi 1) (sN lo hi 2) x0 y0 z0 (ckW (sN lo hi 1) y0) (ckW (sN lo hi 2) z0)) (c3 (ckW (sN lo hi 1) y0) (ckW (sN lo hi 2) z0) e j k)).2.2)) >>> ((63 : Int32).toInt64 &&& 63)))), (12, .long ((vf (c3 (sN lo hi 1) (sN lo hi 2) (x0 + e) (y0 + j) (z0 + k))) - ((octS f (ckP (sN lo hi 1) (sN lo hi 2) x0 y0 z0 (ckW (sN lo hi 1) y0) (ckW (sN lo hi 2) z0)) (c3 (ckW (sN lo hi 1) y0) (ckW (sN lo hi 2) z0) e j k)).2.2))), (11, .int (nI (c3 (sN lo hi 1) (sN lo hi 2) (x0 + e) (y0 + j) (z0 + k)))), (0, .ref a), (1, .int (nI x0)), (2, .int (nI y0)), (3, .int (nI z0)), (4, .int (nI (octS f (ckP (sN lo hi 1) (sN lo hi 2) x0 y0 z0 (ckW (sN lo hi 1) y0) (ckW (sN lo hi 2) z0)) (c3 (ckW (sN lo hi 1) y0) (ckW (sN lo hi 2) z0) e j k)).1)), (5, .int (bI (!(octS f (ckP (sN lo hi 1) (sN lo hi 2) x0 y0 z0 (ckW (sN lo hi 1) y0) (ckW (sN lo hi 2) z0)) (c3 (ckW (sN lo hi 1) y0) (ckW (sN lo hi 2) z0) e j k)).2.1))), (6, .long ((octS f (ckP (sN lo hi 1) (sN lo hi 2) x0 y0 z0 (ckW (sN lo hi 1) y0) (ckW (sN lo hi 2) z0)) (c3 (ckW (sN lo hi 1) y0) (ckW (sN lo hi 2) z0) e j k)).2.2)), (8, .int (nI (x0 + e))), (9, .int (nI (y0 + j))), (10, .int (nI (z0 + k)))]) X dX13_octets_117 (by decide) rfl ?_
            refine q_iinc (v := (nI ((octS f (ckP (sN lo hi 1) (sN lo hi 2) x0 y0 z0 (ckW (sN lo hi 1) y0) (ckW (sN lo hi 2) z0)) (c3 (ckW (sN lo hi 1) y0) (ckW (sN lo hi 2) z0) e j k)).1 + 2))) (lv' := [(4, .int (nI ((octS f (ckP (sN lo hi 1) (sN lo hi 2) x0 y0 z0 (ckW (sN lo hi 1) y0) (ckW (sN lo hi 2) z0)) (c3 (ckW (sN lo hi 1) y0) (ckW (sN lo hi 2) z0) e j k)).1 + 2))), (14, .long ((((vf (c3 (sN lo hi 1) (sN lo hi 2) (x0 + e) (y0 + j) (z0 + k))) - ((octS f (ckP (sN lo hi 1) (sN lo hi 2) x0 y0 z0 (ckW (sN lo hi 1) y0) (ckW (sN lo hi 2) z0)) (c3 (ckW (sN lo hi 1) y0) (ckW (sN lo hi 2) z0) e j k)).2.2)) <<< ((1 : Int32).toInt64 &&& 63)) ^^^ (((vf (c3 (sN lo hi 1) (sN lo hi 2) (x0 + e) (y0 + j) (z0 + k))) - ((octS f (ckP (sN lo hi 1) (sN lo hi 2) x0 y0 z0 (ckW (sN lo hi 1) y0) (ckW (sN lo hi 2) z0)) (c3 (ckW (sN lo hi 1) y0) (ckW (sN lo hi 2) z0) e j k)).2.2)) >>> ((63 : Int32).toInt64 &&& 63)))), (12, .long ((vf (c3 (sN lo hi 1) (sN lo hi 2) (x0 + e) (y0 + j) (z0 + k))) - ((octS f (ckP (sN lo hi 1) (sN lo hi 2) x0 y0 z0 (ckW (sN lo hi 1) y0) (ckW (sN lo hi 2) z0)) (c3 (ckW (sN lo hi 1) y0) (ckW (sN lo hi 2) z0) e j k)).2.2))), (11, .int (nI (c3 (sN lo hi 1) (sN lo hi 2) (x0 + e) (y0 + j) (z0 + k)))), (0, .ref a), (1, .int (nI x0)), (2, .int (nI y0)), (3, .int (nI z0)), (5, .int (bI (!(octS f (ckP (sN lo hi 1) (sN lo hi 2) x0 y0 z0 (ckW (sN lo hi 1) y0) (ckW (sN lo hi 2) z0)) (c3 (ckW (sN lo hi 1) y0) (ckW (sN lo hi 2) z0) e j k)).2.1))), (6, .long ((octS f (ckP (sN lo hi 1) (sN lo hi 2) x0 y0 z0 (ckW (sN lo hi 1) y0) (ckW (sN lo hi 2) z0)) (c3 (ckW (sN lo hi 1) y0) (ckW (sN lo hi 2) z0) e j k)).2.2)), (8, .int (nI (x0 + e))), (9, .int (nI (y0 + j))), (10, .int (nI (z0 + k)))]) X dX13_octets_119 7 rfl (nI_add _ 2) (by decide) rfl ?_
            refine q_lload X dX13_octets_122 1 rfl ?_
            refine q_bipush (v := 7) X dX13_octets_124 (by decide) ?_
            refine q_lushr X dX13_octets_126 ?_
            refine q_lstore (lv' := [(14, .long ((((((vf (c3 (sN lo hi 1) (sN lo hi 2) (x0 + e) (y0 + j) (z0 + k))) - ((octS f (ckP (sN lo hi 1) (sN lo hi 2) x0 y0 z0 (ckW (sN lo hi 1) y0) (ckW (sN lo hi 2) z0)) (c3 (ckW (sN lo hi 1) y0) (ckW (sN lo hi 2) z0) e j k)).2.2)) <<< ((1 : Int32).toInt64 &&& 63)) ^^^ (((vf (c3 (sN lo hi 1) (sN lo hi 2) (x0 + e) (y0 + j) (z0 + k))) - ((octS f (ckP (sN lo hi 1) (sN lo hi 2) x0 y0 z0 (ckW (sN lo hi 1) y0) (ckW (sN lo hi 2) z0)) (c3 (ckW (sN lo hi 1) y0) (ckW (sN lo hi 2) z0) e j k)).2.2)) >>> ((63 : Int32).toInt64 &&& 63))).toUInt64 >>> ((7 : Int32).toInt64.toUInt64 &&& Int64.toUInt64 63)).toInt64)), (4, .int (nI ((octS f (ckP (sN lo hi 1) (sN lo hi 2) x0 y0 z0 (ckW (sN lo hi 1) y0) (ckW (sN lo hi 2) z0)) (c3 (ckW (sN lo hi 1) y0) (ckW (sN lo hi 2) z0) e j k)).1 + 2))), (12, .long ((vf (c3 (sN lo hi 1) (sN lo hi 2) (x0 + e) (y0 + j) (z0 + k))) - ((octS f (ckP (sN lo hi 1) (sN lo hi 2) x0 y0 z0 (ckW (sN lo hi 1) y0) (ckW (sN lo hi 2) z0)) (c3 (ckW (sN lo hi 1) y0) (ckW (sN lo hi 2) z0) e j k)).2.2))), (11, .int (nI (c3 (sN lo hi 1) (sN lo hi 2) (x0 + e) (y0 + j) (z0 + k)))), (0, .ref a), (1, .int (nI x0)), (2, .int (nI y0)), (3, .int (nI z0)), (5, .int (bI (!(octS f (ckP (sN lo hi 1) (sN lo hi 2) x0 y0 z0 (ckW (sN lo hi 1) y0) (ckW (sN lo hi 2) z0)) (c3 (ckW (sN lo hi 1) y0) (ckW (sN lo hi 2) z0) e j k)).2.1))), (6, .long ((octS f (ckP (sN lo hi 1) (sN lo hi 2) x0 y0 z0 (ckW (sN lo hi 1) y0) (ckW (sN lo hi 2) z0)) (c3 (ckW (sN lo hi 1) y0) (ckW (sN lo hi 2) z0) e j k)).2.2)), (8, .int (nI (x0 + e))), (9, .int (nI (y0 + j))), (10, .int (nI (z0 + k)))]) X dX13_octets_127 (by decide) rfl ?_
            refine q_sub [4, 5, 6, 7, 1, 10, 11, 12, 3, 0] rfl ?_
            refine LW e j k ((octS f (ckP (sN lo hi 1) (sN lo hi 2) x0 y0 z0 (ckW (sN lo hi 1) y0) (ckW (sN lo hi 2) z0)) (c3 (ckW (sN lo hi 1) y0) (ckW (sN lo hi 2) z0) e j k)).1 + (1 + octOf (vf (c3 (sN lo hi 1) (sN lo hi 2) (x0 + e) (y0 + j) (z0 + k)) - (octS f (ckP (sN lo hi 1) (sN lo hi 2) x0 y0 z0 (ckW (sN lo hi 1) y0) (ckW (sN lo hi 2) z0)) (c3 (ckW (sN lo hi 1) y0) (ckW (sN lo hi 2) z0) e j k)).2.2))) ?_ 9 (zig (vf (c3 (sN lo hi 1) (sN lo hi 2) (x0 + e) (y0 + j) (z0 + k)) - (octS f (ckP (sN lo hi 1) (sN lo hi 2) x0 y0 z0 (ckW (sN lo hi 1) y0) (ckW (sN lo hi 2) z0)) (c3 (ckW (sN lo hi 1) y0) (ckW (sN lo hi 2) z0) e j k)).2.2)) ((octS f (ckP (sN lo hi 1) (sN lo hi 2) x0 y0 z0 (ckW (sN lo hi 1) y0) (ckW (sN lo hi 2) z0)) (c3 (ckW (sN lo hi 1) y0) (ckW (sN lo hi 2) z0) e j k)).1 + 2) (u_64 _) (by unfold octOf; omega)
            refine q_iconst (v := 1) X dX13_octets_149 (by decide) ?_
            refine q_istore (lv' := [(5, .int 1), (0, .ref a), (1, .int (nI x0)), (2, .int (nI y0)), (3, .int (nI z0)), (4, .int (nI ((octS f (ckP (sN lo hi 1) (sN lo hi 2) x0 y0 z0 (ckW (sN lo hi 1) y0) (ckW (sN lo hi 2) z0)) (c3 (ckW (sN lo hi 1) y0) (ckW (sN lo hi 2) z0) e j k)).1 + (1 + octOf (vf (c3 (sN lo hi 1) (sN lo hi 2) (x0 + e) (y0 + j) (z0 + k)) - (octS f (ckP (sN lo hi 1) (sN lo hi 2) x0 y0 z0 (ckW (sN lo hi 1) y0) (ckW (sN lo hi 2) z0)) (c3 (ckW (sN lo hi 1) y0) (ckW (sN lo hi 2) z0) e j k)).2.2))))), (8, .int (nI (x0 + e))), (9, .int (nI (y0 + j))), (10, .int (nI (z0 + k))), (11, .int (nI (c3 (sN lo hi 1) (sN lo hi 2) (x0 + e) (y0 + j) (z0 + k))))]) X dX13_octets_150 (by decide) rfl ?_
            refine q_aload_n X dX13_octets_152 1 rfl ?_
            refine q_get X hA rfl in_RX12 4 (by decide) tw_1163 rfl rfl dX13_octets_153 ?_
            refine q_iload X dX13_octets_156 9 rfl ?_
            refine q_laldN X (c3 (sN lo hi 1) (sN lo hi 2) (x0 + e) (y0 + j) (z0 + k)) h3 (rfl) (hc9) (by omega) dX13_octets_158 ?_
            refine q_lstore (lv' := [(6, .long (vf (c3 (sN lo hi 1) (sN lo hi 2) (x0 + e) (y0 + j) (z0 + k)))), (5, .int 1), (0, .ref a), (1, .int (nI x0)), (2, .int (nI y0)), (3, .int (nI z0)), (4, .int (nI ((octS f (ckP (sN lo hi 1) (sN lo hi 2) x0 y0 z0 (ckW (sN lo hi 1) y0) (ckW (sN lo hi 2) z0)) (c3 (ckW (sN lo hi 1) y0) (ckW (sN lo hi 2) z0) e j k)).1 + (1 + octOf (vf (c3 (sN lo hi 1) (sN lo hi 2) (x0 + e) (y0 + j) (z0 + k)) - (octS f (ckP (sN lo hi 1) (sN lo hi 2) x0 y0 z0 (ckW (sN lo hi 1) y0) (ckW (sN lo hi 2) z0)) (c3 (ckW (sN lo hi 1) y0) (ckW (sN lo hi 2) z0) e j k)).2.2))))), (8, .int (nI (x0 + e))), (9, .int (nI (y0 + j))), (10, .int (nI (z0 + k))), (11, .int (nI (c3 (sN lo hi 1) (sN lo hi 2) (x0 + e) (y0 + j) (z0 + k))))]) X dX13_octets_159 (by decide) rfl ?_
            refine q_iinc (v := (nI (z0 + (k + 1)))) (lv' := [(10, .int (nI (z0 + (k + 1)))), (6, .long (vf (c3 (sN lo hi 1) (sN lo hi 2) (x0 + e) (y0 + j) (z0 + k)))), (5, .int 1), (0, .ref a), (1, .int (nI x0)), (2, .int (nI y0)), (3, .int (nI z0)), (4, .int (nI ((octS f (ckP (sN lo hi 1) (sN lo hi 2) x0 y0 z0 (ckW (sN lo hi 1) y0) (ckW (sN lo hi 2) z0)) (c3 (ckW (sN lo hi 1) y0) (ckW (sN lo hi 2) z0) e j k)).1 + (1 + octOf (vf (c3 (sN lo hi 1) (sN lo hi 2) (x0 + e) (y0 + j) (z0 + k)) - (octS f (ckP (sN lo hi 1) (sN lo hi 2) x0 y0 z0 (ckW (sN lo hi 1) y0) (ckW (sN lo hi 2) z0)) (c3 (ckW (sN lo hi 1) y0) (ckW (sN lo hi 2) z0) e j k)).2.2))))), (8, .int (nI (x0 + e))), (9, .int (nI (y0 + j))), (11, .int (nI (c3 (sN lo hi 1) (sN lo hi 2) (x0 + e) (y0 + j) (z0 + k))))]) X dX13_octets_161 9 rfl (nI_1 _) (by decide) rfl ?_
            refine q_goto X 41 dX13_octets_164 (by decide) ?_
            refine q_sub [3, 4, 5, 6, 7, 2, 1, 8, 9, 0] rfl ?_
            have hs := (show octS f (ckP (sN lo hi 1) (sN lo hi 2) x0 y0 z0 (ckW (sN lo hi 1) y0) (ckW (sN lo hi 2) z0)) (c3 (ckW (sN lo hi 1) y0) (ckW (sN lo hi 2) z0) e j k + 1) = _ from octS_p (by rw [hpj]; exact ct_some hC hc9 k1) (Or.inr (fun z => k3 ((lg_cmp_eq _ _).mpr z))))
            have G5 := ih (k + 1) (by omega)
            rw [show c3 (ckW (sN lo hi 1) y0) (ckW (sN lo hi 2) z0) e j (k + 1) = c3 (ckW (sN lo hi 1) y0) (ckW (sN lo hi 2) z0) e j k + 1 from rfl, hs] at G5
            exact G5
          · refine q_goto X 161 dX13_octets_92 (by decide) ?_
            refine q_iinc (v := (nI (z0 + (k + 1)))) (lv' := [(10, .int (nI (z0 + (k + 1)))), (11, .int (nI (c3 (sN lo hi 1) (sN lo hi 2) (x0 + e) (y0 + j) (z0 + k)))), (0, .ref a), (1, .int (nI x0)), (2, .int (nI y0)), (3, .int (nI z0)), (4, .int (nI (octS f (ckP (sN lo hi 1) (sN lo hi 2) x0 y0 z0 (ckW (sN lo hi 1) y0) (ckW (sN lo hi 2) z0)) (c3 (ckW (sN lo hi 1) y0) (ckW (sN lo hi 2) z0) e j k)).1)), (5, .int (bI (!(octS f (ckP (sN lo hi 1) (sN lo hi 2) x0 y0 z0 (ckW (sN lo hi 1) y0) (ckW (sN lo hi 2) z0)) (c3 (ckW (sN lo hi 1) y0) (ckW (sN lo hi 2) z0) e j k)).2.1))), (6, .long ((octS f (ckP (sN lo hi 1) (sN lo hi 2) x0 y0 z0 (ckW (sN lo hi 1) y0) (ckW (sN lo hi 2) z0)) (c3 (ckW (sN lo hi 1) y0) (ckW (sN lo hi 2) z0) e j k)).2.2)), (8, .int (nI (x0 + e))), (9, .int (nI (y0 + j)))]) X dX13_octets_161 10 rfl (nI_1 _) (by decide) rfl ?_
            refine q_goto X 41 dX13_octets_164 (by decide) ?_
            refine q_sub [2, 3, 4, 5, 6, 7, 8, 9, 10, 0] rfl ?_
            have hs := (show octS f (ckP (sN lo hi 1) (sN lo hi 2) x0 y0 z0 (ckW (sN lo hi 1) y0) (ckW (sN lo hi 2) z0)) (c3 (ckW (sN lo hi 1) y0) (ckW (sN lo hi 2) z0) e j k + 1) = _ from octS_k (by rw [hpj]; exact ct_some hC hc9 k1) (fun z => by rcases z with z | z; rw [z] at k2; exact k2 (by decide); exact z ((lg_cmp_eq _ _).mp k3)))
            have G5 := ih (k + 1) (by omega)
            rw [show c3 (ckW (sN lo hi 1) y0) (ckW (sN lo hi 2) z0) e j (k + 1) = c3 (ckW (sN lo hi 1) y0) (ckW (sN lo hi 2) z0) e j k + 1 from rfl, hs] at G5
            exact G5
  have L1 : ∀ (e : Nat) (he : e < (ckW (sN lo hi 0) x0)) (kk : qJ G F (qQ G F (pP (.int (nI (octS f (ckP (sN lo hi 1) (sN lo hi 2) x0 y0 z0 (ckW (sN lo hi 1) y0) (ckW (sN lo hi 2) z0)) (ckN (sN lo hi 0) (sN lo hi 1) (sN lo hi 2) x0 y0 z0)).1)) M)) 16 M 0 0 173 [(0, .ref a), (1, .int (nI x0)), (2, .int (nI y0)), (3, .int (nI z0)), (4, .int (nI (octS f (ckP (sN lo hi 1) (sN lo hi 2) x0 y0 z0 (ckW (sN lo hi 1) y0) (ckW (sN lo hi 2) z0)) (c3 (ckW (sN lo hi 1) y0) (ckW (sN lo hi 2) z0) e (ckW (sN lo hi 1) y0) 0)).1)), (5, .int (bI (!(octS f (ckP (sN lo hi 1) (sN lo hi 2) x0 y0 z0 (ckW (sN lo hi 1) y0) (ckW (sN lo hi 2) z0)) (c3 (ckW (sN lo hi 1) y0) (ckW (sN lo hi 2) z0) e (ckW (sN lo hi 1) y0) 0)).2.1))), (6, .long ((octS f (ckP (sN lo hi 1) (sN lo hi 2) x0 y0 z0 (ckW (sN lo hi 1) y0) (ckW (sN lo hi 2) z0)) (c3 (ckW (sN lo hi 1) y0) (ckW (sN lo hi 2) z0) e (ckW (sN lo hi 1) y0) 0)).2.2)), (8, .int (nI (x0 + e)))] []) (t j : Nat), j + t = ckW (sN lo hi 1) y0 → qJ G F (qQ G F (pP (.int (nI (octS f (ckP (sN lo hi 1) (sN lo hi 2) x0 y0 z0 (ckW (sN lo hi 1) y0) (ckW (sN lo hi 2) z0)) (ckN (sN lo hi 0) (sN lo hi 1) (sN lo hi 2) x0 y0 z0)).1)) M)) 16 M 0 0 27 [(0, .ref a), (1, .int (nI x0)), (2, .int (nI y0)), (3, .int (nI z0)), (4, .int (nI (octS f (ckP (sN lo hi 1) (sN lo hi 2) x0 y0 z0 (ckW (sN lo hi 1) y0) (ckW (sN lo hi 2) z0)) (c3 (ckW (sN lo hi 1) y0) (ckW (sN lo hi 2) z0) e j 0)).1)), (5, .int (bI (!(octS f (ckP (sN lo hi 1) (sN lo hi 2) x0 y0 z0 (ckW (sN lo hi 1) y0) (ckW (sN lo hi 2) z0)) (c3 (ckW (sN lo hi 1) y0) (ckW (sN lo hi 2) z0) e j 0)).2.1))), (6, .long ((octS f (ckP (sN lo hi 1) (sN lo hi 2) x0 y0 z0 (ckW (sN lo hi 1) y0) (ckW (sN lo hi 2) z0)) (c3 (ckW (sN lo hi 1) y0) (ckW (sN lo hi 2) z0) e j 0)).2.2)), (8, .int (nI (x0 + e))), (9, .int (nI (y0 + j)))] [] := by
    intro e he kk t
    induction t with
    | zero =>
      intro j hj0
      obtain rfl : j = ckW (sN lo hi 1) y0 := by omega
      refine q_iload X dX13_octets_27 8 rfl ?_
      refine q_aload_n X dX13_octets_29 0 rfl ?_
      refine q_iconst (v := 1) X dX13_octets_30 (by decide) ?_
      refine q_iload_n X dX13_octets_31 2 rfl ?_
      refine q_callSp X (c_end hA h1 h2 hok 1 (by decide) (by decide) (Nat.le_of_lt hY)) Y_X13_end tw_1318 tw_1319 (by omega) rfl rfl (Nat.le_of_ble_eq_true rfl) dX13_octets_32 ?_
      refine q_icmp_ge X 173 dX13_octets_35 (by decide) (fun c_3 => ?_) (fun c_3 => absurd (Int32.le_refl _) c_3)
      refine q_sub [0, 1, 2, 3, 4, 5, 6, 7] rfl ?_
      exact kk
    | succ t ih =>
      intro j hj0
      have hj : j < ckW (sN lo hi 1) y0 := by omega
      refine q_iload X dX13_octets_27 8 rfl ?_
      refine q_aload_n X dX13_octets_29 0 rfl ?_
      refine q_iconst (v := 1) X dX13_octets_30 (by decide) ?_
      refine q_iload_n X dX13_octets_31 2 rfl ?_
      refine q_callSp X (c_end hA h1 h2 hok 1 (by decide) (by decide) (Nat.le_of_lt hY)) Y_X13_end tw_1318 tw_1319 (by omega) rfl rfl (Nat.le_of_ble_eq_true rfl) dX13_octets_32 ?_
      refine q_icmp_ge X 173 dX13_octets_35 (by decide) (fun c_4 => absurd c_4 (nI_ge (by omega) (by omega))) (fun c_4 => ?_)
      refine q_iload_n X dX13_octets_38 3 rfl ?_
      refine q_istore (lv' := [(10, .int (nI (z0 + 0))), (0, .ref a), (1, .int (nI x0)), (2, .int (nI y0)), (3, .int (nI z0)), (4, .int (nI (octS f (ckP (sN lo hi 1) (sN lo hi 2) x0 y0 z0 (ckW (sN lo hi 1) y0) (ckW (sN lo hi 2) z0)) (c3 (ckW (sN lo hi 1) y0) (ckW (sN lo hi 2) z0) e j 0)).1)), (5, .int (bI (!(octS f (ckP (sN lo hi 1) (sN lo hi 2) x0 y0 z0 (ckW (sN lo hi 1) y0) (ckW (sN lo hi 2) z0)) (c3 (ckW (sN lo hi 1) y0) (ckW (sN lo hi 2) z0) e j 0)).2.1))), (6, .long ((octS f (ckP (sN lo hi 1) (sN lo hi 2) x0 y0 z0 (ckW (sN lo hi 1) y0) (ckW (sN lo hi 2) z0)) (c3 (ckW (sN lo hi 1) y0) (ckW (sN lo hi 2) z0) e j 0)).2.2)), (8, .int (nI (x0 + e))), (9, .int (nI (y0 + j)))]) X dX13_octets_39 (by decide) rfl ?_
      refine q_sub [1, 2, 3, 4, 5, 6, 7, 8, 9, 0] rfl ?_
      refine L2 e j he hj ?_ (ckW (sN lo hi 2) z0) 0 (Nat.zero_add _)
      rw [c3_k]
      refine q_iinc (v := (nI (y0 + (j + 1)))) (lv' := [(9, .int (nI (y0 + (j + 1)))), (0, .ref a), (1, .int (nI x0)), (2, .int (nI y0)), (3, .int (nI z0)), (4, .int (nI (octS f (ckP (sN lo hi 1) (sN lo hi 2) x0 y0 z0 (ckW (sN lo hi 1) y0) (ckW (sN lo hi 2) z0)) (c3 (ckW (sN lo hi 1) y0) (ckW (sN lo hi 2) z0) e (j + 1) 0)).1)), (5, .int (bI (!(octS f (ckP (sN lo hi 1) (sN lo hi 2) x0 y0 z0 (ckW (sN lo hi 1) y0) (ckW (sN lo hi 2) z0)) (c3 (ckW (sN lo hi 1) y0) (ckW (sN lo hi 2) z0) e (j + 1) 0)).2.1))), (6, .long ((octS f (ckP (sN lo hi 1) (sN lo hi 2) x0 y0 z0 (ckW (sN lo hi 1) y0) (ckW (sN lo hi 2) z0)) (c3 (ckW (sN lo hi 1) y0) (ckW (sN lo hi 2) z0) e (j + 1) 0)).2.2)), (8, .int (nI (x0 + e)))]) X dX13_octets_167 8 rfl (nI_1 _) (by decide) rfl ?_
      refine q_goto X 27 dX13_octets_170 (by decide) ?_
      refine q_sub [1, 2, 3, 4, 5, 6, 7, 8, 0] rfl ?_
      exact ih (j + 1) (by omega)
  have L0 : ∀ (kk : qJ G F (qQ G F (pP (.int (nI (octS f (ckP (sN lo hi 1) (sN lo hi 2) x0 y0 z0 (ckW (sN lo hi 1) y0) (ckW (sN lo hi 2) z0)) (ckN (sN lo hi 0) (sN lo hi 1) (sN lo hi 2) x0 y0 z0)).1)) M)) 16 M 0 0 179 [(0, .ref a), (1, .int (nI x0)), (2, .int (nI y0)), (3, .int (nI z0)), (4, .int (nI (octS f (ckP (sN lo hi 1) (sN lo hi 2) x0 y0 z0 (ckW (sN lo hi 1) y0) (ckW (sN lo hi 2) z0)) (c3 (ckW (sN lo hi 1) y0) (ckW (sN lo hi 2) z0) (ckW (sN lo hi 0) x0) 0 0)).1))] []) (t e : Nat), e + t = ckW (sN lo hi 0) x0 → qJ G F (qQ G F (pP (.int (nI (octS f (ckP (sN lo hi 1) (sN lo hi 2) x0 y0 z0 (ckW (sN lo hi 1) y0) (ckW (sN lo hi 2) z0)) (ckN (sN lo hi 0) (sN lo hi 1) (sN lo hi 2) x0 y0 z0)).1)) M)) 16 M 0 0 13 [(0, .ref a), (1, .int (nI x0)), (2, .int (nI y0)), (3, .int (nI z0)), (4, .int (nI (octS f (ckP (sN lo hi 1) (sN lo hi 2) x0 y0 z0 (ckW (sN lo hi 1) y0) (ckW (sN lo hi 2) z0)) (c3 (ckW (sN lo hi 1) y0) (ckW (sN lo hi 2) z0) e 0 0)).1)), (5, .int (bI (!(octS f (ckP (sN lo hi 1) (sN lo hi 2) x0 y0 z0 (ckW (sN lo hi 1) y0) (ckW (sN lo hi 2) z0)) (c3 (ckW (sN lo hi 1) y0) (ckW (sN lo hi 2) z0) e 0 0)).2.1))), (6, .long ((octS f (ckP (sN lo hi 1) (sN lo hi 2) x0 y0 z0 (ckW (sN lo hi 1) y0) (ckW (sN lo hi 2) z0)) (c3 (ckW (sN lo hi 1) y0) (ckW (sN lo hi 2) z0) e 0 0)).2.2)), (8, .int (nI (x0 + e)))] [] := by
    intro  kk t
    induction t with
    | zero =>
      intro e he0
      obtain rfl : e = ckW (sN lo hi 0) x0 := by omega
      refine q_iload X dX13_octets_13 7 rfl ?_
      refine q_aload_n X dX13_octets_15 0 rfl ?_
      refine q_iconst (v := 0) X dX13_octets_16 (by decide) ?_
      refine q_iload_n X dX13_octets_17 1 rfl ?_
      refine q_callSp X (c_end hA h1 h2 hok 0 (by decide) (by decide) (Nat.le_of_lt hX)) Y_X13_end tw_1318 tw_1319 (by omega) rfl rfl (Nat.le_of_ble_eq_true rfl) dX13_octets_18 ?_
      refine q_icmp_ge X 179 dX13_octets_21 (by decide) (fun c_5 => ?_) (fun c_5 => absurd (Int32.le_refl _) c_5)
      refine q_sub [0, 1, 2, 3, 4] rfl ?_
      exact kk
    | succ t ih =>
      intro e he0
      have he : e < ckW (sN lo hi 0) x0 := by omega
      refine q_iload X dX13_octets_13 7 rfl ?_
      refine q_aload_n X dX13_octets_15 0 rfl ?_
      refine q_iconst (v := 0) X dX13_octets_16 (by decide) ?_
      refine q_iload_n X dX13_octets_17 1 rfl ?_
      refine q_callSp X (c_end hA h1 h2 hok 0 (by decide) (by decide) (Nat.le_of_lt hX)) Y_X13_end tw_1318 tw_1319 (by omega) rfl rfl (Nat.le_of_ble_eq_true rfl) dX13_octets_18 ?_
      refine q_icmp_ge X 179 dX13_octets_21 (by decide) (fun c_6 => absurd c_6 (nI_ge (by omega) (by omega))) (fun c_6 => ?_)
      refine q_iload_n X dX13_octets_24 2 rfl ?_
      refine q_istore (lv' := [(9, .int (nI (y0 + 0))), (0, .ref a), (1, .int (nI x0)), (2, .int (nI y0)), (3, .int (nI z0)), (4, .int (nI (octS f (ckP (sN lo hi 1) (sN lo hi 2) x0 y0 z0 (ckW (sN lo hi 1) y0) (ckW (sN lo hi 2) z0)) (c3 (ckW (sN lo hi 1) y0) (ckW (sN lo hi 2) z0) e 0 0)).1)), (5, .int (bI (!(octS f (ckP (sN lo hi 1) (sN lo hi 2) x0 y0 z0 (ckW (sN lo hi 1) y0) (ckW (sN lo hi 2) z0)) (c3 (ckW (sN lo hi 1) y0) (ckW (sN lo hi 2) z0) e 0 0)).2.1))), (6, .long ((octS f (ckP (sN lo hi 1) (sN lo hi 2) x0 y0 z0 (ckW (sN lo hi 1) y0) (ckW (sN lo hi 2) z0)) (c3 (ckW (sN lo hi 1) y0) (ckW (sN lo hi 2) z0) e 0 0)).2.2)), (8, .int (nI (x0 + e)))]) X dX13_octets_25 (by decide) rfl ?_
      refine q_sub [1, 2, 3, 4, 5, 6, 7, 8, 0] rfl ?_
      refine L1 e he ?_ (ckW (sN lo hi 1) y0) 0 (Nat.zero_add _)
      rw [c3_j]
      refine q_iinc (v := (nI (x0 + (e + 1)))) (lv' := [(8, .int (nI (x0 + (e + 1)))), (0, .ref a), (1, .int (nI x0)), (2, .int (nI y0)), (3, .int (nI z0)), (4, .int (nI (octS f (ckP (sN lo hi 1) (sN lo hi 2) x0 y0 z0 (ckW (sN lo hi 1) y0) (ckW (sN lo hi 2) z0)) (c3 (ckW (sN lo hi 1) y0) (ckW (sN lo hi 2) z0) (e + 1) 0 0)).1)), (5, .int (bI (!(octS f (ckP (sN lo hi 1) (sN lo hi 2) x0 y0 z0 (ckW (sN lo hi 1) y0) (ckW (sN lo hi 2) z0)) (c3 (ckW (sN lo hi 1) y0) (ckW (sN lo hi 2) z0) (e + 1) 0 0)).2.1))), (6, .long ((octS f (ckP (sN lo hi 1) (sN lo hi 2) x0 y0 z0 (ckW (sN lo hi 1) y0) (ckW (sN lo hi 2) z0)) (c3 (ckW (sN lo hi 1) y0) (ckW (sN lo hi 2) z0) (e + 1) 0 0)).2.2))]) X dX13_octets_173 7 rfl (nI_1 _) (by decide) rfl ?_
      refine q_goto X 13 dX13_octets_176 (by decide) ?_
      refine q_sub [1, 2, 3, 4, 5, 6, 7, 0] rfl ?_
      exact ih (e + 1) (by omega)
  show qJ G F (qQ G F (pP (.int (nI (octS f (ckP (sN lo hi 1) (sN lo hi 2) x0 y0 z0 (ckW (sN lo hi 1) y0) (ckW (sN lo hi 2) z0)) (ckN (sN lo hi 0) (sN lo hi 1) (sN lo hi 2) x0 y0 z0)).1)) M)) 16 M 0 0 0 [(0, .ref a), (1, .int (nI x0)), (2, .int (nI y0)), (3, .int (nI z0))] []
  refine q_bipush (v := 8) X dX13_octets_0 (by decide) ?_
  refine q_istore (lv' := [(4, .int 8), (0, .ref a), (1, .int (nI x0)), (2, .int (nI y0)), (3, .int (nI z0))]) X dX13_octets_2 (by decide) rfl ?_
  refine q_iconst (v := 0) X dX13_octets_4 (by decide) ?_
  refine q_istore (lv' := [(5, .int 0), (4, .int 8), (0, .ref a), (1, .int (nI x0)), (2, .int (nI y0)), (3, .int (nI z0))]) X dX13_octets_5 (by decide) rfl ?_
  refine q_lconst (v := 0) X dX13_octets_7 (by decide) ?_
  refine q_lstore (lv' := [(6, .long 0), (5, .int 0), (4, .int 8), (0, .ref a), (1, .int (nI x0)), (2, .int (nI y0)), (3, .int (nI z0))]) X dX13_octets_8 (by decide) rfl ?_
  refine q_iload_n X dX13_octets_10 4 rfl ?_
  refine q_istore (lv' := [(8, .int (nI (x0 + 0))), (6, .long 0), (5, .int 0), (4, .int 8), (0, .ref a), (1, .int (nI x0)), (2, .int (nI y0)), (3, .int (nI z0))]) X dX13_octets_11 (by decide) rfl ?_
  refine q_sub [4, 5, 6, 7, 3, 2, 1, 0] rfl ?_
  have G5 := L0 hfin (ckW (sN lo hi 0) x0) 0 (Nat.zero_add _)
  rw [c3_0] at G5
  exact G5
