/-! the start: startAnew, the constructor, begin -/
def aNew (m : Nat) (lo hi : Nat → Int32) (bg : Nat) : sA := ((m, lo, hi), fun _ => none, [(fun _ => none, 0)], [], 0, bg)
def nNo : gN := (fun _ => False, fun _ => 0, fun _ => [], fun _ => 0, fun _ _ => 0, fun _ _ => 0, fun _ => 0, fun _ => 0, fun _ => 0, fun _ => 0, fun _ => 0, fun _ => 0, fun _ => 0, fun _ _ => none)
theorem nInv_no {G : gV} {M : gMem} {P : Nat → Nat → Prop} : nInv G M nNo P := ⟨fun _ h => h.elim, fun _ _ h => h.elim⟩

set_option maxRecDepth 20000 in
theorem c_startAnew {l : Launch} {G : gV} {M : gMem} {g vl nl kl sh eV en ek m bg : Nat} {w3 w4 w5 : Value} {lo hi : Nat → Int32} {vs ns ks : List Nat} (hG : M g = some (oB 11 [.ref vl, .ref nl, .ref kl, w3, w4, w5, .int (nI bg)])) (hS : isShape G M sh (nI m) lo hi) (hO : okS m lo hi) (h16 : ∀ d, d < 3 → sN lo hi d ≤ 16) (hV : isList G M vl eV vs) (hL : isList G M nl en ns) (hK : isList G M kl ek ks) (x1 : vl ≠ nl) (x2 : vl ≠ kl) (x3 : nl ≠ kl) (y1 : eV = en → eV = gDA G) (y2 : eV = ek → eV = gDA G) (y3 : en = ek → en = gDA G) (hbg : bg ≤ 2) : qC l G yX11_startAnew cX11_startAnew 2 none 9 201 19300 [.ref g, .ref sh] M (fun v M' => v = none ∧ isGV G M' g (aNew m lo hi bg)) := by
  refine qC_of (by decide +kernel) (Nat.le_of_ble_eq_true rfl) (fun F hF X hr hn => ?_)
  subst hF
  have X : qX G F cX11_startAnew 2 RX11 9 := X
  have hz : sz3 lo hi ≤ 4096 := Nat.le_trans (Nat.mul_le_mul (Nat.mul_le_mul (h16 0 (by decide)) (h16 1 (by decide))) (h16 2 (by decide))) (by decide)
  obtain ⟨sb, sc, sd, sp, s1, -⟩ := id hS
  obtain ⟨mvv, vL1⟩ := id hV.2.1
  obtain ⟨mvn, nL1⟩ := id hL.2.1
  obtain ⟨mvk, kL1⟩ := id hK.2.1
  have g1 : sh ≠ g := fun z => by rw [z, hG] at s1; cases s1
  have g2 : vl ≠ g := fun z => by rw [z, hG] at vL1; cases vL1
  have g3 : nl ≠ g := fun z => by rw [z, hG] at nL1; cases nL1
  have g4 : kl ≠ g := fun z => by rw [z, hG] at kL1; cases kL1
  have y1s : en = eV → en = gDA G := fun z => by have := y1 z.symm; rw [z]; exact this
  have y2s : ek = eV → ek = gDA G := fun z => by have := y2 z.symm; rw [z]; exact this
  have y3s : ek = en → ek = gDA G := fun z => by have := y3 z.symm; rw [z]; exact this
  refine q_da X (fun hda => ?_)
  show qJ G F _ 2 M 201 19300 0 [(0, .ref g), (1, .ref sh)] []
  refine q_aload_n X dX11_startAnew_0 0 rfl ?_
  refine q_aload_n X dX11_startAnew_1 1 rfl ?_
  refine q_put X hG rfl in_RX11 tyX11 tyX11_ok nmX11 3 (by decide) tw_280 rfl rfl rfl rfl rfl (Nat.le_of_ble_eq_true rfl) (fs1 := [.ref vl, .ref nl, .ref kl, .ref sh, w4, w5, .int (nI bg)]) rfl dX11_startAnew_2 ?_
  have m_1 : (mU M g (oB 11 [.ref vl, .ref nl, .ref kl, .ref sh, w4, w5, .int (nI bg)])) g = some (oB 11 [.ref vl, .ref nl, .ref kl, .ref sh, w4, w5, .int (nI bg)]) := mU_s
  have m_2 : (mU M g (oB 11 [.ref vl, .ref nl, .ref kl, .ref sh, w4, w5, .int (nI bg)])) sh = some (oB 7 [.int (nI m), .ref sb, .ref sc, .ref sp.2.1, .ref sd, .int (sL lo hi 0 * sL lo hi 1 * sL lo hi 2)]) := (mU_n (g1)).trans s1
  refine q_aload_n X dX11_startAnew_5 0 rfl ?_
  refine q_new X (ci := 1) rfl in_RX0 tyX0 tyX0_ok tw_112 tw_113 tw_6 (fs0 := [.null, .null]) (fun j hj => by rcases (show j = 0 ∨ j = 1 by omega) with rfl | rfl <;> rfl) (rc' := 200) (rs' := 19298) (by omega) (by omega) dX11_startAnew_6 (fun q1 fq1 => ?_)
  have n_3 : g ≠ q1 := g_nef m_1 fq1
  have m_4 : (mU (mU M g (oB 11 [.ref vl, .ref nl, .ref kl, .ref sh, w4, w5, .int (nI bg)])) q1 (oB 1 [.null, .null])) g = some (oB 11 [.ref vl, .ref nl, .ref kl, .ref sh, w4, w5, .int (nI bg)]) := (mU_n n_3).trans m_1
  have n_5 : sh ≠ q1 := g_nef m_2 fq1
  have m_6 : (mU (mU M g (oB 11 [.ref vl, .ref nl, .ref kl, .ref sh, w4, w5, .int (nI bg)])) q1 (oB 1 [.null, .null])) sh = some (oB 7 [.int (nI m), .ref sb, .ref sc, .ref sp.2.1, .ref sd, .int (sL lo hi 0 * sL lo hi 1 * sL lo hi 2)]) := (mU_n n_5).trans m_2
  have m_7 : (mU (mU M g (oB 11 [.ref vl, .ref nl, .ref kl, .ref sh, w4, w5, .int (nI bg)])) q1 (oB 1 [.null, .null])) q1 = some (oB 1 [.null, .null]) := mU_s
  have ev1 : mEv (fun x => x = g) M (mU (mU M g (oB 11 [.ref vl, .ref nl, .ref kl, .ref sh, w4, w5, .int (nI bg)])) q1 (oB 1 [.null, .null])) := mEv.trans (K := fun x => x = g) (mEv_upd (K := fun x => x = g) rfl) (mEv_new fq1)
  have hS1 : isShape G (mU (mU M g (oB 11 [.ref vl, .ref nl, .ref kl, .ref sh, w4, w5, .int (nI bg)])) q1 (oB 1 [.null, .null])) sh (nI m) lo hi := hS.ev ev1 (fun x hx z => by rw [z, hG] at hx; rcases hx with ⟨_, h⟩ | ⟨_, h⟩ <;> cases h)
  have fq9 := fq1
  refine q_dup X dX11_startAnew_9 rfl ?_
  refine q_aload_n X dX11_startAnew_10 1 rfl ?_
  refine q_callVp X (c_X7_size hS1) Y_X7_size tw_114 tw_115 tw_116 m_6 rfl (by omega) rfl rfl (Nat.le_of_ble_eq_true rfl) dX11_startAnew_11 ?_
  rw [show sL lo hi 0 * sL lo hi 1 * sL lo hi 2 = nI (sz3 lo hi) from hO.size]
  refine q_callI X (c_X0_init mU_s hz) Y_X0_init tw_118 tw_119 rfl (by omega) rfl rfl (Nat.le_of_ble_eq_true rfl) (rc' := 198) (rs' := 15138) (by omega) (by omega) dX11_startAnew_14 (fun v M' hp _ => ?_)
  obtain ⟨rfl, dn, dm, i1, i2, i3, i4⟩ := hp
  generalize M' = M2 at *
  show qJ G F _ 2 M2 198 15138 17 [(0, .ref g), (1, .ref sh)] [.ref q1, .ref g]
  have ev2 : mEv (fun x => x = g) M M2 := fun x hx => by
    have n : x ≠ q1 := fun z => by have h5 := (mEv_upd (K := fun x => x = g) (M := M) (e := oB 11 [.ref vl, .ref nl, .ref kl, .ref sh, w4, w5, .int (nI bg)]) rfl x hx).1; rw [z] at h5; exact h5 fq9
    have e1 := ev1 x hx
    have e : M2 x = _ := i4 x n (fun z => e1.1 (z ▸ i2)) (fun z => e1.1 (z ▸ i3))
    exact ⟨by rw [e]; exact e1.1, fun k => e.trans (e1.2 k)⟩
  have nq : M q1 = none := (mEv_upd (K := fun x => x = g) rfl).none fq9
  have ndn : M dn = none := ev1.none i2
  have ndm : M dm = none := ev1.none i3
  have hG2 : M2 g = some (oB 11 [.ref vl, .ref nl, .ref kl, .ref sh, w4, w5, .int (nI bg)]) := (i4 g (fun z => by rw [← z, mU_s] at fq9; cases fq9) (fun z => (ev1 g (g_so hG)).1 (z ▸ i2)) (fun z => (ev1 g (g_so hG)).1 (z ▸ i3))).trans ((mU_n (fun z => by rw [← z, mU_s] at fq9; cases fq9)).trans mU_s)
  refine q_put X hG2 rfl in_RX11 tyX11 tyX11_ok nmX11 4 (by decide) tw_281 rfl rfl rfl rfl rfl (Nat.le_of_ble_eq_true rfl) (fs1 := [.ref vl, .ref nl, .ref kl, .ref sh, .ref q1, w5, .int (nI bg)]) rfl dX11_startAnew_17 ?_
  have m_8 : (mU M2 g (oB 11 [.ref vl, .ref nl, .ref kl, .ref sh, .ref q1, w5, .int (nI bg)])) g = some (oB 11 [.ref vl, .ref nl, .ref kl, .ref sh, .ref q1, w5, .int (nI bg)]) := mU_s
  refine q_aload_n X dX11_startAnew_20 0 rfl ?_
  refine q_iconst (v := 0) X dX11_startAnew_21 (by decide) ?_
  refine q_put X m_8 rfl in_RX11 tyX11 tyX11_ok nmX11 5 (by decide) tw_282 rfl rfl rfl rfl rfl (Nat.le_of_ble_eq_true rfl) (fs1 := [.ref vl, .ref nl, .ref kl, .ref sh, .ref q1, .int 0, .int (nI bg)]) rfl dX11_startAnew_22 ?_
  have m_9 : (mU (mU M2 g (oB 11 [.ref vl, .ref nl, .ref kl, .ref sh, .ref q1, w5, .int (nI bg)])) g (oB 11 [.ref vl, .ref nl, .ref kl, .ref sh, .ref q1, .int 0, .int (nI bg)])) g = some (oB 11 [.ref vl, .ref nl, .ref kl, .ref sh, .ref q1, .int 0, .int (nI bg)]) := mU_s
  have ev3 : mEv (fun x => x = g) M (mU (mU M2 g (oB 11 [.ref vl, .ref nl, .ref kl, .ref sh, .ref q1, w5, .int (nI bg)])) g (oB 11 [.ref vl, .ref nl, .ref kl, .ref sh, .ref q1, .int 0, .int (nI bg)])) := ev2.trans (mEv.trans (K := fun x => x = g) (mEv_upd (K := fun x => x = g) rfl) (mEv_upd (K := fun x => x = g) rfl))
  obtain ⟨_, _, k1, k2, k3, -⟩ := id i1
  have kg : ∀ {x : Nat} {e : va_E}, M2 x = some e → (∀ f0, e ≠ oB 11 f0) → x ≠ g := fun h h1 z => by rw [z, hG2] at h; cases h; exact h1 _ rfl
  have hD3 : isCells G (mU (mU M2 g (oB 11 [.ref vl, .ref nl, .ref kl, .ref sh, .ref q1, w5, .int (nI bg)])) g (oB 11 [.ref vl, .ref nl, .ref kl, .ref sh, .ref q1, .int 0, .int (nI bg)])) q1 dn dm (sz3 lo hi) (fun _ => none) := i1.mv ((mU_n (kg k1 (fun _ z => by cases z))).trans (mU_n (kg k1 (fun _ z => by cases z)))) ((mU_n (kg k2 (fun _ z => by cases z))).trans (mU_n (kg k2 (fun _ z => by cases z)))) ((mU_n (kg k3 (fun _ z => by cases z))).trans (mU_n (kg k3 (fun _ z => by cases z))))
  have hG3 : (mU (mU M2 g (oB 11 [.ref vl, .ref nl, .ref kl, .ref sh, .ref q1, w5, .int (nI bg)])) g (oB 11 [.ref vl, .ref nl, .ref kl, .ref sh, .ref q1, .int 0, .int (nI bg)])) g = some (oB 11 [.ref vl, .ref nl, .ref kl, .ref sh, .ref q1, .int 0, .int (nI bg)]) := mU_s
  generalize mU (mU M2 g (oB 11 [.ref vl, .ref nl, .ref kl, .ref sh, .ref q1, w5, .int (nI bg)])) g (oB 11 [.ref vl, .ref nl, .ref kl, .ref sh, .ref q1, .int 0, .int (nI bg)]) = M3 at *
  have l1 : isList G M3 nl en ns := hL.ev ev3 g3 (fun hd z => hL.ned hda hG (fun _ _ z => by cases z) z.symm)
  have l2 : isList G M3 vl eV vs := hV.ev ev3 g2 (fun hd z => hV.ned hda hG (fun _ _ z => by cases z) z.symm)
  have l3 : isList G M3 kl ek ks := hK.ev ev3 g4 (fun hd z => hK.ned hda hG (fun _ _ z => by cases z) z.symm)
  have hS3 : isShape G M3 sh (nI m) lo hi := hS.ev ev3 (fun x hx z => by rw [z, hG] at hx; rcases hx with ⟨_, h⟩ | ⟨_, h⟩ <;> cases h)
  obtain ⟨_, nL3⟩ := id l1.2.1
  obtain ⟨_, _, h1, h2, h3, -⟩ := id hD3
  refine q_da X (fun hda3 => ?_)
  refine q_aload_n X dX11_startAnew_25 0 rfl ?_
  refine q_get X hG3 rfl in_RX11 1 (by decide) tw_278 rfl rfl dX11_startAnew_26 ?_
  refine q_callF X (x := ⟨"java/util/List", "clear", "()V"⟩) (c_list_clear l1) Y_Jx4a65c_clear_da8c8 tw_134 tw_138 tw_140 tn_136 tn_135 tn_141 tn_139 tn_137 (by decide +kernel) nL3 rfl (by omega) rfl rfl (Nat.le_of_ble_eq_true rfl) (rc' := 198) (rs' := 15138) (by omega) (by omega) dX11_startAnew_29 (fun v M' hp _ => ?_)
  have ev4 := hp.ev hda3
  obtain ⟨rfl, l1b, -⟩ := hp
  generalize M' = M4 at *
  show qJ G F _ 2 M4 198 15138 34 [(0, .ref g), (1, .ref sh)] []
  have nkM4 : ∀ {q : Nat} {e : va_E}, M3 q = some e → (∀ n f, e ≠ aO G n f) → (∀ fs0, e ≠ oB 0 fs0) → ¬ (q = nl ∨ q = en) := fun h h1 h2 z => by
    rcases z with z | z
    · exact l1.nea h h2 z
    · exact l1.ned hda3 h h1 z
  have hG4 : M4 g = some (oB 11 [.ref vl, .ref nl, .ref kl, .ref sh, .ref q1, .int 0, .int (nI bg)]) := ev4.keep hG3 (nkM4 hG3 (fun _ _ z => by cases z) (fun _ z => by cases z))
  have hS4 : isShape G M4 sh (nI m) lo hi := hS3.ev ev4 (fun x hx => by rcases hx with ⟨_, h⟩ | ⟨_, h⟩; exact nkM4 h (fun _ _ z => by cases z) (fun _ z => by cases z); exact nkM4 h (fun _ _ z => by simp at z) (fun _ z => by cases z))
  obtain ⟨_, _, r1, r2, r3, -⟩ := id hD3
  have hD4 : isCells G M4 q1 dn dm (sz3 lo hi) (fun _ => none) := hD3.ev ev4 (nkM4 r1 (fun _ _ z => by cases z) (fun _ z => by cases z)) (nkM4 r2 (fun _ _ z => by simp at z) (fun _ z => by cases z)) (nkM4 r3 (fun _ _ z => by simp at z) (fun _ z => by cases z))
  have l2b : isList G M4 vl eV vs := by
    obtain ⟨_, r9⟩ := id l2.2.1
    refine l2.ev ev4 (fun z => ?_) (fun hd z => ?_)
    · rcases z with z | z
      · exact x1 z
      · exact l1.ned hda3 r9 (fun _ _ z => by cases z) z
    · rcases z with z | z
      · obtain ⟨_, r8⟩ := id l1.2.1; exact l2.ned hda3 r8 (fun _ _ z => by cases z) z.symm
      · exact hd (by rw [y1 z]; exact hda3)
  have l3b : isList G M4 kl ek ks := by
    obtain ⟨_, r9⟩ := id l3.2.1
    refine l3.ev ev4 (fun z => ?_) (fun hd z => ?_)
    · rcases z with z | z
      · exact (Ne.symm x3) z
      · exact l1.ned hda3 r9 (fun _ _ z => by cases z) z
    · rcases z with z | z
      · obtain ⟨_, r8⟩ := id l1.2.1; exact l3.ned hda3 r8 (fun _ _ z => by cases z) z.symm
      · exact hd (by rw [y3s z]; exact hda3)
  obtain ⟨_, vL4⟩ := id l2b.2.1
  refine q_da X (fun hda4 => ?_)
  refine q_aload_n X dX11_startAnew_34 0 rfl ?_
  refine q_get X hG4 rfl in_RX11 0 (by decide) tw_277 rfl rfl dX11_startAnew_35 ?_
  refine q_callF X (x := ⟨"java/util/List", "clear", "()V"⟩) (c_list_clear l2b) Y_Jx4a65c_clear_da8c8 tw_134 tw_138 tw_140 tn_136 tn_135 tn_141 tn_139 tn_137 (by decide +kernel) vL4 rfl (by omega) rfl rfl (Nat.le_of_ble_eq_true rfl) (rc' := 198) (rs' := 15138) (by omega) (by omega) dX11_startAnew_38 (fun v M' hp _ => ?_)
  have ev5 := hp.ev hda4
  obtain ⟨rfl, l2c, -⟩ := hp
  generalize M' = M5 at *
  show qJ G F _ 2 M5 198 15138 43 [(0, .ref g), (1, .ref sh)] []
  have nkM5 : ∀ {q : Nat} {e : va_E}, M4 q = some e → (∀ n f, e ≠ aO G n f) → (∀ fs0, e ≠ oB 0 fs0) → ¬ (q = vl ∨ q = eV) := fun h h1 h2 z => by
    rcases z with z | z
    · exact l2b.nea h h2 z
    · exact l2b.ned hda4 h h1 z
  have hG5 : M5 g = some (oB 11 [.ref vl, .ref nl, .ref kl, .ref sh, .ref q1, .int 0, .int (nI bg)]) := ev5.keep hG4 (nkM5 hG4 (fun _ _ z => by cases z) (fun _ z => by cases z))
  have hS5 : isShape G M5 sh (nI m) lo hi := hS4.ev ev5 (fun x hx => by rcases hx with ⟨_, h⟩ | ⟨_, h⟩; exact nkM5 h (fun _ _ z => by cases z) (fun _ z => by cases z); exact nkM5 h (fun _ _ z => by simp at z) (fun _ z => by cases z))
  obtain ⟨_, _, r1, r2, r3, -⟩ := id hD4
  have hD5 : isCells G M5 q1 dn dm (sz3 lo hi) (fun _ => none) := hD4.ev ev5 (nkM5 r1 (fun _ _ z => by cases z) (fun _ z => by cases z)) (nkM5 r2 (fun _ _ z => by simp at z) (fun _ z => by cases z)) (nkM5 r3 (fun _ _ z => by simp at z) (fun _ z => by cases z))
  have l1c : isList G M5 nl en [] := by
    obtain ⟨_, r9⟩ := id l1b.2.1
    refine l1b.ev ev5 (fun z => ?_) (fun hd z => ?_)
    · rcases z with z | z
      · exact (Ne.symm x1) z
      · exact l2b.ned hda4 r9 (fun _ _ z => by cases z) z
    · rcases z with z | z
      · obtain ⟨_, r8⟩ := id l2b.2.1; exact l1b.ned hda4 r8 (fun _ _ z => by cases z) z.symm
      · exact hd (by rw [y1s z]; exact hda4)
  have l3c : isList G M5 kl ek ks := by
    obtain ⟨_, r9⟩ := id l3b.2.1
    refine l3b.ev ev5 (fun z => ?_) (fun hd z => ?_)
    · rcases z with z | z
      · exact (Ne.symm x2) z
      · exact l2b.ned hda4 r9 (fun _ _ z => by cases z) z
    · rcases z with z | z
      · obtain ⟨_, r8⟩ := id l2b.2.1; exact l3b.ned hda4 r8 (fun _ _ z => by cases z) z.symm
      · exact hd (by rw [y2s z]; exact hda4)
  refine q_aload_n X dX11_startAnew_43 0 rfl ?_
  refine q_get X hG5 rfl in_RX11 0 (by decide) tw_277 rfl rfl dX11_startAnew_44 ?_
  refine q_new X (ci := 9) rfl in_RX9 tyX9 tyX9_ok tw_143 tw_144 tw_9 (fs0 := [.null, .int 0, .null, .null, .int 0, .int 0, .int 0]) (fun j hj => by rcases (show j = 0 ∨ j = 1 ∨ j = 2 ∨ j = 3 ∨ j = 4 ∨ j = 5 ∨ j = 6 by omega) with rfl | rfl | rfl | rfl | rfl | rfl | rfl <;> rfl) (rc' := 197) (rs' := 15131) (by omega) (by omega) dX11_startAnew_47 (fun q2 fq2 => ?_)
  have n_10 : g ≠ q2 := g_nef hG5 fq2
  have m_11 : (mU M5 q2 (oB 9 [.null, .int 0, .null, .null, .int 0, .int 0, .int 0])) g = some (oB 11 [.ref vl, .ref nl, .ref kl, .ref sh, .ref q1, .int 0, .int (nI bg)]) := (mU_n n_10).trans hG5
  have m_12 : (mU M5 q2 (oB 9 [.null, .int 0, .null, .null, .int 0, .int 0, .int 0])) q2 = some (oB 9 [.null, .int 0, .null, .null, .int 0, .int 0, .int 0]) := mU_s
  have fq29 := fq2
  have hS6 : isShape G (mU M5 q2 (oB 9 [.null, .int 0, .null, .null, .int 0, .int 0, .int 0])) sh (nI m) lo hi := hS5.ext (mExt_new fq2)
  refine q_dup X dX11_startAnew_50 rfl ?_
  refine q_aload_n X dX11_startAnew_51 1 rfl ?_
  refine q_iconst (v := (-1)) X dX11_startAnew_52 (by decide) ?_
  refine q_callI X (c_X9_init (p := -1) hS6 hO hz mU_s) Y_X9_init tw_145 tw_146 rfl (by omega) rfl rfl (Nat.le_of_ble_eq_true rfl) (rc' := 193) (rs' := 10889) (by omega) (by omega) dX11_startAnew_53 (fun v M' hp _ => ?_)
  obtain ⟨rfl, cl, nb, mb, aa, j1, j2, j3, j4, j5, j6, j7, j8, j9, j10⟩ := hp
  generalize M' = M7 at *
  show qJ G F _ 2 M7 193 10889 56 [(0, .ref g), (1, .ref sh)] [.ref q2, .ref vl]
  have ev7 : mEv (fun _ => False) M5 M7 := fun x hx => by
    have n : x ≠ q2 := fun z => hx (z ▸ fq29)
    have e : M7 x = M5 x := (j10 x n (by rw [mU_n n]; exact hx)).trans (mU_n n)
    exact ⟨by rw [e]; exact hx, fun _ => e⟩
  have nf : ∀ {x : Nat}, (mU M5 q2 (oB 9 [.null, .int 0, .null, .null, .int 0, .int 0, .int 0])) x = none → M5 x = none := fun h => (mEv_new (K := fun _ => False) fq29).none h
  have n5 := nf j5
  have n6 := nf j6
  have n7 := nf j7
  have hG7 := ev7.keep hG5 id
  have hS7 := hS5.ev ev7 (fun _ _ => id)
  have hD7 := hD5.ev ev7 id id id
  have l1d := l1c.ev ev7 id (fun _ => id)
  have l2d := l2c.ev ev7 id (fun _ => id)
  have l3d := l3c.ev ev7 id (fun _ => id)
  obtain ⟨N2, eN2⟩ : ∃ N2, N2 = nAdd nNo q2 9 [.int (-1), .int 0, .int 0] m lo hi sh 1 cl nb mb aa 0 (fun _ => none) := ⟨_, rfl⟩
  obtain ⟨t1, t2, t3, t4, t5, t6, t7, t8, t9, t10, t11, t12, t13⟩ := nAdd_at eN2
  have tz : nsz N2 q2 = sz3 lo hi := by unfold nsz; rw [t4, t5]
  have hst : nStat G M7 N2 q2 := by
    unfold nStat
    rw [t1, t2, t3, t4, t5, t6, t7, t8, t9, t10, t11, tz]
    obtain ⟨_, _, mc1, -⟩ := id j2
    exact ⟨by unfold isNC; omega, j1, hS7, hO, hz, Nat.le_refl _, by decide, mc1⟩
  have hkd : nKind G M7 N2 q2 := Or.inl ⟨t1, _, _, _, t2⟩
  have hch : nCache G M7 N2 (fun _ _ => False) q2 := ⟨fun _ => none, fun _ => 0, by rw [t8, t9, t10, tz]; exact j2, by rw [t11, tz]; exact j3, fun i hi => ⟨fun _ => by rw [t13], fun z => absurd t1 z⟩⟩
  have dnm : nb ≠ mb := by obtain ⟨_, _, -, -, -, h9, -⟩ := j2; exact h9
  have hI7 : nInv G M7 N2 (fun _ _ => False) := nInv_add (M := M5) nInv_no eN2 fq29 n5 n6 n7 (fun z => absurd z (by decide)) ev7 hst hkd hch dnm j8 j9
  obtain ⟨_, vL7⟩ := id l2d.2.1
  refine q_da X (fun hda7 => ?_)
  refine q_callF X (x := ⟨"java/util/List", "add", "(Ljava/lang/Object;)Z"⟩) (c_list_add (v := q2) (xs := []) (ms := 10) l2d (node_okE hst) (fun y hy => by simp at hy) (by decide) (by decide)) Y_Jx4a65c_add_9ea2d tw_179 tw_182 tw_184 tn_181 tn_180 tn_185 tn_183 tn_137 (by decide +kernel) vL7 rfl (by omega) rfl rfl (Nat.le_of_ble_eq_true rfl) (rc' := 192) (rs' := 10879) (by omega) (by omega) dX11_startAnew_56 (fun v M' hp _ => ?_)
  have ev8 := hp.ev
  obtain ⟨rfl, eV8, v1, v2, -⟩ := hp
  generalize M' = M8 at *
  show qJ G F _ 2 M8 192 10879 61 [(0, .ref g), (1, .ref sh)] [.int 1]
  have nkM8 : ∀ {q : Nat} {e : va_E}, M7 q = some e → (∀ n f, e ≠ aO G n f) → (∀ fs0, e ≠ oB 0 fs0) → ¬ (q = vl ∨ q = eV) := fun h h1 h2 z => by
    rcases z with z | z
    · exact l2d.nea h h2 z
    · exact l2d.ned hda7 h h1 z
  have hG8 : M8 g = some (oB 11 [.ref vl, .ref nl, .ref kl, .ref sh, .ref q1, .int 0, .int (nI bg)]) := ev8.keep hG7 (nkM8 hG7 (fun _ _ z => by cases z) (fun _ z => by cases z))
  have hS8 : isShape G M8 sh (nI m) lo hi := hS7.ev ev8 (fun x hx => by rcases hx with ⟨_, h⟩ | ⟨_, h⟩; exact nkM8 h (fun _ _ z => by cases z) (fun _ z => by cases z); exact nkM8 h (fun _ _ z => by simp at z) (fun _ z => by cases z))
  obtain ⟨_, _, r1, r2, r3, -⟩ := id hD7
  have hD8 : isCells G M8 q1 dn dm (sz3 lo hi) (fun _ => none) := hD7.ev ev8 (nkM8 r1 (fun _ _ z => by cases z) (fun _ z => by cases z)) (nkM8 r2 (fun _ _ z => by simp at z) (fun _ z => by cases z)) (nkM8 r3 (fun _ _ z => by simp at z) (fun _ z => by cases z))
  have l1e : isList G M8 nl en [] := by
    obtain ⟨_, r9⟩ := id l1d.2.1
    refine l1d.ev ev8 (fun z => ?_) (fun hd z => ?_)
    · rcases z with z | z
      · exact (Ne.symm x1) z
      · exact l2d.ned hda7 r9 (fun _ _ z => by cases z) z
    · rcases z with z | z
      · obtain ⟨_, r8⟩ := id l2d.2.1; exact l1d.ned hda7 r8 (fun _ _ z => by cases z) z.symm
      · exact hd (by rw [y1s z]; exact hda7)
  have l3e : isList G M8 kl ek ks := by
    obtain ⟨_, r9⟩ := id l3d.2.1
    refine l3d.ev ev8 (fun z => ?_) (fun hd z => ?_)
    · rcases z with z | z
      · exact (Ne.symm x2) z
      · exact l2d.ned hda7 r9 (fun _ _ z => by cases z) z
    · rcases z with z | z
      · obtain ⟨_, r8⟩ := id l2d.2.1; exact l3d.ned hda7 r8 (fun _ _ z => by cases z) z.symm
      · exact hd (by rw [y2s z]; exact hda7)
  have hI8 : nInv G M8 N2 (fun _ _ => False) := nInv_list hI7 l2d hda7 ev8
  have hv8 : ∀ {ed xs a2}, isList G M7 a2 ed xs → (eV = ed → eV = gDA G) → eV8 = ed → eV8 = gDA G := fun hl2 h1 z => by
    rcases v2 with v2 | v2
    · subst v2; exact h1 z
    · subst z
      rcases hl2.2.2 with ⟨r, -⟩ | ⟨n, f, r, -⟩
      · exact r
      · rw [r] at v2; cases v2
  have z1 : eV8 = en → eV8 = gDA G := hv8 l1d y1
  have z2 : eV8 = ek → eV8 = gDA G := hv8 l3d y2
  refine q_da X (fun hda8 => ?_)
  refine q_pop X dX11_startAnew_61 rfl ?_
  refine q_aload_n X dX11_startAnew_62 0 rfl ?_
  refine q_callV X (c_X11_cutChunks hG8 hS8 hO h16 l3e) Y_X11_cutChunks tw_246 tw_248 sel_4 hG8 rfl (by omega) rfl rfl (Nat.le_of_ble_eq_true rfl) (rc' := 0) (rs' := 63) (by omega) (by omega) dX11_startAnew_63 (fun v M' hp _ => ?_)
  obtain ⟨rfl, ek9, ks9, u1, u2, u3, u4, ev9⟩ := hp
  generalize M' = M9 at *
  show qJ G F _ 2 M9 0 63 66 [(0, .ref g), (1, .ref sh)] []
  have nkM9 : ∀ {q : Nat} {e : va_E}, M8 q = some e → (∀ n f, e ≠ aO G n f) → (∀ fs0, e ≠ oB 0 fs0) → ¬ (q = kl ∨ q = ek) := fun h h1 h2 z => by
    rcases z with z | z
    · exact l3e.nea h h2 z
    · exact l3e.ned hda8 h h1 z
  have hG9 : M9 g = some (oB 11 [.ref vl, .ref nl, .ref kl, .ref sh, .ref q1, .int 0, .int (nI bg)]) := ev9.keep hG8 (nkM9 hG8 (fun _ _ z => by cases z) (fun _ z => by cases z))
  have hS9 : isShape G M9 sh (nI m) lo hi := hS8.ev ev9 (fun x hx => by rcases hx with ⟨_, h⟩ | ⟨_, h⟩; exact nkM9 h (fun _ _ z => by cases z) (fun _ z => by cases z); exact nkM9 h (fun _ _ z => by simp at z) (fun _ z => by cases z))
  obtain ⟨_, _, r1, r2, r3, -⟩ := id hD8
  have hD9 : isCells G M9 q1 dn dm (sz3 lo hi) (fun _ => none) := hD8.ev ev9 (nkM9 r1 (fun _ _ z => by cases z) (fun _ z => by cases z)) (nkM9 r2 (fun _ _ z => by simp at z) (fun _ z => by cases z)) (nkM9 r3 (fun _ _ z => by simp at z) (fun _ z => by cases z))
  have l1f : isList G M9 nl en [] := by
    obtain ⟨_, r9⟩ := id l1e.2.1
    refine l1e.ev ev9 (fun z => ?_) (fun hd z => ?_)
    · rcases z with z | z
      · exact x3 z
      · exact l3e.ned hda8 r9 (fun _ _ z => by cases z) z
    · rcases z with z | z
      · obtain ⟨_, r8⟩ := id l3e.2.1; exact l1e.ned hda8 r8 (fun _ _ z => by cases z) z.symm
      · exact hd (by rw [y3 z]; exact hda8)
  have l2f : isList G M9 vl eV8 ([] ++ [q2]) := by
    obtain ⟨_, r9⟩ := id v1.2.1
    refine v1.ev ev9 (fun z => ?_) (fun hd z => ?_)
    · rcases z with z | z
      · exact x2 z
      · exact l3e.ned hda8 r9 (fun _ _ z => by cases z) z
    · rcases z with z | z
      · obtain ⟨_, r8⟩ := id l3e.2.1; exact v1.ned hda8 r8 (fun _ _ z => by cases z) z.symm
      · exact hd (by rw [z2 z]; exact hda8)
  have hI9 : nInv G M9 N2 (fun _ _ => False) := nInv_list hI8 l3e hda8 ev9
  have hk9 : ∀ {ed xs a2}, isList G M8 a2 ed xs → (ed = ek → ed = gDA G) → ed = ek9 → ed = gDA G := fun hl2 h1 z => by
    rcases u4 with u4 | u4
    · subst u4; exact h1 z
    · subst z
      rcases hl2.2.2 with ⟨r, -⟩ | ⟨n, f, r, -⟩
      · exact r
      · rw [r] at u4; cases u4
  have adr : ∀ {d x : Nat}, nAdr N2 d x → M5 x = none := fun hx => by
    obtain ⟨y, y1, y2, y3⟩ := hx
    have yq : y = q2 := by rw [eN2] at y1; exact y1.resolve_right (fun z => z)
    subst yq; rw [t1, t9, t10, t11] at y3; rcases y3 with y3 | y3 | y3 | y3
    · rw [y3]; exact n5
    · rw [y3]; exact n6
    · rw [y3]; exact n7
    · exact absurd y3.1 (by decide)
  obtain ⟨_, _, p1, p2, p3, -⟩ := id hD5
  refine q_vret X hr dX11_startAnew_66 (⟨rfl, vl, nl, kl, sh, q1, dn, dm, eV8, en, ek9, [q2], [], ks9, N2, hG9, hS9, hD9, l2f, l1f, u1, ⟨u2, fun b k hb => (u3 b k hb).2.2⟩, hI9, ⟨rfl, fun i a c ha hc => ?_⟩, ⟨rfl, fun i a w ha hw => by simp at ha⟩, ⟨x1, x2, x3, z1, fun z => hk9 v1 z2 z, fun z => hk9 l1e y3 z, fun d => ⟨fun z => g_so p2 (adr z), fun z => g_so p3 (adr z)⟩⟩, hO, h16, Nat.le_refl _, (show 1 ≤ 41 by decide), Nat.zero_le _, Nat.zero_lt_one, hbg, fun i c hc => ?_⟩)
  · have h1 : ([q2] : List Nat)[i]? = some a := ha
    have h2 : ([(fun _ => none, 0)] : List ((Nat → Option Int64) × Nat))[i]? = some c := hc
    cases i with
    | succ i => simp at h1
    | zero =>
      simp at h1 h2; subst h1; subst h2
      refine ⟨by rw [eN2]; exact Or.inl rfl, t1, by unfold nVal; rw [t3, t4, t5, t7, t13]; rfl, ?_⟩
      rw [t2]; rfl
  · have h2 : ([(fun _ => none, 0)] : List ((Nat → Option Int64) × Nat))[i]? = some c := hc
    cases i with
    | succ i => simp at h2
    | zero => simp at h2; subst h2; exact ⟨fun z => absurd z (by decide), fun _ _ => rfl⟩
