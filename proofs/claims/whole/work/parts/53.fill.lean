/-! fill -/
theorem fillD_0 {lo hi : Nat → Int32} {f : Nat → Option Int64} {d x y : Int32} {v : Int64} : fillD lo hi f d x y v 0 = f := by
  funext i; unfold fillD; rw [if_neg (fun z => by omega)]
theorem fillD_y {lo hi : Nat → Int32} {f : Nat → Option Int64} {d x y : Int32} {v : Int64} {K : Nat} (h1 : ¬ sPlace lo hi (nI K) d < x) (h2 : ¬ y < sPlace lo hi (nI K) d) : cSet (fillD lo hi f d x y v K) K v = fillD lo hi f d x y v (K + 1) := by
  funext i; unfold cSet fillD
  by_cases e : i = K
  · subst e; rw [if_pos rfl, if_pos ⟨by omega, h1, h2⟩]
  · rw [if_neg e]
    by_cases c : i < K ∧ ¬ sPlace lo hi (nI i) d < x ∧ ¬ y < sPlace lo hi (nI i) d
    · rw [if_pos c, if_pos ⟨by omega, c.2⟩]
    · rw [if_neg c, if_neg (fun z => c ⟨by omega, z.2⟩)]
theorem fillD_n {lo hi : Nat → Int32} {f : Nat → Option Int64} {d x y : Int32} {v : Int64} {K : Nat} (h : sPlace lo hi (nI K) d < x ∨ y < sPlace lo hi (nI K) d) : fillD lo hi f d x y v K = fillD lo hi f d x y v (K + 1) := by
  funext i; unfold fillD
  by_cases e : i = K
  · subst e; rw [if_neg (fun z => by omega), if_neg (fun z => by rcases h with h | h; exact z.2.1 h; exact z.2.2 h)]
  · by_cases c : i < K ∧ ¬ sPlace lo hi (nI i) d < x ∧ ¬ y < sPlace lo hi (nI i) d
    · rw [if_pos c, if_pos ⟨by omega, c.2⟩]
    · rw [if_neg c, if_neg (fun z => c ⟨by omega, z.2⟩)]

set_option maxRecDepth 20000 in
theorem c_fill {l : Launch} {G : gV} {M : gMem} {g : Nat} {σ : sA} (hl : l.stackTraces = false) (h : isGV G M g σ) {d x y : Int32} {v : Int64} : xC l G yX11_fill cX11_fill 9 none 7 1 6 [.ref g, .int d, .int x, .int y, .long v] M (gzP G g (sp_fill σ d x y v)) (gzE G g (sp_fill σ d x y v)) := by
  refine xC_of (by decide +kernel) (Nat.le_of_ble_eq_true rfl) (fun F hF X hN hr hn => ?_)
  subst hF
  have X : qX G F cX11_fill 9 RX11 7 := X
  obtain ⟨vl, nl, kl, fr, dk, dn, dm, ev, en, ek, vs, ns, ks, N, hB⟩ := id h
  obtain ⟨b1, b2, b3, b4, b5, b6, b7, b8, b9, b10, b11, b12⟩ := id hB
  have hG : M g = some (oB 11 [.ref vl, .ref nl, .ref kl, .ref fr, .ref dk, .int (nI (aOf σ)), .int (nI (aBg σ))]) := b1
  obtain ⟨sb, sc, sd, sp, s1, -⟩ := id b2
  obtain ⟨cn1, cm1, d1, d2, d3, -⟩ := id b3
  obtain ⟨mvv, vL1⟩ := id b4.2.1
  obtain ⟨mvn, nL1⟩ := id b5.2.1
  obtain ⟨mvk, kL1⟩ := id b6.2.1
  have hvl : vs.length = (aV σ).length := b9.1
  have hnl : ns.length = (aN σ).length := b10.1
  have hz := b12.sz
  have l41 := b12.2.2.2.1
  have l150 := b12.2.2.2.2.1
  have lof := b12.2.2.2.2.2.1
  have loops : ¬ sRange (nI (aM σ)) (aLo σ) (aHi σ) d x y = 0 → qJ G F (xQ G F (gzP G g (sp_fill σ d x y v)) (gzE G g (sp_fill σ d x y v))) 9 M 0 0 25 [(0, .ref g), (1, .int d), (2, .int x), (3, .int y), (4, .long v), (6, .int (nI (aSz σ))), (7, .int (nI 0))] [] := by
    intro hR
    have L0 : ∀ (kk : ∀ M2 : gMem, (isCells G M2 dk dn dm (aSz σ) (fillD (aLo σ) (aHi σ) (aD σ) d x y v (aSz σ)) ∧ ∀ q, q ≠ dn → q ≠ dm → M2 q = M q) → qJ G F (xQ G F (gzP G g (sp_fill σ d x y v)) (gzE G g (sp_fill σ d x y v))) 9 M2 0 0 73 [(0, .ref g), (1, .int d), (2, .int x), (3, .int y), (4, .long v), (6, .int (nI (aSz σ)))] []) (t t9 : Nat) (M1 : gMem), t9 + t = aSz σ → (isCells G M1 dk dn dm (aSz σ) (fillD (aLo σ) (aHi σ) (aD σ) d x y v t9) ∧ ∀ q, q ≠ dn → q ≠ dm → M1 q = M q) → qJ G F (xQ G F (gzP G g (sp_fill σ d x y v)) (gzE G g (sp_fill σ d x y v))) 9 M1 0 0 25 [(0, .ref g), (1, .int d), (2, .int x), (3, .int y), (4, .long v), (6, .int (nI (aSz σ))), (7, .int (nI t9))] [] := by
      intro  kk t
      induction t with
      | zero =>
        intro t9 M1 ht90 hI
        obtain rfl : t9 = aSz σ := by omega
        refine q_iload X dX11_fill_25 6 rfl ?_
        refine q_iload X dX11_fill_27 5 rfl ?_
        refine q_icmp_ge X 73 dX11_fill_29 (by decide) (fun c_1 => ?_) (fun c_1 => absurd (Int32.le_refl _) c_1)
        refine q_sub [0, 1, 2, 3, 4, 5] rfl ?_
        exact kk M1 hI
      | succ t ih =>
        intro t9 M1 ht90 hI
        have ht9 : t9 < aSz σ := by omega
        have hB1 := hB.desk hI.1 hI.2
        have hG1 : M1 g = some (oB 11 [.ref vl, .ref nl, .ref kl, .ref fr, .ref dk, .int (nI (aOf σ)), .int (nI (aBg σ))]) := hB1.1
        have s9 : M1 fr = some (oB 7 [.int (nI (aM σ)), .ref sb, .ref sc, .ref sp.2.1, .ref sd, .int (sL (aLo σ) (aHi σ) 0 * sL (aLo σ) (aHi σ) 1 * sL (aLo σ) (aHi σ) 2)]) := (hI.2 fr (fun z => by rw [z, d2] at s1; cases s1) (fun z => by rw [z, d3] at s1; cases s1)).trans s1
        obtain ⟨_, _, e1, e2, e3, -⟩ := id hI.1
        refine q_iload X dX11_fill_25 6 rfl ?_
        refine q_iload X dX11_fill_27 5 rfl ?_
        refine q_icmp_ge X 73 dX11_fill_29 (by decide) (fun c_2 => absurd c_2 (nI_ge ht9 (by omega))) (fun c_2 => ?_)
        refine q_aload_n X dX11_fill_32 0 rfl ?_
        refine q_get X hG1 rfl in_RX11 3 (by decide) tw_280 rfl rfl dX11_fill_33 ?_
        refine q_iload X dX11_fill_36 6 rfl ?_
        refine q_iload_n X dX11_fill_38 1 rfl ?_
        refine q_callVp X (c_X7_placeOf hB1.2.1) Y_X7_placeOf tw_459 tw_460 tw_461 s9 rfl (by omega) rfl rfl (Nat.le_of_ble_eq_true rfl) dX11_fill_39 ?_
        refine q_istore (lv' := [(8, .int (sPlace (aLo σ) (aHi σ) (nI t9) d)), (0, .ref g), (1, .int d), (2, .int x), (3, .int y), (4, .long v), (6, .int (nI (aSz σ))), (7, .int (nI t9))]) X dX11_fill_42 (by decide) rfl ?_
        refine q_iload X dX11_fill_44 0 rfl ?_
        refine q_iload_n X dX11_fill_46 3 rfl ?_
        refine q_icmp_lt X 67 dX11_fill_47 (by decide) (fun c1 => ?_) (fun c1 => ?_)
        · refine q_iinc (v := (nI (t9 + 1))) (lv' := [(7, .int (nI (t9 + 1))), (8, .int (sPlace (aLo σ) (aHi σ) (nI t9) d)), (0, .ref g), (1, .int d), (2, .int x), (3, .int y), (4, .long v), (6, .int (nI (aSz σ)))]) X dX11_fill_67 7 rfl (nI_1 t9) (by decide) rfl ?_
          refine q_goto X 25 dX11_fill_70 (by decide) ?_
          refine q_sub [2, 3, 4, 5, 6, 7, 0] rfl ?_
          refine ih (t9 + 1) M1 (by omega) ⟨by rw [← fillD_n (Or.inl c1)]; exact hI.1, hI.2⟩
        · refine q_iload X dX11_fill_50 0 rfl ?_
          refine q_iload_n X dX11_fill_52 4 rfl ?_
          refine q_icmp_gt X 67 dX11_fill_53 (by decide) (fun c2 => ?_) (fun c2 => ?_)
          · refine q_iinc (v := (nI (t9 + 1))) (lv' := [(7, .int (nI (t9 + 1))), (8, .int (sPlace (aLo σ) (aHi σ) (nI t9) d)), (0, .ref g), (1, .int d), (2, .int x), (3, .int y), (4, .long v), (6, .int (nI (aSz σ)))]) X dX11_fill_67 7 rfl (nI_1 t9) (by decide) rfl ?_
            refine q_goto X 25 dX11_fill_70 (by decide) ?_
            refine q_sub [2, 3, 4, 5, 6, 7, 0] rfl ?_
            refine ih (t9 + 1) M1 (by omega) ⟨by rw [← fillD_n (Or.inr c2)]; exact hI.1, hI.2⟩
          · refine q_aload_n X dX11_fill_56 1 rfl ?_
            refine q_get X hG1 rfl in_RX11 4 (by decide) tw_281 rfl rfl dX11_fill_57 ?_
            refine q_iload X dX11_fill_60 7 rfl ?_
            refine q_lload X dX11_fill_62 5 rfl ?_
            refine q_callV X (c_X0_set (v := v) hI.1 ht9) Y_X0_set tw_428 tw_429 tw_430 e1 rfl (by omega) rfl rfl (Nat.le_of_ble_eq_true rfl) (rc' := 0) (rs' := 0) (Nat.le_refl _) (Nat.le_refl _) dX11_fill_64 (fun v M' hp _ => ?_)
            obtain ⟨rfl, g1, g2⟩ := hp
            generalize M' = M2 at *
            show qJ G F _ 9 M2 0 0 67 [(8, .int (sPlace (aLo σ) (aHi σ) (nI t9) d)), (0, .ref g), (1, .int d), (2, .int x), (3, .int y), (4, .long v), (6, .int (nI (aSz σ))), (7, .int (nI t9))] []
            refine q_iinc (v := (nI (t9 + 1))) (lv' := [(7, .int (nI (t9 + 1))), (8, .int (sPlace (aLo σ) (aHi σ) (nI t9) d)), (0, .ref g), (1, .int d), (2, .int x), (3, .int y), (4, .long v), (6, .int (nI (aSz σ)))]) X dX11_fill_67 7 rfl (nI_1 t9) (by decide) rfl ?_
            refine q_goto X 25 dX11_fill_70 (by decide) ?_
            refine q_sub [2, 3, 4, 5, 6, 7, 0] rfl ?_
            refine ih (t9 + 1) M2 (by omega) ⟨by rw [← fillD_y c1 c2]; exact g1, fun q q1 q2 => (g2 q q1 q2).trans (hI.2 q q1 q2)⟩
    exact L0 (fun M2 hI2 => x_ret (q_vret X hr dX11_fill_73 (gzP_K (if_neg hR) ⟨vl, nl, kl, fr, dk, dn, dm, ev, en, ek, vs, ns, ks, N, hB.desk hI2.1 hI2.2⟩))) _ 0 M (Nat.zero_add _) ⟨by rw [fillD_0]; exact b3, fun _ _ _ => rfl⟩
  show qJ G F _ 9 M 1 6 0 [(0, .ref g), (1, .int d), (2, .int x), (3, .int y), (4, .long v)] []
  refine q_aload_n X dX11_fill_0 0 rfl ?_
  refine q_get X hG rfl in_RX11 3 (by decide) tw_280 rfl rfl dX11_fill_1 ?_
  refine q_iload_n X dX11_fill_4 1 rfl ?_
  refine q_iload_n X dX11_fill_5 2 rfl ?_
  refine q_iload_n X dX11_fill_6 3 rfl ?_
  refine q_callVp X (c_X7_hasRange b2) Y_X7_hasRange tw_455 tw_456 tw_457 s1 rfl (by omega) rfl rfl (Nat.le_of_ble_eq_true rfl) dX11_fill_7 ?_
  refine x_callS X (c_need hl) Y_X11_need tw_377 tw_378 (by omega) rfl rfl (Nat.le_of_ble_eq_true rfl) (rc' := 0) (rs' := 0) (by omega) (by omega) dX11_fill_10 (fun v M' hp _ => ?_) (fun E M' hx => t_out X hN (by obtain ⟨rfl, hR, eM⟩ := hx; rw [eM]; exact gzE_T (if_pos hR) h))
  obtain ⟨rfl, hR, eM⟩ := hp
  rw [eM]
  clear eM
  show qJ G F _ 9 M 0 0 13 [(0, .ref g), (1, .int d), (2, .int x), (3, .int y), (4, .long v)] []
  refine q_aload_n X dX11_fill_13 0 rfl ?_
  refine q_get X hG rfl in_RX11 3 (by decide) tw_280 rfl rfl dX11_fill_14 ?_
  refine q_callVp X (c_X7_size b2) Y_X7_size tw_114 tw_115 tw_116 s1 rfl (by omega) rfl rfl (Nat.le_of_ble_eq_true rfl) dX11_fill_17 ?_
  rw [show sL (aLo σ) (aHi σ) 0 * sL (aLo σ) (aHi σ) 1 * sL (aLo σ) (aHi σ) 2 = nI (aSz σ) from b12.1.size]
  refine q_istore (lv' := [(6, .int (nI (aSz σ))), (0, .ref g), (1, .int d), (2, .int x), (3, .int y), (4, .long v)]) X dX11_fill_20 (by decide) rfl ?_
  refine q_iconst (v := 0) X dX11_fill_22 (by decide) ?_
  refine q_istore (lv' := [(7, .int 0), (6, .int (nI (aSz σ))), (0, .ref g), (1, .int d), (2, .int x), (3, .int y), (4, .long v)]) X dX11_fill_23 (by decide) rfl ?_
  refine q_sub [2, 3, 4, 5, 6, 1, 0] rfl ?_
  exact loops hR
