/-! the reference: parts, regrid, window -/

set_option maxRecDepth 20000 in
theorem c_parts {l : Launch} {G : gV} {M : gMem} {r : Nat} {w0 w1 w2 w3 w4 w5 w6 w7 w8 w9 : Value} {tk : Int32} {su le gr : Int64} (hA : M r = some (oB 13 [w0, w1, w2, w3, w4, w5, w6, w7, w8, w9, .int tk, .long su, .long le, .long gr])) {o ola oha ova oza : Nat} {ovf : Nat → Int64} {ozf : Nat → Int32} {w : vN} (hw : vOk w) (hO : isGrX G M o ola oha ova oza ovf ozf w) {q la ha va za n m jd L : Nat} {u0 u1 : Value} {LO HI : Nat → Int32} {kind reach kx rr what : Int32} (hq : M q = some (oB 12 [u0, u1, .ref la, .ref ha, .ref va, .ref za])) (hla : M la = some (aI G 3 LO)) (hha : M ha = some (aI G 3 HI)) (hva : M va = some (aJ G n (fun _ => 0))) (hza : M za = some (aZ G n (fun _ => 0))) (nva : ova ≠ va) (nza : oza ≠ za) (hok : okS m LO HI) (hn9 : n = sz3 LO HI) (hz9 : n ≤ 4096) (hjd : jd < vm w) (hLH : ∀ e, e < 3 → e ≠ jd → LO e = vlo w e ∧ HI e = vhi w e) (hkind : ¬ kind = 0) (hAL : ∀ x : Int32, x + kx + rr = x - rr + nI L) (hL : L ≤ 4000) (hF : ∀ e j k : Nat, e < sN LO HI 0 → j < sN LO HI 1 → k < sN LO HI 2 → rowOk w LO HI jd kind reach (pck (nI jd) (LO 0 + nI e) (LO 1 + nI j) (LO 2 + nI k) * kx - rr) L (c3 (sN LO HI 1) (sN LO HI 2) e j k)) : qC l G yX13_parts cX13_parts 12 none 5 0 0 [.ref r, .ref o, .ref q, .int (nI jd), .int kx, .int rr, .int what] M (fun v M' => v = none ∧ ∃ (tk9 : Int32) (su9 le9 gr9 : Int64), M' = mU (mU (mU M r (oB 13 [w0, w1, w2, w3, w4, w5, w6, w7, w8, w9, .int (tk9), .long (su9), .long (le9), .long (gr9)])) va (aJ G n (vF (foD w LO HI (nI jd) kind reach what) (n)))) za (aZ G n (zF (foD w LO HI (nI jd) kind reach what) (n)))) := by
  refine qC_of (by decide +kernel) (Nat.le_of_ble_eq_true rfl) (fun F hF X hr hn => ?_)
  subst hF
  have X : qX G F cX13_parts 12 RX13 5 := X
  have hcI := cI_ne X
  have hj3 : jd < 3 := Nat.lt_of_lt_of_le hjd hw.1.2.1
  have rva : r ≠ va := g_neoa hA hva
  have rza : r ≠ za := g_neoa hA hza
  have vz : va ≠ za := g_neaa hva hza (fun z => by simp at z)
  have kv : ∀ {x : Nat} {e : va_E}, M x = some e → x ≠ r → x ≠ va → x ≠ za → ∀ (tk9 : Int32) (su9 le9 gr9 : Int64) (c : Nat), (mU (mU (mU M r (oB 13 [w0, w1, w2, w3, w4, w5, w6, w7, w8, w9, .int (tk9), .long (su9), .long (le9), .long (gr9)])) va (aJ G n (vF (foD w LO HI (nI jd) kind reach what) (c)))) za (aZ G n (zF (foD w LO HI (nI jd) kind reach what) (c)))) x = some e := fun h h1 h2 h3 _ _ _ _ _ => (mU_n h3).trans ((mU_n h2).trans ((mU_n h1).trans h))
  have ko : ∀ (tk9 : Int32) (su9 le9 gr9 : Int64) (c : Nat), (mU (mU (mU M r (oB 13 [w0, w1, w2, w3, w4, w5, w6, w7, w8, w9, .int (tk9), .long (su9), .long (le9), .long (gr9)])) va (aJ G n (vF (foD w LO HI (nI jd) kind reach what) (c)))) za (aZ G n (zF (foD w LO HI (nI jd) kind reach what) (c)))) o = some (oB 12 [.int (nI (vm w)), .int (nI (vdp w)), .ref ola, .ref oha, .ref ova, .ref oza]) := kv hO.1 (g_neoo hO.1 hA (by decide)) (g_neoa hO.1 hva) (g_neoa hO.1 hza)
  have kola : ∀ (tk9 : Int32) (su9 le9 gr9 : Int64) (c : Nat), (mU (mU (mU M r (oB 13 [w0, w1, w2, w3, w4, w5, w6, w7, w8, w9, .int (tk9), .long (su9), .long (le9), .long (gr9)])) va (aJ G n (vF (foD w LO HI (nI jd) kind reach what) (c)))) za (aZ G n (zF (foD w LO HI (nI jd) kind reach what) (c)))) ola = some (aI G 3 (vlo w)) := kv hO.2.1 (Ne.symm (g_neoa hA hO.2.1)) (g_neaa hO.2.1 hva (fun z => by simp at z)) (g_neIZ hcI hO.2.1 hza)
  have koha : ∀ (tk9 : Int32) (su9 le9 gr9 : Int64) (c : Nat), (mU (mU (mU M r (oB 13 [w0, w1, w2, w3, w4, w5, w6, w7, w8, w9, .int (tk9), .long (su9), .long (le9), .long (gr9)])) va (aJ G n (vF (foD w LO HI (nI jd) kind reach what) (c)))) za (aZ G n (zF (foD w LO HI (nI jd) kind reach what) (c)))) oha = some (aI G 3 (vhi w)) := kv hO.2.2.1 (Ne.symm (g_neoa hA hO.2.2.1)) (g_neaa hO.2.2.1 hva (fun z => by simp at z)) (g_neIZ hcI hO.2.2.1 hza)
  have kova : ∀ (tk9 : Int32) (su9 le9 gr9 : Int64) (c : Nat), (mU (mU (mU M r (oB 13 [w0, w1, w2, w3, w4, w5, w6, w7, w8, w9, .int (tk9), .long (su9), .long (le9), .long (gr9)])) va (aJ G n (vF (foD w LO HI (nI jd) kind reach what) (c)))) za (aZ G n (zF (foD w LO HI (nI jd) kind reach what) (c)))) ova = some (aJ G (wsz w) ovf) := kv hO.2.2.2.1 (Ne.symm (g_neoa hA hO.2.2.2.1)) nva (g_neaa hO.2.2.2.1 hza (fun z => by simp at z))
  have koza : ∀ (tk9 : Int32) (su9 le9 gr9 : Int64) (c : Nat), (mU (mU (mU M r (oB 13 [w0, w1, w2, w3, w4, w5, w6, w7, w8, w9, .int (tk9), .long (su9), .long (le9), .long (gr9)])) va (aJ G n (vF (foD w LO HI (nI jd) kind reach what) (c)))) za (aZ G n (zF (foD w LO HI (nI jd) kind reach what) (c)))) oza = some (aZ G (wsz w) ozf) := kv hO.2.2.2.2.1 (Ne.symm (g_neoa hA hO.2.2.2.2.1)) (g_neaa hO.2.2.2.2.1 hva (fun z => by simp at z)) nza
  have kq : ∀ (tk9 : Int32) (su9 le9 gr9 : Int64) (c : Nat), (mU (mU (mU M r (oB 13 [w0, w1, w2, w3, w4, w5, w6, w7, w8, w9, .int (tk9), .long (su9), .long (le9), .long (gr9)])) va (aJ G n (vF (foD w LO HI (nI jd) kind reach what) (c)))) za (aZ G n (zF (foD w LO HI (nI jd) kind reach what) (c)))) q = some (oB 12 [u0, u1, .ref la, .ref ha, .ref va, .ref za]) := kv hq (g_neoo hq hA (by decide)) (g_neoa hq hva) (g_neoa hq hza)
  have kla : ∀ (tk9 : Int32) (su9 le9 gr9 : Int64) (c : Nat), (mU (mU (mU M r (oB 13 [w0, w1, w2, w3, w4, w5, w6, w7, w8, w9, .int (tk9), .long (su9), .long (le9), .long (gr9)])) va (aJ G n (vF (foD w LO HI (nI jd) kind reach what) (c)))) za (aZ G n (zF (foD w LO HI (nI jd) kind reach what) (c)))) la = some (aI G 3 LO) := kv hla (Ne.symm (g_neoa hA hla)) (g_neaa hla hva (fun z => by simp at z)) (g_neIZ hcI hla hza)
  have kha : ∀ (tk9 : Int32) (su9 le9 gr9 : Int64) (c : Nat), (mU (mU (mU M r (oB 13 [w0, w1, w2, w3, w4, w5, w6, w7, w8, w9, .int (tk9), .long (su9), .long (le9), .long (gr9)])) va (aJ G n (vF (foD w LO HI (nI jd) kind reach what) (c)))) za (aZ G n (zF (foD w LO HI (nI jd) kind reach what) (c)))) ha = some (aI G 3 HI) := kv hha (Ne.symm (g_neoa hA hha)) (g_neaa hha hva (fun z => by simp at z)) (g_neIZ hcI hha hza)
  have kr : ∀ (tk9 : Int32) (su9 le9 gr9 : Int64) (c : Nat), (mU (mU (mU M r (oB 13 [w0, w1, w2, w3, w4, w5, w6, w7, w8, w9, .int (tk9), .long (su9), .long (le9), .long (gr9)])) va (aJ G n (vF (foD w LO HI (nI jd) kind reach what) (c)))) za (aZ G n (zF (foD w LO HI (nI jd) kind reach what) (c)))) r = some (oB 13 [w0, w1, w2, w3, w4, w5, w6, w7, w8, w9, .int (tk9), .long (su9), .long (le9), .long (gr9)]) := fun _ _ _ _ _ => (mU_n rza).trans ((mU_n rva).trans mU_s)
  have kva : ∀ (tk9 : Int32) (su9 le9 gr9 : Int64) (c : Nat), (mU (mU (mU M r (oB 13 [w0, w1, w2, w3, w4, w5, w6, w7, w8, w9, .int (tk9), .long (su9), .long (le9), .long (gr9)])) va (aJ G n (vF (foD w LO HI (nI jd) kind reach what) (c)))) za (aZ G n (zF (foD w LO HI (nI jd) kind reach what) (c)))) va = some (aJ G n (vF (foD w LO HI (nI jd) kind reach what) c)) := fun _ _ _ _ _ => (mU_n vz).trans mU_s
  have kza : ∀ (tk9 : Int32) (su9 le9 gr9 : Int64) (c : Nat), (mU (mU (mU M r (oB 13 [w0, w1, w2, w3, w4, w5, w6, w7, w8, w9, .int (tk9), .long (su9), .long (le9), .long (gr9)])) va (aJ G n (vF (foD w LO HI (nI jd) kind reach what) (c)))) za (aZ G n (zF (foD w LO HI (nI jd) kind reach what) (c)))) za = some (aZ G n (zF (foD w LO HI (nI jd) kind reach what) c)) := fun _ _ _ _ _ => mU_s
  have koX : ∀ (tk9 : Int32) (su9 le9 gr9 : Int64) (c : Nat), isGrX G (mU (mU (mU M r (oB 13 [w0, w1, w2, w3, w4, w5, w6, w7, w8, w9, .int (tk9), .long (su9), .long (le9), .long (gr9)])) va (aJ G n (vF (foD w LO HI (nI jd) kind reach what) (c)))) za (aZ G n (zF (foD w LO HI (nI jd) kind reach what) (c)))) o ola oha ova oza ovf ozf w := fun a b d e c => ⟨ko a b d e c, kola a b d e c, koha a b d e c, kova a b d e c, koza a b d e c, hO.2.2.2.2.2⟩
  have l0 := hok.lo (d := 0) (by decide)
  have N0 := hok.N (d := 0) (by decide)
  have y0 := hok.hi (d := 0) (by decide)
  have l1 := hok.lo (d := 1) (by decide)
  have N1 := hok.N (d := 1) (by decide)
  have y1 := hok.hi (d := 1) (by decide)
  have l2 := hok.lo (d := 2) (by decide)
  have N2 := hok.N (d := 2) (by decide)
  have y2 := hok.hi (d := 2) (by decide)
  have hfin : ∀ M2 : gMem, (∃ (tk9 : Int32) (su9 le9 gr9 : Int64), M2 = mU (mU (mU M r (oB 13 [w0, w1, w2, w3, w4, w5, w6, w7, w8, w9, .int (tk9), .long (su9), .long (le9), .long (gr9)])) va (aJ G n (vF (foD w LO HI (nI jd) kind reach what) (c3 (sN LO HI 1) (sN LO HI 2) (sN LO HI 0) 0 0)))) za (aZ G n (zF (foD w LO HI (nI jd) kind reach what) (c3 (sN LO HI 1) (sN LO HI 2) (sN LO HI 0) 0 0)))) → qJ G F (qQ G F (fun v M' => v = none ∧ ∃ (tk9 : Int32) (su9 le9 gr9 : Int64), M' = mU (mU (mU M r (oB 13 [w0, w1, w2, w3, w4, w5, w6, w7, w8, w9, .int (tk9), .long (su9), .long (le9), .long (gr9)])) va (aJ G n (vF (foD w LO HI (nI jd) kind reach what) (n)))) za (aZ G n (zF (foD w LO HI (nI jd) kind reach what) (n))))) 12 M2 0 0 177 [(0, .ref r), (1, .ref o), (2, .ref q), (3, .int (nI jd)), (4, .int kx), (5, .int rr), (6, .int what)] [] := by
    intro M2 hI
    obtain ⟨tk9, su9, le9, gr9, rfl⟩ := hI
    rw [c3_A, show sN LO HI 0 * sN LO HI 1 * sN LO HI 2 = n from hn9.symm]
    exact q_vret X hr dX13_parts_177 ⟨rfl, tk9, su9, le9, gr9, rfl⟩
  have L3 : ∀ (e j k : Nat) (he : e < sN LO HI 0) (hj : j < sN LO HI 1) (hk : k < sN LO HI 2) (kk : ∀ M2 : gMem, (∃ t9 : tT, M2 = mU (mU (mU M r (oB 13 [w0, w1, w2, w3, w4, w5, w6, w7, w8, w9, .int (nI (t9).1), .long ((t9).2.1), .long ((t9).2.2.1), .long ((t9).2.2.2)])) va (aJ G n (vF (foD w LO HI (nI jd) kind reach what) (c3 (sN LO HI 1) (sN LO HI 2) e j k)))) za (aZ G n (zF (foD w LO HI (nI jd) kind reach what) (c3 (sN LO HI 1) (sN LO HI 2) e j k))) ∧ tOk what (rwT w LO HI (nI jd) kind reach what ((pck (nI jd) (LO 0 + nI (e)) (LO 1 + nI (j)) (LO 2 + nI (k)) * kx) - rr) (c3 (sN LO HI 1) (sN LO HI 2) e j k) (L)) t9) → qJ G F (qQ G F (fun v M' => v = none ∧ ∃ (tk9 : Int32) (su9 le9 gr9 : Int64), M' = mU (mU (mU M r (oB 13 [w0, w1, w2, w3, w4, w5, w6, w7, w8, w9, .int (tk9), .long (su9), .long (le9), .long (gr9)])) va (aJ G n (vF (foD w LO HI (nI jd) kind reach what) (n)))) za (aZ G n (zF (foD w LO HI (nI jd) kind reach what) (n))))) 12 M2 0 0 142 [(0, .ref r), (1, .ref o), (2, .ref q), (3, .int (nI jd)), (4, .int kx), (5, .int rr), (6, .int what), (7, .int (LO 0 + nI (e))), (8, .int (LO 1 + nI (j))), (9, .int (LO 2 + nI (k))), (10, .int (pck (nI jd) (LO 0 + nI (e)) (LO 1 + nI (j)) (LO 2 + nI (k)) * kx))] []) (t a : Nat) (M1 : gMem), a + t = L → (∃ t9 : tT, M1 = mU (mU (mU M r (oB 13 [w0, w1, w2, w3, w4, w5, w6, w7, w8, w9, .int (nI (t9).1), .long ((t9).2.1), .long ((t9).2.2.1), .long ((t9).2.2.2)])) va (aJ G n (vF (foD w LO HI (nI jd) kind reach what) (c3 (sN LO HI 1) (sN LO HI 2) e j k)))) za (aZ G n (zF (foD w LO HI (nI jd) kind reach what) (c3 (sN LO HI 1) (sN LO HI 2) e j k))) ∧ tOk what (rwT w LO HI (nI jd) kind reach what ((pck (nI jd) (LO 0 + nI (e)) (LO 1 + nI (j)) (LO 2 + nI (k)) * kx) - rr) (c3 (sN LO HI 1) (sN LO HI 2) e j k) (a)) t9) → qJ G F (qQ G F (fun v M' => v = none ∧ ∃ (tk9 : Int32) (su9 le9 gr9 : Int64), M' = mU (mU (mU M r (oB 13 [w0, w1, w2, w3, w4, w5, w6, w7, w8, w9, .int (tk9), .long (su9), .long (le9), .long (gr9)])) va (aJ G n (vF (foD w LO HI (nI jd) kind reach what) (n)))) za (aZ G n (zF (foD w LO HI (nI jd) kind reach what) (n))))) 12 M1 0 0 83 [(0, .ref r), (1, .ref o), (2, .ref q), (3, .int (nI jd)), (4, .int kx), (5, .int rr), (6, .int what), (7, .int (LO 0 + nI (e))), (8, .int (LO 1 + nI (j))), (9, .int (LO 2 + nI (k))), (10, .int (pck (nI jd) (LO 0 + nI (e)) (LO 1 + nI (j)) (LO 2 + nI (k)) * kx)), (11, .int (((pck (nI jd) (LO 0 + nI (e)) (LO 1 + nI (j)) (LO 2 + nI (k)) * kx) - rr) + nI (a)))] [] := by
    intro e j k he hj hk kk t
    induction t with
    | zero =>
      intro a M1 ha0 hI
      obtain rfl : a = L := by omega
      have hI0 := hI
      obtain ⟨t9, rfl, hT⟩ := hI
      refine q_iload X dX13_parts_83 11 rfl ?_
      refine q_iload X dX13_parts_85 10 rfl ?_
      refine q_iload X dX13_parts_87 4 rfl ?_
      refine q_iadd X dX13_parts_89 ?_
      refine q_iload X dX13_parts_90 5 rfl ?_
      refine q_iadd X dX13_parts_92 ?_
      rw [show (pck (nI jd) (LO 0 + nI (e)) (LO 1 + nI (j)) (LO 2 + nI (k)) * kx) + kx + rr = ((pck (nI jd) (LO 0 + nI (e)) (LO 1 + nI (j)) (LO 2 + nI (k)) * kx) - rr) + nI L from hAL _]
      refine q_icmp_ge X 142 dX13_parts_93 (by decide) (fun c_1 => ?_) (fun c_1 => absurd (Int32.le_refl _) c_1)
      refine q_sub [0, 1, 2, 3, 4, 5, 6, 7, 8, 9, 10] rfl ?_
      exact kk _ hI0
    | succ t ih =>
      intro a M1 ha0 hI
      have ha : a < L := by omega
      have hI0 := hI
      obtain ⟨t9, rfl, hT⟩ := hI
      have hrow := hF e j k he hj hk
      have hle := rwT_le (w := w) (lo := LO) (hi := HI) (d := nI jd) (kind := kind) (reach := reach) (what := what) (A := ((pck (nI jd) (LO 0 + nI (e)) (LO 1 + nI (j)) (LO 2 + nI (k)) * kx) - rr)) (i := c3 (sN LO HI 1) (sN LO HI 2) e j k) (a := a)
      have ht9 : t9.1 < 2 ^ 30 := by rw [hT.1] at hle; omega
      obtain ⟨p0, p1, p2⟩ := pl3_c3 hok (by omega) he hj hk
      refine q_iload X dX13_parts_83 11 rfl ?_
      refine q_iload X dX13_parts_85 10 rfl ?_
      refine q_iload X dX13_parts_87 4 rfl ?_
      refine q_iadd X dX13_parts_89 ?_
      refine q_iload X dX13_parts_90 5 rfl ?_
      refine q_iadd X dX13_parts_92 ?_
      rw [show (pck (nI jd) (LO 0 + nI (e)) (LO 1 + nI (j)) (LO 2 + nI (k)) * kx) + kx + rr = ((pck (nI jd) (LO 0 + nI (e)) (LO 1 + nI (j)) (LO 2 + nI (k)) * kx) - rr) + nI L from hAL _]
      refine q_icmp_ge X 142 dX13_parts_93 (by decide) (fun c_2 => absurd ((A_le hrow.1.1 (by have := hrow.1.2; omega) (by omega) (by omega)).mp c_2) (by omega)) (fun c_2 => ?_)
      refine q_aload_n X dX13_parts_96 0 rfl ?_
      refine q_aload_n X dX13_parts_97 1 rfl ?_
      refine q_iload_n X dX13_parts_98 3 rfl ?_
      refine q_if_ne X 107 dX13_parts_99 (by decide) (fun c99 => ?_) (fun c99 => ?_)
      · refine q_iload X dX13_parts_107 7 rfl ?_
        refine q_topi (fun a0 ea0 => ?_)
        have ha0 : a0 = rP (rC (LO 0 + nI (e)) (LO 1 + nI (j)) (LO 2 + nI (k))) jd (((pck (nI jd) (LO 0 + nI (e)) (LO 1 + nI (j)) (LO 2 + nI (k)) * kx) - rr) + nI (a)) 0 := ea0.trans (rP_n 0 c99).symm
        subst ha0
        refine q_iload_n X dX13_parts_109 3 rfl ?_
        refine q_iconst (v := 1) X dX13_parts_110 (by decide) ?_
        refine q_icmp_ne X 119 dX13_parts_111 (by decide) (fun c111 => ?_) (fun c111 => ?_)
        · refine q_iload X dX13_parts_119 8 rfl ?_
          refine q_topi (fun a1 ea1 => ?_)
          have ha1 : a1 = rP (rC (LO 0 + nI (e)) (LO 1 + nI (j)) (LO 2 + nI (k))) jd (((pck (nI jd) (LO 0 + nI (e)) (LO 1 + nI (j)) (LO 2 + nI (k)) * kx) - rr) + nI (a)) 1 := ea1.trans (rP_n 1 c111).symm
          subst ha1
          refine q_iload_n X dX13_parts_121 3 rfl ?_
          refine q_iconst (v := 2) X dX13_parts_122 (by decide) ?_
          refine q_icmp_ne X 131 dX13_parts_123 (by decide) (fun c123 => ?_) (fun c123 => ?_)
          · refine q_iload X dX13_parts_131 9 rfl ?_
            refine q_topi (fun a2 ea2 => ?_)
            have ha2 : a2 = rP (rC (LO 0 + nI (e)) (LO 1 + nI (j)) (LO 2 + nI (k))) jd (((pck (nI jd) (LO 0 + nI (e)) (LO 1 + nI (j)) (LO 2 + nI (k)) * kx) - rr) + nI (a)) 2 := ea2.trans (rP_n 2 c123).symm
            subst ha2
            refine q_callV X (c_take (t := t9) (kr (nI t9.1) t9.2.1 t9.2.2.1 t9.2.2.2 (c3 (sN LO HI 1) (sN LO HI 2) e j k)) hw (koX (nI t9.1) t9.2.1 t9.2.2.1 t9.2.2.2 (c3 (sN LO HI 1) (sN LO HI 2) e j k)) ht9) Y_X13_take tw_1410 tw_1412 sel_35 (kr (nI t9.1) t9.2.1 t9.2.2.1 t9.2.2.2 (c3 (sN LO HI 1) (sN LO HI 2) e j k)) rfl (by omega) rfl rfl (Nat.le_of_ble_eq_true rfl) (rc' := 0) (rs' := 0) (Nat.le_refl _) (Nat.le_refl _) dX13_parts_133 (fun v M' hp _ => ?_)
            obtain ⟨rfl, eM⟩ := hp
            rw [eM, mU_r rva rza]
            clear eM
            show qJ G F _ 12 (mU (mU (mU M r (oB 13 [w0, w1, w2, w3, w4, w5, w6, w7, w8, w9, .int (nI (tkU (frV w (rP (rC (LO 0 + nI (e)) (LO 1 + nI (j)) (LO 2 + nI (k))) jd (((pck (nI jd) (LO 0 + nI (e)) (LO 1 + nI (j)) (LO 2 + nI (k)) * kx) - rr) + nI (a)) 0) (rP (rC (LO 0 + nI (e)) (LO 1 + nI (j)) (LO 2 + nI (k))) jd (((pck (nI jd) (LO 0 + nI (e)) (LO 1 + nI (j)) (LO 2 + nI (k)) * kx) - rr) + nI (a)) 1) (rP (rC (LO 0 + nI (e)) (LO 1 + nI (j)) (LO 2 + nI (k))) jd (((pck (nI jd) (LO 0 + nI (e)) (LO 1 + nI (j)) (LO 2 + nI (k)) * kx) - rr) + nI (a)) 2)) t9).1), .long ((tkU (frV w (rP (rC (LO 0 + nI (e)) (LO 1 + nI (j)) (LO 2 + nI (k))) jd (((pck (nI jd) (LO 0 + nI (e)) (LO 1 + nI (j)) (LO 2 + nI (k)) * kx) - rr) + nI (a)) 0) (rP (rC (LO 0 + nI (e)) (LO 1 + nI (j)) (LO 2 + nI (k))) jd (((pck (nI jd) (LO 0 + nI (e)) (LO 1 + nI (j)) (LO 2 + nI (k)) * kx) - rr) + nI (a)) 1) (rP (rC (LO 0 + nI (e)) (LO 1 + nI (j)) (LO 2 + nI (k))) jd (((pck (nI jd) (LO 0 + nI (e)) (LO 1 + nI (j)) (LO 2 + nI (k)) * kx) - rr) + nI (a)) 2)) t9).2.1), .long ((tkU (frV w (rP (rC (LO 0 + nI (e)) (LO 1 + nI (j)) (LO 2 + nI (k))) jd (((pck (nI jd) (LO 0 + nI (e)) (LO 1 + nI (j)) (LO 2 + nI (k)) * kx) - rr) + nI (a)) 0) (rP (rC (LO 0 + nI (e)) (LO 1 + nI (j)) (LO 2 + nI (k))) jd (((pck (nI jd) (LO 0 + nI (e)) (LO 1 + nI (j)) (LO 2 + nI (k)) * kx) - rr) + nI (a)) 1) (rP (rC (LO 0 + nI (e)) (LO 1 + nI (j)) (LO 2 + nI (k))) jd (((pck (nI jd) (LO 0 + nI (e)) (LO 1 + nI (j)) (LO 2 + nI (k)) * kx) - rr) + nI (a)) 2)) t9).2.2.1), .long ((tkU (frV w (rP (rC (LO 0 + nI (e)) (LO 1 + nI (j)) (LO 2 + nI (k))) jd (((pck (nI jd) (LO 0 + nI (e)) (LO 1 + nI (j)) (LO 2 + nI (k)) * kx) - rr) + nI (a)) 0) (rP (rC (LO 0 + nI (e)) (LO 1 + nI (j)) (LO 2 + nI (k))) jd (((pck (nI jd) (LO 0 + nI (e)) (LO 1 + nI (j)) (LO 2 + nI (k)) * kx) - rr) + nI (a)) 1) (rP (rC (LO 0 + nI (e)) (LO 1 + nI (j)) (LO 2 + nI (k))) jd (((pck (nI jd) (LO 0 + nI (e)) (LO 1 + nI (j)) (LO 2 + nI (k)) * kx) - rr) + nI (a)) 2)) t9).2.2.2)])) va (aJ G n (vF (foD w LO HI (nI jd) kind reach what) (c3 (sN LO HI 1) (sN LO HI 2) e j k)))) za (aZ G n (zF (foD w LO HI (nI jd) kind reach what) (c3 (sN LO HI 1) (sN LO HI 2) e j k)))) 0 0 136 [(0, .ref r), (1, .ref o), (2, .ref q), (3, .int (nI jd)), (4, .int kx), (5, .int rr), (6, .int what), (7, .int (LO 0 + nI (e))), (8, .int (LO 1 + nI (j))), (9, .int (LO 2 + nI (k))), (10, .int (pck (nI jd) (LO 0 + nI (e)) (LO 1 + nI (j)) (LO 2 + nI (k)) * kx)), (11, .int (((pck (nI jd) (LO 0 + nI (e)) (LO 1 + nI (j)) (LO 2 + nI (k)) * kx) - rr) + nI (a)))] []
            refine q_iinc (v := (((pck (nI jd) (LO 0 + nI (e)) (LO 1 + nI (j)) (LO 2 + nI (k)) * kx) - rr) + nI (a + 1))) (lv' := [(11, .int (((pck (nI jd) (LO 0 + nI (e)) (LO 1 + nI (j)) (LO 2 + nI (k)) * kx) - rr) + nI (a + 1))), (0, .ref r), (1, .ref o), (2, .ref q), (3, .int (nI jd)), (4, .int kx), (5, .int rr), (6, .int what), (7, .int (LO 0 + nI (e))), (8, .int (LO 1 + nI (j))), (9, .int (LO 2 + nI (k))), (10, .int (pck (nI jd) (LO 0 + nI (e)) (LO 1 + nI (j)) (LO 2 + nI (k)) * kx))]) X dX13_parts_136 11 rfl (lo_s) (by decide) rfl ?_
            refine q_goto X 83 dX13_parts_139 (by decide) ?_
            refine q_sub [1, 2, 3, 4, 5, 6, 7, 8, 9, 10, 11, 0] rfl ?_
            exact ih (a + 1) _ (by omega) ⟨_, rfl, rwT_s hw hjd (rIn_c hok hLH he hj hk) hrow ha (fun S => fP_k (e := 0) hkind hj3 (by decide) p0) (fun S => fP_k (e := 1) hkind hj3 (by decide) p1) (fun S => fP_k (e := 2) hkind hj3 (by decide) p2) hT⟩
          · refine q_iload X dX13_parts_126 11 rfl ?_
            refine q_goto X 133 dX13_parts_128 (by decide) ?_
            refine q_topi (fun a2 ea2 => ?_)
            have ha2 : a2 = rP (rC (LO 0 + nI (e)) (LO 1 + nI (j)) (LO 2 + nI (k))) jd (((pck (nI jd) (LO 0 + nI (e)) (LO 1 + nI (j)) (LO 2 + nI (k)) * kx) - rr) + nI (a)) 2 := ea2.trans (rP_y 2 hj3 (by decide) c123).symm
            subst ha2
            refine q_callV X (c_take (t := t9) (kr (nI t9.1) t9.2.1 t9.2.2.1 t9.2.2.2 (c3 (sN LO HI 1) (sN LO HI 2) e j k)) hw (koX (nI t9.1) t9.2.1 t9.2.2.1 t9.2.2.2 (c3 (sN LO HI 1) (sN LO HI 2) e j k)) ht9) Y_X13_take tw_1410 tw_1412 sel_35 (kr (nI t9.1) t9.2.1 t9.2.2.1 t9.2.2.2 (c3 (sN LO HI 1) (sN LO HI 2) e j k)) rfl (by omega) rfl rfl (Nat.le_of_ble_eq_true rfl) (rc' := 0) (rs' := 0) (Nat.le_refl _) (Nat.le_refl _) dX13_parts_133 (fun v M' hp _ => ?_)
            obtain ⟨rfl, eM⟩ := hp
            rw [eM, mU_r rva rza]
            clear eM
            show qJ G F _ 12 (mU (mU (mU M r (oB 13 [w0, w1, w2, w3, w4, w5, w6, w7, w8, w9, .int (nI (tkU (frV w (rP (rC (LO 0 + nI (e)) (LO 1 + nI (j)) (LO 2 + nI (k))) jd (((pck (nI jd) (LO 0 + nI (e)) (LO 1 + nI (j)) (LO 2 + nI (k)) * kx) - rr) + nI (a)) 0) (rP (rC (LO 0 + nI (e)) (LO 1 + nI (j)) (LO 2 + nI (k))) jd (((pck (nI jd) (LO 0 + nI (e)) (LO 1 + nI (j)) (LO 2 + nI (k)) * kx) - rr) + nI (a)) 1) (rP (rC (LO 0 + nI (e)) (LO 1 + nI (j)) (LO 2 + nI (k))) jd (((pck (nI jd) (LO 0 + nI (e)) (LO 1 + nI (j)) (LO 2 + nI (k)) * kx) - rr) + nI (a)) 2)) t9).1), .long ((tkU (frV w (rP (rC (LO 0 + nI (e)) (LO 1 + nI (j)) (LO 2 + nI (k))) jd (((pck (nI jd) (LO 0 + nI (e)) (LO 1 + nI (j)) (LO 2 + nI (k)) * kx) - rr) + nI (a)) 0) (rP (rC (LO 0 + nI (e)) (LO 1 + nI (j)) (LO 2 + nI (k))) jd (((pck (nI jd) (LO 0 + nI (e)) (LO 1 + nI (j)) (LO 2 + nI (k)) * kx) - rr) + nI (a)) 1) (rP (rC (LO 0 + nI (e)) (LO 1 + nI (j)) (LO 2 + nI (k))) jd (((pck (nI jd) (LO 0 + nI (e)) (LO 1 + nI (j)) (LO 2 + nI (k)) * kx) - rr) + nI (a)) 2)) t9).2.1), .long ((tkU (frV w (rP (rC (LO 0 + nI (e)) (LO 1 + nI (j)) (LO 2 + nI (k))) jd (((pck (nI jd) (LO 0 + nI (e)) (LO 1 + nI (j)) (LO 2 + nI (k)) * kx) - rr) + nI (a)) 0) (rP (rC (LO 0 + nI (e)) (LO 1 + nI (j)) (LO 2 + nI (k))) jd (((pck (nI jd) (LO 0 + nI (e)) (LO 1 + nI (j)) (LO 2 + nI (k)) * kx) - rr) + nI (a)) 1) (rP (rC (LO 0 + nI (e)) (LO 1 + nI (j)) (LO 2 + nI (k))) jd (((pck (nI jd) (LO 0 + nI (e)) (LO 1 + nI (j)) (LO 2 + nI (k)) * kx) - rr) + nI (a)) 2)) t9).2.2.1), .long ((tkU (frV w (rP (rC (LO 0 + nI (e)) (LO 1 + nI (j)) (LO 2 + nI (k))) jd (((pck (nI jd) (LO 0 + nI (e)) (LO 1 + nI (j)) (LO 2 + nI (k)) * kx) - rr) + nI (a)) 0) (rP (rC (LO 0 + nI (e)) (LO 1 + nI (j)) (LO 2 + nI (k))) jd (((pck (nI jd) (LO 0 + nI (e)) (LO 1 + nI (j)) (LO 2 + nI (k)) * kx) - rr) + nI (a)) 1) (rP (rC (LO 0 + nI (e)) (LO 1 + nI (j)) (LO 2 + nI (k))) jd (((pck (nI jd) (LO 0 + nI (e)) (LO 1 + nI (j)) (LO 2 + nI (k)) * kx) - rr) + nI (a)) 2)) t9).2.2.2)])) va (aJ G n (vF (foD w LO HI (nI jd) kind reach what) (c3 (sN LO HI 1) (sN LO HI 2) e j k)))) za (aZ G n (zF (foD w LO HI (nI jd) kind reach what) (c3 (sN LO HI 1) (sN LO HI 2) e j k)))) 0 0 136 [(0, .ref r), (1, .ref o), (2, .ref q), (3, .int (nI jd)), (4, .int kx), (5, .int rr), (6, .int what), (7, .int (LO 0 + nI (e))), (8, .int (LO 1 + nI (j))), (9, .int (LO 2 + nI (k))), (10, .int (pck (nI jd) (LO 0 + nI (e)) (LO 1 + nI (j)) (LO 2 + nI (k)) * kx)), (11, .int (((pck (nI jd) (LO 0 + nI (e)) (LO 1 + nI (j)) (LO 2 + nI (k)) * kx) - rr) + nI (a)))] []
            refine q_iinc (v := (((pck (nI jd) (LO 0 + nI (e)) (LO 1 + nI (j)) (LO 2 + nI (k)) * kx) - rr) + nI (a + 1))) (lv' := [(11, .int (((pck (nI jd) (LO 0 + nI (e)) (LO 1 + nI (j)) (LO 2 + nI (k)) * kx) - rr) + nI (a + 1))), (0, .ref r), (1, .ref o), (2, .ref q), (3, .int (nI jd)), (4, .int kx), (5, .int rr), (6, .int what), (7, .int (LO 0 + nI (e))), (8, .int (LO 1 + nI (j))), (9, .int (LO 2 + nI (k))), (10, .int (pck (nI jd) (LO 0 + nI (e)) (LO 1 + nI (j)) (LO 2 + nI (k)) * kx))]) X dX13_parts_136 11 rfl (lo_s) (by decide) rfl ?_
            refine q_goto X 83 dX13_parts_139 (by decide) ?_
            refine q_sub [1, 2, 3, 4, 5, 6, 7, 8, 9, 10, 11, 0] rfl ?_
            exact ih (a + 1) _ (by omega) ⟨_, rfl, rwT_s hw hjd (rIn_c hok hLH he hj hk) hrow ha (fun S => fP_k (e := 0) hkind hj3 (by decide) p0) (fun S => fP_k (e := 1) hkind hj3 (by decide) p1) (fun S => fP_k (e := 2) hkind hj3 (by decide) p2) hT⟩
        · refine q_iload X dX13_parts_114 11 rfl ?_
          refine q_goto X 121 dX13_parts_116 (by decide) ?_
          refine q_topi (fun a1 ea1 => ?_)
          have ha1 : a1 = rP (rC (LO 0 + nI (e)) (LO 1 + nI (j)) (LO 2 + nI (k))) jd (((pck (nI jd) (LO 0 + nI (e)) (LO 1 + nI (j)) (LO 2 + nI (k)) * kx) - rr) + nI (a)) 1 := ea1.trans (rP_y 1 hj3 (by decide) c111).symm
          subst ha1
          refine q_iload_n X dX13_parts_121 3 rfl ?_
          refine q_iconst (v := 2) X dX13_parts_122 (by decide) ?_
          refine q_icmp_ne X 131 dX13_parts_123 (by decide) (fun c123 => ?_) (fun c123 => ?_)
          · refine q_iload X dX13_parts_131 9 rfl ?_
            refine q_topi (fun a2 ea2 => ?_)
            have ha2 : a2 = rP (rC (LO 0 + nI (e)) (LO 1 + nI (j)) (LO 2 + nI (k))) jd (((pck (nI jd) (LO 0 + nI (e)) (LO 1 + nI (j)) (LO 2 + nI (k)) * kx) - rr) + nI (a)) 2 := ea2.trans (rP_n 2 c123).symm
            subst ha2
            refine q_callV X (c_take (t := t9) (kr (nI t9.1) t9.2.1 t9.2.2.1 t9.2.2.2 (c3 (sN LO HI 1) (sN LO HI 2) e j k)) hw (koX (nI t9.1) t9.2.1 t9.2.2.1 t9.2.2.2 (c3 (sN LO HI 1) (sN LO HI 2) e j k)) ht9) Y_X13_take tw_1410 tw_1412 sel_35 (kr (nI t9.1) t9.2.1 t9.2.2.1 t9.2.2.2 (c3 (sN LO HI 1) (sN LO HI 2) e j k)) rfl (by omega) rfl rfl (Nat.le_of_ble_eq_true rfl) (rc' := 0) (rs' := 0) (Nat.le_refl _) (Nat.le_refl _) dX13_parts_133 (fun v M' hp _ => ?_)
            obtain ⟨rfl, eM⟩ := hp
            rw [eM, mU_r rva rza]
            clear eM
            show qJ G F _ 12 (mU (mU (mU M r (oB 13 [w0, w1, w2, w3, w4, w5, w6, w7, w8, w9, .int (nI (tkU (frV w (rP (rC (LO 0 + nI (e)) (LO 1 + nI (j)) (LO 2 + nI (k))) jd (((pck (nI jd) (LO 0 + nI (e)) (LO 1 + nI (j)) (LO 2 + nI (k)) * kx) - rr) + nI (a)) 0) (rP (rC (LO 0 + nI (e)) (LO 1 + nI (j)) (LO 2 + nI (k))) jd (((pck (nI jd) (LO 0 + nI (e)) (LO 1 + nI (j)) (LO 2 + nI (k)) * kx) - rr) + nI (a)) 1) (rP (rC (LO 0 + nI (e)) (LO 1 + nI (j)) (LO 2 + nI (k))) jd (((pck (nI jd) (LO 0 + nI (e)) (LO 1 + nI (j)) (LO 2 + nI (k)) * kx) - rr) + nI (a)) 2)) t9).1), .long ((tkU (frV w (rP (rC (LO 0 + nI (e)) (LO 1 + nI (j)) (LO 2 + nI (k))) jd (((pck (nI jd) (LO 0 + nI (e)) (LO 1 + nI (j)) (LO 2 + nI (k)) * kx) - rr) + nI (a)) 0) (rP (rC (LO 0 + nI (e)) (LO 1 + nI (j)) (LO 2 + nI (k))) jd (((pck (nI jd) (LO 0 + nI (e)) (LO 1 + nI (j)) (LO 2 + nI (k)) * kx) - rr) + nI (a)) 1) (rP (rC (LO 0 + nI (e)) (LO 1 + nI (j)) (LO 2 + nI (k))) jd (((pck (nI jd) (LO 0 + nI (e)) (LO 1 + nI (j)) (LO 2 + nI (k)) * kx) - rr) + nI (a)) 2)) t9).2.1), .long ((tkU (frV w (rP (rC (LO 0 + nI (e)) (LO 1 + nI (j)) (LO 2 + nI (k))) jd (((pck (nI jd) (LO 0 + nI (e)) (LO 1 + nI (j)) (LO 2 + nI (k)) * kx) - rr) + nI (a)) 0) (rP (rC (LO 0 + nI (e)) (LO 1 + nI (j)) (LO 2 + nI (k))) jd (((pck (nI jd) (LO 0 + nI (e)) (LO 1 + nI (j)) (LO 2 + nI (k)) * kx) - rr) + nI (a)) 1) (rP (rC (LO 0 + nI (e)) (LO 1 + nI (j)) (LO 2 + nI (k))) jd (((pck (nI jd) (LO 0 + nI (e)) (LO 1 + nI (j)) (LO 2 + nI (k)) * kx) - rr) + nI (a)) 2)) t9).2.2.1), .long ((tkU (frV w (rP (rC (LO 0 + nI (e)) (LO 1 + nI (j)) (LO 2 + nI (k))) jd (((pck (nI jd) (LO 0 + nI (e)) (LO 1 + nI (j)) (LO 2 + nI (k)) * kx) - rr) + nI (a)) 0) (rP (rC (LO 0 + nI (e)) (LO 1 + nI (j)) (LO 2 + nI (k))) jd (((pck (nI jd) (LO 0 + nI (e)) (LO 1 + nI (j)) (LO 2 + nI (k)) * kx) - rr) + nI (a)) 1) (rP (rC (LO 0 + nI (e)) (LO 1 + nI (j)) (LO 2 + nI (k))) jd (((pck (nI jd) (LO 0 + nI (e)) (LO 1 + nI (j)) (LO 2 + nI (k)) * kx) - rr) + nI (a)) 2)) t9).2.2.2)])) va (aJ G n (vF (foD w LO HI (nI jd) kind reach what) (c3 (sN LO HI 1) (sN LO HI 2) e j k)))) za (aZ G n (zF (foD w LO HI (nI jd) kind reach what) (c3 (sN LO HI 1) (sN LO HI 2) e j k)))) 0 0 136 [(0, .ref r), (1, .ref o), (2, .ref q), (3, .int (nI jd)), (4, .int kx), (5, .int rr), (6, .int what), (7, .int (LO 0 + nI (e))), (8, .int (LO 1 + nI (j))), (9, .int (LO 2 + nI (k))), (10, .int (pck (nI jd) (LO 0 + nI (e)) (LO 1 + nI (j)) (LO 2 + nI (k)) * kx)), (11, .int (((pck (nI jd) (LO 0 + nI (e)) (LO 1 + nI (j)) (LO 2 + nI (k)) * kx) - rr) + nI (a)))] []
            refine q_iinc (v := (((pck (nI jd) (LO 0 + nI (e)) (LO 1 + nI (j)) (LO 2 + nI (k)) * kx) - rr) + nI (a + 1))) (lv' := [(11, .int (((pck (nI jd) (LO 0 + nI (e)) (LO 1 + nI (j)) (LO 2 + nI (k)) * kx) - rr) + nI (a + 1))), (0, .ref r), (1, .ref o), (2, .ref q), (3, .int (nI jd)), (4, .int kx), (5, .int rr), (6, .int what), (7, .int (LO 0 + nI (e))), (8, .int (LO 1 + nI (j))), (9, .int (LO 2 + nI (k))), (10, .int (pck (nI jd) (LO 0 + nI (e)) (LO 1 + nI (j)) (LO 2 + nI (k)) * kx))]) X dX13_parts_136 11 rfl (lo_s) (by decide) rfl ?_
            refine q_goto X 83 dX13_parts_139 (by decide) ?_
            refine q_sub [1, 2, 3, 4, 5, 6, 7, 8, 9, 10, 11, 0] rfl ?_
            exact ih (a + 1) _ (by omega) ⟨_, rfl, rwT_s hw hjd (rIn_c hok hLH he hj hk) hrow ha (fun S => fP_k (e := 0) hkind hj3 (by decide) p0) (fun S => fP_k (e := 1) hkind hj3 (by decide) p1) (fun S => fP_k (e := 2) hkind hj3 (by decide) p2) hT⟩
          · refine q_iload X dX13_parts_126 11 rfl ?_
            refine q_goto X 133 dX13_parts_128 (by decide) ?_
            refine q_topi (fun a2 ea2 => ?_)
            have ha2 : a2 = rP (rC (LO 0 + nI (e)) (LO 1 + nI (j)) (LO 2 + nI (k))) jd (((pck (nI jd) (LO 0 + nI (e)) (LO 1 + nI (j)) (LO 2 + nI (k)) * kx) - rr) + nI (a)) 2 := ea2.trans (rP_y 2 hj3 (by decide) c123).symm
            subst ha2
            refine q_callV X (c_take (t := t9) (kr (nI t9.1) t9.2.1 t9.2.2.1 t9.2.2.2 (c3 (sN LO HI 1) (sN LO HI 2) e j k)) hw (koX (nI t9.1) t9.2.1 t9.2.2.1 t9.2.2.2 (c3 (sN LO HI 1) (sN LO HI 2) e j k)) ht9) Y_X13_take tw_1410 tw_1412 sel_35 (kr (nI t9.1) t9.2.1 t9.2.2.1 t9.2.2.2 (c3 (sN LO HI 1) (sN LO HI 2) e j k)) rfl (by omega) rfl rfl (Nat.le_of_ble_eq_true rfl) (rc' := 0) (rs' := 0) (Nat.le_refl _) (Nat.le_refl _) dX13_parts_133 (fun v M' hp _ => ?_)
            obtain ⟨rfl, eM⟩ := hp
            rw [eM, mU_r rva rza]
            clear eM
            show qJ G F _ 12 (mU (mU (mU M r (oB 13 [w0, w1, w2, w3, w4, w5, w6, w7, w8, w9, .int (nI (tkU (frV w (rP (rC (LO 0 + nI (e)) (LO 1 + nI (j)) (LO 2 + nI (k))) jd (((pck (nI jd) (LO 0 + nI (e)) (LO 1 + nI (j)) (LO 2 + nI (k)) * kx) - rr) + nI (a)) 0) (rP (rC (LO 0 + nI (e)) (LO 1 + nI (j)) (LO 2 + nI (k))) jd (((pck (nI jd) (LO 0 + nI (e)) (LO 1 + nI (j)) (LO 2 + nI (k)) * kx) - rr) + nI (a)) 1) (rP (rC (LO 0 + nI (e)) (LO 1 + nI (j)) (LO 2 + nI (k))) jd (((pck (nI jd) (LO 0 + nI (e)) (LO 1 + nI (j)) (LO 2 + nI (k)) * kx) - rr) + nI (a)) 2)) t9).1), .long ((tkU (frV w (rP (rC (LO 0 + nI (e)) (LO 1 + nI (j)) (LO 2 + nI (k))) jd (((pck (nI jd) (LO 0 + nI (e)) (LO 1 + nI (j)) (LO 2 + nI (k)) * kx) - rr) + nI (a)) 0) (rP (rC (LO 0 + nI (e)) (LO 1 + nI (j)) (LO 2 + nI (k))) jd (((pck (nI jd) (LO 0 + nI (e)) (LO 1 + nI (j)) (LO 2 + nI (k)) * kx) - rr) + nI (a)) 1) (rP (rC (LO 0 + nI (e)) (LO 1 + nI (j)) (LO 2 + nI (k))) jd (((pck (nI jd) (LO 0 + nI (e)) (LO 1 + nI (j)) (LO 2 + nI (k)) * kx) - rr) + nI (a)) 2)) t9).2.1), .long ((tkU (frV w (rP (rC (LO 0 + nI (e)) (LO 1 + nI (j)) (LO 2 + nI (k))) jd (((pck (nI jd) (LO 0 + nI (e)) (LO 1 + nI (j)) (LO 2 + nI (k)) * kx) - rr) + nI (a)) 0) (rP (rC (LO 0 + nI (e)) (LO 1 + nI (j)) (LO 2 + nI (k))) jd (((pck (nI jd) (LO 0 + nI (e)) (LO 1 + nI (j)) (LO 2 + nI (k)) * kx) - rr) + nI (a)) 1) (rP (rC (LO 0 + nI (e)) (LO 1 + nI (j)) (LO 2 + nI (k))) jd (((pck (nI jd) (LO 0 + nI (e)) (LO 1 + nI (j)) (LO 2 + nI (k)) * kx) - rr) + nI (a)) 2)) t9).2.2.1), .long ((tkU (frV w (rP (rC (LO 0 + nI (e)) (LO 1 + nI (j)) (LO 2 + nI (k))) jd (((pck (nI jd) (LO 0 + nI (e)) (LO 1 + nI (j)) (LO 2 + nI (k)) * kx) - rr) + nI (a)) 0) (rP (rC (LO 0 + nI (e)) (LO 1 + nI (j)) (LO 2 + nI (k))) jd (((pck (nI jd) (LO 0 + nI (e)) (LO 1 + nI (j)) (LO 2 + nI (k)) * kx) - rr) + nI (a)) 1) (rP (rC (LO 0 + nI (e)) (LO 1 + nI (j)) (LO 2 + nI (k))) jd (((pck (nI jd) (LO 0 + nI (e)) (LO 1 + nI (j)) (LO 2 + nI (k)) * kx) - rr) + nI (a)) 2)) t9).2.2.2)])) va (aJ G n (vF (foD w LO HI (nI jd) kind reach what) (c3 (sN LO HI 1) (sN LO HI 2) e j k)))) za (aZ G n (zF (foD w LO HI (nI jd) kind reach what) (c3 (sN LO HI 1) (sN LO HI 2) e j k)))) 0 0 136 [(0, .ref r), (1, .ref o), (2, .ref q), (3, .int (nI jd)), (4, .int kx), (5, .int rr), (6, .int what), (7, .int (LO 0 + nI (e))), (8, .int (LO 1 + nI (j))), (9, .int (LO 2 + nI (k))), (10, .int (pck (nI jd) (LO 0 + nI (e)) (LO 1 + nI (j)) (LO 2 + nI (k)) * kx)), (11, .int (((pck (nI jd) (LO 0 + nI (e)) (LO 1 + nI (j)) (LO 2 + nI (k)) * kx) - rr) + nI (a)))] []
            refine q_iinc (v := (((pck (nI jd) (LO 0 + nI (e)) (LO 1 + nI (j)) (LO 2 + nI (k)) * kx) - rr) + nI (a + 1))) (lv' := [(11, .int (((pck (nI jd) (LO 0 + nI (e)) (LO 1 + nI (j)) (LO 2 + nI (k)) * kx) - rr) + nI (a + 1))), (0, .ref r), (1, .ref o), (2, .ref q), (3, .int (nI jd)), (4, .int kx), (5, .int rr), (6, .int what), (7, .int (LO 0 + nI (e))), (8, .int (LO 1 + nI (j))), (9, .int (LO 2 + nI (k))), (10, .int (pck (nI jd) (LO 0 + nI (e)) (LO 1 + nI (j)) (LO 2 + nI (k)) * kx))]) X dX13_parts_136 11 rfl (lo_s) (by decide) rfl ?_
            refine q_goto X 83 dX13_parts_139 (by decide) ?_
            refine q_sub [1, 2, 3, 4, 5, 6, 7, 8, 9, 10, 11, 0] rfl ?_
            exact ih (a + 1) _ (by omega) ⟨_, rfl, rwT_s hw hjd (rIn_c hok hLH he hj hk) hrow ha (fun S => fP_k (e := 0) hkind hj3 (by decide) p0) (fun S => fP_k (e := 1) hkind hj3 (by decide) p1) (fun S => fP_k (e := 2) hkind hj3 (by decide) p2) hT⟩
      · refine q_iload X dX13_parts_102 11 rfl ?_
        refine q_goto X 109 dX13_parts_104 (by decide) ?_
        refine q_topi (fun a0 ea0 => ?_)
        have ha0 : a0 = rP (rC (LO 0 + nI (e)) (LO 1 + nI (j)) (LO 2 + nI (k))) jd (((pck (nI jd) (LO 0 + nI (e)) (LO 1 + nI (j)) (LO 2 + nI (k)) * kx) - rr) + nI (a)) 0 := ea0.trans (rP_y 0 hj3 (by decide) c99).symm
        subst ha0
        refine q_iload_n X dX13_parts_109 3 rfl ?_
        refine q_iconst (v := 1) X dX13_parts_110 (by decide) ?_
        refine q_icmp_ne X 119 dX13_parts_111 (by decide) (fun c111 => ?_) (fun c111 => ?_)
        · refine q_iload X dX13_parts_119 8 rfl ?_
          refine q_topi (fun a1 ea1 => ?_)
          have ha1 : a1 = rP (rC (LO 0 + nI (e)) (LO 1 + nI (j)) (LO 2 + nI (k))) jd (((pck (nI jd) (LO 0 + nI (e)) (LO 1 + nI (j)) (LO 2 + nI (k)) * kx) - rr) + nI (a)) 1 := ea1.trans (rP_n 1 c111).symm
          subst ha1
          refine q_iload_n X dX13_parts_121 3 rfl ?_
          refine q_iconst (v := 2) X dX13_parts_122 (by decide) ?_
          refine q_icmp_ne X 131 dX13_parts_123 (by decide) (fun c123 => ?_) (fun c123 => ?_)
          · refine q_iload X dX13_parts_131 9 rfl ?_
            refine q_topi (fun a2 ea2 => ?_)
            have ha2 : a2 = rP (rC (LO 0 + nI (e)) (LO 1 + nI (j)) (LO 2 + nI (k))) jd (((pck (nI jd) (LO 0 + nI (e)) (LO 1 + nI (j)) (LO 2 + nI (k)) * kx) - rr) + nI (a)) 2 := ea2.trans (rP_n 2 c123).symm
            subst ha2
            refine q_callV X (c_take (t := t9) (kr (nI t9.1) t9.2.1 t9.2.2.1 t9.2.2.2 (c3 (sN LO HI 1) (sN LO HI 2) e j k)) hw (koX (nI t9.1) t9.2.1 t9.2.2.1 t9.2.2.2 (c3 (sN LO HI 1) (sN LO HI 2) e j k)) ht9) Y_X13_take tw_1410 tw_1412 sel_35 (kr (nI t9.1) t9.2.1 t9.2.2.1 t9.2.2.2 (c3 (sN LO HI 1) (sN LO HI 2) e j k)) rfl (by omega) rfl rfl (Nat.le_of_ble_eq_true rfl) (rc' := 0) (rs' := 0) (Nat.le_refl _) (Nat.le_refl _) dX13_parts_133 (fun v M' hp _ => ?_)
            obtain ⟨rfl, eM⟩ := hp
            rw [eM, mU_r rva rza]
            clear eM
            show qJ G F _ 12 (mU (mU (mU M r (oB 13 [w0, w1, w2, w3, w4, w5, w6, w7, w8, w9, .int (nI (tkU (frV w (rP (rC (LO 0 + nI (e)) (LO 1 + nI (j)) (LO 2 + nI (k))) jd (((pck (nI jd) (LO 0 + nI (e)) (LO 1 + nI (j)) (LO 2 + nI (k)) * kx) - rr) + nI (a)) 0) (rP (rC (LO 0 + nI (e)) (LO 1 + nI (j)) (LO 2 + nI (k))) jd (((pck (nI jd) (LO 0 + nI (e)) (LO 1 + nI (j)) (LO 2 + nI (k)) * kx) - rr) + nI (a)) 1) (rP (rC (LO 0 + nI (e)) (LO 1 + nI (j)) (LO 2 + nI (k))) jd (((pck (nI jd) (LO 0 + nI (e)) (LO 1 + nI (j)) (LO 2 + nI (k)) * kx) - rr) + nI (a)) 2)) t9).1), .long ((tkU (frV w (rP (rC (LO 0 + nI (e)) (LO 1 + nI (j)) (LO 2 + nI (k))) jd (((pck (nI jd) (LO 0 + nI (e)) (LO 1 + nI (j)) (LO 2 + nI (k)) * kx) - rr) + nI (a)) 0) (rP (rC (LO 0 + nI (e)) (LO 1 + nI (j)) (LO 2 + nI (k))) jd (((pck (nI jd) (LO 0 + nI (e)) (LO 1 + nI (j)) (LO 2 + nI (k)) * kx) - rr) + nI (a)) 1) (rP (rC (LO 0 + nI (e)) (LO 1 + nI (j)) (LO 2 + nI (k))) jd (((pck (nI jd) (LO 0 + nI (e)) (LO 1 + nI (j)) (LO 2 + nI (k)) * kx) - rr) + nI (a)) 2)) t9).2.1), .long ((tkU (frV w (rP (rC (LO 0 + nI (e)) (LO 1 + nI (j)) (LO 2 + nI (k))) jd (((pck (nI jd) (LO 0 + nI (e)) (LO 1 + nI (j)) (LO 2 + nI (k)) * kx) - rr) + nI (a)) 0) (rP (rC (LO 0 + nI (e)) (LO 1 + nI (j)) (LO 2 + nI (k))) jd (((pck (nI jd) (LO 0 + nI (e)) (LO 1 + nI (j)) (LO 2 + nI (k)) * kx) - rr) + nI (a)) 1) (rP (rC (LO 0 + nI (e)) (LO 1 + nI (j)) (LO 2 + nI (k))) jd (((pck (nI jd) (LO 0 + nI (e)) (LO 1 + nI (j)) (LO 2 + nI (k)) * kx) - rr) + nI (a)) 2)) t9).2.2.1), .long ((tkU (frV w (rP (rC (LO 0 + nI (e)) (LO 1 + nI (j)) (LO 2 + nI (k))) jd (((pck (nI jd) (LO 0 + nI (e)) (LO 1 + nI (j)) (LO 2 + nI (k)) * kx) - rr) + nI (a)) 0) (rP (rC (LO 0 + nI (e)) (LO 1 + nI (j)) (LO 2 + nI (k))) jd (((pck (nI jd) (LO 0 + nI (e)) (LO 1 + nI (j)) (LO 2 + nI (k)) * kx) - rr) + nI (a)) 1) (rP (rC (LO 0 + nI (e)) (LO 1 + nI (j)) (LO 2 + nI (k))) jd (((pck (nI jd) (LO 0 + nI (e)) (LO 1 + nI (j)) (LO 2 + nI (k)) * kx) - rr) + nI (a)) 2)) t9).2.2.2)])) va (aJ G n (vF (foD w LO HI (nI jd) kind reach what) (c3 (sN LO HI 1) (sN LO HI 2) e j k)))) za (aZ G n (zF (foD w LO HI (nI jd) kind reach what) (c3 (sN LO HI 1) (sN LO HI 2) e j k)))) 0 0 136 [(0, .ref r), (1, .ref o), (2, .ref q), (3, .int (nI jd)), (4, .int kx), (5, .int rr), (6, .int what), (7, .int (LO 0 + nI (e))), (8, .int (LO 1 + nI (j))), (9, .int (LO 2 + nI (k))), (10, .int (pck (nI jd) (LO 0 + nI (e)) (LO 1 + nI (j)) (LO 2 + nI (k)) * kx)), (11, .int (((pck (nI jd) (LO 0 + nI (e)) (LO 1 + nI (j)) (LO 2 + nI (k)) * kx) - rr) + nI (a)))] []
            refine q_iinc (v := (((pck (nI jd) (LO 0 + nI (e)) (LO 1 + nI (j)) (LO 2 + nI (k)) * kx) - rr) + nI (a + 1))) (lv' := [(11, .int (((pck (nI jd) (LO 0 + nI (e)) (LO 1 + nI (j)) (LO 2 + nI (k)) * kx) - rr) + nI (a + 1))), (0, .ref r), (1, .ref o), (2, .ref q), (3, .int (nI jd)), (4, .int kx), (5, .int rr), (6, .int what), (7, .int (LO 0 + nI (e))), (8, .int (LO 1 + nI (j))), (9, .int (LO 2 + nI (k))), (10, .int (pck (nI jd) (LO 0 + nI (e)) (LO 1 + nI (j)) (LO 2 + nI (k)) * kx))]) X dX13_parts_136 11 rfl (lo_s) (by decide) rfl ?_
            refine q_goto X 83 dX13_parts_139 (by decide) ?_
            refine q_sub [1, 2, 3, 4, 5, 6, 7, 8, 9, 10, 11, 0] rfl ?_
            exact ih (a + 1) _ (by omega) ⟨_, rfl, rwT_s hw hjd (rIn_c hok hLH he hj hk) hrow ha (fun S => fP_k (e := 0) hkind hj3 (by decide) p0) (fun S => fP_k (e := 1) hkind hj3 (by decide) p1) (fun S => fP_k (e := 2) hkind hj3 (by decide) p2) hT⟩
          · refine q_iload X dX13_parts_126 11 rfl ?_
            refine q_goto X 133 dX13_parts_128 (by decide) ?_
            refine q_topi (fun a2 ea2 => ?_)
            have ha2 : a2 = rP (rC (LO 0 + nI (e)) (LO 1 + nI (j)) (LO 2 + nI (k))) jd (((pck (nI jd) (LO 0 + nI (e)) (LO 1 + nI (j)) (LO 2 + nI (k)) * kx) - rr) + nI (a)) 2 := ea2.trans (rP_y 2 hj3 (by decide) c123).symm
            subst ha2
            refine q_callV X (c_take (t := t9) (kr (nI t9.1) t9.2.1 t9.2.2.1 t9.2.2.2 (c3 (sN LO HI 1) (sN LO HI 2) e j k)) hw (koX (nI t9.1) t9.2.1 t9.2.2.1 t9.2.2.2 (c3 (sN LO HI 1) (sN LO HI 2) e j k)) ht9) Y_X13_take tw_1410 tw_1412 sel_35 (kr (nI t9.1) t9.2.1 t9.2.2.1 t9.2.2.2 (c3 (sN LO HI 1) (sN LO HI 2) e j k)) rfl (by omega) rfl rfl (Nat.le_of_ble_eq_true rfl) (rc' := 0) (rs' := 0) (Nat.le_refl _) (Nat.le_refl _) dX13_parts_133 (fun v M' hp _ => ?_)
            obtain ⟨rfl, eM⟩ := hp
            rw [eM, mU_r rva rza]
            clear eM
            show qJ G F _ 12 (mU (mU (mU M r (oB 13 [w0, w1, w2, w3, w4, w5, w6, w7, w8, w9, .int (nI (tkU (frV w (rP (rC (LO 0 + nI (e)) (LO 1 + nI (j)) (LO 2 + nI (k))) jd (((pck (nI jd) (LO 0 + nI (e)) (LO 1 + nI (j)) (LO 2 + nI (k)) * kx) - rr) + nI (a)) 0) (rP (rC (LO 0 + nI (e)) (LO 1 + nI (j)) (LO 2 + nI (k))) jd (((pck (nI jd) (LO 0 + nI (e)) (LO 1 + nI (j)) (LO 2 + nI (k)) * kx) - rr) + nI (a)) 1) (rP (rC (LO 0 + nI (e)) (LO 1 + nI (j)) (LO 2 + nI (k))) jd (((pck (nI jd) (LO 0 + nI (e)) (LO 1 + nI (j)) (LO 2 + nI (k)) * kx) - rr) + nI (a)) 2)) t9).1), .long ((tkU (frV w (rP (rC (LO 0 + nI (e)) (LO 1 + nI (j)) (LO 2 + nI (k))) jd (((pck (nI jd) (LO 0 + nI (e)) (LO 1 + nI (j)) (LO 2 + nI (k)) * kx) - rr) + nI (a)) 0) (rP (rC (LO 0 + nI (e)) (LO 1 + nI (j)) (LO 2 + nI (k))) jd (((pck (nI jd) (LO 0 + nI (e)) (LO 1 + nI (j)) (LO 2 + nI (k)) * kx) - rr) + nI (a)) 1) (rP (rC (LO 0 + nI (e)) (LO 1 + nI (j)) (LO 2 + nI (k))) jd (((pck (nI jd) (LO 0 + nI (e)) (LO 1 + nI (j)) (LO 2 + nI (k)) * kx) - rr) + nI (a)) 2)) t9).2.1), .long ((tkU (frV w (rP (rC (LO 0 + nI (e)) (LO 1 + nI (j)) (LO 2 + nI (k))) jd (((pck (nI jd) (LO 0 + nI (e)) (LO 1 + nI (j)) (LO 2 + nI (k)) * kx) - rr) + nI (a)) 0) (rP (rC (LO 0 + nI (e)) (LO 1 + nI (j)) (LO 2 + nI (k))) jd (((pck (nI jd) (LO 0 + nI (e)) (LO 1 + nI (j)) (LO 2 + nI (k)) * kx) - rr) + nI (a)) 1) (rP (rC (LO 0 + nI (e)) (LO 1 + nI (j)) (LO 2 + nI (k))) jd (((pck (nI jd) (LO 0 + nI (e)) (LO 1 + nI (j)) (LO 2 + nI (k)) * kx) - rr) + nI (a)) 2)) t9).2.2.1), .long ((tkU (frV w (rP (rC (LO 0 + nI (e)) (LO 1 + nI (j)) (LO 2 + nI (k))) jd (((pck (nI jd) (LO 0 + nI (e)) (LO 1 + nI (j)) (LO 2 + nI (k)) * kx) - rr) + nI (a)) 0) (rP (rC (LO 0 + nI (e)) (LO 1 + nI (j)) (LO 2 + nI (k))) jd (((pck (nI jd) (LO 0 + nI (e)) (LO 1 + nI (j)) (LO 2 + nI (k)) * kx) - rr) + nI (a)) 1) (rP (rC (LO 0 + nI (e)) (LO 1 + nI (j)) (LO 2 + nI (k))) jd (((pck (nI jd) (LO 0 + nI (e)) (LO 1 + nI (j)) (LO 2 + nI (k)) * kx) - rr) + nI (a)) 2)) t9).2.2.2)])) va (aJ G n (vF (foD w LO HI (nI jd) kind reach what) (c3 (sN LO HI 1) (sN LO HI 2) e j k)))) za (aZ G n (zF (foD w LO HI (nI jd) kind reach what) (c3 (sN LO HI 1) (sN LO HI 2) e j k)))) 0 0 136 [(0, .ref r), (1, .ref o), (2, .ref q), (3, .int (nI jd)), (4, .int kx), (5, .int rr), (6, .int what), (7, .int (LO 0 + nI (e))), (8, .int (LO 1 + nI (j))), (9, .int (LO 2 + nI (k))), (10, .int (pck (nI jd) (LO 0 + nI (e)) (LO 1 + nI (j)) (LO 2 + nI (k)) * kx)), (11, .int (((pck (nI jd) (LO 0 + nI (e)) (LO 1 + nI (j)) (LO 2 + nI (k)) * kx) - rr) + nI (a)))] []
            refine q_iinc (v := (((pck (nI jd) (LO 0 + nI (e)) (LO 1 + nI (j)) (LO 2 + nI (k)) * kx) - rr) + nI (a + 1))) (lv' := [(11, .int (((pck (nI jd) (LO 0 + nI (e)) (LO 1 + nI (j)) (LO 2 + nI (k)) * kx) - rr) + nI (a + 1))), (0, .ref r), (1, .ref o), (2, .ref q), (3, .int (nI jd)), (4, .int kx), (5, .int rr), (6, .int what), (7, .int (LO 0 + nI (e))), (8, .int (LO 1 + nI (j))), (9, .int (LO 2 + nI (k))), (10, .int (pck (nI jd) (LO 0 + nI (e)) (LO 1 + nI (j)) (LO 2 + nI (k)) * kx))]) X dX13_parts_136 11 rfl (lo_s) (by decide) rfl ?_
            refine q_goto X 83 dX13_parts_139 (by decide) ?_
            refine q_sub [1, 2, 3, 4, 5, 6, 7, 8, 9, 10, 11, 0] rfl ?_
            exact ih (a + 1) _ (by omega) ⟨_, rfl, rwT_s hw hjd (rIn_c hok hLH he hj hk) hrow ha (fun S => fP_k (e := 0) hkind hj3 (by decide) p0) (fun S => fP_k (e := 1) hkind hj3 (by decide) p1) (fun S => fP_k (e := 2) hkind hj3 (by decide) p2) hT⟩
        · refine q_iload X dX13_parts_114 11 rfl ?_
          refine q_goto X 121 dX13_parts_116 (by decide) ?_
          refine q_topi (fun a1 ea1 => ?_)
          have ha1 : a1 = rP (rC (LO 0 + nI (e)) (LO 1 + nI (j)) (LO 2 + nI (k))) jd (((pck (nI jd) (LO 0 + nI (e)) (LO 1 + nI (j)) (LO 2 + nI (k)) * kx) - rr) + nI (a)) 1 := ea1.trans (rP_y 1 hj3 (by decide) c111).symm
          subst ha1
          refine q_iload_n X dX13_parts_121 3 rfl ?_
          refine q_iconst (v := 2) X dX13_parts_122 (by decide) ?_
          refine q_icmp_ne X 131 dX13_parts_123 (by decide) (fun c123 => ?_) (fun c123 => ?_)
          · refine q_iload X dX13_parts_131 9 rfl ?_
            refine q_topi (fun a2 ea2 => ?_)
            have ha2 : a2 = rP (rC (LO 0 + nI (e)) (LO 1 + nI (j)) (LO 2 + nI (k))) jd (((pck (nI jd) (LO 0 + nI (e)) (LO 1 + nI (j)) (LO 2 + nI (k)) * kx) - rr) + nI (a)) 2 := ea2.trans (rP_n 2 c123).symm
            subst ha2
            refine q_callV X (c_take (t := t9) (kr (nI t9.1) t9.2.1 t9.2.2.1 t9.2.2.2 (c3 (sN LO HI 1) (sN LO HI 2) e j k)) hw (koX (nI t9.1) t9.2.1 t9.2.2.1 t9.2.2.2 (c3 (sN LO HI 1) (sN LO HI 2) e j k)) ht9) Y_X13_take tw_1410 tw_1412 sel_35 (kr (nI t9.1) t9.2.1 t9.2.2.1 t9.2.2.2 (c3 (sN LO HI 1) (sN LO HI 2) e j k)) rfl (by omega) rfl rfl (Nat.le_of_ble_eq_true rfl) (rc' := 0) (rs' := 0) (Nat.le_refl _) (Nat.le_refl _) dX13_parts_133 (fun v M' hp _ => ?_)
            obtain ⟨rfl, eM⟩ := hp
            rw [eM, mU_r rva rza]
            clear eM
            show qJ G F _ 12 (mU (mU (mU M r (oB 13 [w0, w1, w2, w3, w4, w5, w6, w7, w8, w9, .int (nI (tkU (frV w (rP (rC (LO 0 + nI (e)) (LO 1 + nI (j)) (LO 2 + nI (k))) jd (((pck (nI jd) (LO 0 + nI (e)) (LO 1 + nI (j)) (LO 2 + nI (k)) * kx) - rr) + nI (a)) 0) (rP (rC (LO 0 + nI (e)) (LO 1 + nI (j)) (LO 2 + nI (k))) jd (((pck (nI jd) (LO 0 + nI (e)) (LO 1 + nI (j)) (LO 2 + nI (k)) * kx) - rr) + nI (a)) 1) (rP (rC (LO 0 + nI (e)) (LO 1 + nI (j)) (LO 2 + nI (k))) jd (((pck (nI jd) (LO 0 + nI (e)) (LO 1 + nI (j)) (LO 2 + nI (k)) * kx) - rr) + nI (a)) 2)) t9).1), .long ((tkU (frV w (rP (rC (LO 0 + nI (e)) (LO 1 + nI (j)) (LO 2 + nI (k))) jd (((pck (nI jd) (LO 0 + nI (e)) (LO 1 + nI (j)) (LO 2 + nI (k)) * kx) - rr) + nI (a)) 0) (rP (rC (LO 0 + nI (e)) (LO 1 + nI (j)) (LO 2 + nI (k))) jd (((pck (nI jd) (LO 0 + nI (e)) (LO 1 + nI (j)) (LO 2 + nI (k)) * kx) - rr) + nI (a)) 1) (rP (rC (LO 0 + nI (e)) (LO 1 + nI (j)) (LO 2 + nI (k))) jd (((pck (nI jd) (LO 0 + nI (e)) (LO 1 + nI (j)) (LO 2 + nI (k)) * kx) - rr) + nI (a)) 2)) t9).2.1), .long ((tkU (frV w (rP (rC (LO 0 + nI (e)) (LO 1 + nI (j)) (LO 2 + nI (k))) jd (((pck (nI jd) (LO 0 + nI (e)) (LO 1 + nI (j)) (LO 2 + nI (k)) * kx) - rr) + nI (a)) 0) (rP (rC (LO 0 + nI (e)) (LO 1 + nI (j)) (LO 2 + nI (k))) jd (((pck (nI jd) (LO 0 + nI (e)) (LO 1 + nI (j)) (LO 2 + nI (k)) * kx) - rr) + nI (a)) 1) (rP (rC (LO 0 + nI (e)) (LO 1 + nI (j)) (LO 2 + nI (k))) jd (((pck (nI jd) (LO 0 + nI (e)) (LO 1 + nI (j)) (LO 2 + nI (k)) * kx) - rr) + nI (a)) 2)) t9).2.2.1), .long ((tkU (frV w (rP (rC (LO 0 + nI (e)) (LO 1 + nI (j)) (LO 2 + nI (k))) jd (((pck (nI jd) (LO 0 + nI (e)) (LO 1 + nI (j)) (LO 2 + nI (k)) * kx) - rr) + nI (a)) 0) (rP (rC (LO 0 + nI (e)) (LO 1 + nI (j)) (LO 2 + nI (k))) jd (((pck (nI jd) (LO 0 + nI (e)) (LO 1 + nI (j)) (LO 2 + nI (k)) * kx) - rr) + nI (a)) 1) (rP (rC (LO 0 + nI (e)) (LO 1 + nI (j)) (LO 2 + nI (k))) jd (((pck (nI jd) (LO 0 + nI (e)) (LO 1 + nI (j)) (LO 2 + nI (k)) * kx) - rr) + nI (a)) 2)) t9).2.2.2)])) va (aJ G n (vF (foD w LO HI (nI jd) kind reach what) (c3 (sN LO HI 1) (sN LO HI 2) e j k)))) za (aZ G n (zF (foD w LO HI (nI jd) kind reach what) (c3 (sN LO HI 1) (sN LO HI 2) e j k)))) 0 0 136 [(0, .ref r), (1, .ref o), (2, .ref q), (3, .int (nI jd)), (4, .int kx), (5, .int rr), (6, .int what), (7, .int (LO 0 + nI (e))), (8, .int (LO 1 + nI (j))), (9, .int (LO 2 + nI (k))), (10, .int (pck (nI jd) (LO 0 + nI (e)) (LO 1 + nI (j)) (LO 2 + nI (k)) * kx)), (11, .int (((pck (nI jd) (LO 0 + nI (e)) (LO 1 + nI (j)) (LO 2 + nI (k)) * kx) - rr) + nI (a)))] []
            refine q_iinc (v := (((pck (nI jd) (LO 0 + nI (e)) (LO 1 + nI (j)) (LO 2 + nI (k)) * kx) - rr) + nI (a + 1))) (lv' := [(11, .int (((pck (nI jd) (LO 0 + nI (e)) (LO 1 + nI (j)) (LO 2 + nI (k)) * kx) - rr) + nI (a + 1))), (0, .ref r), (1, .ref o), (2, .ref q), (3, .int (nI jd)), (4, .int kx), (5, .int rr), (6, .int what), (7, .int (LO 0 + nI (e))), (8, .int (LO 1 + nI (j))), (9, .int (LO 2 + nI (k))), (10, .int (pck (nI jd) (LO 0 + nI (e)) (LO 1 + nI (j)) (LO 2 + nI (k)) * kx))]) X dX13_parts_136 11 rfl (lo_s) (by decide) rfl ?_
            refine q_goto X 83 dX13_parts_139 (by decide) ?_
            refine q_sub [1, 2, 3, 4, 5, 6, 7, 8, 9, 10, 11, 0] rfl ?_
            exact ih (a + 1) _ (by omega) ⟨_, rfl, rwT_s hw hjd (rIn_c hok hLH he hj hk) hrow ha (fun S => fP_k (e := 0) hkind hj3 (by decide) p0) (fun S => fP_k (e := 1) hkind hj3 (by decide) p1) (fun S => fP_k (e := 2) hkind hj3 (by decide) p2) hT⟩
          · refine q_iload X dX13_parts_126 11 rfl ?_
            refine q_goto X 133 dX13_parts_128 (by decide) ?_
            refine q_topi (fun a2 ea2 => ?_)
            have ha2 : a2 = rP (rC (LO 0 + nI (e)) (LO 1 + nI (j)) (LO 2 + nI (k))) jd (((pck (nI jd) (LO 0 + nI (e)) (LO 1 + nI (j)) (LO 2 + nI (k)) * kx) - rr) + nI (a)) 2 := ea2.trans (rP_y 2 hj3 (by decide) c123).symm
            subst ha2
            refine q_callV X (c_take (t := t9) (kr (nI t9.1) t9.2.1 t9.2.2.1 t9.2.2.2 (c3 (sN LO HI 1) (sN LO HI 2) e j k)) hw (koX (nI t9.1) t9.2.1 t9.2.2.1 t9.2.2.2 (c3 (sN LO HI 1) (sN LO HI 2) e j k)) ht9) Y_X13_take tw_1410 tw_1412 sel_35 (kr (nI t9.1) t9.2.1 t9.2.2.1 t9.2.2.2 (c3 (sN LO HI 1) (sN LO HI 2) e j k)) rfl (by omega) rfl rfl (Nat.le_of_ble_eq_true rfl) (rc' := 0) (rs' := 0) (Nat.le_refl _) (Nat.le_refl _) dX13_parts_133 (fun v M' hp _ => ?_)
            obtain ⟨rfl, eM⟩ := hp
            rw [eM, mU_r rva rza]
            clear eM
            show qJ G F _ 12 (mU (mU (mU M r (oB 13 [w0, w1, w2, w3, w4, w5, w6, w7, w8, w9, .int (nI (tkU (frV w (rP (rC (LO 0 + nI (e)) (LO 1 + nI (j)) (LO 2 + nI (k))) jd (((pck (nI jd) (LO 0 + nI (e)) (LO 1 + nI (j)) (LO 2 + nI (k)) * kx) - rr) + nI (a)) 0) (rP (rC (LO 0 + nI (e)) (LO 1 + nI (j)) (LO 2 + nI (k))) jd (((pck (nI jd) (LO 0 + nI (e)) (LO 1 + nI (j)) (LO 2 + nI (k)) * kx) - rr) + nI (a)) 1) (rP (rC (LO 0 + nI (e)) (LO 1 + nI (j)) (LO 2 + nI (k))) jd (((pck (nI jd) (LO 0 + nI (e)) (LO 1 + nI (j)) (LO 2 + nI (k)) * kx) - rr) + nI (a)) 2)) t9).1), .long ((tkU (frV w (rP (rC (LO 0 + nI (e)) (LO 1 + nI (j)) (LO 2 + nI (k))) jd (((pck (nI jd) (LO 0 + nI (e)) (LO 1 + nI (j)) (LO 2 + nI (k)) * kx) - rr) + nI (a)) 0) (rP (rC (LO 0 + nI (e)) (LO 1 + nI (j)) (LO 2 + nI (k))) jd (((pck (nI jd) (LO 0 + nI (e)) (LO 1 + nI (j)) (LO 2 + nI (k)) * kx) - rr) + nI (a)) 1) (rP (rC (LO 0 + nI (e)) (LO 1 + nI (j)) (LO 2 + nI (k))) jd (((pck (nI jd) (LO 0 + nI (e)) (LO 1 + nI (j)) (LO 2 + nI (k)) * kx) - rr) + nI (a)) 2)) t9).2.1), .long ((tkU (frV w (rP (rC (LO 0 + nI (e)) (LO 1 + nI (j)) (LO 2 + nI (k))) jd (((pck (nI jd) (LO 0 + nI (e)) (LO 1 + nI (j)) (LO 2 + nI (k)) * kx) - rr) + nI (a)) 0) (rP (rC (LO 0 + nI (e)) (LO 1 + nI (j)) (LO 2 + nI (k))) jd (((pck (nI jd) (LO 0 + nI (e)) (LO 1 + nI (j)) (LO 2 + nI (k)) * kx) - rr) + nI (a)) 1) (rP (rC (LO 0 + nI (e)) (LO 1 + nI (j)) (LO 2 + nI (k))) jd (((pck (nI jd) (LO 0 + nI (e)) (LO 1 + nI (j)) (LO 2 + nI (k)) * kx) - rr) + nI (a)) 2)) t9).2.2.1), .long ((tkU (frV w (rP (rC (LO 0 + nI (e)) (LO 1 + nI (j)) (LO 2 + nI (k))) jd (((pck (nI jd) (LO 0 + nI (e)) (LO 1 + nI (j)) (LO 2 + nI (k)) * kx) - rr) + nI (a)) 0) (rP (rC (LO 0 + nI (e)) (LO 1 + nI (j)) (LO 2 + nI (k))) jd (((pck (nI jd) (LO 0 + nI (e)) (LO 1 + nI (j)) (LO 2 + nI (k)) * kx) - rr) + nI (a)) 1) (rP (rC (LO 0 + nI (e)) (LO 1 + nI (j)) (LO 2 + nI (k))) jd (((pck (nI jd) (LO 0 + nI (e)) (LO 1 + nI (j)) (LO 2 + nI (k)) * kx) - rr) + nI (a)) 2)) t9).2.2.2)])) va (aJ G n (vF (foD w LO HI (nI jd) kind reach what) (c3 (sN LO HI 1) (sN LO HI 2) e j k)))) za (aZ G n (zF (foD w LO HI (nI jd) kind reach what) (c3 (sN LO HI 1) (sN LO HI 2) e j k)))) 0 0 136 [(0, .ref r), (1, .ref o), (2, .ref q), (3, .int (nI jd)), (4, .int kx), (5, .int rr), (6, .int what), (7, .int (LO 0 + nI (e))), (8, .int (LO 1 + nI (j))), (9, .int (LO 2 + nI (k))), (10, .int (pck (nI jd) (LO 0 + nI (e)) (LO 1 + nI (j)) (LO 2 + nI (k)) * kx)), (11, .int (((pck (nI jd) (LO 0 + nI (e)) (LO 1 + nI (j)) (LO 2 + nI (k)) * kx) - rr) + nI (a)))] []
            refine q_iinc (v := (((pck (nI jd) (LO 0 + nI (e)) (LO 1 + nI (j)) (LO 2 + nI (k)) * kx) - rr) + nI (a + 1))) (lv' := [(11, .int (((pck (nI jd) (LO 0 + nI (e)) (LO 1 + nI (j)) (LO 2 + nI (k)) * kx) - rr) + nI (a + 1))), (0, .ref r), (1, .ref o), (2, .ref q), (3, .int (nI jd)), (4, .int kx), (5, .int rr), (6, .int what), (7, .int (LO 0 + nI (e))), (8, .int (LO 1 + nI (j))), (9, .int (LO 2 + nI (k))), (10, .int (pck (nI jd) (LO 0 + nI (e)) (LO 1 + nI (j)) (LO 2 + nI (k)) * kx))]) X dX13_parts_136 11 rfl (lo_s) (by decide) rfl ?_
            refine q_goto X 83 dX13_parts_139 (by decide) ?_
            refine q_sub [1, 2, 3, 4, 5, 6, 7, 8, 9, 10, 11, 0] rfl ?_
            exact ih (a + 1) _ (by omega) ⟨_, rfl, rwT_s hw hjd (rIn_c hok hLH he hj hk) hrow ha (fun S => fP_k (e := 0) hkind hj3 (by decide) p0) (fun S => fP_k (e := 1) hkind hj3 (by decide) p1) (fun S => fP_k (e := 2) hkind hj3 (by decide) p2) hT⟩
  show qJ G F (qQ G F (fun v M' => v = none ∧ ∃ (tk9 : Int32) (su9 le9 gr9 : Int64), M' = mU (mU (mU M r (oB 13 [w0, w1, w2, w3, w4, w5, w6, w7, w8, w9, .int (tk9), .long (su9), .long (le9), .long (gr9)])) va (aJ G n (vF (foD w LO HI (nI jd) kind reach what) (n)))) za (aZ G n (zF (foD w LO HI (nI jd) kind reach what) (n))))) 12 M 0 0 0 [(0, .ref r), (1, .ref o), (2, .ref q), (3, .int (nI jd)), (4, .int kx), (5, .int rr), (6, .int what)] []
  have L2 : ∀ (e j : Nat) (he : e < sN LO HI 0) (hj : j < sN LO HI 1) (kk : ∀ M2 : gMem, (∃ (tk9 : Int32) (su9 le9 gr9 : Int64), M2 = mU (mU (mU M r (oB 13 [w0, w1, w2, w3, w4, w5, w6, w7, w8, w9, .int (tk9), .long (su9), .long (le9), .long (gr9)])) va (aJ G n (vF (foD w LO HI (nI jd) kind reach what) (c3 (sN LO HI 1) (sN LO HI 2) e j (sN LO HI 2))))) za (aZ G n (zF (foD w LO HI (nI jd) kind reach what) (c3 (sN LO HI 1) (sN LO HI 2) e j (sN LO HI 2))))) → qJ G F (qQ G F (fun v M' => v = none ∧ ∃ (tk9 : Int32) (su9 le9 gr9 : Int64), M' = mU (mU (mU M r (oB 13 [w0, w1, w2, w3, w4, w5, w6, w7, w8, w9, .int (tk9), .long (su9), .long (le9), .long (gr9)])) va (aJ G n (vF (foD w LO HI (nI jd) kind reach what) (n)))) za (aZ G n (zF (foD w LO HI (nI jd) kind reach what) (n))))) 12 M2 0 0 165 [(0, .ref r), (1, .ref o), (2, .ref q), (3, .int (nI jd)), (4, .int kx), (5, .int rr), (6, .int what), (7, .int (LO 0 + nI (e))), (8, .int (LO 1 + nI (j)))] []) (t k : Nat) (M1 : gMem), k + t = sN LO HI 2 → (∃ (tk9 : Int32) (su9 le9 gr9 : Int64), M1 = mU (mU (mU M r (oB 13 [w0, w1, w2, w3, w4, w5, w6, w7, w8, w9, .int (tk9), .long (su9), .long (le9), .long (gr9)])) va (aJ G n (vF (foD w LO HI (nI jd) kind reach what) (c3 (sN LO HI 1) (sN LO HI 2) e j k)))) za (aZ G n (zF (foD w LO HI (nI jd) kind reach what) (c3 (sN LO HI 1) (sN LO HI 2) e j k)))) → qJ G F (qQ G F (fun v M' => v = none ∧ ∃ (tk9 : Int32) (su9 le9 gr9 : Int64), M' = mU (mU (mU M r (oB 13 [w0, w1, w2, w3, w4, w5, w6, w7, w8, w9, .int (tk9), .long (su9), .long (le9), .long (gr9)])) va (aJ G n (vF (foD w LO HI (nI jd) kind reach what) (n)))) za (aZ G n (zF (foD w LO HI (nI jd) kind reach what) (n))))) 12 M1 0 0 46 [(0, .ref r), (1, .ref o), (2, .ref q), (3, .int (nI jd)), (4, .int kx), (5, .int rr), (6, .int what), (7, .int (LO 0 + nI (e))), (8, .int (LO 1 + nI (j))), (9, .int (LO 2 + nI (k)))] [] := by
    intro e j he hj kk t
    induction t with
    | zero =>
      intro k M1 hk0 hI
      obtain rfl : k = sN LO HI 2 := by omega
      have hI0 := hI
      obtain ⟨tk9, su9, le9, gr9, rfl⟩ := hI
      refine q_iload X dX13_parts_46 9 rfl ?_
      refine q_aload_n X dX13_parts_48 2 rfl ?_
      refine q_get X (kq tk9 su9 le9 gr9 (c3 (sN LO HI 1) (sN LO HI 2) e j (sN LO HI 2))) rfl in_RX12 3 (by decide) tw_1158 rfl rfl dX13_parts_49 ?_
      refine q_iconst (v := 2) X dX13_parts_52 (by decide) ?_
      refine q_ialdN X 2 (kha tk9 su9 le9 gr9 (c3 (sN LO HI 1) (sN LO HI 2) e j (sN LO HI 2))) (rfl) (by decide) (by decide) dX13_parts_53 ?_
      refine q_icmp_gt X 165 dX13_parts_54 (by decide) (fun c_3 => ?_) (fun c_3 => absurd (by rw [y2]; exact (lo_lt l2.1 l2.2 (by omega) (by omega)).mpr (by omega)) c_3)
      refine q_sub [0, 1, 2, 3, 4, 5, 6, 7, 8] rfl ?_
      exact kk _ hI0
    | succ t ih =>
      intro k M1 hk0 hI
      have hk : k < sN LO HI 2 := by omega
      have hI0 := hI
      obtain ⟨tk9, su9, le9, gr9, rfl⟩ := hI
      have hc9 : c3 (sN LO HI 1) (sN LO HI 2) e j k < n := (hn9 ▸ c3_lt he hj hk)
      refine q_iload X dX13_parts_46 9 rfl ?_
      refine q_aload_n X dX13_parts_48 2 rfl ?_
      refine q_get X (kq tk9 su9 le9 gr9 (c3 (sN LO HI 1) (sN LO HI 2) e j k)) rfl in_RX12 3 (by decide) tw_1158 rfl rfl dX13_parts_49 ?_
      refine q_iconst (v := 2) X dX13_parts_52 (by decide) ?_
      refine q_ialdN X 2 (kha tk9 su9 le9 gr9 (c3 (sN LO HI 1) (sN LO HI 2) e j k)) (rfl) (by decide) (by decide) dX13_parts_53 ?_
      refine q_icmp_gt X 165 dX13_parts_54 (by decide) (fun c_4 => absurd ((lo_lt l2.1 l2.2 (by omega) (by omega)).mp (y2 ▸ c_4)) (by omega)) (fun c_4 => ?_)
      refine q_iload_n X dX13_parts_57 3 rfl ?_
      refine q_iload X dX13_parts_58 7 rfl ?_
      refine q_iload X dX13_parts_60 8 rfl ?_
      refine q_iload X dX13_parts_62 9 rfl ?_
      refine q_callSp X (c_pick) Y_X13_pick tw_1278 tw_1279 (by omega) rfl rfl (Nat.le_of_ble_eq_true rfl) dX13_parts_64 ?_
      refine q_iload X dX13_parts_67 4 rfl ?_
      refine q_imul X dX13_parts_69 ?_
      refine q_istore (lv' := [(10, .int ((pck (nI jd) (LO 0 + nI (e)) (LO 1 + nI (j)) (LO 2 + nI (k))) * kx)), (0, .ref r), (1, .ref o), (2, .ref q), (3, .int (nI jd)), (4, .int kx), (5, .int rr), (6, .int what), (7, .int (LO 0 + nI (e))), (8, .int (LO 1 + nI (j))), (9, .int (LO 2 + nI (k)))]) X dX13_parts_70 (by decide) rfl ?_
      refine q_aload_n X dX13_parts_72 1 rfl ?_
      refine q_callV X (c_nothing (kr tk9 su9 le9 gr9 (c3 (sN LO HI 1) (sN LO HI 2) e j k))) Y_X13_nothing tw_1406 tw_1408 sel_34 (kr tk9 su9 le9 gr9 (c3 (sN LO HI 1) (sN LO HI 2) e j k)) rfl (by omega) rfl rfl (Nat.le_of_ble_eq_true rfl) (rc' := 0) (rs' := 0) (Nat.le_refl _) (Nat.le_refl _) dX13_parts_73 (fun v M' hp _ => ?_)
      obtain ⟨rfl, eM⟩ := hp
      rw [eM, mU_r rva rza]
      clear eM
      show qJ G F _ 12 (mU (mU (mU M r (oB 13 [w0, w1, w2, w3, w4, w5, w6, w7, w8, w9, .int (nI 0), .long (0), .long (le9), .long (gr9)])) va (aJ G n (vF (foD w LO HI (nI jd) kind reach what) (c3 (sN LO HI 1) (sN LO HI 2) e j k)))) za (aZ G n (zF (foD w LO HI (nI jd) kind reach what) (c3 (sN LO HI 1) (sN LO HI 2) e j k)))) 0 0 76 [(10, .int ((pck (nI jd) (LO 0 + nI (e)) (LO 1 + nI (j)) (LO 2 + nI (k))) * kx)), (0, .ref r), (1, .ref o), (2, .ref q), (3, .int (nI jd)), (4, .int kx), (5, .int rr), (6, .int what), (7, .int (LO 0 + nI (e))), (8, .int (LO 1 + nI (j))), (9, .int (LO 2 + nI (k)))] []
      refine q_iload X dX13_parts_76 0 rfl ?_
      refine q_iload X dX13_parts_78 6 rfl ?_
      refine q_isub X dX13_parts_80 ?_
      rw [show ((pck (nI jd) (LO 0 + nI (e)) (LO 1 + nI (j)) (LO 2 + nI (k)) * kx) - rr) = ((pck (nI jd) (LO 0 + nI (e)) (LO 1 + nI (j)) (LO 2 + nI (k)) * kx) - rr) + nI 0 from lo_0.symm]
      refine q_istore (lv' := [(11, .int (((pck (nI jd) (LO 0 + nI (e)) (LO 1 + nI (j)) (LO 2 + nI (k)) * kx) - rr) + nI (0))), (10, .int ((pck (nI jd) (LO 0 + nI (e)) (LO 1 + nI (j)) (LO 2 + nI (k))) * kx)), (0, .ref r), (1, .ref o), (2, .ref q), (3, .int (nI jd)), (4, .int kx), (5, .int rr), (6, .int what), (7, .int (LO 0 + nI (e))), (8, .int (LO 1 + nI (j))), (9, .int (LO 2 + nI (k)))]) X dX13_parts_81 (by decide) rfl ?_
      refine q_sub [2, 3, 4, 5, 6, 7, 8, 9, 10, 11, 1, 0] rfl ?_
      refine L3 e j k he hj hk (fun M2 hI2 => ?_) L 0 _ (Nat.zero_add _) ⟨(0, 0, le9, gr9), rfl, by rw [rwT_0]; exact tOk_0⟩
      obtain ⟨t9, rfl, hT⟩ := hI2
      have hrow := hF e j k he hj hk
      have hle := rwT_le (w := w) (lo := LO) (hi := HI) (d := nI jd) (kind := kind) (reach := reach) (what := what) (A := ((pck (nI jd) (LO 0 + nI (e)) (LO 1 + nI (j)) (LO 2 + nI (k)) * kx) - rr)) (i := c3 (sN LO HI 1) (sN LO HI 2) e j k) (a := L)
      have ht9 : t9.1 < 2 ^ 30 := by rw [hT.1] at hle; omega
      have fr9 : (if t9.1 = 0 then none else some (tgV what t9)) = (foD w LO HI (nI jd) kind reach what) (c3 (sN LO HI 1) (sN LO HI 2) e j k) := by rw [rwT_L hrow, tOk_O hT]
      refine q_aload_n X dX13_parts_142 0 rfl ?_
      refine q_aload_n X dX13_parts_143 2 rfl ?_
      refine q_aload_n X dX13_parts_144 2 rfl ?_
      refine q_iload X dX13_parts_145 7 rfl ?_
      refine q_iload X dX13_parts_147 8 rfl ?_
      refine q_iload X dX13_parts_149 9 rfl ?_
      refine q_callVp X (c_X12_at (kq (nI t9.1) t9.2.1 t9.2.2.1 t9.2.2.2 _) (kla (nI t9.1) t9.2.1 t9.2.2.1 t9.2.2.2 _) (kha (nI t9.1) t9.2.1 t9.2.2.1 t9.2.2.2 _)) Y_X12_at tw_1266 tw_1267 tw_1268 (kq (nI t9.1) t9.2.1 t9.2.2.1 t9.2.2.2 (c3 (sN LO HI 1) (sN LO HI 2) e j k)) rfl (by omega) rfl rfl (Nat.le_of_ble_eq_true rfl) dX13_parts_151 ?_
      rw [gAt_lo hok]
      refine q_iload X dX13_parts_154 6 rfl ?_
      refine q_callV X (c_give (t := t9) (kr (nI t9.1) t9.2.1 t9.2.2.1 t9.2.2.2 _) (kq (nI t9.1) t9.2.1 t9.2.2.1 t9.2.2.2 _) (kva (nI t9.1) t9.2.1 t9.2.2.1 t9.2.2.2 _) (kza (nI t9.1) t9.2.1 t9.2.2.1 t9.2.2.2 _) hc9 hz9 ht9) Y_X13_give tw_1414 tw_1416 sel_36 (kr (nI t9.1) t9.2.1 t9.2.2.1 t9.2.2.2 (c3 (sN LO HI 1) (sN LO HI 2) e j k)) rfl (by omega) rfl rfl (Nat.le_of_ble_eq_true rfl) (rc' := 0) (rs' := 0) (Nat.le_refl _) (Nat.le_refl _) dX13_parts_156 (fun v M' hp _ => ?_)
      obtain ⟨rfl, eM⟩ := hp
      rw [eM]
      clear eM
      refine q_memE (M' := mU (mU (mU M r (oB 13 [w0, w1, w2, w3, w4, w5, w6, w7, w8, w9, .int (nI (t9).1), .long ((t9).2.1), .long ((t9).2.2.1), .long ((t9).2.2.2)])) va (aJ G n (vF (foD w LO HI (nI jd) kind reach what) (c3 (sN LO HI 1) (sN LO HI 2) e j (k + 1))))) za (aZ G n (zF (foD w LO HI (nI jd) kind reach what) (c3 (sN LO HI 1) (sN LO HI 2) e j (k + 1))))) (by rw [show c3 (sN LO HI 1) (sN LO HI 2) e j (k + 1) = c3 (sN LO HI 1) (sN LO HI 2) e j k + 1 from rfl, ← vF_s fr9, ← zF_s fr9]; exact mU_4 vz) ?_
      show qJ G F _ 12 (mU (mU (mU M r (oB 13 [w0, w1, w2, w3, w4, w5, w6, w7, w8, w9, .int (nI (t9).1), .long ((t9).2.1), .long ((t9).2.2.1), .long ((t9).2.2.2)])) va (aJ G n (vF (foD w LO HI (nI jd) kind reach what) (c3 (sN LO HI 1) (sN LO HI 2) e j (k + 1))))) za (aZ G n (zF (foD w LO HI (nI jd) kind reach what) (c3 (sN LO HI 1) (sN LO HI 2) e j (k + 1))))) 0 0 159 [(0, .ref r), (1, .ref o), (2, .ref q), (3, .int (nI jd)), (4, .int kx), (5, .int rr), (6, .int what), (7, .int (LO 0 + nI (e))), (8, .int (LO 1 + nI (j))), (9, .int (LO 2 + nI (k))), (10, .int (pck (nI jd) (LO 0 + nI (e)) (LO 1 + nI (j)) (LO 2 + nI (k)) * kx))] []
      refine q_iinc (v := (LO 2 + nI (k + 1))) (lv' := [(9, .int (LO 2 + nI (k + 1))), (0, .ref r), (1, .ref o), (2, .ref q), (3, .int (nI jd)), (4, .int kx), (5, .int rr), (6, .int what), (7, .int (LO 0 + nI (e))), (8, .int (LO 1 + nI (j))), (10, .int (pck (nI jd) (LO 0 + nI (e)) (LO 1 + nI (j)) (LO 2 + nI (k)) * kx))]) X dX13_parts_159 9 rfl (lo_s) (by decide) rfl ?_
      refine q_goto X 46 dX13_parts_162 (by decide) ?_
      refine q_sub [1, 2, 3, 4, 5, 6, 7, 8, 9, 0] rfl ?_
      exact ih (k + 1) _ (by omega) ⟨_, _, _, _, rfl⟩
  have L1 : ∀ (e : Nat) (he : e < sN LO HI 0) (kk : ∀ M2 : gMem, (∃ (tk9 : Int32) (su9 le9 gr9 : Int64), M2 = mU (mU (mU M r (oB 13 [w0, w1, w2, w3, w4, w5, w6, w7, w8, w9, .int (tk9), .long (su9), .long (le9), .long (gr9)])) va (aJ G n (vF (foD w LO HI (nI jd) kind reach what) (c3 (sN LO HI 1) (sN LO HI 2) e (sN LO HI 1) 0)))) za (aZ G n (zF (foD w LO HI (nI jd) kind reach what) (c3 (sN LO HI 1) (sN LO HI 2) e (sN LO HI 1) 0)))) → qJ G F (qQ G F (fun v M' => v = none ∧ ∃ (tk9 : Int32) (su9 le9 gr9 : Int64), M' = mU (mU (mU M r (oB 13 [w0, w1, w2, w3, w4, w5, w6, w7, w8, w9, .int (tk9), .long (su9), .long (le9), .long (gr9)])) va (aJ G n (vF (foD w LO HI (nI jd) kind reach what) (n)))) za (aZ G n (zF (foD w LO HI (nI jd) kind reach what) (n))))) 12 M2 0 0 171 [(0, .ref r), (1, .ref o), (2, .ref q), (3, .int (nI jd)), (4, .int kx), (5, .int rr), (6, .int what), (7, .int (LO 0 + nI (e)))] []) (t j : Nat) (M1 : gMem), j + t = sN LO HI 1 → (∃ (tk9 : Int32) (su9 le9 gr9 : Int64), M1 = mU (mU (mU M r (oB 13 [w0, w1, w2, w3, w4, w5, w6, w7, w8, w9, .int (tk9), .long (su9), .long (le9), .long (gr9)])) va (aJ G n (vF (foD w LO HI (nI jd) kind reach what) (c3 (sN LO HI 1) (sN LO HI 2) e j 0)))) za (aZ G n (zF (foD w LO HI (nI jd) kind reach what) (c3 (sN LO HI 1) (sN LO HI 2) e j 0)))) → qJ G F (qQ G F (fun v M' => v = none ∧ ∃ (tk9 : Int32) (su9 le9 gr9 : Int64), M' = mU (mU (mU M r (oB 13 [w0, w1, w2, w3, w4, w5, w6, w7, w8, w9, .int (tk9), .long (su9), .long (le9), .long (gr9)])) va (aJ G n (vF (foD w LO HI (nI jd) kind reach what) (n)))) za (aZ G n (zF (foD w LO HI (nI jd) kind reach what) (n))))) 12 M1 0 0 27 [(0, .ref r), (1, .ref o), (2, .ref q), (3, .int (nI jd)), (4, .int kx), (5, .int rr), (6, .int what), (7, .int (LO 0 + nI (e))), (8, .int (LO 1 + nI (j)))] [] := by
    intro e he kk t
    induction t with
    | zero =>
      intro j M1 hj0 hI
      obtain rfl : j = sN LO HI 1 := by omega
      have hI0 := hI
      obtain ⟨tk9, su9, le9, gr9, rfl⟩ := hI
      refine q_iload X dX13_parts_27 8 rfl ?_
      refine q_aload_n X dX13_parts_29 2 rfl ?_
      refine q_get X (kq tk9 su9 le9 gr9 (c3 (sN LO HI 1) (sN LO HI 2) e (sN LO HI 1) 0)) rfl in_RX12 3 (by decide) tw_1158 rfl rfl dX13_parts_30 ?_
      refine q_iconst (v := 1) X dX13_parts_33 (by decide) ?_
      refine q_ialdN X 1 (kha tk9 su9 le9 gr9 (c3 (sN LO HI 1) (sN LO HI 2) e (sN LO HI 1) 0)) (rfl) (by decide) (by decide) dX13_parts_34 ?_
      refine q_icmp_gt X 171 dX13_parts_35 (by decide) (fun c_5 => ?_) (fun c_5 => absurd (by rw [y1]; exact (lo_lt l1.1 l1.2 (by omega) (by omega)).mpr (by omega)) c_5)
      refine q_sub [0, 1, 2, 3, 4, 5, 6, 7] rfl ?_
      exact kk _ hI0
    | succ t ih =>
      intro j M1 hj0 hI
      have hj : j < sN LO HI 1 := by omega
      have hI0 := hI
      obtain ⟨tk9, su9, le9, gr9, rfl⟩ := hI
      refine q_iload X dX13_parts_27 8 rfl ?_
      refine q_aload_n X dX13_parts_29 2 rfl ?_
      refine q_get X (kq tk9 su9 le9 gr9 (c3 (sN LO HI 1) (sN LO HI 2) e j 0)) rfl in_RX12 3 (by decide) tw_1158 rfl rfl dX13_parts_30 ?_
      refine q_iconst (v := 1) X dX13_parts_33 (by decide) ?_
      refine q_ialdN X 1 (kha tk9 su9 le9 gr9 (c3 (sN LO HI 1) (sN LO HI 2) e j 0)) (rfl) (by decide) (by decide) dX13_parts_34 ?_
      refine q_icmp_gt X 171 dX13_parts_35 (by decide) (fun c_6 => absurd ((lo_lt l1.1 l1.2 (by omega) (by omega)).mp (y1 ▸ c_6)) (by omega)) (fun c_6 => ?_)
      refine q_aload_n X dX13_parts_38 2 rfl ?_
      refine q_get X (kq tk9 su9 le9 gr9 (c3 (sN LO HI 1) (sN LO HI 2) e j 0)) rfl in_RX12 2 (by decide) tw_1156 rfl rfl dX13_parts_39 ?_
      refine q_iconst (v := 2) X dX13_parts_42 (by decide) ?_
      refine q_ialdN X 2 (kla tk9 su9 le9 gr9 (c3 (sN LO HI 1) (sN LO HI 2) e j 0)) (rfl) (by decide) (by decide) dX13_parts_43 ?_
      rw [show LO 2 = LO 2 + nI 0 from lo_0.symm]
      refine q_istore (lv' := [(9, .int (LO 2 + nI (0))), (0, .ref r), (1, .ref o), (2, .ref q), (3, .int (nI jd)), (4, .int kx), (5, .int rr), (6, .int what), (7, .int (LO 0 + nI (e))), (8, .int (LO 1 + nI (j)))]) X dX13_parts_44 (by decide) rfl ?_
      refine q_sub [1, 2, 3, 4, 5, 6, 7, 8, 9, 0] rfl ?_
      refine L2 e j he hj (fun M2 hI2 => ?_) (sN LO HI 2) 0 _ (Nat.zero_add _) hI0
      rw [c3_k] at hI2
      refine q_iinc (v := (LO 1 + nI (j + 1))) (lv' := [(8, .int (LO 1 + nI (j + 1))), (0, .ref r), (1, .ref o), (2, .ref q), (3, .int (nI jd)), (4, .int kx), (5, .int rr), (6, .int what), (7, .int (LO 0 + nI (e)))]) X dX13_parts_165 8 rfl (lo_s) (by decide) rfl ?_
      refine q_goto X 27 dX13_parts_168 (by decide) ?_
      refine q_sub [1, 2, 3, 4, 5, 6, 7, 8, 0] rfl ?_
      exact ih (j + 1) M2 (by omega) hI2
  have L0 : ∀ (kk : ∀ M2 : gMem, (∃ (tk9 : Int32) (su9 le9 gr9 : Int64), M2 = mU (mU (mU M r (oB 13 [w0, w1, w2, w3, w4, w5, w6, w7, w8, w9, .int (tk9), .long (su9), .long (le9), .long (gr9)])) va (aJ G n (vF (foD w LO HI (nI jd) kind reach what) (c3 (sN LO HI 1) (sN LO HI 2) (sN LO HI 0) 0 0)))) za (aZ G n (zF (foD w LO HI (nI jd) kind reach what) (c3 (sN LO HI 1) (sN LO HI 2) (sN LO HI 0) 0 0)))) → qJ G F (qQ G F (fun v M' => v = none ∧ ∃ (tk9 : Int32) (su9 le9 gr9 : Int64), M' = mU (mU (mU M r (oB 13 [w0, w1, w2, w3, w4, w5, w6, w7, w8, w9, .int (tk9), .long (su9), .long (le9), .long (gr9)])) va (aJ G n (vF (foD w LO HI (nI jd) kind reach what) (n)))) za (aZ G n (zF (foD w LO HI (nI jd) kind reach what) (n))))) 12 M2 0 0 177 [(0, .ref r), (1, .ref o), (2, .ref q), (3, .int (nI jd)), (4, .int kx), (5, .int rr), (6, .int what)] []) (t e : Nat) (M1 : gMem), e + t = sN LO HI 0 → (∃ (tk9 : Int32) (su9 le9 gr9 : Int64), M1 = mU (mU (mU M r (oB 13 [w0, w1, w2, w3, w4, w5, w6, w7, w8, w9, .int (tk9), .long (su9), .long (le9), .long (gr9)])) va (aJ G n (vF (foD w LO HI (nI jd) kind reach what) (c3 (sN LO HI 1) (sN LO HI 2) e 0 0)))) za (aZ G n (zF (foD w LO HI (nI jd) kind reach what) (c3 (sN LO HI 1) (sN LO HI 2) e 0 0)))) → qJ G F (qQ G F (fun v M' => v = none ∧ ∃ (tk9 : Int32) (su9 le9 gr9 : Int64), M' = mU (mU (mU M r (oB 13 [w0, w1, w2, w3, w4, w5, w6, w7, w8, w9, .int (tk9), .long (su9), .long (le9), .long (gr9)])) va (aJ G n (vF (foD w LO HI (nI jd) kind reach what) (n)))) za (aZ G n (zF (foD w LO HI (nI jd) kind reach what) (n))))) 12 M1 0 0 8 [(0, .ref r), (1, .ref o), (2, .ref q), (3, .int (nI jd)), (4, .int kx), (5, .int rr), (6, .int what), (7, .int (LO 0 + nI (e)))] [] := by
    intro  kk t
    induction t with
    | zero =>
      intro e M1 he0 hI
      obtain rfl : e = sN LO HI 0 := by omega
      have hI0 := hI
      obtain ⟨tk9, su9, le9, gr9, rfl⟩ := hI
      refine q_iload X dX13_parts_8 7 rfl ?_
      refine q_aload_n X dX13_parts_10 2 rfl ?_
      refine q_get X (kq tk9 su9 le9 gr9 (c3 (sN LO HI 1) (sN LO HI 2) (sN LO HI 0) 0 0)) rfl in_RX12 3 (by decide) tw_1158 rfl rfl dX13_parts_11 ?_
      refine q_iconst (v := 0) X dX13_parts_14 (by decide) ?_
      refine q_ialdN X 0 (kha tk9 su9 le9 gr9 (c3 (sN LO HI 1) (sN LO HI 2) (sN LO HI 0) 0 0)) (rfl) (by decide) (by decide) dX13_parts_15 ?_
      refine q_icmp_gt X 177 dX13_parts_16 (by decide) (fun c_7 => ?_) (fun c_7 => absurd (by rw [y0]; exact (lo_lt l0.1 l0.2 (by omega) (by omega)).mpr (by omega)) c_7)
      refine q_sub [0, 1, 2, 3, 4, 5, 6] rfl ?_
      exact kk _ hI0
    | succ t ih =>
      intro e M1 he0 hI
      have he : e < sN LO HI 0 := by omega
      have hI0 := hI
      obtain ⟨tk9, su9, le9, gr9, rfl⟩ := hI
      refine q_iload X dX13_parts_8 7 rfl ?_
      refine q_aload_n X dX13_parts_10 2 rfl ?_
      refine q_get X (kq tk9 su9 le9 gr9 (c3 (sN LO HI 1) (sN LO HI 2) e 0 0)) rfl in_RX12 3 (by decide) tw_1158 rfl rfl dX13_parts_11 ?_
      refine q_iconst (v := 0) X dX13_parts_14 (by decide) ?_
      refine q_ialdN X 0 (kha tk9 su9 le9 gr9 (c3 (sN LO HI 1) (sN LO HI 2) e 0 0)) (rfl) (by decide) (by decide) dX13_parts_15 ?_
      refine q_icmp_gt X 177 dX13_parts_16 (by decide) (fun c_8 => absurd ((lo_lt l0.1 l0.2 (by omega) (by omega)).mp (y0 ▸ c_8)) (by omega)) (fun c_8 => ?_)
      refine q_aload_n X dX13_parts_19 2 rfl ?_
      refine q_get X (kq tk9 su9 le9 gr9 (c3 (sN LO HI 1) (sN LO HI 2) e 0 0)) rfl in_RX12 2 (by decide) tw_1156 rfl rfl dX13_parts_20 ?_
      refine q_iconst (v := 1) X dX13_parts_23 (by decide) ?_
      refine q_ialdN X 1 (kla tk9 su9 le9 gr9 (c3 (sN LO HI 1) (sN LO HI 2) e 0 0)) (rfl) (by decide) (by decide) dX13_parts_24 ?_
      rw [show LO 1 = LO 1 + nI 0 from lo_0.symm]
      refine q_istore (lv' := [(8, .int (LO 1 + nI (0))), (0, .ref r), (1, .ref o), (2, .ref q), (3, .int (nI jd)), (4, .int kx), (5, .int rr), (6, .int what), (7, .int (LO 0 + nI (e)))]) X dX13_parts_25 (by decide) rfl ?_
      refine q_sub [1, 2, 3, 4, 5, 6, 7, 8, 0] rfl ?_
      refine L1 e he (fun M2 hI2 => ?_) (sN LO HI 1) 0 _ (Nat.zero_add _) hI0
      rw [c3_j] at hI2
      refine q_iinc (v := (LO 0 + nI (e + 1))) (lv' := [(7, .int (LO 0 + nI (e + 1))), (0, .ref r), (1, .ref o), (2, .ref q), (3, .int (nI jd)), (4, .int kx), (5, .int rr), (6, .int what)]) X dX13_parts_171 7 rfl (lo_s) (by decide) rfl ?_
      refine q_goto X 8 dX13_parts_174 (by decide) ?_
      refine q_sub [1, 2, 3, 4, 5, 6, 7, 0] rfl ?_
      exact ih (e + 1) M2 (by omega) hI2
  refine q_aload_n X dX13_parts_0 2 rfl ?_
  refine q_get X hq rfl in_RX12 2 (by decide) tw_1156 rfl rfl dX13_parts_1 ?_
  refine q_iconst (v := 0) X dX13_parts_4 (by decide) ?_
  refine q_ialdN X 0 hla (rfl) (by decide) (by decide) dX13_parts_5 ?_
  rw [show LO 0 = LO 0 + nI 0 from lo_0.symm]
  refine q_istore (lv' := [(7, .int (LO 0 + nI (0))), (0, .ref r), (1, .ref o), (2, .ref q), (3, .int (nI jd)), (4, .int kx), (5, .int rr), (6, .int what)]) X dX13_parts_6 (by decide) rfl ?_
  refine q_sub [1, 2, 3, 4, 5, 6, 7, 0] rfl ?_
  exact L0 hfin (sN LO HI 0) 0 _ (Nat.zero_add _) ⟨tk, su, le, gr, by rw [c3_0, vF_0, zF_0, mU_id hA, mU_id hva, mU_id hza]⟩
