/-! the reference: parts, regrid, window -/

set_option maxRecDepth 20000 in
theorem c_parts {l : Launch} {G : gV} {M : gMem} {r : Nat} {w0 w1 w2 w3 w4 w5 w6 w7 w8 w9 : Value} {tk : Int32} {su le gr : Int64} (hA : M r = some (oB 13 [w0, w1, w2, w3, w4, w5, w6, w7, w8, w9, .int tk, .long su, .long le, .long gr])) {o ola oha ova oza : Nat} {ovf : Nat → Int64} {ozf : Nat → Int32} {w : vN} (hw : vOk w) (hO : isGrX G M o ola oha ova oza ovf ozf w) {q la ha va za n m jd L : Nat} {u0 u1 : Value} {LO HI : Nat → Int32} {kind reach kx rr what : Int32} (hq : M q = some (oB 12 [u0, u1, .ref la, .ref ha, .ref va, .ref za])) (hla : M la = some (aI G 3 LO)) (hha : M ha = some (aI G 3 HI)) (hva : M va = some (aJ G n (fun _ => 0))) (hza : M za = some (aZ G n (fun _ => 0))) (nva : ova ≠ va) (nza : oza ≠ za) (hok : okS m LO HI) (hn9 : n = sz3 LO HI) (hz9 : n ≤ 4096) (hjd : jd < vm w) (hLH : ∀ e, e < 3 → e ≠ jd → LO e = vlo w e ∧ HI e = vhi w e) (hkind : ¬ kind = 0) (hAL : ∀ x : Int32, x + kx + rr = x - rr + nI L) (hL : L ≤ 4000) (hF : ∀ e j k : Nat, e < sN LO HI 0 → j < sN LO HI 1 → k < sN LO HI 2 → rowOk w LO HI jd kind reach (pck (nI jd) (LO 0 + nI e) (LO 1 + nI j) (LO 2 + nI k) * kx - rr) L (c3 (sN LO HI 1) (sN LO HI 2) e j k)) : qC l G yX13_parts cX13_parts 12 none 5 0 0 [.ref r, .ref o, .ref q, .int (nI jd), .int kx, .int rr, .int what] M (fun v M' => v = none ∧ ∃ (tk9 : Int32) (su9 le9 gr9 : Int64), M' = mU (mU (mU M r (oB 13 [w0, w1, w2, w3, w4, w5, w6, w7, w8, w9, .int (tk9), .long (su9), .long (le9), .long (gr9)])) va (aJ G n (vF (foD w LO HI (nI jd) kind reach what) (n)))) za (aZ G n (zF (foD w LO HI (nI jd) kind reach what) (n)))) := by
  refine qC_of (by decide +kernel) (Nat.le_of_ble_eq_true rfl) (fun F hF X hr hn => ?_)
  subst hF
  have X : qX G F cX13_parts 12 RX13 5 := X
  have hcI := cI_ne X
  have hj3 : jd < 3 := Nat.lt_of_lt_of_le hjd hw.1.2.1
  have rva : r ≠ va := g_neoa hA hva
  have rza : r ≠ za := g_neoa hA hza
  have vz : va ≠ za := g_neaa hva hza (fun z => by simp at z)
  have kv : ∀ {x : Nat} {e : va_E}, M x = some e → x ≠ r → x ≠ va → x ≠ za → ∀ (tk9 : Int32) (su9 le9 gr9 : Int64) (c : Nat), (mU (mU (mU M r (oB 13 [w0, w1, w2, w3, w4, w5, w6, w7, w8, w9, .int (tk9), .long (su9), .long (le9), .long (gr9)])) va (aJ G n (vF (foD w LO HI (nI jd) kind reach what) (c)))) za (aZ G n (zF (foD w LO HI (nI jd) kind reach what) (c)))) x = some e := fun h h1 h2 h3 _ _ _ _ _ => (mU_n h3).trans ((mU_n h2).trans ((mU_n h1).trans h))
  have ko : ∀ (tk9 : Int32) (su9 le9 gr9 : Int64) (c : Nat), (mU (mU (mU M r (oB 13 [w0, w1, w2, w3, w4, w5, w6, w7, w8, w9, .int (tk9), .long (su9), .long (le9), .long (gr9)])) va (aJ G n (vF (foD w LO HI (nI jd) kind reach what) (c)))) za (aZ G n (zF (foD w LO HI (nI jd) kind reach what) (c)))) o = some (oB 12 [.int (nI (vm w)), .int (nI (vdp w)), .ref ola, .ref oha, .ref ova, .ref oza]) := kv hO.1 (g_neoo hO.1 hA (by decide)) (g_neoa hO.1 hva) (g_neoa hO.1 hza)
  have kola : ∀ (tk9 : Int32) (su9 le9 gr9 : Int64) (c : Nat), (mU (mU (mU M r (oB 13 [w0, w1, w2, w3, w4, w5, w6, w7, w8, w9, .int (tk9), .long (su9), .long (le9), .long (gr9)])) va (aJ G n (vF (foD w LO HI (nI jd) kind reach what) (c)))) za (aZ G n (zF (foD w LO HI (nI jd) kind reach what) (c)))) ola = some (aI G 3 (vlo w)) := kv hO.2.1 (Ne.symm (g_neoa hA hO.2.1)) (g_neaa hO.2.1 hva (fun z => by simp at z)) (g_neIZ hcI hO.2.1 hza)
  have koha : ∀ (tk9 : Int32) (su9 le9 gr9 : Int64) (c : Nat), (mU (mU (mU M r (oB 13 [w0, w1, w2, w3, w4, w5, w6, w7, w8, w9, .int (tk9), .long (su9), .long (le9), .long (gr9)])) va (aJ G n (vF (foD w LO HI (nI jd) kind reach what) (c)))) za (aZ G n (zF (foD w LO HI (nI jd) kind reach what) (c)))) oha = some (aI G 3 (vhi w)) := kv hO.2.2.1 (Ne.symm (g_neoa hA hO.2.2.1)) (g_neaa hO.2.2.1 hva (fun z => by simp at z)) (g_neIZ hcI hO.2.2.1 hza)
  have kova : ∀ (tk9 : Int32) (su9 le9 gr9 : Int64) (c : Nat), (mU (mU (mU M r (oB 13 [w0, w1, w2, w3, w4, w5, w6, w7, w8, w9, .int (tk9), .long (su9), .long (le9), .long (gr9)])) va (aJ G n (vF (foD w LO HI (nI jd) kind reach what) (c)))) za (aZ G n (zF (foD w LO HI (nI jd) kind reach what) (c)))) ova = some (aJ G (wsz w) ovf) := kv hO.2.2.2.1 (Ne.symm (g_neoa hA hO.2.2.2.1)) nva (g_neaa hO.2.2.2.1 hza (fun z => by simp at z))
  have koza : ∀ (tk9 : Int32) (su9 le9 gr9 : Int64) (c : Nat), (mU (mU (mU M r (oB 13 [w0, w1, w2, w3, w4, w5, w6, w7, w8, w9, .int (tk9), .long (su9), .long (le9), .long (gr9)])) va (aJ G n (vF (foD w LO HI (nI jd) kind reach what) (c)))) za (aZ G n (zF (foD w LO HI (nI jd) kind reach what) (c)))) oza = some (aZ G (wsz w) ozf) := kv hO.2.2.2.2.1 (Ne.symm (g_neoa hA hO.2.2.2.2.1)) (g_neaa hO.2.2.2.2.1 hva (fun z => by simp at z)) nza
  have kq : ∀ (tk9 : Int32) (su9 le9 gr9 : Int64) (c : Nat), (mU (mU (mU M r (oB 13 [w0, w1, w2, w3, w4, w5, w6, w7, w8, w9, .int (tk9), .long (su9), .long (le9), .long (gr9)])) va (aJ G n (vF (foD w LO HI (nI jd) kind reach what) (c)))) za (aZ G n (zF (foD w LO HI (nI jd) kind reach what) (c)))) q = some (oB 12 [u0, u1, .ref la, .ref ha, .ref va, .ref za]) := kv hq (g_neoo hq hA (by decide)) (g_neoa hq hva) (g_neoa hq hza)
  have kla : ∀ (tk9 : Int32) (su9 le9 gr9 : Int64) (c : Nat), (mU (mU (mU M r (oB 13 [w0, w1, w2, w3, w4, w5, w6, w7, w8, w9, .int (tk9), .long (su9), .long (le9), .long (gr9)])) va (aJ G n (vF (foD w LO HI (nI jd) kind reach what) (c)))) za (aZ G n (zF (foD w LO HI (nI jd) kind reach what) (c)))) la = some (aI G 3 LO) := kv hla (Ne.symm (g_neoa hA hla)) (g_neaa hla hva (fun z => by simp at z)) (g_neIZ hcI hla hza)
  have kha : ∀ (tk9 : Int32) (su9 le9 gr9 : Int64) (c : Nat), (mU (mU (mU M r (oB 13 [w0, w1, w2, w3, w4, w5, w6, w7, w8, w9, .int (tk9), .long (su9), .long (le9), .long (gr9)])) va (aJ G n (vF (foD w LO HI (nI jd) kind reach what) (c)))) za (aZ G n (zF (foD w LO HI (nI jd) kind reach what) (c)))) ha = some (aI G 3 HI) := kv hha (Ne.symm (g_neoa hA hha)) (g_neaa hha hva (fun z => by simp at z)) (g_neIZ hcI hha hza)
  have kr : ∀ (tk9 : Int32) (su9 le9 gr9 : Int64) (c : Nat), (mU (mU (mU M r (oB 13 [w0, w1, w2, w3, w4, w5, w6, w7, w8, w9, .int (tk9), .long (su9), .long (le9), .long (gr9)])) va (aJ G n (vF (foD w LO HI (nI jd) kind reach what) (c)))) za (aZ G n (zF (foD w LO HI (nI jd) kind reach what) (c)))) r = some (oB 13 [w0, w1, w2, w3, w4, w5, w6, w7, w8, w9, .int (tk9), .long (su9), .long (le9), .long (gr9)]) := fun _ _ _ _ _ => (mU_n rza).trans ((mU_n rva).trans mU_s)
  have kva : ∀ (tk9 : Int32) (su9 le9 gr9 : Int64) (c : Nat), (mU (mU (mU M r (oB 13 [w0, w1, w2, w3, w4, w5, w6, w7, w8, w9, .int (tk9), .long (su9), .long (le9), .long (gr9)])) va (aJ G n (vF (foD w LO HI (nI jd) kind reach what) (c)))) za (aZ G n (zF (foD w LO HI (nI jd) kind reach what) (c)))) va = some (aJ G n (vF (foD w LO HI (nI jd) kind reach what) c)) := fun _ _ _ _ _ => (mU_n vz).trans mU_s
  have kza : ∀ (tk9 : Int32) (su9 le9 gr9 : Int64) (c : Nat), (mU (mU (mU M r (oB 13 [w0, w1, w2, w3, w4, w5, w6, w7, w8, w9, .int (tk9), .long (su9), .long (le9), .long (gr9)])) va (aJ G n (vF (foD w LO HI (nI jd) kind reach what) (c)))) za (aZ G n (zF (foD w LO HI (nI jd) kind reach what) (c)))) za = some (aZ G n (zF (foD w LO HI (nI jd) kind reach what) c)) := fun _ _ _ _ _ => mU_s
  have koX : ∀ (tk9 : Int32) (su9 le9 gr9 : Int64) (c : Nat), isGrX G (mU (mU (mU M r (oB 13 [w0, w1, w2, w3, w4, w5, w6, w7, w8, w9, .int (tk9), .long (su9), .long (le9), .long (gr9)])) va (aJ G n (vF (foD w LO HI (nI jd) kind reach what) (c)))) za (aZ G n (zF (foD w LO HI (nI jd) kind reach what) (c)))) o ola oha ova oza ovf ozf w := fun a b d e c => ⟨ko a b d e c, kola a b d e c, koha a b d e c, kova a b d e c, koza a b d e c, hO.2.2.2.2.2⟩
  have l0 := hok.lo (d := 0) (by decide)
  have N0 := hok.N (d := 0) (by decide)
  have y0 := hok.hi (d := 0) (by decide)
  have l1 := hok.lo (d := 1) (by decide)
  have N1 := hok.N (d := 1) (by decide)
  have y1 := hok.hi (d := 1) (by decide)
  have l2 := hok.lo (d := 2) (by decide)
  have N2 := hok.N (d := 2) (by decide)
  have y2 := hok.hi (d := 2) (by decide)
  have hfin : ∀ M2 : gMem, (∃ (tk9 : Int32) (su9 le9 gr9 : Int64), M2 = mU (mU (mU M r (oB 13 [w0, w1, w2, w3, w4, w5, w6, w7, w8, w9, .int (tk9), .long (su9), .long (le9), .long (gr9)])) va (aJ G n (vF (foD w LO HI (nI jd) kind reach what) (c3 (sN LO HI 1) (sN LO HI 2) (sN LO HI 0) 0 0)))) za (aZ G n (zF (foD w LO HI (nI jd) kind reach what) (c3 (sN LO HI 1) (sN LO HI 2) (sN LO HI 0) 0 0)))) → qJ G F (qQ G F (fun v M' => v = none ∧ ∃ (tk9 : Int32) (su9 le9 gr9 : Int64), M' = mU (mU (mU M r (oB 13 [w0, w1, w2, w3, w4, w5, w6, w7, w8, w9, .int (tk9), .long (su9), .long (le9), .long (gr9)])) va (aJ G n (vF (foD w LO HI (nI jd) kind reach what) (n)))) za (aZ G n (zF (foD w LO HI (nI jd) kind reach what) (n))))) 12 M2 0 0 177 [(0, .ref r), (1, .ref o), (2, .ref q), (3, .int (nI jd)), (4, .int kx), (5, .int rr), (6, .int what)] [] := by
    intro M2 hI
    obtain ⟨tk9, su9, le9, gr9, rfl⟩ := hI
    rw [c3_A, show sN LO HI 0 * sN LO HI 1 * sN LO HI 2 = n from hn9.symm]
    exact q_vret X hr dX13_parts_177 ⟨rfl, tk9, su9, le9, gr9, rfl⟩
  have L3 : ∀ (e j k : Nat) (he : e < sN LO HI 0) (hj : j < sN LO HI 1) (hk : k < sN LO HI 2) (kk : ∀ M2 : gMem, (∃ t9 : tT, M2 = mU (mU (mU M r (oB 13 [w0, w1, w2, w3, w4, w5, w6, w7, w8, w9, .int (nI (t9).1), .long ((t9).2.1), .long ((t9).2.2.1), .long ((t9).2.2.2)])) va (aJ G n (vF (foD w LO HI (nI jd) kind reach what) (c3 (sN LO HI 1) (sN LO HI 2) e j k)))) za (aZ G n (zF (foD w LO HI (nI jd) kind reach what) (c3 (sN LO HI 1) (sN LO HI 2) e j k))) ∧ tOk what (rwT w LO HI (nI jd) kind reach what ((pck (nI jd) (LO 0 + nI (e)) (LO 1 + nI (j)) (LO 2 + nI (k)) * kx) - rr) (c3 (sN LO HI 1) (sN LO HI 2) e j k) (L)) t9) → qJ G F (qQ G F (fun v M' => v = none ∧ ∃ (tk9 : Int32) (su9 le9 gr9 : Int64), M' = mU (mU (mU M r (oB 13 [w0, w1, w2, w3, w4, w5, w6, w7, w8, w9, .int (tk9), .long (su9), .long (le9), .long (gr9)])) va (aJ G n (vF (foD w LO HI (nI jd) kind reach what) (n)))) za (aZ G n (zF (foD w LO HI (nI jd) kind reach what) (n))))) 12 M2 0 0 142 [(0, .ref r), (1, .ref o), (2, .ref q), (3, .int (nI jd)), (4, .int kx), (5, .int rr), (6, .int what), (7, .int (LO 0 + nI (e))), (8, .int (LO 1 + nI (j))), (9, .int (LO 2 + nI (k))), (10, .int (pck (nI jd) (LO 0 + nI (e)) (LO 1 + nI (j)) (LO 2 + nI (k)) * kx))] []) (t a : Nat) (M1 : gMem), a + t = L → (∃ t9 : tT, M1 = mU (mU (mU M r (oB 13 [w0, w1, w2, w3, w4, w5, w6, w7, w8, w9, .int (nI (t9).1), .long ((t9).2.1), .long ((t9).2.2.1), .long ((t9).2.2.2)])) va (aJ G n (vF (foD w LO HI (nI jd) kind reach what) (c3 (sN LO HI 1) (sN LO HI 2) e j k)))) za (aZ G n (zF (foD w LO HI (nI jd) kind reach what) (c3 (sN LO HI 1) (sN LO HI 2) e j k))) ∧ tOk what (rwT w LO HI (nI jd) kind reach what ((pck (nI jd) (LO 0 + nI (e)) (LO 1 + nI (j)) (LO 2 + nI (k)) * kx) - rr) (c3 (sN LO HI 1) (sN LO HI 2) e j k) (a)) t9) → qJ G F (qQ G F (fun v M' => v = none ∧ ∃ (tk9 : Int32) (su9 le9 gr9 : Int64), M' = mU (mU (mU M r (oB 13 [w0, w1, w2, w3, w4, w5, w6, w7, w8, w9, .int (tk9), .long (su9), .long (le9), .long (gr9)])) va (aJ G n (vF (foD w LO HI (nI jd) kind reach what) (n)))) za (aZ G n (zF (foD w LO HI (nI jd) kind reach what) (n))))) 12 M1 0 0 83 [(0, .ref r), (1, .ref o), (2, .ref q), (3, .int (nI jd)), (4, .int kx), (5, .int rr), (6, .int what), (7, .int (LO 0 + nI (e))), (8, .int (LO 1 + nI (j))), (9, .int (LO 2 + nI (k))), (10, .int (pck (nI jd) (LO 0 + nI (e)) (LO 1 + nI (j)) (LO 2 + nI (k)) * kx)), (11, .int (((pck (nI jd) (LO 0 + nI (e)) (LO 1 + nI (j)) (LO 2 + nI (k)) * kx) - rr) + nI (a)))] [] := by
    intro e j k he hj hk kk t
    induction t with
    | zero =>
      intro a M1 ha0 hI
      obtain rfl : a = L := by omega
      have hI0 := hI
      obtain ⟨t9, rfl, hT⟩ := hI
      refine q_iload X dX13_parts_83 11 rfl ?_
      refine q_iload X dX13_parts_85 10 rfl ?_
      refine q_iload X dX13_parts_87 4 rfl ?_
      refine q_iadd X dX13_parts_89 ?_
      refine q_iload X dX13_parts_90 5 rfl ?_
      refine q_iadd X dX13_parts_92 ?_
      rw [show (pck (nI jd) (LO 0 + nI (e)) (LO 1 + nI (j)) (LO 2 + nI (k)) * kx) + kx + rr = ((pck (nI jd) (LO 0 + nI (e)) (LO 1 + nI (j)) (LO 2 + nI (k)) * kx) - rr) + nI a from hAL _]
      refine q_icmp_ge X 142 dX13_parts_93 (by decide) (fun c_1 => ?_) (fun c_1 => absurd (Int32.le_refl _) c_1)
      refine q_sub [0, 1, 2, 3, 4, 5, 6, 7, 8, 9, 10] rfl ?_
      exact kk _ hI0
    | succ t ih =>
      intro a M1 ha0 hI
      have ha : a < L := by omega
      have hI0 := hI
      obtain ⟨t9, rfl, hT⟩ := hI
      have hrow := hF e j k he hj hk
      have hle := rwT_le (w := w) (lo := LO) (hi := HI) (d := nI jd) (kind := kind) (reach := reach) (what := what) (A := ((pck (nI jd) (LO 0 + nI (e)) (LO 1 + nI (j)) (LO 2 + nI (k)) * kx) - rr)) (i := c3 (sN LO HI 1) (sN LO HI 2) e j k) (a := a)
      have ht9 : t9.1 < 2 ^ 30 := by rw [hT.1] at hle; omega
      obtain ⟨p0, p1, p2⟩ := pl3_c3 hok (by omega) he hj hk
      refine q_iload X dX13_parts_83 11 rfl ?_
      refine q_iload X dX13_parts_85 10 rfl ?_
      refine q_iload X dX13_parts_87 4 rfl ?_
      refine q_iadd X dX13_parts_89 ?_
      refine q_iload X dX13_parts_90 5 rfl ?_
      refine q_iadd X dX13_parts_92 ?_
      rw [show (pck (nI jd) (LO 0 + nI (e)) (LO 1 + nI (j)) (LO 2 + nI (k)) * kx) + kx + rr = ((pck (nI jd) (LO 0 + nI (e)) (LO 1 + nI (j)) (LO 2 + nI (k)) * kx) - rr) + nI L from hAL _]
      refine q_icmp_ge X 142 dX13_parts_93 (by decide) (fun c_2 => absurd ((A_le hrow.1.1 (by have := hrow.1.2; omega) (by omega) (by omega)).mp c_2) (by omega)) (fun c_2 => ?_)
      refine q_aload_n X dX13_parts_96 0 rfl ?_
      refine q_aload_n X dX13_parts_97 1 rfl ?_
      refine q_iload_n X dX13_parts_98 3 rfl ?_
      refine q_if_ne X 107 dX13_parts_99 (by decide) (fun c99 => ?_) (fun c99 => ?_)
      · refine q_iload X dX13_parts_107 7 rfl ?_
        refine q_topi (fun a0 ea0 => ?_)
        have ha0 : a0 = rP (rC (LO 0 + nI (e)) (LO 1 + nI (j)) (LO 2 + nI (k))) jd (((pck (nI jd) (LO 0 + nI (e)) (LO 1 + nI (j)) (LO 2 + nI (k)) * kx) - rr) + nI (a)) 0 := ea0.trans (rP_n (c := (rC (LO 0 + nI (e)) (LO 1 + nI (j)) (LO 2 + nI (k)))) 0 c99).symm
        subst ha0
        refine q_iload_n X dX13_parts_109 3 rfl ?_
        refine q_iconst (v := 1) X dX13_parts_110 (by decide) ?_
        refine q_icmp_ne X 119 dX13_parts_111 (by decide) (fun c111 => ?_) (fun c111 => ?_)
        · refine q_iload X dX13_parts_119 8 rfl ?_
          refine q_topi (fun a1 ea1 => ?_)
          have ha1 : a1 = rP (rC (LO 0 + nI (e)) (LO 1 + nI (j)) (LO 2 + nI (k))) jd (((pck (nI jd) (LO 0 + nI (e)) (LO 1 + nI (j)) (LO 2 + nI (k)) * kx) - rr) + nI (a)) 1 := ea1.trans (rP_n (c := (rC (LO 0 + nI (e)) (LO 1 + nI (j)) (LO 2 + nI (k)))) 1 c111).symm
          subst ha1
          refine q_iload_n X dX13_parts_121 3 rfl ?_
          refine q_iconst (v := 2) X dX13_parts_122 (by decide) ?_
          refine q_icmp_ne X 131 dX13_parts_123 (by decide) (fun c123 => ?_) (fun c123 => ?_)
          · refine q_iload X dX13_parts_131 9 rfl ?_
            refine q_topi (fun a2 ea2 => ?_)
            have ha2 : a2 = rP (rC (LO 0 + nI (e)) (LO 1 + nI (j)) (LO 2 + nI (k))) jd (((pck (nI jd) (LO 0 + nI (e)) (LO 1 + nI (j)) (LO 2 + nI (k)) * kx) - rr) + nI (a)) 2 := ea2.trans (rP_n (c := (rC (LO 0 + nI (e)) (LO 1 + nI (j)) (LO 2 + nI (k)))) 2 c123).symm
            subst ha2
            refine q_callV X (c_take (t := t9) (kr (nI t9.1) t9.2.1 t9.2.2.1 t9.2.2.2 (c3 (sN LO HI 1) (sN LO HI 2) e j k)) hw (koX (nI t9.1) t9.2.1 t9.2.2.1 t9.2.2.2 (c3 (sN LO HI 1) (sN LO HI 2) e j k)) ht9) Y_X13_take tw_1413 tw_1415 sel_35 (kr (nI t9.1) t9.2.1 t9.2.2.1 t9.2.2.2 (c3 (sN LO HI 1) (sN LO HI 2) e j k)) rfl (by omega) rfl rfl (Nat.le_of_ble_eq_true rfl) (rc' := 0) (rs' := 0) (Nat.le_refl _) (Nat.le_refl _) dX13_parts_133 (fun v M' hp _ => ?_)
            obtain ⟨rfl, eM⟩ := hp
            rw [eM, mU_r rva rza]
            clear eM
            show qJ G F _ 12 (mU (mU (mU M r (oB 13 [w0, w1, w2, w3, w4, w5, w6, w7, w8, w9, .int (nI (tkU (frV w (rP (rC (LO 0 + nI (e)) (LO 1 + nI (j)) (LO 2 + nI (k))) jd (((pck (nI jd) (LO 0 + nI (e)) (LO 1 + nI (j)) (LO 2 + nI (k)) * kx) - rr) + nI (a)) 0) (rP (rC (LO 0 + nI (e)) (LO 1 + nI (j)) (LO 2 + nI (k))) jd (((pck (nI jd) (LO 0 + nI (e)) (LO 1 + nI (j)) (LO 2 + nI (k)) * kx) - rr) + nI (a)) 1) (rP (rC (LO 0 + nI (e)) (LO 1 + nI (j)) (LO 2 + nI (k))) jd (((pck (nI jd) (LO 0 + nI (e)) (LO 1 + nI (j)) (LO 2 + nI (k)) * kx) - rr) + nI (a)) 2)) t9).1), .long ((tkU (frV w (rP (rC (LO 0 + nI (e)) (LO 1 + nI (j)) (LO 2 + nI (k))) jd (((pck (nI jd) (LO 0 + nI (e)) (LO 1 + nI (j)) (LO 2 + nI (k)) * kx) - rr) + nI (a)) 0) (rP (rC (LO 0 + nI (e)) (LO 1 + nI (j)) (LO 2 + nI (k))) jd (((pck (nI jd) (LO 0 + nI (e)) (LO 1 + nI (j)) (LO 2 + nI (k)) * kx) - rr) + nI (a)) 1) (rP (rC (LO 0 + nI (e)) (LO 1 + nI (j)) (LO 2 + nI (k))) jd (((pck (nI jd) (LO 0 + nI (e)) (LO 1 + nI (j)) (LO 2 + nI (k)) * kx) - rr) + nI (a)) 2)) t9).2.1), .long ((tkU (frV w (rP (rC (LO 0 + nI (e)) (LO 1 + nI (j)) (LO 2 + nI (k))) jd (((pck (nI jd) (LO 0 + nI (e)) (LO 1 + nI (j)) (LO 2 + nI (k)) * kx) - rr) + nI (a)) 0) (rP (rC (LO 0 + nI (e)) (LO 1 + nI (j)) (LO 2 + nI (k))) jd (((pck (nI jd) (LO 0 + nI (e)) (LO 1 + nI (j)) (LO 2 + nI (k)) * kx) - rr) + nI (a)) 1) (rP (rC (LO 0 + nI (e)) (LO 1 + nI (j)) (LO 2 + nI (k))) jd (((pck (nI jd) (LO 0 + nI (e)) (LO 1 + nI (j)) (LO 2 + nI (k)) * kx) - rr) + nI (a)) 2)) t9).2.2.1), .long ((tkU (frV w (rP (rC (LO 0 + nI (e)) (LO 1 + nI (j)) (LO 2 + nI (k))) jd (((pck (nI jd) (LO 0 + nI (e)) (LO 1 + nI (j)) (LO 2 + nI (k)) * kx) - rr) + nI (a)) 0) (rP (rC (LO 0 + nI (e)) (LO 1 + nI (j)) (LO 2 + nI (k))) jd (((pck (nI jd) (LO 0 + nI (e)) (LO 1 + nI (j)) (LO 2 + nI (k)) * kx) - rr) + nI (a)) 1) (rP (rC (LO 0 + nI (e)) (LO 1 + nI (j)) (LO 2 + nI (k))) jd (((pck (nI jd) (LO 0 + nI (e)) (LO 1 + nI (j)) (LO 2 + nI (k)) * kx) - rr) + nI (a)) 2)) t9).2.2.2)])) va (aJ G n (vF (foD w LO HI (nI jd) kind reach what) (c3 (sN LO HI 1) (sN LO HI 2) e j k)))) za (aZ G n (zF (foD w LO HI (nI jd) kind reach what) (c3 (sN LO HI 1) (sN LO HI 2) e j k)))) 0 0 136 [(0, .ref r), (1, .ref o), (2, .ref q), (3, .int (nI jd)), (4, .int kx), (5, .int rr), (6, .int what), (7, .int (LO 0 + nI (e))), (8, .int (LO 1 + nI (j))), (9, .int (LO 2 + nI (k))), (10, .int (pck (nI jd) (LO 0 + nI (e)) (LO 1 + nI (j)) (LO 2 + nI (k)) * kx)), (11, .int (((pck (nI jd) (LO 0 + nI (e)) (LO 1 + nI (j)) (LO 2 + nI (k)) * kx) - rr) + nI (a)))] []
            refine q_iinc (v := (((pck (nI jd) (LO 0 + nI (e)) (LO 1 + nI (j)) (LO 2 + nI (k)) * kx) - rr) + nI (a + 1))) (lv' := [(11, .int (((pck (nI jd) (LO 0 + nI (e)) (LO 1 + nI (j)) (LO 2 + nI (k)) * kx) - rr) + nI (a + 1))), (0, .ref r), (1, .ref o), (2, .ref q), (3, .int (nI jd)), (4, .int kx), (5, .int rr), (6, .int what), (7, .int (LO 0 + nI (e))), (8, .int (LO 1 + nI (j))), (9, .int (LO 2 + nI (k))), (10, .int (pck (nI jd) (LO 0 + nI (e)) (LO 1 + nI (j)) (LO 2 + nI (k)) * kx))]) X dX13_parts_136 11 rfl (lo_s) (by decide) rfl ?_
            refine q_goto X 83 dX13_parts_139 (by decide) ?_
            refine q_sub [1, 2, 3, 4, 5, 6, 7, 8, 9, 10, 11, 0] rfl ?_
            exact ih (a + 1) _ (by omega) ⟨_, rfl, rwT_s hw hjd (rIn_c hok hLH he hj hk) hrow ha (fun S => fP_k (e := 0) hkind hj3 (by decide) p0) (fun S => fP_k (e := 1) hkind hj3 (by decide) p1) (fun S => fP_k (e := 2) hkind hj3 (by decide) p2) hT⟩
          · refine q_iload X dX13_parts_126 11 rfl ?_
            refine q_goto X 133 dX13_parts_128 (by decide) ?_
            refine q_topi (fun a2 ea2 => ?_)
            have ha2 : a2 = rP (rC (LO 0 + nI (e)) (LO 1 + nI (j)) (LO 2 + nI (k))) jd (((pck (nI jd) (LO 0 + nI (e)) (LO 1 + nI (j)) (LO 2 + nI (k)) * kx) - rr) + nI (a)) 2 := ea2.trans (rP_y 2 hj3 (by decide) c123).symm
            subst ha2
            refine q_callV X (c_take (t := t9) (kr (nI t9.1) t9.2.1 t9.2.2.1 t9.2.2.2 (c3 (sN LO HI 1) (sN LO HI 2) e j k)) hw (koX (nI t9.1) t9.2.1 t9.2.2.1 t9.2.2.2 (c3 (sN LO HI 1) (sN LO HI 2) e j k)) ht9) Y_X13_take tw_1413 tw_1415 sel_35 (kr (nI t9.1) t9.2.1 t9.2.2.1 t9.2.2.2 (c3 (sN LO HI 1) (sN LO HI 2) e j k)) rfl (by omega) rfl rfl (Nat.le_of_ble_eq_true rfl) (rc' := 0) (rs' := 0) (Nat.le_refl _) (Nat.le_refl _) dX13_parts_133 (fun v M' hp _ => ?_)
            obtain ⟨rfl, eM⟩ := hp
            rw [eM, mU_r rva rza]
            clear eM
            show qJ G F _ 12 (mU (mU (mU M r (oB 13 [w0, w1, w2, w3, w4, w5, w6, w7, w8, w9, .int (nI (tkU (frV w (rP (rC (LO 0 + nI (e)) (LO 1 + nI (j)) (LO 2 + nI (k))) jd (((pck (nI jd) (LO 0 + nI (e)) (LO 1 + nI (j)) (LO 2 + nI (k)) * kx) - rr) + nI (a)) 0) (rP (rC (LO 0 + nI (e)) (LO 1 + nI (j)) (LO 2 + nI (k))) jd (((pck (nI jd) (LO 0 + nI (e)) (LO 1 + nI (j)) (LO 2 + nI (k)) * kx) - rr) + nI (a)) 1) (rP (rC (LO 0 + nI (e)) (LO 1 + nI (j)) (LO 2 + nI (k))) jd (((pck (nI jd) (LO 0 + nI (e)) (LO 1 + nI (j)) (LO 2 + nI (k)) * kx) - rr) + nI (a)) 2)) t9).1), .long ((tkU (frV w (rP (rC (LO 0 + nI (e)) (LO 1 + nI (j)) (LO 2 + nI (k))) jd (((pck (nI jd) (LO 0 + nI (e)) (LO 1 + nI (j)) (LO 2 + nI (k)) * kx) - rr) + nI (a)) 0) (rP (rC (LO 0 + nI (e)) (LO 1 + nI (j)) (LO 2 + nI (k))) jd (((pck (nI jd) (LO 0 + nI (e)) (LO 1 + nI (j)) (LO 2 + nI (k)) * kx) - rr) + nI (a)) 1) (rP (rC (LO 0 + nI (e)) (LO 1 + nI (j)) (LO 2 + nI (k))) jd (((pck (nI jd) (LO 0 + nI (e)) (LO 1 + nI (j)) (LO 2 + nI (k)) * kx) - rr) + nI (a)) 2)) t9).2.1), .long ((tkU (frV w (rP (rC (LO 0 + nI (e)) (LO 1 + nI (j)) (LO 2 + nI (k))) jd (((pck (nI jd) (LO 0 + nI (e)) (LO 1 + nI (j)) (LO 2 + nI (k)) * kx) - rr) + nI (a)) 0) (rP (rC (LO 0 + nI (e)) (LO 1 + nI (j)) (LO 2 + nI (k))) jd (((pck (nI jd) (LO 0 + nI (e)) (LO 1 + nI (j)) (LO 2 + nI (k)) * kx) - rr) + nI (a)) 1) (rP (rC (LO 0 + nI (e)) (LO 1 + nI (j)) (LO 2 + nI (k))) jd (((pck (nI jd) (LO 0 + nI (e)) (LO 1 + nI (j)) (LO 2 + nI (k)) * kx) - rr) + nI (a)) 2)) t9).2.2.1), .long ((tkU (frV w (rP (rC (LO 0 + nI (e)) (LO 1 + nI (j)) (LO 2 + nI (k))) jd (((pck (nI jd) (LO 0 + nI (e)) (LO 1 + nI (j)) (LO 2 + nI (k)) * kx) - rr) + nI (a)) 0) (rP (rC (LO 0 + nI (e)) (LO 1 + nI (j)) (LO 2 + nI (k))) jd (((pck (nI jd) (LO 0 + nI (e)) (LO 1 + nI (j)) (LO 2 + nI (k)) * kx) - rr) + nI (a)) 1) (rP (rC (LO 0 + nI (e)) (LO 1 + nI (j)) (LO 2 + nI (k))) jd (((pck (nI jd) (LO 0 + nI (e)) (LO 1 + nI (j)) (LO 2 + nI (k)) * kx) - rr) + nI (a)) 2)) t9).2.2.2)])) va (aJ G n (vF (foD w LO HI (nI jd) kind reach what) (c3 (sN LO HI 1) (sN LO HI 2) e j k)))) za (aZ G n (zF (foD w LO HI (nI jd) kind reach what) (c3 (sN LO HI 1) (sN LO HI 2) e j k)))) 0 0 136 [(0, .ref r), (1, .ref o), (2, .ref q), (3, .int (nI jd)), (4, .int kx), (5, .int rr), (6, .int what), (7, .int (LO 0 + nI (e))), (8, .int (LO 1 + nI (j))), (9, .int (LO 2 + nI (k))), (10, .int (pck (nI jd) (LO 0 + nI (e)) (LO 1 + nI (j)) (LO 2 + nI (k)) * kx)), (11, .int (((pck (nI jd) (LO 0 + nI (e)) (LO 1 + nI (j)) (LO 2 + nI (k)) * kx) - rr) + nI (a)))] []
            refine q_iinc (v := (((pck (nI jd) (LO 0 + nI (e)) (LO 1 + nI (j)) (LO 2 + nI (k)) * kx) - rr) + nI (a + 1))) (lv' := [(11, .int (((pck (nI jd) (LO 0 + nI (e)) (LO 1 + nI (j)) (LO 2 + nI (k)) * kx) - rr) + nI (a + 1))), (0, .ref r), (1, .ref o), (2, .ref q), (3, .int (nI jd)), (4, .int kx), (5, .int rr), (6, .int what), (7, .int (LO 0 + nI (e))), (8, .int (LO 1 + nI (j))), (9, .int (LO 2 + nI (k))), (10, .int (pck (nI jd) (LO 0 + nI (e)) (LO 1 + nI (j)) (LO 2 + nI (k)) * kx))]) X dX13_parts_136 11 rfl (lo_s) (by decide) rfl ?_
            refine q_goto X 83 dX13_parts_139 (by decide) ?_
            refine q_sub [1, 2, 3, 4, 5, 6, 7, 8, 9, 10, 11, 0] rfl ?_
            exact ih (a + 1) _ (by omega) ⟨_, rfl, rwT_s hw hjd (rIn_c hok hLH he hj hk) hrow ha (fun S => fP_k (e := 0) hkind hj3 (by decide) p0) (fun S => fP_k (e := 1) hkind hj3 (by decide) p1) (fun S => fP_k (e := 2) hkind hj3 (by decide) p2) hT⟩
        · refine q_iload X dX13_parts_114 11 rfl ?_
          refine q_goto X 121 dX13_parts_116 (by decide) ?_
          refine q_topi (fun a1 ea1 => ?_)
          have ha1 : a1 = rP (rC (LO 0 + nI (e)) (LO 1 + nI (j)) (LO 2 + nI (k))) jd (((pck (nI jd) (LO 0 + nI (e)) (LO 1 + nI (j)) (LO 2 + nI (k)) * kx) - rr) + nI (a)) 1 := ea1.trans (rP_y 1 hj3 (by decide) c111).symm
          subst ha1
          refine q_iload_n X dX13_parts_121 3 rfl ?_
          refine q_iconst (v := 2) X dX13_parts_122 (by decide) ?_
          refine q_icmp_ne X 131 dX13_parts_123 (by decide) (fun c123 => ?_) (fun c123 => ?_)
          · refine q_iload X dX13_parts_131 9 rfl ?_
            refine q_topi (fun a2 ea2 => ?_)
            have ha2 : a2 = rP (rC (LO 0 + nI (e)) (LO 1 + nI (j)) (LO 2 + nI (k))) jd (((pck (nI jd) (LO 0 + nI (e)) (LO 1 + nI (j)) (LO 2 + nI (k)) * kx) - rr) + nI (a)) 2 := ea2.trans (rP_n (c := (rC (LO 0 + nI (e)) (LO 1 + nI (j)) (LO 2 + nI (k)))) 2 c123).symm
            subst ha2
            refine q_callV X (c_take (t := t9) (kr (nI t9.1) t9.2.1 t9.2.2.1 t9.2.2.2 (c3 (sN LO HI 1) (sN LO HI 2) e j k)) hw (koX (nI t9.1) t9.2.1 t9.2.2.1 t9.2.2.2 (c3 (sN LO HI 1) (sN LO HI 2) e j k)) ht9) Y_X13_take tw_1413 tw_1415 sel_35 (kr (nI t9.1) t9.2.1 t9.2.2.1 t9.2.2.2 (c3 (sN LO HI 1) (sN LO HI 2) e j k)) rfl (by omega) rfl rfl (Nat.le_of_ble_eq_true rfl) (rc' := 0) (rs' := 0) (Nat.le_refl _) (Nat.le_refl _) dX13_parts_133 (fun v M' hp _ => ?_)
            obtain ⟨rfl, eM⟩ := hp
            rw [eM, mU_r rva rza]
            clear eM
            show qJ G F _ 12 (mU (mU (mU M r (oB 13 [w0, w1, w2, w3, w4, w5, w6, w7, w8, w9, .int (nI (tkU (frV w (rP (rC (LO 0 + nI (e)) (LO 1 + nI (j)) (LO 2 + nI (k))) jd (((pck (nI jd) (LO 0 + nI (e)) (LO 1 + nI (j)) (LO 2 + nI (k)) * kx) - rr) + nI (a)) 0) (rP (rC (LO 0 + nI (e)) (LO 1 + nI (j)) (LO 2 + nI (k))) jd (((pck (nI jd) (LO 0 + nI (e)) (LO 1 + nI (j)) (LO 2 + nI (k)) * kx) - rr) + nI (a)) 1) (rP (rC (LO 0 + nI (e)) (LO 1 + nI (j)) (LO 2 + nI (k))) jd (((pck (nI jd) (LO 0 + nI (e)) (LO 1 + nI (j)) (LO 2 + nI (k)) * kx) - rr) + nI (a)) 2)) t9).1), .long ((tkU (frV w (rP (rC (LO 0 + nI (e)) (LO 1 + nI (j)) (LO 2 + nI (k))) jd (((pck (nI jd) (LO 0 + nI (e)) (LO 1 + nI (j)) (LO 2 + nI (k)) * kx) - rr) + nI (a)) 0) (rP (rC (LO 0 + nI (e)) (LO 1 + nI (j)) (LO 2 + nI (k))) jd (((pck (nI jd) (LO 0 + nI (e)) (LO 1 + nI (j)) (LO 2 + nI (k)) * kx) - rr) + nI (a)) 1) (rP (rC (LO 0 + nI (e)) (LO 1 + nI (j)) (LO 2 + nI (k))) jd (((pck (nI jd) (LO 0 + nI (e)) (LO 1 + nI (j)) (LO 2 + nI (k)) * kx) - rr) + nI (a)) 2)) t9).2.1), .long ((tkU (frV w (rP (rC (LO 0 + nI (e)) (LO 1 + nI (j)) (LO 2 + nI (k))) jd (((pck (nI jd) (LO 0 + nI (e)) (LO 1 + nI (j)) (LO 2 + nI (k)) * kx) - rr) + nI (a)) 0) (rP (rC (LO 0 + nI (e)) (LO 1 + nI (j)) (LO 2 + nI (k))) jd (((pck (nI jd) (LO 0 + nI (e)) (LO 1 + nI (j)) (LO 2 + nI (k)) * kx) - rr) + nI (a)) 1) (rP (rC (LO 0 + nI (e)) (LO 1 + nI (j)) (LO 2 + nI (k))) jd (((pck (nI jd) (LO 0 + nI (e)) (LO 1 + nI (j)) (LO 2 + nI (k)) * kx) - rr) + nI (a)) 2)) t9).2.2.1), .long ((tkU (frV w (rP (rC (LO 0 + nI (e)) (LO 1 + nI (j)) (LO 2 + nI (k))) jd (((pck (nI jd) (LO 0 + nI (e)) (LO 1 + nI (j)) (LO 2 + nI (k)) * kx) - rr) + nI (a)) 0) (rP (rC (LO 0 + nI (e)) (LO 1 + nI (j)) (LO 2 + nI (k))) jd (((pck (nI jd) (LO 0 + nI (e)) (LO 1 + nI (j)) (LO 2 + nI (k)) * kx) - rr) + nI (a)) 1) (rP (rC (LO 0 + nI (e)) (LO 1 + nI (j)) (LO 2 + nI (k))) jd (((pck (nI jd) (LO 0 + nI (e)) (LO 1 + nI (j)) (LO 2 + nI (k)) * kx) - rr) + nI (a)) 2)) t9).2.2.2)])) va (aJ G n (vF (foD w LO HI (nI jd) kind reach what) (c3 (sN LO HI 1) (sN LO HI 2) e j k)))) za (aZ G n (zF (foD w LO HI (nI jd) kind reach what) (c3 (sN LO HI 1) (sN LO HI 2) e j k)))) 0 0 136 [(0, .ref r), (1, .ref o), (2, .ref q), (3, .int (nI jd)), (4, .int kx), (5, .int rr), (6, .int what), (7, .int (LO 0 + nI (e))), (8, .int (LO 1 + nI (j))), (9, .int (LO 2 + nI (k))), (10, .int (pck (nI jd) (LO 0 + nI (e)) (LO 1 + nI (j)) (LO 2 + nI (k)) * kx)), (11, .int (((pck (nI jd) (LO 0 + nI (e)) (LO 1 + nI (j)) (LO 2 + nI (k)) * kx) - rr) + nI (a)))] []
            refine q_iinc (v := (((pck (nI jd) (LO 0 + nI (e)) (LO 1 + nI (j)) (LO 2 + nI (k)) * kx) - rr) + nI (a + 1))) (lv' := [(11, .int (((pck (nI jd) (LO 0 + nI (e)) (LO 1 + nI (j)) (LO 2 + nI (k)) * kx) - rr) + nI (a + 1))), (0, .ref r), (1, .ref o), (2, .ref q), (3, .int (nI jd)), (4, .int kx), (5, .int rr), (6, .int what), (7, .int (LO 0 + nI (e))), (8, .int (LO 1 + nI (j))), (9, .int (LO 2 + nI (k))), (10, .int (pck (nI jd) (LO 0 + nI (e)) (LO 1 + nI (j)) (LO 2 + nI (k)) * kx))]) X dX13_parts_136 11 rfl (lo_s) (by decide) rfl ?_
            refine q_goto X 83 dX13_parts_139 (by decide) ?_
            refine q_sub [1, 2, 3, 4, 5, 6, 7, 8, 9, 10, 11, 0] rfl ?_
            exact ih (a + 1) _ (by omega) ⟨_, rfl, rwT_s hw hjd (rIn_c hok hLH he hj hk) hrow ha (fun S => fP_k (e := 0) hkind hj3 (by decide) p0) (fun S => fP_k (e := 1) hkind hj3 (by decide) p1) (fun S => fP_k (e := 2) hkind hj3 (by decide) p2) hT⟩
          · refine q_iload X dX13_parts_126 11 rfl ?_
            refine q_goto X 133 dX13_parts_128 (by decide) ?_
            refine q_topi (fun a2 ea2 => ?_)
            have ha2 : a2 = rP (rC (LO 0 + nI (e)) (LO 1 + nI (j)) (LO 2 + nI (k))) jd (((pck (nI jd) (LO 0 + nI (e)) (LO 1 + nI (j)) (LO 2 + nI (k)) * kx) - rr) + nI (a)) 2 := ea2.trans (rP_y 2 hj3 (by decide) c123).symm
            subst ha2
            refine q_callV X (c_take (t := t9) (kr (nI t9.1) t9.2.1 t9.2.2.1 t9.2.2.2 (c3 (sN LO HI 1) (sN LO HI 2) e j k)) hw (koX (nI t9.1) t9.2.1 t9.2.2.1 t9.2.2.2 (c3 (sN LO HI 1) (sN LO HI 2) e j k)) ht9) Y_X13_take tw_1413 tw_1415 sel_35 (kr (nI t9.1) t9.2.1 t9.2.2.1 t9.2.2.2 (c3 (sN LO HI 1) (sN LO HI 2) e j k)) rfl (by omega) rfl rfl (Nat.le_of_ble_eq_true rfl) (rc' := 0) (rs' := 0) (Nat.le_refl _) (Nat.le_refl _) dX13_parts_133 (fun v M' hp _ => ?_)
            obtain ⟨rfl, eM⟩ := hp
            rw [eM, mU_r rva rza]
            clear eM
            show qJ G F _ 12 (mU (mU (mU M r (oB 13 [w0, w1, w2, w3, w4, w5, w6, w7, w8, w9, .int (nI (tkU (frV w (rP (rC (LO 0 + nI (e)) (LO 1 + nI (j)) (LO 2 + nI (k))) jd (((pck (nI jd) (LO 0 + nI (e)) (LO 1 + nI (j)) (LO 2 + nI (k)) * kx) - rr) + nI (a)) 0) (rP (rC (LO 0 + nI (e)) (LO 1 + nI (j)) (LO 2 + nI (k))) jd (((pck (nI jd) (LO 0 + nI (e)) (LO 1 + nI (j)) (LO 2 + nI (k)) * kx) - rr) + nI (a)) 1) (rP (rC (LO 0 + nI (e)) (LO 1 + nI (j)) (LO 2 + nI (k))) jd (((pck (nI jd) (LO 0 + nI (e)) (LO 1 + nI (j)) (LO 2 + nI (k)) * kx) - rr) + nI (a)) 2)) t9).1), .long ((tkU (frV w (rP (rC (LO 0 + nI (e)) (LO 1 + nI (j)) (LO 2 + nI (k))) jd (((pck (nI jd) (LO 0 + nI (e)) (LO 1 + nI (j)) (LO 2 + nI (k)) * kx) - rr) + nI (a)) 0) (rP (rC (LO 0 + nI (e)) (LO 1 + nI (j)) (LO 2 + nI (k))) jd (((pck (nI jd) (LO 0 + nI (e)) (LO 1 + nI (j)) (LO 2 + nI (k)) * kx) - rr) + nI (a)) 1) (rP (rC (LO 0 + nI (e)) (LO 1 + nI (j)) (LO 2 + nI (k))) jd (((pck (nI jd) (LO 0 + nI (e)) (LO 1 + nI (j)) (LO 2 + nI (k)) * kx) - rr) + nI (a)) 2)) t9).2.1), .long ((tkU (frV w (rP (rC (LO 0 + nI (e)) (LO 1 + nI (j)) (LO 2 + nI (k))) jd (((pck (nI jd) (LO 0 + nI (e)) (LO 1 + nI (j)) (LO 2 + nI (k)) * kx) - rr) + nI (a)) 0) (rP (rC (LO 0 + nI (e)) (LO 1 + nI (j)) (LO 2 + nI (k))) jd (((pck (nI jd) (LO 0 + nI (e)) (LO 1 + nI (j)) (LO 2 + nI (k)) * kx) - rr) + nI (a)) 1) (rP (rC (LO 0 + nI (e)) (LO 1 + nI (j)) (LO 2 + nI (k))) jd (((pck (nI jd) (LO 0 + nI (e)) (LO 1 + nI (j)) (LO 2 + nI (k)) * kx) - rr) + nI (a)) 2)) t9).2.2.1), .long ((tkU (frV w (rP (rC (LO 0 + nI (e)) (LO 1 + nI (j)) (LO 2 + nI (k))) jd (((pck (nI jd) (LO 0 + nI (e)) (LO 1 + nI (j)) (LO 2 + nI (k)) * kx) - rr) + nI (a)) 0) (rP (rC (LO 0 + nI (e)) (LO 1 + nI (j)) (LO 2 + nI (k))) jd (((pck (nI jd) (LO 0 + nI (e)) (LO 1 + nI (j)) (LO 2 + nI (k)) * kx) - rr) + nI (a)) 1) (rP (rC (LO 0 + nI (e)) (LO 1 + nI (j)) (LO 2 + nI (k))) jd (((pck (nI jd) (LO 0 + nI (e)) (LO 1 + nI (j)) (LO 2 + nI (k)) * kx) - rr) + nI (a)) 2)) t9).2.2.2)])) va (aJ G n (vF (foD w LO HI (nI jd) kind reach what) (c3 (sN LO HI 1) (sN LO HI 2) e j k)))) za (aZ G n (zF (foD w LO HI (nI jd) kind reach what) (c3 (sN LO HI 1) (sN LO HI 2) e j k)))) 0 0 136 [(0, .ref r), (1, .ref o), (2, .ref q), (3, .int (nI jd)), (4, .int kx), (5, .int rr), (6, .int what), (7, .int (LO 0 + nI (e))), (8, .int (LO 1 + nI (j))), (9, .int (LO 2 + nI (k))), (10, .int (pck (nI jd) (LO 0 + nI (e)) (LO 1 + nI (j)) (LO 2 + nI (k)) * kx)), (11, .int (((pck (nI jd) (LO 0 + nI (e)) (LO 1 + nI (j)) (LO 2 + nI (k)) * kx) - rr) + nI (a)))] []
            refine q_iinc (v := (((pck (nI jd) (LO 0 + nI (e)) (LO 1 + nI (j)) (LO 2 + nI (k)) * kx) - rr) + nI (a + 1))) (lv' := [(11, .int (((pck (nI jd) (LO 0 + nI (e)) (LO 1 + nI (j)) (LO 2 + nI (k)) * kx) - rr) + nI (a + 1))), (0, .ref r), (1, .ref o), (2, .ref q), (3, .int (nI jd)), (4, .int kx), (5, .int rr), (6, .int what), (7, .int (LO 0 + nI (e))), (8, .int (LO 1 + nI (j))), (9, .int (LO 2 + nI (k))), (10, .int (pck (nI jd) (LO 0 + nI (e)) (LO 1 + nI (j)) (LO 2 + nI (k)) * kx))]) X dX13_parts_136 11 rfl (lo_s) (by decide) rfl ?_
            refine q_goto X 83 dX13_parts_139 (by decide) ?_
            refine q_sub [1, 2, 3, 4, 5, 6, 7, 8, 9, 10, 11, 0] rfl ?_
            exact ih (a + 1) _ (by omega) ⟨_, rfl, rwT_s hw hjd (rIn_c hok hLH he hj hk) hrow ha (fun S => fP_k (e := 0) hkind hj3 (by decide) p0) (fun S => fP_k (e := 1) hkind hj3 (by decide) p1) (fun S => fP_k (e := 2) hkind hj3 (by decide) p2) hT⟩
      · refine q_iload X dX13_parts_102 11 rfl ?_
        refine q_goto X 109 dX13_parts_104 (by decide) ?_
        refine q_topi (fun a0 ea0 => ?_)
        have ha0 : a0 = rP (rC (LO 0 + nI (e)) (LO 1 + nI (j)) (LO 2 + nI (k))) jd (((pck (nI jd) (LO 0 + nI (e)) (LO 1 + nI (j)) (LO 2 + nI (k)) * kx) - rr) + nI (a)) 0 := ea0.trans (rP_y 0 hj3 (by decide) c99).symm
        subst ha0
        refine q_iload_n X dX13_parts_109 3 rfl ?_
        refine q_iconst (v := 1) X dX13_parts_110 (by decide) ?_
        refine q_icmp_ne X 119 dX13_parts_111 (by decide) (fun c111 => ?_) (fun c111 => ?_)
        · refine q_iload X dX13_parts_119 8 rfl ?_
          refine q_topi (fun a1 ea1 => ?_)
          have ha1 : a1 = rP (rC (LO 0 + nI (e)) (LO 1 + nI (j)) (LO 2 + nI (k))) jd (((pck (nI jd) (LO 0 + nI (e)) (LO 1 + nI (j)) (LO 2 + nI (k)) * kx) - rr) + nI (a)) 1 := ea1.trans (rP_n (c := (rC (LO 0 + nI (e)) (LO 1 + nI (j)) (LO 2 + nI (k)))) 1 c111).symm
          subst ha1
          refine q_iload_n X dX13_parts_121 3 rfl ?_
          refine q_iconst (v := 2) X dX13_parts_122 (by decide) ?_
          refine q_icmp_ne X 131 dX13_parts_123 (by decide) (fun c123 => ?_) (fun c123 => ?_)
          · refine q_iload X dX13_parts_131 9 rfl ?_
            refine q_topi (fun a2 ea2 => ?_)
            have ha2 : a2 = rP (rC (LO 0 + nI (e)) (LO 1 + nI (j)) (LO 2 + nI (k))) jd (((pck (nI jd) (LO 0 + nI (e)) (LO 1 + nI (j)) (LO 2 + nI (k)) * kx) - rr) + nI (a)) 2 := ea2.trans (rP_n (c := (rC (LO 0 + nI (e)) (LO 1 + nI (j)) (LO 2 + nI (k)))) 2 c123).symm
            subst ha2
            refine q_callV X (c_take (t := t9) (kr (nI t9.1) t9.2.1 t9.2.2.1 t9.2.2.2 (c3 (sN LO HI 1) (sN LO HI 2) e j k)) hw (koX (nI t9.1) t9.2.1 t9.2.2.1 t9.2.2.2 (c3 (sN LO HI 1) (sN LO HI 2) e j k)) ht9) Y_X13_take tw_1413 tw_1415 sel_35 (kr (nI t9.1) t9.2.1 t9.2.2.1 t9.2.2.2 (c3 (sN LO HI 1) (sN LO HI 2) e j k)) rfl (by omega) rfl rfl (Nat.le_of_ble_eq_true rfl) (rc' := 0) (rs' := 0) (Nat.le_refl _) (Nat.le_refl _) dX13_parts_133 (fun v M' hp _ => ?_)
            obtain ⟨rfl, eM⟩ := hp
            rw [eM, mU_r rva rza]
            clear eM
            show qJ G F _ 12 (mU (mU (mU M r (oB 13 [w0, w1, w2, w3, w4, w5, w6, w7, w8, w9, .int (nI (tkU (frV w (rP (rC (LO 0 + nI (e)) (LO 1 + nI (j)) (LO 2 + nI (k))) jd (((pck (nI jd) (LO 0 + nI (e)) (LO 1 + nI (j)) (LO 2 + nI (k)) * kx) - rr) + nI (a)) 0) (rP (rC (LO 0 + nI (e)) (LO 1 + nI (j)) (LO 2 + nI (k))) jd (((pck (nI jd) (LO 0 + nI (e)) (LO 1 + nI (j)) (LO 2 + nI (k)) * kx) - rr) + nI (a)) 1) (rP (rC (LO 0 + nI (e)) (LO 1 + nI (j)) (LO 2 + nI (k))) jd (((pck (nI jd) (LO 0 + nI (e)) (LO 1 + nI (j)) (LO 2 + nI (k)) * kx) - rr) + nI (a)) 2)) t9).1), .long ((tkU (frV w (rP (rC (LO 0 + nI (e)) (LO 1 + nI (j)) (LO 2 + nI (k))) jd (((pck (nI jd) (LO 0 + nI (e)) (LO 1 + nI (j)) (LO 2 + nI (k)) * kx) - rr) + nI (a)) 0) (rP (rC (LO 0 + nI (e)) (LO 1 + nI (j)) (LO 2 + nI (k))) jd (((pck (nI jd) (LO 0 + nI (e)) (LO 1 + nI (j)) (LO 2 + nI (k)) * kx) - rr) + nI (a)) 1) (rP (rC (LO 0 + nI (e)) (LO 1 + nI (j)) (LO 2 + nI (k))) jd (((pck (nI jd) (LO 0 + nI (e)) (LO 1 + nI (j)) (LO 2 + nI (k)) * kx) - rr) + nI (a)) 2)) t9).2.1), .long ((tkU (frV w (rP (rC (LO 0 + nI (e)) (LO 1 + nI (j)) (LO 2 + nI (k))) jd (((pck (nI jd) (LO 0 + nI (e)) (LO 1 + nI (j)) (LO 2 + nI (k)) * kx) - rr) + nI (a)) 0) (rP (rC (LO 0 + nI (e)) (LO 1 + nI (j)) (LO 2 + nI (k))) jd (((pck (nI jd) (LO 0 + nI (e)) (LO 1 + nI (j)) (LO 2 + nI (k)) * kx) - rr) + nI (a)) 1) (rP (rC (LO 0 + nI (e)) (LO 1 + nI (j)) (LO 2 + nI (k))) jd (((pck (nI jd) (LO 0 + nI (e)) (LO 1 + nI (j)) (LO 2 + nI (k)) * kx) - rr) + nI (a)) 2)) t9).2.2.1), .long ((tkU (frV w (rP (rC (LO 0 + nI (e)) (LO 1 + nI (j)) (LO 2 + nI (k))) jd (((pck (nI jd) (LO 0 + nI (e)) (LO 1 + nI (j)) (LO 2 + nI (k)) * kx) - rr) + nI (a)) 0) (rP (rC (LO 0 + nI (e)) (LO 1 + nI (j)) (LO 2 + nI (k))) jd (((pck (nI jd) (LO 0 + nI (e)) (LO 1 + nI (j)) (LO 2 + nI (k)) * kx) - rr) + nI (a)) 1) (rP (rC (LO 0 + nI (e)) (LO 1 + nI (j)) (LO 2 + nI (k))) jd (((pck (nI jd) (LO 0 + nI (e)) (LO 1 + nI (j)) (LO 2 + nI (k)) * kx) - rr) + nI (a)) 2)) t9).2.2.2)])) va (aJ G n (vF (foD w LO HI (nI jd) kind reach what) (c3 (sN LO HI 1) (sN LO HI 2) e j k)))) za (aZ G n (zF (foD w LO HI (nI jd) kind reach what) (c3 (sN LO HI 1) (sN LO HI 2) e j k)))) 0 0 136 [(0, .ref r), (1, .ref o), (2, .ref q), (3, .int (nI jd)), (4, .int kx), (5, .int rr), (6, .int what), (7, .int (LO 0 + nI (e))), (8, .int (LO 1 + nI (j))), (9, .int (LO 2 + nI (k))), (10, .int (pck (nI jd) (LO 0 + nI (e)) (LO 1 + nI (j)) (LO 2 + nI (k)) * kx)), (11, .int (((pck (nI jd) (LO 0 + nI (e)) (LO 1 + nI (j)) (LO 2 + nI (k)) * kx) - rr) + nI (a)))] []
            refine q_iinc (v := (((pck (nI jd) (LO 0 + nI (e)) (LO 1 + nI (j)) (LO 2 + nI (k)) * kx) - rr) + nI (a + 1))) (lv' := [(11, .int (((pck (nI jd) (LO 0 + nI (e)) (LO 1 + nI (j)) (LO 2 + nI (k)) * kx) - rr) + nI (a + 1))), (0, .ref r), (1, .ref o), (2, .ref q), (3, .int (nI jd)), (4, .int kx), (5, .int rr), (6, .int what), (7, .int (LO 0 + nI (e))), (8, .int (LO 1 + nI (j))), (9, .int (LO 2 + nI (k))), (10, .int (pck (nI jd) (LO 0 + nI (e)) (LO 1 + nI (j)) (LO 2 + nI (k)) * kx))]) X dX13_parts_136 11 rfl (lo_s) (by decide) rfl ?_
            refine q_goto X 83 dX13_parts_139 (by decide) ?_
            refine q_sub [1, 2, 3, 4, 5, 6, 7, 8, 9, 10, 11, 0] rfl ?_
            exact ih (a + 1) _ (by omega) ⟨_, rfl, rwT_s hw hjd (rIn_c hok hLH he hj hk) hrow ha (fun S => fP_k (e := 0) hkind hj3 (by decide) p0) (fun S => fP_k (e := 1) hkind hj3 (by decide) p1) (fun S => fP_k (e := 2) hkind hj3 (by decide) p2) hT⟩
          · refine q_iload X dX13_parts_126 11 rfl ?_
            refine q_goto X 133 dX13_parts_128 (by decide) ?_
            refine q_topi (fun a2 ea2 => ?_)
            have ha2 : a2 = rP (rC (LO 0 + nI (e)) (LO 1 + nI (j)) (LO 2 + nI (k))) jd (((pck (nI jd) (LO 0 + nI (e)) (LO 1 + nI (j)) (LO 2 + nI (k)) * kx) - rr) + nI (a)) 2 := ea2.trans (rP_y 2 hj3 (by decide) c123).symm
            subst ha2
            refine q_callV X (c_take (t := t9) (kr (nI t9.1) t9.2.1 t9.2.2.1 t9.2.2.2 (c3 (sN LO HI 1) (sN LO HI 2) e j k)) hw (koX (nI t9.1) t9.2.1 t9.2.2.1 t9.2.2.2 (c3 (sN LO HI 1) (sN LO HI 2) e j k)) ht9) Y_X13_take tw_1413 tw_1415 sel_35 (kr (nI t9.1) t9.2.1 t9.2.2.1 t9.2.2.2 (c3 (sN LO HI 1) (sN LO HI 2) e j k)) rfl (by omega) rfl rfl (Nat.le_of_ble_eq_true rfl) (rc' := 0) (rs' := 0) (Nat.le_refl _) (Nat.le_refl _) dX13_parts_133 (fun v M' hp _ => ?_)
            obtain ⟨rfl, eM⟩ := hp
            rw [eM, mU_r rva rza]
            clear eM
            show qJ G F _ 12 (mU (mU (mU M r (oB 13 [w0, w1, w2, w3, w4, w5, w6, w7, w8, w9, .int (nI (tkU (frV w (rP (rC (LO 0 + nI (e)) (LO 1 + nI (j)) (LO 2 + nI (k))) jd (((pck (nI jd) (LO 0 + nI (e)) (LO 1 + nI (j)) (LO 2 + nI (k)) * kx) - rr) + nI (a)) 0) (rP (rC (LO 0 + nI (e)) (LO 1 + nI (j)) (LO 2 + nI (k))) jd (((pck (nI jd) (LO 0 + nI (e)) (LO 1 + nI (j)) (LO 2 + nI (k)) * kx) - rr) + nI (a)) 1) (rP (rC (LO 0 + nI (e)) (LO 1 + nI (j)) (LO 2 + nI (k))) jd (((pck (nI jd) (LO 0 + nI (e)) (LO 1 + nI (j)) (LO 2 + nI (k)) * kx) - rr) + nI (a)) 2)) t9).1), .long ((tkU (frV w (rP (rC (LO 0 + nI (e)) (LO 1 + nI (j)) (LO 2 + nI (k))) jd (((pck (nI jd) (LO 0 + nI (e)) (LO 1 + nI (j)) (LO 2 + nI (k)) * kx) - rr) + nI (a)) 0) (rP (rC (LO 0 + nI (e)) (LO 1 + nI (j)) (LO 2 + nI (k))) jd (((pck (nI jd) (LO 0 + nI (e)) (LO 1 + nI (j)) (LO 2 + nI (k)) * kx) - rr) + nI (a)) 1) (rP (rC (LO 0 + nI (e)) (LO 1 + nI (j)) (LO 2 + nI (k))) jd (((pck (nI jd) (LO 0 + nI (e)) (LO 1 + nI (j)) (LO 2 + nI (k)) * kx) - rr) + nI (a)) 2)) t9).2.1), .long ((tkU (frV w (rP (rC (LO 0 + nI (e)) (LO 1 + nI (j)) (LO 2 + nI (k))) jd (((pck (nI jd) (LO 0 + nI (e)) (LO 1 + nI (j)) (LO 2 + nI (k)) * kx) - rr) + nI (a)) 0) (rP (rC (LO 0 + nI (e)) (LO 1 + nI (j)) (LO 2 + nI (k))) jd (((pck (nI jd) (LO 0 + nI (e)) (LO 1 + nI (j)) (LO 2 + nI (k)) * kx) - rr) + nI (a)) 1) (rP (rC (LO 0 + nI (e)) (LO 1 + nI (j)) (LO 2 + nI (k))) jd (((pck (nI jd) (LO 0 + nI (e)) (LO 1 + nI (j)) (LO 2 + nI (k)) * kx) - rr) + nI (a)) 2)) t9).2.2.1), .long ((tkU (frV w (rP (rC (LO 0 + nI (e)) (LO 1 + nI (j)) (LO 2 + nI (k))) jd (((pck (nI jd) (LO 0 + nI (e)) (LO 1 + nI (j)) (LO 2 + nI (k)) * kx) - rr) + nI (a)) 0) (rP (rC (LO 0 + nI (e)) (LO 1 + nI (j)) (LO 2 + nI (k))) jd (((pck (nI jd) (LO 0 + nI (e)) (LO 1 + nI (j)) (LO 2 + nI (k)) * kx) - rr) + nI (a)) 1) (rP (rC (LO 0 + nI (e)) (LO 1 + nI (j)) (LO 2 + nI (k))) jd (((pck (nI jd) (LO 0 + nI (e)) (LO 1 + nI (j)) (LO 2 + nI (k)) * kx) - rr) + nI (a)) 2)) t9).2.2.2)])) va (aJ G n (vF (foD w LO HI (nI jd) kind reach what) (c3 (sN LO HI 1) (sN LO HI 2) e j k)))) za (aZ G n (zF (foD w LO HI (nI jd) kind reach what) (c3 (sN LO HI 1) (sN LO HI 2) e j k)))) 0 0 136 [(0, .ref r), (1, .ref o), (2, .ref q), (3, .int (nI jd)), (4, .int kx), (5, .int rr), (6, .int what), (7, .int (LO 0 + nI (e))), (8, .int (LO 1 + nI (j))), (9, .int (LO 2 + nI (k))), (10, .int (pck (nI jd) (LO 0 + nI (e)) (LO 1 + nI (j)) (LO 2 + nI (k)) * kx)), (11, .int (((pck (nI jd) (LO 0 + nI (e)) (LO 1 + nI (j)) (LO 2 + nI (k)) * kx) - rr) + nI (a)))] []
            refine q_iinc (v := (((pck (nI jd) (LO 0 + nI (e)) (LO 1 + nI (j)) (LO 2 + nI (k)) * kx) - rr) + nI (a + 1))) (lv' := [(11, .int (((pck (nI jd) (LO 0 + nI (e)) (LO 1 + nI (j)) (LO 2 + nI (k)) * kx) - rr) + nI (a + 1))), (0, .ref r), (1, .ref o), (2, .ref q), (3, .int (nI jd)), (4, .int kx), (5, .int rr), (6, .int what), (7, .int (LO 0 + nI (e))), (8, .int (LO 1 + nI (j))), (9, .int (LO 2 + nI (k))), (10, .int (pck (nI jd) (LO 0 + nI (e)) (LO 1 + nI (j)) (LO 2 + nI (k)) * kx))]) X dX13_parts_136 11 rfl (lo_s) (by decide) rfl ?_
            refine q_goto X 83 dX13_parts_139 (by decide) ?_
            refine q_sub [1, 2, 3, 4, 5, 6, 7, 8, 9, 10, 11, 0] rfl ?_
            exact ih (a + 1) _ (by omega) ⟨_, rfl, rwT_s hw hjd (rIn_c hok hLH he hj hk) hrow ha (fun S => fP_k (e := 0) hkind hj3 (by decide) p0) (fun S => fP_k (e := 1) hkind hj3 (by decide) p1) (fun S => fP_k (e := 2) hkind hj3 (by decide) p2) hT⟩
        · refine q_iload X dX13_parts_114 11 rfl ?_
          refine q_goto X 121 dX13_parts_116 (by decide) ?_
          refine q_topi (fun a1 ea1 => ?_)
          have ha1 : a1 = rP (rC (LO 0 + nI (e)) (LO 1 + nI (j)) (LO 2 + nI (k))) jd (((pck (nI jd) (LO 0 + nI (e)) (LO 1 + nI (j)) (LO 2 + nI (k)) * kx) - rr) + nI (a)) 1 := ea1.trans (rP_y 1 hj3 (by decide) c111).symm
          subst ha1
          refine q_iload_n X dX13_parts_121 3 rfl ?_
          refine q_iconst (v := 2) X dX13_parts_122 (by decide) ?_
          refine q_icmp_ne X 131 dX13_parts_123 (by decide) (fun c123 => ?_) (fun c123 => ?_)
          · refine q_iload X dX13_parts_131 9 rfl ?_
            refine q_topi (fun a2 ea2 => ?_)
            have ha2 : a2 = rP (rC (LO 0 + nI (e)) (LO 1 + nI (j)) (LO 2 + nI (k))) jd (((pck (nI jd) (LO 0 + nI (e)) (LO 1 + nI (j)) (LO 2 + nI (k)) * kx) - rr) + nI (a)) 2 := ea2.trans (rP_n (c := (rC (LO 0 + nI (e)) (LO 1 + nI (j)) (LO 2 + nI (k)))) 2 c123).symm
            subst ha2
            refine q_callV X (c_take (t := t9) (kr (nI t9.1) t9.2.1 t9.2.2.1 t9.2.2.2 (c3 (sN LO HI 1) (sN LO HI 2) e j k)) hw (koX (nI t9.1) t9.2.1 t9.2.2.1 t9.2.2.2 (c3 (sN LO HI 1) (sN LO HI 2) e j k)) ht9) Y_X13_take tw_1413 tw_1415 sel_35 (kr (nI t9.1) t9.2.1 t9.2.2.1 t9.2.2.2 (c3 (sN LO HI 1) (sN LO HI 2) e j k)) rfl (by omega) rfl rfl (Nat.le_of_ble_eq_true rfl) (rc' := 0) (rs' := 0) (Nat.le_refl _) (Nat.le_refl _) dX13_parts_133 (fun v M' hp _ => ?_)
            obtain ⟨rfl, eM⟩ := hp
            rw [eM, mU_r rva rza]
            clear eM
            show qJ G F _ 12 (mU (mU (mU M r (oB 13 [w0, w1, w2, w3, w4, w5, w6, w7, w8, w9, .int (nI (tkU (frV w (rP (rC (LO 0 + nI (e)) (LO 1 + nI (j)) (LO 2 + nI (k))) jd (((pck (nI jd) (LO 0 + nI (e)) (LO 1 + nI (j)) (LO 2 + nI (k)) * kx) - rr) + nI (a)) 0) (rP (rC (LO 0 + nI (e)) (LO 1 + nI (j)) (LO 2 + nI (k))) jd (((pck (nI jd) (LO 0 + nI (e)) (LO 1 + nI (j)) (LO 2 + nI (k)) * kx) - rr) + nI (a)) 1) (rP (rC (LO 0 + nI (e)) (LO 1 + nI (j)) (LO 2 + nI (k))) jd (((pck (nI jd) (LO 0 + nI (e)) (LO 1 + nI (j)) (LO 2 + nI (k)) * kx) - rr) + nI (a)) 2)) t9).1), .long ((tkU (frV w (rP (rC (LO 0 + nI (e)) (LO 1 + nI (j)) (LO 2 + nI (k))) jd (((pck (nI jd) (LO 0 + nI (e)) (LO 1 + nI (j)) (LO 2 + nI (k)) * kx) - rr) + nI (a)) 0) (rP (rC (LO 0 + nI (e)) (LO 1 + nI (j)) (LO 2 + nI (k))) jd (((pck (nI jd) (LO 0 + nI (e)) (LO 1 + nI (j)) (LO 2 + nI (k)) * kx) - rr) + nI (a)) 1) (rP (rC (LO 0 + nI (e)) (LO 1 + nI (j)) (LO 2 + nI (k))) jd (((pck (nI jd) (LO 0 + nI (e)) (LO 1 + nI (j)) (LO 2 + nI (k)) * kx) - rr) + nI (a)) 2)) t9).2.1), .long ((tkU (frV w (rP (rC (LO 0 + nI (e)) (LO 1 + nI (j)) (LO 2 + nI (k))) jd (((pck (nI jd) (LO 0 + nI (e)) (LO 1 + nI (j)) (LO 2 + nI (k)) * kx) - rr) + nI (a)) 0) (rP (rC (LO 0 + nI (e)) (LO 1 + nI (j)) (LO 2 + nI (k))) jd (((pck (nI jd) (LO 0 + nI (e)) (LO 1 + nI (j)) (LO 2 + nI (k)) * kx) - rr) + nI (a)) 1) (rP (rC (LO 0 + nI (e)) (LO 1 + nI (j)) (LO 2 + nI (k))) jd (((pck (nI jd) (LO 0 + nI (e)) (LO 1 + nI (j)) (LO 2 + nI (k)) * kx) - rr) + nI (a)) 2)) t9).2.2.1), .long ((tkU (frV w (rP (rC (LO 0 + nI (e)) (LO 1 + nI (j)) (LO 2 + nI (k))) jd (((pck (nI jd) (LO 0 + nI (e)) (LO 1 + nI (j)) (LO 2 + nI (k)) * kx) - rr) + nI (a)) 0) (rP (rC (LO 0 + nI (e)) (LO 1 + nI (j)) (LO 2 + nI (k))) jd (((pck (nI jd) (LO 0 + nI (e)) (LO 1 + nI (j)) (LO 2 + nI (k)) * kx) - rr) + nI (a)) 1) (rP (rC (LO 0 + nI (e)) (LO 1 + nI (j)) (LO 2 + nI (k))) jd (((pck (nI jd) (LO 0 + nI (e)) (LO 1 + nI (j)) (LO 2 + nI (k)) * kx) - rr) + nI (a)) 2)) t9).2.2.2)])) va (aJ G n (vF (foD w LO HI (nI jd) kind reach what) (c3 (sN LO HI 1) (sN LO HI 2) e j k)))) za (aZ G n (zF (foD w LO HI (nI jd) kind reach what) (c3 (sN LO HI 1) (sN LO HI 2) e j k)))) 0 0 136 [(0, .ref r), (1, .ref o), (2, .ref q), (3, .int (nI jd)), (4, .int kx), (5, .int rr), (6, .int what), (7, .int (LO 0 + nI (e))), (8, .int (LO 1 + nI (j))), (9, .int (LO 2 + nI (k))), (10, .int (pck (nI jd) (LO 0 + nI (e)) (LO 1 + nI (j)) (LO 2 + nI (k)) * kx)), (11, .int (((pck (nI jd) (LO 0 + nI (e)) (LO 1 + nI (j)) (LO 2 + nI (k)) * kx) - rr) + nI (a)))] []
            refine q_iinc (v := (((pck (nI jd) (LO 0 + nI (e)) (LO 1 + nI (j)) (LO 2 + nI (k)) * kx) - rr) + nI (a + 1))) (lv' := [(11, .int (((pck (nI jd) (LO 0 + nI (e)) (LO 1 + nI (j)) (LO 2 + nI (k)) * kx) - rr) + nI (a + 1))), (0, .ref r), (1, .ref o), (2, .ref q), (3, .int (nI jd)), (4, .int kx), (5, .int rr), (6, .int what), (7, .int (LO 0 + nI (e))), (8, .int (LO 1 + nI (j))), (9, .int (LO 2 + nI (k))), (10, .int (pck (nI jd) (LO 0 + nI (e)) (LO 1 + nI (j)) (LO 2 + nI (k)) * kx))]) X dX13_parts_136 11 rfl (lo_s) (by decide) rfl ?_
            refine q_goto X 83 dX13_parts_139 (by decide) ?_
            refine q_sub [1, 2, 3, 4, 5, 6, 7, 8, 9, 10, 11, 0] rfl ?_
            exact ih (a + 1) _ (by omega) ⟨_, rfl, rwT_s hw hjd (rIn_c hok hLH he hj hk) hrow ha (fun S => fP_k (e := 0) hkind hj3 (by decide) p0) (fun S => fP_k (e := 1) hkind hj3 (by decide) p1) (fun S => fP_k (e := 2) hkind hj3 (by decide) p2) hT⟩
          · refine q_iload X dX13_parts_126 11 rfl ?_
            refine q_goto X 133 dX13_parts_128 (by decide) ?_
            refine q_topi (fun a2 ea2 => ?_)
            have ha2 : a2 = rP (rC (LO 0 + nI (e)) (LO 1 + nI (j)) (LO 2 + nI (k))) jd (((pck (nI jd) (LO 0 + nI (e)) (LO 1 + nI (j)) (LO 2 + nI (k)) * kx) - rr) + nI (a)) 2 := ea2.trans (rP_y 2 hj3 (by decide) c123).symm
            subst ha2
            refine q_callV X (c_take (t := t9) (kr (nI t9.1) t9.2.1 t9.2.2.1 t9.2.2.2 (c3 (sN LO HI 1) (sN LO HI 2) e j k)) hw (koX (nI t9.1) t9.2.1 t9.2.2.1 t9.2.2.2 (c3 (sN LO HI 1) (sN LO HI 2) e j k)) ht9) Y_X13_take tw_1413 tw_1415 sel_35 (kr (nI t9.1) t9.2.1 t9.2.2.1 t9.2.2.2 (c3 (sN LO HI 1) (sN LO HI 2) e j k)) rfl (by omega) rfl rfl (Nat.le_of_ble_eq_true rfl) (rc' := 0) (rs' := 0) (Nat.le_refl _) (Nat.le_refl _) dX13_parts_133 (fun v M' hp _ => ?_)
            obtain ⟨rfl, eM⟩ := hp
            rw [eM, mU_r rva rza]
            clear eM
            show qJ G F _ 12 (mU (mU (mU M r (oB 13 [w0, w1, w2, w3, w4, w5, w6, w7, w8, w9, .int (nI (tkU (frV w (rP (rC (LO 0 + nI (e)) (LO 1 + nI (j)) (LO 2 + nI (k))) jd (((pck (nI jd) (LO 0 + nI (e)) (LO 1 + nI (j)) (LO 2 + nI (k)) * kx) - rr) + nI (a)) 0) (rP (rC (LO 0 + nI (e)) (LO 1 + nI (j)) (LO 2 + nI (k))) jd (((pck (nI jd) (LO 0 + nI (e)) (LO 1 + nI (j)) (LO 2 + nI (k)) * kx) - rr) + nI (a)) 1) (rP (rC (LO 0 + nI (e)) (LO 1 + nI (j)) (LO 2 + nI (k))) jd (((pck (nI jd) (LO 0 + nI (e)) (LO 1 + nI (j)) (LO 2 + nI (k)) * kx) - rr) + nI (a)) 2)) t9).1), .long ((tkU (frV w (rP (rC (LO 0 + nI (e)) (LO 1 + nI (j)) (LO 2 + nI (k))) jd (((pck (nI jd) (LO 0 + nI (e)) (LO 1 + nI (j)) (LO 2 + nI (k)) * kx) - rr) + nI (a)) 0) (rP (rC (LO 0 + nI (e)) (LO 1 + nI (j)) (LO 2 + nI (k))) jd (((pck (nI jd) (LO 0 + nI (e)) (LO 1 + nI (j)) (LO 2 + nI (k)) * kx) - rr) + nI (a)) 1) (rP (rC (LO 0 + nI (e)) (LO 1 + nI (j)) (LO 2 + nI (k))) jd (((pck (nI jd) (LO 0 + nI (e)) (LO 1 + nI (j)) (LO 2 + nI (k)) * kx) - rr) + nI (a)) 2)) t9).2.1), .long ((tkU (frV w (rP (rC (LO 0 + nI (e)) (LO 1 + nI (j)) (LO 2 + nI (k))) jd (((pck (nI jd) (LO 0 + nI (e)) (LO 1 + nI (j)) (LO 2 + nI (k)) * kx) - rr) + nI (a)) 0) (rP (rC (LO 0 + nI (e)) (LO 1 + nI (j)) (LO 2 + nI (k))) jd (((pck (nI jd) (LO 0 + nI (e)) (LO 1 + nI (j)) (LO 2 + nI (k)) * kx) - rr) + nI (a)) 1) (rP (rC (LO 0 + nI (e)) (LO 1 + nI (j)) (LO 2 + nI (k))) jd (((pck (nI jd) (LO 0 + nI (e)) (LO 1 + nI (j)) (LO 2 + nI (k)) * kx) - rr) + nI (a)) 2)) t9).2.2.1), .long ((tkU (frV w (rP (rC (LO 0 + nI (e)) (LO 1 + nI (j)) (LO 2 + nI (k))) jd (((pck (nI jd) (LO 0 + nI (e)) (LO 1 + nI (j)) (LO 2 + nI (k)) * kx) - rr) + nI (a)) 0) (rP (rC (LO 0 + nI (e)) (LO 1 + nI (j)) (LO 2 + nI (k))) jd (((pck (nI jd) (LO 0 + nI (e)) (LO 1 + nI (j)) (LO 2 + nI (k)) * kx) - rr) + nI (a)) 1) (rP (rC (LO 0 + nI (e)) (LO 1 + nI (j)) (LO 2 + nI (k))) jd (((pck (nI jd) (LO 0 + nI (e)) (LO 1 + nI (j)) (LO 2 + nI (k)) * kx) - rr) + nI (a)) 2)) t9).2.2.2)])) va (aJ G n (vF (foD w LO HI (nI jd) kind reach what) (c3 (sN LO HI 1) (sN LO HI 2) e j k)))) za (aZ G n (zF (foD w LO HI (nI jd) kind reach what) (c3 (sN LO HI 1) (sN LO HI 2) e j k)))) 0 0 136 [(0, .ref r), (1, .ref o), (2, .ref q), (3, .int (nI jd)), (4, .int kx), (5, .int rr), (6, .int what), (7, .int (LO 0 + nI (e))), (8, .int (LO 1 + nI (j))), (9, .int (LO 2 + nI (k))), (10, .int (pck (nI jd) (LO 0 + nI (e)) (LO 1 + nI (j)) (LO 2 + nI (k)) * kx)), (11, .int (((pck (nI jd) (LO 0 + nI (e)) (LO 1 + nI (j)) (LO 2 + nI (k)) * kx) - rr) + nI (a)))] []
            refine q_iinc (v := (((pck (nI jd) (LO 0 + nI (e)) (LO 1 + nI (j)) (LO 2 + nI (k)) * kx) - rr) + nI (a + 1))) (lv' := [(11, .int (((pck (nI jd) (LO 0 + nI (e)) (LO 1 + nI (j)) (LO 2 + nI (k)) * kx) - rr) + nI (a + 1))), (0, .ref r), (1, .ref o), (2, .ref q), (3, .int (nI jd)), (4, .int kx), (5, .int rr), (6, .int what), (7, .int (LO 0 + nI (e))), (8, .int (LO 1 + nI (j))), (9, .int (LO 2 + nI (k))), (10, .int (pck (nI jd) (LO 0 + nI (e)) (LO 1 + nI (j)) (LO 2 + nI (k)) * kx))]) X dX13_parts_136 11 rfl (lo_s) (by decide) rfl ?_
            refine q_goto X 83 dX13_parts_139 (by decide) ?_
            refine q_sub [1, 2, 3, 4, 5, 6, 7, 8, 9, 10, 11, 0] rfl ?_
            exact ih (a + 1) _ (by omega) ⟨_, rfl, rwT_s hw hjd (rIn_c hok hLH he hj hk) hrow ha (fun S => fP_k (e := 0) hkind hj3 (by decide) p0) (fun S => fP_k (e := 1) hkind hj3 (by decide) p1) (fun S => fP_k (e := 2) hkind hj3 (by decide) p2) hT⟩
  show qJ G F (qQ G F (fun v M' => v = none ∧ ∃ (tk9 : Int32) (su9 le9 gr9 : Int64), M' = mU (mU (mU M r (oB 13 [w0, w1, w2, w3, w4, w5, w6, w7, w8, w9, .int (tk9), .long (su9), .long (le9), .long (gr9)])) va (aJ G n (vF (foD w LO HI (nI jd) kind reach what) (n)))) za (aZ G n (zF (foD w LO HI (nI jd) kind reach what) (n))))) 12 M 0 0 0 [(0, .ref r), (1, .ref o), (2, .ref q), (3, .int (nI jd)), (4, .int kx), (5, .int rr), (6, .int what)] []
  have L2 : ∀ (e j : Nat) (he : e < sN LO HI 0) (hj : j < sN LO HI 1) (kk : ∀ M2 : gMem, (∃ (tk9 : Int32) (su9 le9 gr9 : Int64), M2 = mU (mU (mU M r (oB 13 [w0, w1, w2, w3, w4, w5, w6, w7, w8, w9, .int (tk9), .long (su9), .long (le9), .long (gr9)])) va (aJ G n (vF (foD w LO HI (nI jd) kind reach what) (c3 (sN LO HI 1) (sN LO HI 2) e j (sN LO HI 2))))) za (aZ G n (zF (foD w LO HI (nI jd) kind reach what) (c3 (sN LO HI 1) (sN LO HI 2) e j (sN LO HI 2))))) → qJ G F (qQ G F (fun v M' => v = none ∧ ∃ (tk9 : Int32) (su9 le9 gr9 : Int64), M' = mU (mU (mU M r (oB 13 [w0, w1, w2, w3, w4, w5, w6, w7, w8, w9, .int (tk9), .long (su9), .long (le9), .long (gr9)])) va (aJ G n (vF (foD w LO HI (nI jd) kind reach what) (n)))) za (aZ G n (zF (foD w LO HI (nI jd) kind reach what) (n))))) 12 M2 0 0 165 [(0, .ref r), (1, .ref o), (2, .ref q), (3, .int (nI jd)), (4, .int kx), (5, .int rr), (6, .int what), (7, .int (LO 0 + nI (e))), (8, .int (LO 1 + nI (j)))] []) (t k : Nat) (M1 : gMem), k + t = sN LO HI 2 → (∃ (tk9 : Int32) (su9 le9 gr9 : Int64), M1 = mU (mU (mU M r (oB 13 [w0, w1, w2, w3, w4, w5, w6, w7, w8, w9, .int (tk9), .long (su9), .long (le9), .long (gr9)])) va (aJ G n (vF (foD w LO HI (nI jd) kind reach what) (c3 (sN LO HI 1) (sN LO HI 2) e j k)))) za (aZ G n (zF (foD w LO HI (nI jd) kind reach what) (c3 (sN LO HI 1) (sN LO HI 2) e j k)))) → qJ G F (qQ G F (fun v M' => v = none ∧ ∃ (tk9 : Int32) (su9 le9 gr9 : Int64), M' = mU (mU (mU M r (oB 13 [w0, w1, w2, w3, w4, w5, w6, w7, w8, w9, .int (tk9), .long (su9), .long (le9), .long (gr9)])) va (aJ G n (vF (foD w LO HI (nI jd) kind reach what) (n)))) za (aZ G n (zF (foD w LO HI (nI jd) kind reach what) (n))))) 12 M1 0 0 46 [(0, .ref r), (1, .ref o), (2, .ref q), (3, .int (nI jd)), (4, .int kx), (5, .int rr), (6, .int what), (7, .int (LO 0 + nI (e))), (8, .int (LO 1 + nI (j))), (9, .int (LO 2 + nI (k)))] [] := by
    intro e j he hj kk t
    induction t with
    | zero =>
      intro k M1 hk0 hI
      obtain rfl : k = sN LO HI 2 := by omega
      have hI0 := hI
      obtain ⟨tk9, su9, le9, gr9, rfl⟩ := hI
      refine q_iload X dX13_parts_46 9 rfl ?_
      refine q_aload_n X dX13_parts_48 2 rfl ?_
      refine q_get X (kq tk9 su9 le9 gr9 (c3 (sN LO HI 1) (sN LO HI 2) e j (sN LO HI 2))) rfl in_RX12 3 (by decide) tw_1161 rfl rfl dX13_parts_49 ?_
      refine q_iconst (v := 2) X dX13_parts_52 (by decide) ?_
      refine q_ialdN X 2 (kha tk9 su9 le9 gr9 (c3 (sN LO HI 1) (sN LO HI 2) e j (sN LO HI 2))) (rfl) (by decide) (by decide) dX13_parts_53 ?_
      refine q_icmp_gt X 165 dX13_parts_54 (by decide) (fun c_3 => ?_) (fun c_3 => absurd (by rw [y2]; exact (lo_lt l2.1 l2.2 (by omega) (by omega)).mpr (by omega)) c_3)
      refine q_sub [0, 1, 2, 3, 4, 5, 6, 7, 8] rfl ?_
      exact kk _ hI0
    | succ t ih =>
      intro k M1 hk0 hI
      have hk : k < sN LO HI 2 := by omega
      have hI0 := hI
      obtain ⟨tk9, su9, le9, gr9, rfl⟩ := hI
      have hc9 : c3 (sN LO HI 1) (sN LO HI 2) e j k < n := (hn9 ▸ c3_lt he hj hk)
      refine q_iload X dX13_parts_46 9 rfl ?_
      refine q_aload_n X dX13_parts_48 2 rfl ?_
      refine q_get X (kq tk9 su9 le9 gr9 (c3 (sN LO HI 1) (sN LO HI 2) e j k)) rfl in_RX12 3 (by decide) tw_1161 rfl rfl dX13_parts_49 ?_
      refine q_iconst (v := 2) X dX13_parts_52 (by decide) ?_
      refine q_ialdN X 2 (kha tk9 su9 le9 gr9 (c3 (sN LO HI 1) (sN LO HI 2) e j k)) (rfl) (by decide) (by decide) dX13_parts_53 ?_
      refine q_icmp_gt X 165 dX13_parts_54 (by decide) (fun c_4 => absurd ((lo_lt l2.1 l2.2 (by omega) (by omega)).mp (y2 ▸ c_4)) (by omega)) (fun c_4 => ?_)
      refine q_iload_n X dX13_parts_57 3 rfl ?_
      refine q_iload X dX13_parts_58 7 rfl ?_
      refine q_iload X dX13_parts_60 8 rfl ?_
      refine q_iload X dX13_parts_62 9 rfl ?_
      refine q_callSp X (c_pick) Y_X13_pick tw_1281 tw_1282 (by omega) rfl rfl (Nat.le_of_ble_eq_true rfl) dX13_parts_64 ?_
      refine q_iload X dX13_parts_67 4 rfl ?_
      refine q_imul X dX13_parts_69 ?_
      refine q_istore (lv' := [(10, .int ((pck (nI jd) (LO 0 + nI (e)) (LO 1 + nI (j)) (LO 2 + nI (k))) * kx)), (0, .ref r), (1, .ref o), (2, .ref q), (3, .int (nI jd)), (4, .int kx), (5, .int rr), (6, .int what), (7, .int (LO 0 + nI (e))), (8, .int (LO 1 + nI (j))), (9, .int (LO 2 + nI (k)))]) X dX13_parts_70 (by decide) rfl ?_
      refine q_aload_n X dX13_parts_72 1 rfl ?_
      refine q_callV X (c_nothing (kr tk9 su9 le9 gr9 (c3 (sN LO HI 1) (sN LO HI 2) e j k))) Y_X13_nothing tw_1409 tw_1411 sel_34 (kr tk9 su9 le9 gr9 (c3 (sN LO HI 1) (sN LO HI 2) e j k)) rfl (by omega) rfl rfl (Nat.le_of_ble_eq_true rfl) (rc' := 0) (rs' := 0) (Nat.le_refl _) (Nat.le_refl _) dX13_parts_73 (fun v M' hp _ => ?_)
      obtain ⟨rfl, eM⟩ := hp
      rw [eM, mU_r rva rza]
      clear eM
      show qJ G F _ 12 (mU (mU (mU M r (oB 13 [w0, w1, w2, w3, w4, w5, w6, w7, w8, w9, .int (nI 0), .long (0), .long (le9), .long (gr9)])) va (aJ G n (vF (foD w LO HI (nI jd) kind reach what) (c3 (sN LO HI 1) (sN LO HI 2) e j k)))) za (aZ G n (zF (foD w LO HI (nI jd) kind reach what) (c3 (sN LO HI 1) (sN LO HI 2) e j k)))) 0 0 76 [(10, .int ((pck (nI jd) (LO 0 + nI (e)) (LO 1 + nI (j)) (LO 2 + nI (k))) * kx)), (0, .ref r), (1, .ref o), (2, .ref q), (3, .int (nI jd)), (4, .int kx), (5, .int rr), (6, .int what), (7, .int (LO 0 + nI (e))), (8, .int (LO 1 + nI (j))), (9, .int (LO 2 + nI (k)))] []
      refine q_iload X dX13_parts_76 0 rfl ?_
      refine q_iload X dX13_parts_78 6 rfl ?_
      refine q_isub X dX13_parts_80 ?_
      rw [show ((pck (nI jd) (LO 0 + nI (e)) (LO 1 + nI (j)) (LO 2 + nI (k)) * kx) - rr) = ((pck (nI jd) (LO 0 + nI (e)) (LO 1 + nI (j)) (LO 2 + nI (k)) * kx) - rr) + nI 0 from lo_0.symm]
      refine q_istore (lv' := [(11, .int (((pck (nI jd) (LO 0 + nI (e)) (LO 1 + nI (j)) (LO 2 + nI (k)) * kx) - rr) + nI (0))), (10, .int ((pck (nI jd) (LO 0 + nI (e)) (LO 1 + nI (j)) (LO 2 + nI (k))) * kx)), (0, .ref r), (1, .ref o), (2, .ref q), (3, .int (nI jd)), (4, .int kx), (5, .int rr), (6, .int what), (7, .int (LO 0 + nI (e))), (8, .int (LO 1 + nI (j))), (9, .int (LO 2 + nI (k)))]) X dX13_parts_81 (by decide) rfl ?_
      refine q_sub [2, 3, 4, 5, 6, 7, 8, 9, 10, 11, 1, 0] rfl ?_
      refine L3 e j k he hj hk (fun M2 hI2 => ?_) L 0 _ (Nat.zero_add _) ⟨(0, 0, le9, gr9), rfl, by rw [rwT_0]; exact tOk_0⟩
      obtain ⟨t9, rfl, hT⟩ := hI2
      have hrow := hF e j k he hj hk
      have hle := rwT_le (w := w) (lo := LO) (hi := HI) (d := nI jd) (kind := kind) (reach := reach) (what := what) (A := ((pck (nI jd) (LO 0 + nI (e)) (LO 1 + nI (j)) (LO 2 + nI (k)) * kx) - rr)) (i := c3 (sN LO HI 1) (sN LO HI 2) e j k) (a := L)
      have ht9 : t9.1 < 2 ^ 30 := by rw [hT.1] at hle; omega
      have fr9 : (if t9.1 = 0 then none else some (tgV what t9)) = (foD w LO HI (nI jd) kind reach what) (c3 (sN LO HI 1) (sN LO HI 2) e j k) := by rw [rwT_L hrow, tOk_O hT]
      refine q_aload_n X dX13_parts_142 0 rfl ?_
      refine q_aload_n X dX13_parts_143 2 rfl ?_
      refine q_aload_n X dX13_parts_144 2 rfl ?_
      refine q_iload X dX13_parts_145 7 rfl ?_
      refine q_iload X dX13_parts_147 8 rfl ?_
      refine q_iload X dX13_parts_149 9 rfl ?_
      refine q_callVp X (c_X12_at (kq (nI t9.1) t9.2.1 t9.2.2.1 t9.2.2.2 _) (kla (nI t9.1) t9.2.1 t9.2.2.1 t9.2.2.2 _) (kha (nI t9.1) t9.2.1 t9.2.2.1 t9.2.2.2 _)) Y_X12_at tw_1269 tw_1270 tw_1271 (kq (nI t9.1) t9.2.1 t9.2.2.1 t9.2.2.2 (c3 (sN LO HI 1) (sN LO HI 2) e j k)) rfl (by omega) rfl rfl (Nat.le_of_ble_eq_true rfl) dX13_parts_151 ?_
      rw [gAt_lo hok]
      refine q_iload X dX13_parts_154 6 rfl ?_
      refine q_callV X (c_give (t := t9) (kr (nI t9.1) t9.2.1 t9.2.2.1 t9.2.2.2 _) (kq (nI t9.1) t9.2.1 t9.2.2.1 t9.2.2.2 _) (kva (nI t9.1) t9.2.1 t9.2.2.1 t9.2.2.2 _) (kza (nI t9.1) t9.2.1 t9.2.2.1 t9.2.2.2 _) hc9 hz9 ht9) Y_X13_give tw_1417 tw_1419 sel_36 (kr (nI t9.1) t9.2.1 t9.2.2.1 t9.2.2.2 (c3 (sN LO HI 1) (sN LO HI 2) e j k)) rfl (by omega) rfl rfl (Nat.le_of_ble_eq_true rfl) (rc' := 0) (rs' := 0) (Nat.le_refl _) (Nat.le_refl _) dX13_parts_156 (fun v M' hp _ => ?_)
      obtain ⟨rfl, eM⟩ := hp
      rw [eM]
      clear eM
      refine q_memE (M' := mU (mU (mU M r (oB 13 [w0, w1, w2, w3, w4, w5, w6, w7, w8, w9, .int (nI (t9).1), .long ((t9).2.1), .long ((t9).2.2.1), .long ((t9).2.2.2)])) va (aJ G n (vF (foD w LO HI (nI jd) kind reach what) (c3 (sN LO HI 1) (sN LO HI 2) e j (k + 1))))) za (aZ G n (zF (foD w LO HI (nI jd) kind reach what) (c3 (sN LO HI 1) (sN LO HI 2) e j (k + 1))))) (by rw [show c3 (sN LO HI 1) (sN LO HI 2) e j (k + 1) = c3 (sN LO HI 1) (sN LO HI 2) e j k + 1 from rfl, ← vF_s fr9, ← zF_s fr9]; exact mU_4 vz) ?_
      show qJ G F _ 12 (mU (mU (mU M r (oB 13 [w0, w1, w2, w3, w4, w5, w6, w7, w8, w9, .int (nI (t9).1), .long ((t9).2.1), .long ((t9).2.2.1), .long ((t9).2.2.2)])) va (aJ G n (vF (foD w LO HI (nI jd) kind reach what) (c3 (sN LO HI 1) (sN LO HI 2) e j (k + 1))))) za (aZ G n (zF (foD w LO HI (nI jd) kind reach what) (c3 (sN LO HI 1) (sN LO HI 2) e j (k + 1))))) 0 0 159 [(0, .ref r), (1, .ref o), (2, .ref q), (3, .int (nI jd)), (4, .int kx), (5, .int rr), (6, .int what), (7, .int (LO 0 + nI (e))), (8, .int (LO 1 + nI (j))), (9, .int (LO 2 + nI (k))), (10, .int (pck (nI jd) (LO 0 + nI (e)) (LO 1 + nI (j)) (LO 2 + nI (k)) * kx))] []
      refine q_iinc (v := (LO 2 + nI (k + 1))) (lv' := [(9, .int (LO 2 + nI (k + 1))), (0, .ref r), (1, .ref o), (2, .ref q), (3, .int (nI jd)), (4, .int kx), (5, .int rr), (6, .int what), (7, .int (LO 0 + nI (e))), (8, .int (LO 1 + nI (j))), (10, .int (pck (nI jd) (LO 0 + nI (e)) (LO 1 + nI (j)) (LO 2 + nI (k)) * kx))]) X dX13_parts_159 9 rfl (lo_s) (by decide) rfl ?_
      refine q_goto X 46 dX13_parts_162 (by decide) ?_
      refine q_sub [1, 2, 3, 4, 5, 6, 7, 8, 9, 0] rfl ?_
      exact ih (k + 1) _ (by omega) ⟨_, _, _, _, rfl⟩
  have L1 : ∀ (e : Nat) (he : e < sN LO HI 0) (kk : ∀ M2 : gMem, (∃ (tk9 : Int32) (su9 le9 gr9 : Int64), M2 = mU (mU (mU M r (oB 13 [w0, w1, w2, w3, w4, w5, w6, w7, w8, w9, .int (tk9), .long (su9), .long (le9), .long (gr9)])) va (aJ G n (vF (foD w LO HI (nI jd) kind reach what) (c3 (sN LO HI 1) (sN LO HI 2) e (sN LO HI 1) 0)))) za (aZ G n (zF (foD w LO HI (nI jd) kind reach what) (c3 (sN LO HI 1) (sN LO HI 2) e (sN LO HI 1) 0)))) → qJ G F (qQ G F (fun v M' => v = none ∧ ∃ (tk9 : Int32) (su9 le9 gr9 : Int64), M' = mU (mU (mU M r (oB 13 [w0, w1, w2, w3, w4, w5, w6, w7, w8, w9, .int (tk9), .long (su9), .long (le9), .long (gr9)])) va (aJ G n (vF (foD w LO HI (nI jd) kind reach what) (n)))) za (aZ G n (zF (foD w LO HI (nI jd) kind reach what) (n))))) 12 M2 0 0 171 [(0, .ref r), (1, .ref o), (2, .ref q), (3, .int (nI jd)), (4, .int kx), (5, .int rr), (6, .int what), (7, .int (LO 0 + nI (e)))] []) (t j : Nat) (M1 : gMem), j + t = sN LO HI 1 → (∃ (tk9 : Int32) (su9 le9 gr9 : Int64), M1 = mU (mU (mU M r (oB 13 [w0, w1, w2, w3, w4, w5, w6, w7, w8, w9, .int (tk9), .long (su9), .long (le9), .long (gr9)])) va (aJ G n (vF (foD w LO HI (nI jd) kind reach what) (c3 (sN LO HI 1) (sN LO HI 2) e j 0)))) za (aZ G n (zF (foD w LO HI (nI jd) kind reach what) (c3 (sN LO HI 1) (sN LO HI 2) e j 0)))) → qJ G F (qQ G F (fun v M' => v = none ∧ ∃ (tk9 : Int32) (su9 le9 gr9 : Int64), M' = mU (mU (mU M r (oB 13 [w0, w1, w2, w3, w4, w5, w6, w7, w8, w9, .int (tk9), .long (su9), .long (le9), .long (gr9)])) va (aJ G n (vF (foD w LO HI (nI jd) kind reach what) (n)))) za (aZ G n (zF (foD w LO HI (nI jd) kind reach what) (n))))) 12 M1 0 0 27 [(0, .ref r), (1, .ref o), (2, .ref q), (3, .int (nI jd)), (4, .int kx), (5, .int rr), (6, .int what), (7, .int (LO 0 + nI (e))), (8, .int (LO 1 + nI (j)))] [] := by
    intro e he kk t
    induction t with
    | zero =>
      intro j M1 hj0 hI
      obtain rfl : j = sN LO HI 1 := by omega
      have hI0 := hI
      obtain ⟨tk9, su9, le9, gr9, rfl⟩ := hI
      refine q_iload X dX13_parts_27 8 rfl ?_
      refine q_aload_n X dX13_parts_29 2 rfl ?_
      refine q_get X (kq tk9 su9 le9 gr9 (c3 (sN LO HI 1) (sN LO HI 2) e (sN LO HI 1) 0)) rfl in_RX12 3 (by decide) tw_1161 rfl rfl dX13_parts_30 ?_
      refine q_iconst (v := 1) X dX13_parts_33 (by decide) ?_
      refine q_ialdN X 1 (kha tk9 su9 le9 gr9 (c3 (sN LO HI 1) (sN LO HI 2) e (sN LO HI 1) 0)) (rfl) (by decide) (by decide) dX13_parts_34 ?_
      refine q_icmp_gt X 171 dX13_parts_35 (by decide) (fun c_5 => ?_) (fun c_5 => absurd (by rw [y1]; exact (lo_lt l1.1 l1.2 (by omega) (by omega)).mpr (by omega)) c_5)
      refine q_sub [0, 1, 2, 3, 4, 5, 6, 7] rfl ?_
      exact kk _ hI0
    | succ t ih =>
      intro j M1 hj0 hI
      have hj : j < sN LO HI 1 := by omega
      have hI0 := hI
      obtain ⟨tk9, su9, le9, gr9, rfl⟩ := hI
      refine q_iload X dX13_parts_27 8 rfl ?_
      refine q_aload_n X dX13_parts_29 2 rfl ?_
      refine q_get X (kq tk9 su9 le9 gr9 (c3 (sN LO HI 1) (sN LO HI 2) e j 0)) rfl in_RX12 3 (by decide) tw_1161 rfl rfl dX13_parts_30 ?_
      refine q_iconst (v := 1) X dX13_parts_33 (by decide) ?_
      refine q_ialdN X 1 (kha tk9 su9 le9 gr9 (c3 (sN LO HI 1) (sN LO HI 2) e j 0)) (rfl) (by decide) (by decide) dX13_parts_34 ?_
      refine q_icmp_gt X 171 dX13_parts_35 (by decide) (fun c_6 => absurd ((lo_lt l1.1 l1.2 (by omega) (by omega)).mp (y1 ▸ c_6)) (by omega)) (fun c_6 => ?_)
      refine q_aload_n X dX13_parts_38 2 rfl ?_
      refine q_get X (kq tk9 su9 le9 gr9 (c3 (sN LO HI 1) (sN LO HI 2) e j 0)) rfl in_RX12 2 (by decide) tw_1159 rfl rfl dX13_parts_39 ?_
      refine q_iconst (v := 2) X dX13_parts_42 (by decide) ?_
      refine q_ialdN X 2 (kla tk9 su9 le9 gr9 (c3 (sN LO HI 1) (sN LO HI 2) e j 0)) (rfl) (by decide) (by decide) dX13_parts_43 ?_
      rw [show LO 2 = LO 2 + nI 0 from lo_0.symm]
      refine q_istore (lv' := [(9, .int (LO 2 + nI (0))), (0, .ref r), (1, .ref o), (2, .ref q), (3, .int (nI jd)), (4, .int kx), (5, .int rr), (6, .int what), (7, .int (LO 0 + nI (e))), (8, .int (LO 1 + nI (j)))]) X dX13_parts_44 (by decide) rfl ?_
      refine q_sub [1, 2, 3, 4, 5, 6, 7, 8, 9, 0] rfl ?_
      refine L2 e j he hj (fun M2 hI2 => ?_) (sN LO HI 2) 0 _ (Nat.zero_add _) hI0
      rw [c3_k] at hI2
      refine q_iinc (v := (LO 1 + nI (j + 1))) (lv' := [(8, .int (LO 1 + nI (j + 1))), (0, .ref r), (1, .ref o), (2, .ref q), (3, .int (nI jd)), (4, .int kx), (5, .int rr), (6, .int what), (7, .int (LO 0 + nI (e)))]) X dX13_parts_165 8 rfl (lo_s) (by decide) rfl ?_
      refine q_goto X 27 dX13_parts_168 (by decide) ?_
      refine q_sub [1, 2, 3, 4, 5, 6, 7, 8, 0] rfl ?_
      exact ih (j + 1) M2 (by omega) hI2
  have L0 : ∀ (kk : ∀ M2 : gMem, (∃ (tk9 : Int32) (su9 le9 gr9 : Int64), M2 = mU (mU (mU M r (oB 13 [w0, w1, w2, w3, w4, w5, w6, w7, w8, w9, .int (tk9), .long (su9), .long (le9), .long (gr9)])) va (aJ G n (vF (foD w LO HI (nI jd) kind reach what) (c3 (sN LO HI 1) (sN LO HI 2) (sN LO HI 0) 0 0)))) za (aZ G n (zF (foD w LO HI (nI jd) kind reach what) (c3 (sN LO HI 1) (sN LO HI 2) (sN LO HI 0) 0 0)))) → qJ G F (qQ G F (fun v M' => v = none ∧ ∃ (tk9 : Int32) (su9 le9 gr9 : Int64), M' = mU (mU (mU M r (oB 13 [w0, w1, w2, w3, w4, w5, w6, w7, w8, w9, .int (tk9), .long (su9), .long (le9), .long (gr9)])) va (aJ G n (vF (foD w LO HI (nI jd) kind reach what) (n)))) za (aZ G n (zF (foD w LO HI (nI jd) kind reach what) (n))))) 12 M2 0 0 177 [(0, .ref r), (1, .ref o), (2, .ref q), (3, .int (nI jd)), (4, .int kx), (5, .int rr), (6, .int what)] []) (t e : Nat) (M1 : gMem), e + t = sN LO HI 0 → (∃ (tk9 : Int32) (su9 le9 gr9 : Int64), M1 = mU (mU (mU M r (oB 13 [w0, w1, w2, w3, w4, w5, w6, w7, w8, w9, .int (tk9), .long (su9), .long (le9), .long (gr9)])) va (aJ G n (vF (foD w LO HI (nI jd) kind reach what) (c3 (sN LO HI 1) (sN LO HI 2) e 0 0)))) za (aZ G n (zF (foD w LO HI (nI jd) kind reach what) (c3 (sN LO HI 1) (sN LO HI 2) e 0 0)))) → qJ G F (qQ G F (fun v M' => v = none ∧ ∃ (tk9 : Int32) (su9 le9 gr9 : Int64), M' = mU (mU (mU M r (oB 13 [w0, w1, w2, w3, w4, w5, w6, w7, w8, w9, .int (tk9), .long (su9), .long (le9), .long (gr9)])) va (aJ G n (vF (foD w LO HI (nI jd) kind reach what) (n)))) za (aZ G n (zF (foD w LO HI (nI jd) kind reach what) (n))))) 12 M1 0 0 8 [(0, .ref r), (1, .ref o), (2, .ref q), (3, .int (nI jd)), (4, .int kx), (5, .int rr), (6, .int what), (7, .int (LO 0 + nI (e)))] [] := by
    intro  kk t
    induction t with
    | zero =>
      intro e M1 he0 hI
      obtain rfl : e = sN LO HI 0 := by omega
      have hI0 := hI
      obtain ⟨tk9, su9, le9, gr9, rfl⟩ := hI
      refine q_iload X dX13_parts_8 7 rfl ?_
      refine q_aload_n X dX13_parts_10 2 rfl ?_
      refine q_get X (kq tk9 su9 le9 gr9 (c3 (sN LO HI 1) (sN LO HI 2) (sN LO HI 0) 0 0)) rfl in_RX12 3 (by decide) tw_1161 rfl rfl dX13_parts_11 ?_
      refine q_iconst (v := 0) X dX13_parts_14 (by decide) ?_
      refine q_ialdN X 0 (kha tk9 su9 le9 gr9 (c3 (sN LO HI 1) (sN LO HI 2) (sN LO HI 0) 0 0)) (rfl) (by decide) (by decide) dX13_parts_15 ?_
      refine q_icmp_gt X 177 dX13_parts_16 (by decide) (fun c_7 => ?_) (fun c_7 => absurd (by rw [y0]; exact (lo_lt l0.1 l0.2 (by omega) (by omega)).mpr (by omega)) c_7)
      refine q_sub [0, 1, 2, 3, 4, 5, 6] rfl ?_
      exact kk _ hI0
    | succ t ih =>
      intro e M1 he0 hI
      have he : e < sN LO HI 0 := by omega
      have hI0 := hI
      obtain ⟨tk9, su9, le9, gr9, rfl⟩ := hI
      refine q_iload X dX13_parts_8 7 rfl ?_
      refine q_aload_n X dX13_parts_10 2 rfl ?_
      refine q_get X (kq tk9 su9 le9 gr9 (c3 (sN LO HI 1) (sN LO HI 2) e 0 0)) rfl in_RX12 3 (by decide) tw_1161 rfl rfl dX13_parts_11 ?_
      refine q_iconst (v := 0) X dX13_parts_14 (by decide) ?_
      refine q_ialdN X 0 (kha tk9 su9 le9 gr9 (c3 (sN LO HI 1) (sN LO HI 2) e 0 0)) (rfl) (by decide) (by decide) dX13_parts_15 ?_
      refine q_icmp_gt X 177 dX13_parts_16 (by decide) (fun c_8 => absurd ((lo_lt l0.1 l0.2 (by omega) (by omega)).mp (y0 ▸ c_8)) (by omega)) (fun c_8 => ?_)
      refine q_aload_n X dX13_parts_19 2 rfl ?_
      refine q_get X (kq tk9 su9 le9 gr9 (c3 (sN LO HI 1) (sN LO HI 2) e 0 0)) rfl in_RX12 2 (by decide) tw_1159 rfl rfl dX13_parts_20 ?_
      refine q_iconst (v := 1) X dX13_parts_23 (by decide) ?_
      refine q_ialdN X 1 (kla tk9 su9 le9 gr9 (c3 (sN LO HI 1) (sN LO HI 2) e 0 0)) (rfl) (by decide) (by decide) dX13_parts_24 ?_
      rw [show LO 1 = LO 1 + nI 0 from lo_0.symm]
      refine q_istore (lv' := [(8, .int (LO 1 + nI (0))), (0, .ref r), (1, .ref o), (2, .ref q), (3, .int (nI jd)), (4, .int kx), (5, .int rr), (6, .int what), (7, .int (LO 0 + nI (e)))]) X dX13_parts_25 (by decide) rfl ?_
      refine q_sub [1, 2, 3, 4, 5, 6, 7, 8, 0] rfl ?_
      refine L1 e he (fun M2 hI2 => ?_) (sN LO HI 1) 0 _ (Nat.zero_add _) hI0
      rw [c3_j] at hI2
      refine q_iinc (v := (LO 0 + nI (e + 1))) (lv' := [(7, .int (LO 0 + nI (e + 1))), (0, .ref r), (1, .ref o), (2, .ref q), (3, .int (nI jd)), (4, .int kx), (5, .int rr), (6, .int what)]) X dX13_parts_171 7 rfl (lo_s) (by decide) rfl ?_
      refine q_goto X 8 dX13_parts_174 (by decide) ?_
      refine q_sub [1, 2, 3, 4, 5, 6, 7, 0] rfl ?_
      exact ih (e + 1) M2 (by omega) hI2
  refine q_aload_n X dX13_parts_0 2 rfl ?_
  refine q_get X hq rfl in_RX12 2 (by decide) tw_1159 rfl rfl dX13_parts_1 ?_
  refine q_iconst (v := 0) X dX13_parts_4 (by decide) ?_
  refine q_ialdN X 0 hla (rfl) (by decide) (by decide) dX13_parts_5 ?_
  rw [show LO 0 = LO 0 + nI 0 from lo_0.symm]
  refine q_istore (lv' := [(7, .int (LO 0 + nI (0))), (0, .ref r), (1, .ref o), (2, .ref q), (3, .int (nI jd)), (4, .int kx), (5, .int rr), (6, .int what)]) X dX13_parts_6 (by decide) rfl ?_
  refine q_sub [1, 2, 3, 4, 5, 6, 7, 0] rfl ?_
  exact L0 hfin (sN LO HI 0) 0 _ (Nat.zero_add _) ⟨tk, su, le, gr, by rw [c3_0, vF_0, zF_0, mU_id hA, mU_id hva, mU_id hza]⟩

theorem rg_row {w : vN} (h : okS (vm w) (vlo w) (vhi w)) {jd : Nat} (hjd : jd < vm w) {kn : Nat} (k1 : 1 ≤ kn) (k2 : kn ≤ 40) (hz : sz3 (rgLo w jd (nI kn)) (rgHi w jd (nI kn)) ≤ 4096) {e j k : Nat} (he : e < sN (rgLo w jd (nI kn)) (rgHi w jd (nI kn)) 0) (hj : j < sN (rgLo w jd (nI kn)) (rgHi w jd (nI kn)) 1) (hk : k < sN (rgLo w jd (nI kn)) (rgHi w jd (nI kn)) 2) : rowOk w (rgLo w jd (nI kn)) (rgHi w jd (nI kn)) jd 1 (nI kn) (pck (nI jd) (rgLo w jd (nI kn) 0 + nI e) (rgLo w jd (nI kn) 1 + nI j) (rgLo w jd (nI kn) 2 + nI k) * nI kn - 0) kn (c3 (sN (rgLo w jd (nI kn)) (rgHi w jd (nI kn)) 1) (sN (rgLo w jd (nI kn)) (rgHi w jd (nI kn)) 2) e j k) := by
  have m3 := h.2.1
  have hj3 : jd < 3 := by omega
  have t : (nI kn).toInt = kn := nI_toInt (by omega)
  have a := h.2.2.1 jd hj3
  obtain ⟨o1, -, -⟩ := rg_ok h hjd (k := nI kn) (by omega) (by omega)
  have hp := fl_pl o1 hz hj3 he hj hk
  obtain ⟨f1, f2, f3, f4, f5, f6, f7⟩ := fK_regrid h hjd (k := nI kn) (by omega) (by omega) hz (c3_lt he hj hk) rfl
  rw [← hp, Int32.sub_zero]
  have f3 : (sPlace (rgLo w jd (nI kn)) (rgHi w jd (nI kn)) (nI (c3 (sN (rgLo w jd (nI kn)) (rgHi w jd (nI kn)) 1) (sN (rgLo w jd (nI kn)) (rgHi w jd (nI kn)) 2) e j k)) (nI jd) * nI kn).toInt = _ := f3
  exact ⟨⟨by rw [f3]; omega, by rw [f3]; omega⟩, by rw [f3]; exact f1, by rw [f3, f2, t], by rw [f2]; omega⟩
theorem wn_row {w : vN} (h : okS (vm w) (vlo w) (vhi w)) (hz : sz3 (vlo w) (vhi w) ≤ 4096) {jd : Nat} (hjd : jd < vm w) {rn : Nat} (k2 : rn ≤ 40) {e j k : Nat} (he : e < sN (vlo w) (vhi w) 0) (hj : j < sN (vlo w) (vhi w) 1) (hk : k < sN (vlo w) (vhi w) 2) : rowOk w (vlo w) (vhi w) jd 2 (nI rn) (pck (nI jd) (vlo w 0 + nI e) (vlo w 1 + nI j) (vlo w 2 + nI k) * 1 - nI rn) (2 * rn + 1) (c3 (sN (vlo w) (vhi w) 1) (sN (vlo w) (vhi w) 2) e j k) := by
  have m3 := h.2.1
  have hj3 : jd < 3 := by omega
  have t : (nI rn).toInt = rn := nI_toInt (by omega)
  have a := h.2.2.1 jd hj3
  have hp := fl_pl h hz hj3 he hj hk
  obtain ⟨f1, f2, f3, f4⟩ := fK_window h hz hj3 (c3_lt he hj hk) (r := nI rn) (by omega) (by omega)
  rw [← hp, Int32.mul_one]
  have e : (sPlace (vlo w) (vhi w) (nI (c3 (sN (vlo w) (vhi w) 1) (sN (vlo w) (vhi w) 2) e j k)) (nI jd) - nI rn).toInt = (pl3 (vlo w) (vhi w) (c3 (sN (vlo w) (vhi w) 1) (sN (vlo w) (vhi w) 2) e j k) (nI jd)).toInt - rn := by
    show (pl3 (vlo w) (vhi w) (c3 (sN (vlo w) (vhi w) 1) (sN (vlo w) (vhi w) 2) e j k) (nI jd) - nI rn).toInt = _
    rw [i_sub (by omega) (by omega), t]
  exact ⟨⟨by rw [e]; omega, by rw [e]; omega⟩, by rw [e, f1, t], by rw [e, f2, t]; omega, by rw [f2]; omega⟩
theorem hAL_r {x : Int32} {kn : Nat} : x + nI kn + 0 = x - 0 + nI kn := by rw [Int32.add_zero, Int32.sub_zero]
theorem hAL_a {x a : Int32} : x + 1 + a = x - a + (a + a + 1) := by
  rw [Int32.add_assoc a a 1, ← Int32.add_assoc (x - a), Int32.sub_add_cancel, Int32.add_comm a 1, Int32.add_assoc]
theorem hAL_w {x : Int32} {rn : Nat} : x + 1 + nI rn = x - nI rn + nI (2 * rn + 1) := by
  rw [hAL_a, show 2 * rn + 1 = rn + rn + 1 by omega, ← nI_1, ← nI_add]
theorem k_in {k : Int32} (h1 : ¬ k < 1) (h2 : ¬ 40 < k) : ∃ kn : Nat, 1 ≤ kn ∧ kn ≤ 40 ∧ k = nI kn := by
  rw [Int32.lt_iff_toInt_lt] at h1 h2
  have e1 : (1 : Int32).toInt = 1 := by decide
  have e2 : (40 : Int32).toInt = 40 := by decide
  exact ⟨k.toInt.toNat, by omega, by omega, i_nI (by omega)⟩
theorem r_in {k : Int32} (h1 : ¬ k < 0) (h2 : ¬ 40 < k) : ∃ kn : Nat, kn ≤ 40 ∧ k = nI kn := by
  rw [Int32.lt_iff_toInt_lt] at h1 h2
  have e2 : (40 : Int32).toInt = 40 := by decide
  rw [z_toInt] at h1
  exact ⟨k.toInt.toNat, by omega, i_nI (by omega)⟩

set_option maxRecDepth 20000 in
theorem r_regrid {l : Launch} {G : gV} {M : gMem} {r : Nat} {e : Int32} {σ : sA} (hW : gvW σ) (hR : isRF G M r e σ) {a d kk what : Int32} : qC l G yX13_regrid cX13_regrid 7 (some .int) 7 5 4108 [.ref r, .int a, .int d, .int kk, .int what] M (rfP G r cOp (some (.int 0)) (sp_regrid σ a d kk what)) := by
  refine qC_of (by decide +kernel) (Nat.le_of_ble_eq_true rfl) (fun F hF X hr hn => ?_)
  subst hF
  have X : qX G F cX13_regrid 7 RX13 7 := X
  obtain ⟨vA, nA, pA, plA, dg, dla, dha, dva, dza, dvf, dzf, vf, nf, pf, tk, su, le, gr, hB⟩ := hR
  have hl150 := hW.1.2.2.2.2.1
  have hl41 := hW.1.2.2.2.1
  have tail : ∀ (M : gMem) (i : Nat) (w : vN) (hB : rfB G M r 0 σ vA nA pA plA dg dla dha dva dza dvf dzf vf nf pf tk su le gr) (hi : (aN σ)[i]? = some w) (hw : vOk w) (h150 : (aN σ).length < 150) (jd kn : Nat) (hjd : jd < vm w) (hk1 : 1 ≤ kn) (hk2 : kn ≤ 40) (specE : sp_regrid σ (nI i) (nI jd) (nI kn) what = gLim σ (rgLo w jd (nI kn)) (rgHi w jd (nI kn)) (nI (vdp w)) (oN σ (vm w, (rgLo w jd (nI kn)), (rgHi w jd (nI kn)), vdp w + 1, foD w (rgLo w jd (nI kn)) (rgHi w jd (nI kn)) (nI jd) 1 (nI kn) what))), qJ G F (qQ G F (rfP G r cOp (some (.int 0)) (sp_regrid σ (nI i) (nI jd) (nI kn) what))) 7 M 5 4108 55 [(0, .ref r), (1, .int (nI i)), (2, .int (nI jd)), (3, .int (nI kn)), (4, .int what)] [] := by
    intro M i w hB hi hw h150 jd kn hjd hk1 hk2 specE
    obtain ⟨o, hnfo, ola, oha, ova, oza, ovf, ozf, hO, bo1, bo2, bo3, bo4⟩ := hB.2.2.2.2.2.2.2.2.1 i w hi
    have hi150 : i < 150 := Nat.lt_of_lt_of_le (List.getElem?_eq_some_iff.mp hi).1 (by omega)
    obtain ⟨pl0, hpl0⟩ := hB.2.2.2.2.1
    have hd40 := hw.2.2
    have hm3 := hw.1.2.1
    have hj3 : jd < 3 := by omega
    have kn0 : ¬ nI kn = 0 := fun z => by have := nI_inj (by omega) (by decide) (show nI kn = nI 0 from z); omega
    obtain ⟨hok, -, -⟩ := rg_ok hw.1 hjd (k := nI kn) (by rw [nI_toInt (by omega)]; omega) (by rw [nI_toInt (by omega)]; omega)
    obtain ⟨LO, eLO⟩ : ∃ LO, LO = rgLo w jd (nI kn) := ⟨_, rfl⟩
    obtain ⟨HI, eHI⟩ : ∃ HI, HI = rgHi w jd (nI kn) := ⟨_, rfl⟩
    rw [← eLO, ← eHI] at hok
    have uLO : upd (vlo w) jd (fdI (vlo w jd) (nI kn)) = LO := by rw [eLO]; unfold rgLo; rw [rpl3_N jd hj3 rfl, s3_N jd hj3 rfl]
    have uHI : upd (vhi w) jd (fdI (vhi w jd) (nI kn)) = HI := by rw [eHI]; unfold rgHi; rw [rpl3_N jd hj3 rfl, s3_N jd hj3 rfl]
    rw [← eLO, ← eHI] at specE
    have hLH : ∀ e, e < 3 → e ≠ jd → LO e = vlo w e ∧ HI e = vhi w e := fun e _ h => by rw [← uLO, ← uHI]; exact ⟨if_neg h, if_neg h⟩
    refine q_aload_n X dX13_regrid_55 0 rfl ?_
    refine q_get X hB.1 rfl in_RX13 2 (by decide) tw_1196 rfl rfl dX13_regrid_56 ?_
    refine q_iload_n X dX13_regrid_59 1 rfl ?_
    refine q_gald X i hB.2.2.1 (rfl) (hi150) (by decide) hnfo dX13_regrid_60 ?_
    refine q_astore (lv' := [(5, .ref o), (0, .ref r), (1, .int (nI i)), (2, .int (nI jd)), (3, .int (nI kn)), (4, .int what)]) X dX13_regrid_61 (by decide) rfl ?_
    refine q_aload X dX13_regrid_63 0 rfl ?_
    refine q_aload X dX13_regrid_65 0 rfl ?_
    refine q_get X hO.1 rfl in_RX12 1 (by decide) tw_1157 rfl rfl dX13_regrid_67 ?_
    refine q_iconst (v := 1) X dX13_regrid_70 (by decide) ?_
    refine q_iadd X dX13_regrid_71 ?_
    rw [nI_1]
    refine q_callS X (c_like hO.1 hO.2.1 hO.2.2.1) Y_X13_like tw_1336 tw_1337 (by omega) rfl rfl (Nat.le_of_ble_eq_true rfl) (rc' := 2) (rs' := 4096) (by omega) (by omega) dX13_regrid_72 (fun v M' hp _ => ?_)
    obtain ⟨q, la, ha, rfl, fq, fla, fha, llh, llq, lhq, hq1, hla1, hha1, ev1⟩ := hp
    generalize M' = M1 at *
    have m_1 : M1 r = some (oB 13 [.int 0, .ref vA, .ref nA, .ref pA, .ref plA, .ref dg, .int (nI (aV σ).length), .int (nI (aN σ).length), .int (nI (aOf σ)), .int (nI (aBg σ)), .int tk, .long su, .long le, .long gr]) := ev1.keep hB.1 id
    have m_2 : M1 nA = some (aG G 150 nf) := ev1.keep hB.2.2.1 id
    have m_3 : M1 o = some (oB 12 [.int (nI (vm w)), .int (nI (vdp w)), .ref ola, .ref oha, .ref ova, .ref oza]) := ev1.keep hO.1 id
    have m_4 : M1 ola = some (aI G 3 (vlo w)) := ev1.keep hO.2.1 id
    have m_5 : M1 oha = some (aI G 3 (vhi w)) := ev1.keep hO.2.2.1 id
    have m_6 : M1 ova = some (aJ G (wsz w) ovf) := ev1.keep hO.2.2.2.1 id
    have m_7 : M1 oza = some (aZ G (wsz w) ozf) := ev1.keep hO.2.2.2.2.1 id
    have m_8 : M1 plA = some (aI G 3 pl0) := ev1.keep hpl0 id
    have evK1 : mEv (fun x => x = r ∨ x = plA) M M1 := ev1.mono (fun _ _ z => z.elim)
    show qJ G F _ 7 M1 2 4096 75 [(5, .ref o), (0, .ref r), (1, .int (nI i)), (2, .int (nI jd)), (3, .int (nI kn)), (4, .int what)] [.ref q]
    refine q_astore (lv' := [(6, .ref q), (5, .ref o), (0, .ref r), (1, .int (nI i)), (2, .int (nI jd)), (3, .int (nI kn)), (4, .int what)]) X dX13_regrid_75 (by decide) rfl ?_
    refine q_aload X dX13_regrid_77 0 rfl ?_
    refine q_get X hq1 rfl in_RX12 2 (by decide) tw_1159 rfl rfl dX13_regrid_79 ?_
    refine q_iload_n X dX13_regrid_82 4 rfl ?_
    refine q_aload X dX13_regrid_83 1 rfl ?_
    refine q_get X m_3 rfl in_RX12 2 (by decide) tw_1159 rfl rfl dX13_regrid_85 ?_
    refine q_iload_n X dX13_regrid_88 4 rfl ?_
    refine q_ialdN X jd m_4 (rfl) (hj3) (by decide) dX13_regrid_89 ?_
    refine q_iload_n X dX13_regrid_90 5 rfl ?_
    refine q_callSp X (c_J9_floorDiv_7cf53 kn0) Y_J9_floorDiv_7cf53 tw_1429 tw_886 (by omega) rfl rfl (Nat.le_of_ble_eq_true rfl) dX13_regrid_91 ?_
    refine q_iastN X jd hla1 (rfl) (hj3) (by decide) dX13_regrid_94 ?_
    have m_9 : (mU M1 la (aI G 3 (upd (vlo w) jd (fdI ((vlo w) jd) (nI kn))))) r = some (oB 13 [.int 0, .ref vA, .ref nA, .ref pA, .ref plA, .ref dg, .int (nI (aV σ).length), .int (nI (aN σ).length), .int (nI (aOf σ)), .int (nI (aBg σ)), .int tk, .long su, .long le, .long gr]) := (mU_n (g_nef hB.1 fla)).trans m_1
    have m_10 : (mU M1 la (aI G 3 (upd (vlo w) jd (fdI ((vlo w) jd) (nI kn))))) nA = some (aG G 150 nf) := (mU_n (g_nef hB.2.2.1 fla)).trans m_2
    have m_11 : (mU M1 la (aI G 3 (upd (vlo w) jd (fdI ((vlo w) jd) (nI kn))))) o = some (oB 12 [.int (nI (vm w)), .int (nI (vdp w)), .ref ola, .ref oha, .ref ova, .ref oza]) := (mU_n (g_nef hO.1 fla)).trans m_3
    have m_12 : (mU M1 la (aI G 3 (upd (vlo w) jd (fdI ((vlo w) jd) (nI kn))))) ola = some (aI G 3 (vlo w)) := (mU_n (g_nef hO.2.1 fla)).trans m_4
    have m_13 : (mU M1 la (aI G 3 (upd (vlo w) jd (fdI ((vlo w) jd) (nI kn))))) oha = some (aI G 3 (vhi w)) := (mU_n (g_nef hO.2.2.1 fla)).trans m_5
    have m_14 : (mU M1 la (aI G 3 (upd (vlo w) jd (fdI ((vlo w) jd) (nI kn))))) ova = some (aJ G (wsz w) ovf) := (mU_n (g_nef hO.2.2.2.1 fla)).trans m_6
    have m_15 : (mU M1 la (aI G 3 (upd (vlo w) jd (fdI ((vlo w) jd) (nI kn))))) oza = some (aZ G (wsz w) ozf) := (mU_n (g_nef hO.2.2.2.2.1 fla)).trans m_7
    have m_16 : (mU M1 la (aI G 3 (upd (vlo w) jd (fdI ((vlo w) jd) (nI kn))))) plA = some (aI G 3 pl0) := (mU_n (g_nef hpl0 fla)).trans m_8
    have m_17 : (mU M1 la (aI G 3 (upd (vlo w) jd (fdI ((vlo w) jd) (nI kn))))) q = some (oB 12 [.int (nI (vm w)), .int (nI (vdp w + 1)), .ref la, .ref ha, .null, .null]) := (mU_n (Ne.symm (llq))).trans hq1
    have m_18 : (mU M1 la (aI G 3 (upd (vlo w) jd (fdI ((vlo w) jd) (nI kn))))) la = some (aI G 3 (upd (vlo w) jd (fdI ((vlo w) jd) (nI kn)))) := mU_s
    have m_19 : (mU M1 la (aI G 3 (upd (vlo w) jd (fdI ((vlo w) jd) (nI kn))))) ha = some (aI G 3 (vhi w)) := (mU_n (Ne.symm (llh))).trans hha1
    refine q_aload X dX13_regrid_95 0 rfl ?_
    refine q_get X m_17 rfl in_RX12 3 (by decide) tw_1161 rfl rfl dX13_regrid_97 ?_
    refine q_iload_n X dX13_regrid_100 4 rfl ?_
    refine q_aload X dX13_regrid_101 1 rfl ?_
    refine q_get X m_11 rfl in_RX12 3 (by decide) tw_1161 rfl rfl dX13_regrid_103 ?_
    refine q_iload_n X dX13_regrid_106 4 rfl ?_
    refine q_ialdN X jd m_13 (rfl) (hj3) (by decide) dX13_regrid_107 ?_
    refine q_iload_n X dX13_regrid_108 5 rfl ?_
    refine q_callSp X (c_J9_floorDiv_7cf53 kn0) Y_J9_floorDiv_7cf53 tw_1429 tw_886 (by omega) rfl rfl (Nat.le_of_ble_eq_true rfl) dX13_regrid_109 ?_
    refine q_iastN X jd m_19 (rfl) (hj3) (by decide) dX13_regrid_112 ?_
    have m_20 : (mU (mU M1 la (aI G 3 (upd (vlo w) jd (fdI ((vlo w) jd) (nI kn))))) ha (aI G 3 (upd (vhi w) jd (fdI ((vhi w) jd) (nI kn))))) r = some (oB 13 [.int 0, .ref vA, .ref nA, .ref pA, .ref plA, .ref dg, .int (nI (aV σ).length), .int (nI (aN σ).length), .int (nI (aOf σ)), .int (nI (aBg σ)), .int tk, .long su, .long le, .long gr]) := (mU_n (g_nef hB.1 fha)).trans m_9
    have m_21 : (mU (mU M1 la (aI G 3 (upd (vlo w) jd (fdI ((vlo w) jd) (nI kn))))) ha (aI G 3 (upd (vhi w) jd (fdI ((vhi w) jd) (nI kn))))) nA = some (aG G 150 nf) := (mU_n (g_nef hB.2.2.1 fha)).trans m_10
    have m_22 : (mU (mU M1 la (aI G 3 (upd (vlo w) jd (fdI ((vlo w) jd) (nI kn))))) ha (aI G 3 (upd (vhi w) jd (fdI ((vhi w) jd) (nI kn))))) o = some (oB 12 [.int (nI (vm w)), .int (nI (vdp w)), .ref ola, .ref oha, .ref ova, .ref oza]) := (mU_n (g_nef hO.1 fha)).trans m_11
    have m_23 : (mU (mU M1 la (aI G 3 (upd (vlo w) jd (fdI ((vlo w) jd) (nI kn))))) ha (aI G 3 (upd (vhi w) jd (fdI ((vhi w) jd) (nI kn))))) ola = some (aI G 3 (vlo w)) := (mU_n (g_nef hO.2.1 fha)).trans m_12
    have m_24 : (mU (mU M1 la (aI G 3 (upd (vlo w) jd (fdI ((vlo w) jd) (nI kn))))) ha (aI G 3 (upd (vhi w) jd (fdI ((vhi w) jd) (nI kn))))) oha = some (aI G 3 (vhi w)) := (mU_n (g_nef hO.2.2.1 fha)).trans m_13
    have m_25 : (mU (mU M1 la (aI G 3 (upd (vlo w) jd (fdI ((vlo w) jd) (nI kn))))) ha (aI G 3 (upd (vhi w) jd (fdI ((vhi w) jd) (nI kn))))) ova = some (aJ G (wsz w) ovf) := (mU_n (g_nef hO.2.2.2.1 fha)).trans m_14
    have m_26 : (mU (mU M1 la (aI G 3 (upd (vlo w) jd (fdI ((vlo w) jd) (nI kn))))) ha (aI G 3 (upd (vhi w) jd (fdI ((vhi w) jd) (nI kn))))) oza = some (aZ G (wsz w) ozf) := (mU_n (g_nef hO.2.2.2.2.1 fha)).trans m_15
    have m_27 : (mU (mU M1 la (aI G 3 (upd (vlo w) jd (fdI ((vlo w) jd) (nI kn))))) ha (aI G 3 (upd (vhi w) jd (fdI ((vhi w) jd) (nI kn))))) plA = some (aI G 3 pl0) := (mU_n (g_nef hpl0 fha)).trans m_16
    have m_28 : (mU (mU M1 la (aI G 3 (upd (vlo w) jd (fdI ((vlo w) jd) (nI kn))))) ha (aI G 3 (upd (vhi w) jd (fdI ((vhi w) jd) (nI kn))))) q = some (oB 12 [.int (nI (vm w)), .int (nI (vdp w + 1)), .ref la, .ref ha, .null, .null]) := (mU_n (Ne.symm (lhq))).trans m_17
    have m_29 : (mU (mU M1 la (aI G 3 (upd (vlo w) jd (fdI ((vlo w) jd) (nI kn))))) ha (aI G 3 (upd (vhi w) jd (fdI ((vhi w) jd) (nI kn))))) la = some (aI G 3 (upd (vlo w) jd (fdI ((vlo w) jd) (nI kn)))) := (mU_n (llh)).trans m_18
    have m_30 : (mU (mU M1 la (aI G 3 (upd (vlo w) jd (fdI ((vlo w) jd) (nI kn))))) ha (aI G 3 (upd (vhi w) jd (fdI ((vhi w) jd) (nI kn))))) ha = some (aI G 3 (upd (vhi w) jd (fdI ((vhi w) jd) (nI kn)))) := mU_s
    rw [uLO, uHI] at *
    have evM2 : mEv (fun x => x = r ∨ x = plA) M (mU (mU M1 la (aI G 3 LO)) ha (aI G 3 HI)) := fun x hx => by
      have wla : x ≠ la := fun z => hx (z ▸ fla)
      have wha : x ≠ ha := fun z => hx (z ▸ fha)
      have e1 := evK1 x hx
      have e : (mU (mU M1 la (aI G 3 LO)) ha (aI G 3 HI)) x = M1 x := by simp only [mU, wla, wha, if_false]
      exact ⟨by rw [e]; exact e1.1, fun k => e.trans (e1.2 k)⟩
    generalize mU (mU M1 la (aI G 3 LO)) ha (aI G 3 HI) = M2 at *
    refine q_aload_n X dX13_regrid_113 2 rfl ?_
    refine q_aload X dX13_regrid_114 0 rfl ?_
    have hB2 : rfB G M2 r 0 σ vA nA pA plA dg dla dha dva dza dvf dzf vf nf pf tk su le gr := hB.ev2 evM2 m_20 ⟨_, m_27⟩
    by_cases hlim : ¬ sWithin (LO) (HI) = 0 ∧ nI (vdp w) < 40
    · refine q_callV X (c_large_y hB2 hok hd40 m_28 m_29 m_30 hlim) Y_X13_large tw_1359 tw_1361 sel_32 m_20 rfl (by omega) rfl rfl (Nat.le_of_ble_eq_true rfl) (rc' := 2) (rs' := 4096) (by omega) (by omega) dX13_regrid_116 (fun v M' hp _ => ?_)
      obtain ⟨rfl, eM⟩ := hp
      have m_31 : M' r = some (oB 13 [.int 0, .ref vA, .ref nA, .ref pA, .ref plA, .ref dg, .int (nI (aV σ).length), .int (nI (aN σ).length), .int (nI (aOf σ)), .int (nI (aBg σ)), .int tk, .long su, .long le, .long gr]) := by rw [eM]; exact mU_s
      have m_32 : M' nA = some (aG G 150 nf) := by rw [eM]; exact (mU_n (Ne.symm (g_neoa m_20 m_21))).trans m_21
      have m_33 : M' o = some (oB 12 [.int (nI (vm w)), .int (nI (vdp w)), .ref ola, .ref oha, .ref ova, .ref oza]) := by rw [eM]; exact (mU_n (g_neoo m_22 m_20 (by decide))).trans m_22
      have m_34 : M' ola = some (aI G 3 (vlo w)) := by rw [eM]; exact (mU_n (Ne.symm (g_neoa m_20 m_23))).trans m_23
      have m_35 : M' oha = some (aI G 3 (vhi w)) := by rw [eM]; exact (mU_n (Ne.symm (g_neoa m_20 m_24))).trans m_24
      have m_36 : M' ova = some (aJ G (wsz w) ovf) := by rw [eM]; exact (mU_n (Ne.symm (g_neoa m_20 m_25))).trans m_25
      have m_37 : M' oza = some (aZ G (wsz w) ozf) := by rw [eM]; exact (mU_n (Ne.symm (g_neoa m_20 m_26))).trans m_26
      have m_38 : M' plA = some (aI G 3 pl0) := by rw [eM]; exact (mU_n (Ne.symm (g_neoa m_20 m_27))).trans m_27
      have m_39 : M' q = some (oB 12 [.int (nI (vm w)), .int (nI (vdp w + 1)), .ref la, .ref ha, .null, .null]) := by rw [eM]; exact (mU_n (Ne.symm (g_nef hB.1 fq))).trans m_28
      have m_40 : M' la = some (aI G 3 LO) := by rw [eM]; exact (mU_n (Ne.symm (g_nef hB.1 fla))).trans m_29
      have m_41 : M' ha = some (aI G 3 HI) := by rw [eM]; exact (mU_n (Ne.symm (g_nef hB.1 fha))).trans m_30
      have evK3 : mEv (fun x => x = r ∨ x = plA) M M' := by rw [eM]; exact evM2.trans (mEv_upd (K := (fun x => x = r ∨ x = plA)) (Or.inl rfl))
      have hB3 : rfB G M' r 0 σ vA nA pA plA dg dla dha dva dza dvf dzf vf nf pf tk su le gr := by rw [eM]; exact hB2.ro
      clear eM
      generalize M' = M3 at *
      show qJ G F _ 7 M3 2 4096 119 [(6, .ref q), (5, .ref o), (0, .ref r), (1, .int (nI i)), (2, .int (nI jd)), (3, .int (nI kn)), (4, .int what)] [.int 0]
      refine q_if_eq X 124 dX13_regrid_119 (by decide) (fun c_42 => ?_) (fun c_42 => absurd (by decide) c_42)
      have hw2 : sz3 LO HI ≤ 2048 := (within_ok hok hlim.1).2
      refine q_aload X dX13_regrid_124 0 rfl ?_
      refine q_callV X (c_X12_make (n := sz3 LO HI) m_39 m_40 m_41 hok.size (by omega)) Y_X12_make tw_1179 tw_1180 tw_1181 m_39 rfl (by omega) rfl rfl (Nat.le_of_ble_eq_true rfl) (rc' := 0) (rs' := 0) (by omega) (by omega) dX13_regrid_126 (fun v M' hp _ => ?_)
      obtain ⟨rfl, va, za, fva3, fza3, lvz, hq4, hva4, hza4, ev4⟩ := hp
      generalize M' = M4 at *
      have fva : M va = none := evK3.none fva3
      have fza : M za = none := evK3.none fza3
      have m_43 : M4 r = some (oB 13 [.int 0, .ref vA, .ref nA, .ref pA, .ref plA, .ref dg, .int (nI (aV σ).length), .int (nI (aN σ).length), .int (nI (aOf σ)), .int (nI (aBg σ)), .int tk, .long su, .long le, .long gr]) := ev4.keep m_31 (g_nef hB.1 fq)
      have m_44 : M4 nA = some (aG G 150 nf) := ev4.keep m_32 (g_nef hB.2.2.1 fq)
      have m_45 : M4 o = some (oB 12 [.int (nI (vm w)), .int (nI (vdp w)), .ref ola, .ref oha, .ref ova, .ref oza]) := ev4.keep m_33 (g_nef hO.1 fq)
      have m_46 : M4 ola = some (aI G 3 (vlo w)) := ev4.keep m_34 (g_nef hO.2.1 fq)
      have m_47 : M4 oha = some (aI G 3 (vhi w)) := ev4.keep m_35 (g_nef hO.2.2.1 fq)
      have m_48 : M4 ova = some (aJ G (wsz w) ovf) := ev4.keep m_36 (g_nef hO.2.2.2.1 fq)
      have m_49 : M4 oza = some (aZ G (wsz w) ozf) := ev4.keep m_37 (g_nef hO.2.2.2.2.1 fq)
      have m_50 : M4 plA = some (aI G 3 pl0) := ev4.keep m_38 (g_nef hpl0 fq)
      have m_51 : M4 la = some (aI G 3 LO) := ev4.keep m_40 (llq)
      have m_52 : M4 ha = some (aI G 3 HI) := ev4.keep m_41 (lhq)
      have evK4 : mEv (fun x => x = r ∨ x = plA) M M4 := fun x hx => by
        have wq : x ≠ q := fun z => hx (z ▸ fq)
        have e1 := evK3 x hx
        have e2 := ev4 x e1.1
        exact ⟨e2.1, fun k => (e2.2 wq).trans (e1.2 k)⟩
      have hB4 : rfB G M4 r 0 σ vA nA pA plA dg dla dha dva dza dvf dzf vf nf pf tk su le gr := hB.ev2 evK4 m_43 ⟨_, m_50⟩
      show qJ G F _ 7 M4 0 0 129 [(6, .ref q), (5, .ref o), (0, .ref r), (1, .int (nI i)), (2, .int (nI jd)), (3, .int (nI kn)), (4, .int what)] []
      refine q_aload_n X dX13_regrid_129 2 rfl ?_
      refine q_aload X dX13_regrid_130 1 rfl ?_
      refine q_aload X dX13_regrid_132 0 rfl ?_
      refine q_iload_n X dX13_regrid_134 4 rfl ?_
      refine q_iload_n X dX13_regrid_135 5 rfl ?_
      refine q_iconst (v := 0) X dX13_regrid_136 (by decide) ?_
      refine q_iload X dX13_regrid_137 6 rfl ?_
      refine q_callV X (c_parts (n := sz3 LO HI) (L := kn) (kind := 1) (reach := nI kn) m_43 hw ⟨m_45, m_46, m_47, m_48, m_49, hO.2.2.2.2.2⟩ hq4 m_51 m_52 hva4 hza4 (g_nef m_36 fva3) (g_nef m_37 fza3) hok rfl (by omega) hjd hLH (by decide) (fun x => hAL_r) (by omega) (fun e j k he hj hk => by subst eLO; subst eHI; exact rg_row hw.1 hjd hk1 hk2 (by omega) he hj hk)) Y_X13_parts tw_1430 tw_1432 sel_38 m_43 rfl (by omega) rfl rfl (Nat.le_of_ble_eq_true rfl) (rc' := 0) (rs' := 0) (Nat.le_refl _) (Nat.le_refl _) dX13_regrid_139 (fun v M' hp _ => ?_)
      obtain ⟨rfl, tk9, su9, le9, gr9, eM⟩ := hp
      generalize M' = M5 at *
      have rva : r ≠ va := g_neoa m_43 hva4
      have rza : r ≠ za := g_neoa m_43 hza4
      have hcI := cI_ne X
      have kr5 : M5 r = some (rfO 0 vA nA pA plA dg σ tk9 su9 le9 gr9) := by rw [eM]; exact (mU_n rza).trans ((mU_n rva).trans mU_s)
      have kq5 : M5 q = some (oB 12 [.int (nI (vm w)), .int (nI (vdp w + 1)), .ref la, .ref ha, .ref va, .ref za]) := by rw [eM]; exact (mU_n (g_neoa hq4 hza4)).trans ((mU_n (g_neoa hq4 hva4)).trans ((mU_n (g_neoo hq4 m_43 (by decide))).trans hq4))
      have kla5 : M5 la = some (aI G 3 LO) := by rw [eM]; exact (mU_n (g_neIZ hcI m_51 hza4)).trans ((mU_n (g_neaa m_51 hva4 (fun z => by simp at z))).trans ((mU_n (Ne.symm (g_neoa m_43 m_51))).trans m_51))
      have kha5 : M5 ha = some (aI G 3 HI) := by rw [eM]; exact (mU_n (g_neIZ hcI m_52 hza4)).trans ((mU_n (g_neaa m_52 hva4 (fun z => by simp at z))).trans ((mU_n (Ne.symm (g_neoa m_43 m_52))).trans m_52))
      have kplA5 : M5 plA = some (aI G 3 pl0) := by rw [eM]; exact (mU_n (g_neIZ hcI m_50 hza4)).trans ((mU_n (g_neaa m_50 hva4 (fun z => by simp at z))).trans ((mU_n (Ne.symm (g_neoa m_43 m_50))).trans m_50))
      have kva5 : M5 va = some (aJ G (sz3 LO HI) (vF (foD w LO HI (nI jd) 1 (nI kn) what) (sz3 LO HI))) := by rw [eM]; exact (mU_n lvz).trans mU_s
      have kza5 : M5 za = some (aZ G (sz3 LO HI) (zF (foD w LO HI (nI jd) 1 (nI kn) what) (sz3 LO HI))) := by rw [eM]; exact mU_s
      have evz : mEv (fun x => x = r ∨ x = plA) M M5 := fun x hx => by
        have w1 : x ≠ va := fun z => hx (z ▸ fva)
        have w2 : x ≠ za := fun z => hx (z ▸ fza)
        have e1 := evK4 x hx
        by_cases w4 : x = r
        · rw [w4]; exact ⟨g_so kr5, fun k => absurd (Or.inl rfl) k⟩
        have e : M5 x = M4 x := by rw [eM]; exact (mU_n w2).trans ((mU_n w1).trans (mU_n w4))
        exact ⟨by rw [e]; exact e1.1, fun k => e.trans (e1.2 k)⟩
      have hBz : rfB G M5 r 0 σ vA nA pA plA dg dla dha dva dza dvf dzf vf nf pf tk9 su9 le9 gr9 := hB.ev2 evz kr5 ⟨_, kplA5⟩
      have nb : ∀ {x : Nat}, M x = none → ¬ rBad plA pA dva dza x := fun h z => by
        rcases z with z | z | z | z
        · rw [z, hpl0] at h; cases h
        · rw [z, hB.2.2.2.1] at h; cases h
        · rw [z, hB.2.2.2.2.2.1.2.2.2.1] at h; cases h
        · rw [z, hB.2.2.2.2.2.1.2.2.2.2.1] at h; cases h
      have hg : isGrd G M5 (rBad plA pA dva dza) q (vm w, LO, HI, vdp w + 1, (foD w LO HI (nI jd) 1 (nI kn) what)) := grd_mk kq5 kla5 kha5 kva5 kza5 (gCt_F (foD w LO HI (nI jd) 1 (nI kn) what) (sz3 LO HI)) (nb fla) (nb fha) (nb fva) (nb fza)
      show qJ G F _ 7 M5 0 0 142 [(6, .ref q), (5, .ref o), (0, .ref r), (1, .int (nI i)), (2, .int (nI jd)), (3, .int (nI kn)), (4, .int what)] []
      refine q_aload_n X dX13_regrid_142 2 rfl ?_
      refine q_aload X dX13_regrid_143 0 rfl ?_
      refine q_callV X (c_made hBz hg h150) Y_X13_made tw_1339 tw_1341 sel_28 kr5 rfl (by omega) rfl rfl (Nat.le_of_ble_eq_true rfl) (rc' := 0) (rs' := 0) (Nat.le_refl _) (Nat.le_refl _) dX13_regrid_145 (fun v M' hp _ => ?_)
      obtain ⟨rfl, hz9⟩ := hp
      generalize M' = M9 at *
      show qJ G F _ 7 M9 0 0 148 [(6, .ref q), (5, .ref o), (0, .ref r), (1, .int (nI i)), (2, .int (nI jd)), (3, .int (nI kn)), (4, .int what)] [.int (nI (aN σ).length)]
      exact q_iret X hr dX13_regrid_148 (rfP_K (by rw [specE]; exact gLim_y hlim) hz9)
    · refine q_callV X (c_large_n hB2 hok hd40 m_28 m_29 m_30 hlim) Y_X13_large tw_1359 tw_1361 sel_32 m_20 rfl (by omega) rfl rfl (Nat.le_of_ble_eq_true rfl) (rc' := 2) (rs' := 4096) (by omega) (by omega) dX13_regrid_116 (fun v M' hp _ => ?_)
      obtain ⟨rfl, eM⟩ := hp
      have m_53 : M' r = some (oB 13 [.int 3, .ref vA, .ref nA, .ref pA, .ref plA, .ref dg, .int (nI (aV σ).length), .int (nI (aN σ).length), .int (nI (aOf σ)), .int (nI (aBg σ)), .int tk, .long su, .long le, .long gr]) := by rw [eM]; exact mU_s
      have m_54 : M' nA = some (aG G 150 nf) := by rw [eM]; exact (mU_n (Ne.symm (g_neoa m_20 m_21))).trans m_21
      have m_55 : M' o = some (oB 12 [.int (nI (vm w)), .int (nI (vdp w)), .ref ola, .ref oha, .ref ova, .ref oza]) := by rw [eM]; exact (mU_n (g_neoo m_22 m_20 (by decide))).trans m_22
      have m_56 : M' ola = some (aI G 3 (vlo w)) := by rw [eM]; exact (mU_n (Ne.symm (g_neoa m_20 m_23))).trans m_23
      have m_57 : M' oha = some (aI G 3 (vhi w)) := by rw [eM]; exact (mU_n (Ne.symm (g_neoa m_20 m_24))).trans m_24
      have m_58 : M' ova = some (aJ G (wsz w) ovf) := by rw [eM]; exact (mU_n (Ne.symm (g_neoa m_20 m_25))).trans m_25
      have m_59 : M' oza = some (aZ G (wsz w) ozf) := by rw [eM]; exact (mU_n (Ne.symm (g_neoa m_20 m_26))).trans m_26
      have m_60 : M' plA = some (aI G 3 pl0) := by rw [eM]; exact (mU_n (Ne.symm (g_neoa m_20 m_27))).trans m_27
      have m_61 : M' q = some (oB 12 [.int (nI (vm w)), .int (nI (vdp w + 1)), .ref la, .ref ha, .null, .null]) := by rw [eM]; exact (mU_n (Ne.symm (g_nef hB.1 fq))).trans m_28
      have m_62 : M' la = some (aI G 3 LO) := by rw [eM]; exact (mU_n (Ne.symm (g_nef hB.1 fla))).trans m_29
      have m_63 : M' ha = some (aI G 3 HI) := by rw [eM]; exact (mU_n (Ne.symm (g_nef hB.1 fha))).trans m_30
      have evK3 : mEv (fun x => x = r ∨ x = plA) M M' := by rw [eM]; exact evM2.trans (mEv_upd (K := (fun x => x = r ∨ x = plA)) (Or.inl rfl))
      have hB3 : rfB G M' r 3 σ vA nA pA plA dg dla dha dva dza dvf dzf vf nf pf tk su le gr := by rw [eM]; exact hB2.ro
      clear eM
      generalize M' = M3 at *
      show qJ G F _ 7 M3 2 4096 119 [(6, .ref q), (5, .ref o), (0, .ref r), (1, .int (nI i)), (2, .int (nI jd)), (3, .int (nI kn)), (4, .int what)] [.int 1]
      refine q_if_eq X 124 dX13_regrid_119 (by decide) (fun c_64 => absurd c_64 (by decide)) (fun c_64 => ?_)
      refine q_iconst (v := 0) X dX13_regrid_122 (by decide) ?_
      exact q_iret X hr dX13_regrid_123 (rfP_T (by rw [specE]; exact gLim_n hlim) cOp_UO ⟨vA, nA, pA, plA, dg, dla, dha, dva, dza, dvf, dzf, vf, nf, pf, tk, su, le, gr, hB3⟩)
  show qJ G F _ 7 M 5 4108 0 [(0, .ref r), (1, .int a), (2, .int d), (3, .int kk), (4, .int what)] []
  refine q_aload_n X dX13_regrid_0 0 rfl ?_
  rcases Nat.lt_or_ge (aN σ).length 150 with q150 | q150
  · refine q_callV X (c_full_y hB q150) Y_X13_full tw_1332 tw_1334 sel_27 hB.1 rfl (by omega) rfl rfl (Nat.le_of_ble_eq_true rfl) (rc' := 5) (rs' := 4108) (by omega) (by omega) dX13_regrid_1 (fun v M' hp _ => ?_)
    obtain ⟨rfl, eM⟩ := hp
    have hB165 : rfB G M' r 0 σ vA nA pA plA dg dla dha dva dza dvf dzf vf nf pf tk su le gr := by rw [eM]; exact hB.ro
    clear eM
    generalize M' = M165 at *
    show qJ G F _ 7 M165 5 4108 4 [(0, .ref r), (1, .int a), (2, .int d), (3, .int kk), (4, .int what)] [.int 0]
    obtain ⟨z_66r, z_661, z_662, z_663, ⟨z_66x, z_664⟩, z_665, z_666, z_667, z_668, z_669, z_6610⟩ := id hB165
    refine q_if_eq X 9 dX13_regrid_4 (by decide) (fun c_67 => ?_) (fun c_67 => absurd (by decide) c_67)
    refine q_aload_n X dX13_regrid_9 0 rfl ?_
    refine q_aload_n X dX13_regrid_10 0 rfl ?_
    refine q_iload_n X dX13_regrid_11 1 rfl ?_
    refine q_iload_n X dX13_regrid_12 2 rfl ?_
    rcases hnd : ndAt σ a with _ | w
    · refine q_callVp X (c_noDim_n hB165 (by omega) hnd) Y_X13_noDim tw_1347 tw_1349 sel_29 z_66r rfl (by omega) rfl rfl (Nat.le_of_ble_eq_true rfl) dX13_regrid_13 ?_
      refine q_if_ne X 41 dX13_regrid_16 (by decide) (fun c16 => ?_) (fun c16 => absurd c16 (by decide))
      refine q_iconst (v := 1) X dX13_regrid_41 (by decide) ?_
      refine q_goto X 46 dX13_regrid_42 (by decide) ?_
      refine q_iconst (v := 1) X dX13_regrid_46 (by decide) ?_
      refine q_callV X (c_fails1 (why := 1) hB165.1) Y_X13_fails tw_1246 tw_1248 sel_23 z_66r rfl (by omega) rfl rfl (Nat.le_of_ble_eq_true rfl) (rc' := 5) (rs' := 4108) (by omega) (by omega) dX13_regrid_47 (fun v M' hp _ => ?_)
      obtain ⟨rfl, eM⟩ := hp
      have hB168 : rfB G M' r 1 σ vA nA pA plA dg dla dha dva dza dvf dzf vf nf pf tk su le gr := by rw [eM]; exact hB165.ro
      clear eM
      generalize M' = M168 at *
      show qJ G F _ 7 M168 5 4108 50 [(0, .ref r), (1, .int a), (2, .int d), (3, .int kk), (4, .int what)] [.int 1]
      obtain ⟨z_69r, z_691, z_692, z_693, ⟨z_69x, z_694⟩, z_695, z_696, z_697, z_698, z_699, z_6910⟩ := id hB168
      refine q_if_eq X 55 dX13_regrid_50 (by decide) (fun c_70 => absurd c_70 (by decide)) (fun c_70 => ?_)
      refine q_iconst (v := 0) X dX13_regrid_53 (by decide) ?_
      exact q_iret X hr dX13_regrid_54 (rfP_T ((gRoom_y q150).trans (gNode_n hnd)) cOp_IA ⟨vA, nA, pA, plA, dg, dla, dha, dva, dza, dvf, dzf, vf, nf, pf, tk, su, le, gr, hB168⟩)
    · obtain ⟨i, hi9, rfl, hi⟩ := ndAt_some hnd
      have hw := hW.2 i w hi
      have hi150 : i < 150 := by omega
      obtain ⟨o, hnfo, ola, oha, ova, oza, ovf, ozf, hO, bo1, bo2, bo3, bo4⟩ := hB165.2.2.2.2.2.2.2.2.1 i w hi
      refine q_callVp X (c_noDim_y hB165 hl150 hi) Y_X13_noDim tw_1347 tw_1349 sel_29 z_66r rfl (by omega) rfl rfl (Nat.le_of_ble_eq_true rfl) dX13_regrid_13 ?_
      refine q_if_ne X 41 dX13_regrid_16 (by decide) (fun c16 => ?_) (fun c16 => ?_)
      · refine q_iconst (v := 1) X dX13_regrid_41 (by decide) ?_
        refine q_goto X 46 dX13_regrid_42 (by decide) ?_
        refine q_iconst (v := 1) X dX13_regrid_46 (by decide) ?_
        refine q_callV X (c_fails1 (why := 1) hB165.1) Y_X13_fails tw_1246 tw_1248 sel_23 z_66r rfl (by omega) rfl rfl (Nat.le_of_ble_eq_true rfl) (rc' := 5) (rs' := 4108) (by omega) (by omega) dX13_regrid_47 (fun v M' hp _ => ?_)
        obtain ⟨rfl, eM⟩ := hp
        have hB171 : rfB G M' r 1 σ vA nA pA plA dg dla dha dva dza dvf dzf vf nf pf tk su le gr := by rw [eM]; exact hB165.ro
        clear eM
        generalize M' = M171 at *
        show qJ G F _ 7 M171 5 4108 50 [(0, .ref r), (1, .int (nI i)), (2, .int d), (3, .int kk), (4, .int what)] [.int 1]
        obtain ⟨z_72r, z_721, z_722, z_723, ⟨z_72x, z_724⟩, z_725, z_726, z_727, z_728, z_729, z_7210⟩ := id hB171
        refine q_if_eq X 55 dX13_regrid_50 (by decide) (fun c_73 => absurd c_73 (by decide)) (fun c_73 => ?_)
        refine q_iconst (v := 0) X dX13_regrid_53 (by decide) ?_
        exact q_iret X hr dX13_regrid_54 (rfP_T ((gRoom_y q150).trans ((gNode_y hnd).trans (gNeed_n (fun z => z.1 (Classical.not_not.mp (mt nHas_0.mpr c16)))))) cOp_IA ⟨vA, nA, pA, plA, dg, dla, dha, dva, dza, dvf, dzf, vf, nf, pf, tk, su, le, gr, hB171⟩)
      · obtain ⟨jd, hjd, rfl⟩ := sHas_in hw.1.2.1 (nHas_0.mp c16)
        have hj3 : jd < 3 := Nat.lt_of_lt_of_le hjd hw.1.2.1
        refine q_iload_n X dX13_regrid_19 3 rfl ?_
        refine q_iconst (v := 1) X dX13_regrid_20 (by decide) ?_
        refine q_icmp_lt X 41 dX13_regrid_21 (by decide) (fun c21 => ?_) (fun c21 => ?_)
        · refine q_iconst (v := 1) X dX13_regrid_41 (by decide) ?_
          refine q_goto X 46 dX13_regrid_42 (by decide) ?_
          refine q_iconst (v := 1) X dX13_regrid_46 (by decide) ?_
          refine q_callV X (c_fails1 (why := 1) hB165.1) Y_X13_fails tw_1246 tw_1248 sel_23 z_66r rfl (by omega) rfl rfl (Nat.le_of_ble_eq_true rfl) (rc' := 5) (rs' := 4108) (by omega) (by omega) dX13_regrid_47 (fun v M' hp _ => ?_)
          obtain ⟨rfl, eM⟩ := hp
          have hB174 : rfB G M' r 1 σ vA nA pA plA dg dla dha dva dza dvf dzf vf nf pf tk su le gr := by rw [eM]; exact hB165.ro
          clear eM
          generalize M' = M174 at *
          show qJ G F _ 7 M174 5 4108 50 [(0, .ref r), (1, .int (nI i)), (2, .int (nI jd)), (3, .int kk), (4, .int what)] [.int 1]
          obtain ⟨z_75r, z_751, z_752, z_753, ⟨z_75x, z_754⟩, z_755, z_756, z_757, z_758, z_759, z_7510⟩ := id hB174
          refine q_if_eq X 55 dX13_regrid_50 (by decide) (fun c_76 => absurd c_76 (by decide)) (fun c_76 => ?_)
          refine q_iconst (v := 0) X dX13_regrid_53 (by decide) ?_
          exact q_iret X hr dX13_regrid_54 (rfP_T ((gRoom_y q150).trans ((gNode_y hnd).trans (gNeed_n (fun z => z.2.1 c21)))) cOp_IA ⟨vA, nA, pA, plA, dg, dla, dha, dva, dza, dvf, dzf, vf, nf, pf, tk, su, le, gr, hB174⟩)
        · refine q_iload_n X dX13_regrid_24 3 rfl ?_
          refine q_bipush (v := 40) X dX13_regrid_25 (by decide) ?_
          refine q_icmp_gt X 41 dX13_regrid_27 (by decide) (fun c27 => ?_) (fun c27 => ?_)
          · refine q_iconst (v := 1) X dX13_regrid_41 (by decide) ?_
            refine q_goto X 46 dX13_regrid_42 (by decide) ?_
            refine q_iconst (v := 1) X dX13_regrid_46 (by decide) ?_
            refine q_callV X (c_fails1 (why := 1) hB165.1) Y_X13_fails tw_1246 tw_1248 sel_23 z_66r rfl (by omega) rfl rfl (Nat.le_of_ble_eq_true rfl) (rc' := 5) (rs' := 4108) (by omega) (by omega) dX13_regrid_47 (fun v M' hp _ => ?_)
            obtain ⟨rfl, eM⟩ := hp
            have hB177 : rfB G M' r 1 σ vA nA pA plA dg dla dha dva dza dvf dzf vf nf pf tk su le gr := by rw [eM]; exact hB165.ro
            clear eM
            generalize M' = M177 at *
            show qJ G F _ 7 M177 5 4108 50 [(0, .ref r), (1, .int (nI i)), (2, .int (nI jd)), (3, .int kk), (4, .int what)] [.int 1]
            obtain ⟨z_78r, z_781, z_782, z_783, ⟨z_78x, z_784⟩, z_785, z_786, z_787, z_788, z_789, z_7810⟩ := id hB177
            refine q_if_eq X 55 dX13_regrid_50 (by decide) (fun c_79 => absurd c_79 (by decide)) (fun c_79 => ?_)
            refine q_iconst (v := 0) X dX13_regrid_53 (by decide) ?_
            exact q_iret X hr dX13_regrid_54 (rfP_T ((gRoom_y q150).trans ((gNode_y hnd).trans (gNeed_n (fun z => z.2.2.1 c27)))) cOp_IA ⟨vA, nA, pA, plA, dg, dla, dha, dva, dza, dvf, dzf, vf, nf, pf, tk, su, le, gr, hB177⟩)
          · refine q_iload X dX13_regrid_30 4 rfl ?_
            refine q_if_lt X 41 dX13_regrid_32 (by decide) (fun c32 => ?_) (fun c32 => ?_)
            · refine q_iconst (v := 1) X dX13_regrid_41 (by decide) ?_
              refine q_goto X 46 dX13_regrid_42 (by decide) ?_
              refine q_iconst (v := 1) X dX13_regrid_46 (by decide) ?_
              refine q_callV X (c_fails1 (why := 1) hB165.1) Y_X13_fails tw_1246 tw_1248 sel_23 z_66r rfl (by omega) rfl rfl (Nat.le_of_ble_eq_true rfl) (rc' := 5) (rs' := 4108) (by omega) (by omega) dX13_regrid_47 (fun v M' hp _ => ?_)
              obtain ⟨rfl, eM⟩ := hp
              have hB180 : rfB G M' r 1 σ vA nA pA plA dg dla dha dva dza dvf dzf vf nf pf tk su le gr := by rw [eM]; exact hB165.ro
              clear eM
              generalize M' = M180 at *
              show qJ G F _ 7 M180 5 4108 50 [(0, .ref r), (1, .int (nI i)), (2, .int (nI jd)), (3, .int kk), (4, .int what)] [.int 1]
              obtain ⟨z_81r, z_811, z_812, z_813, ⟨z_81x, z_814⟩, z_815, z_816, z_817, z_818, z_819, z_8110⟩ := id hB180
              refine q_if_eq X 55 dX13_regrid_50 (by decide) (fun c_82 => absurd c_82 (by decide)) (fun c_82 => ?_)
              refine q_iconst (v := 0) X dX13_regrid_53 (by decide) ?_
              exact q_iret X hr dX13_regrid_54 (rfP_T ((gRoom_y q150).trans ((gNode_y hnd).trans (gNeed_n (fun z => z.2.2.2 (tKn_n (Or.inl c32)))))) cOp_IA ⟨vA, nA, pA, plA, dg, dla, dha, dva, dza, dvf, dzf, vf, nf, pf, tk, su, le, gr, hB180⟩)
            · refine q_iload X dX13_regrid_35 4 rfl ?_
              refine q_iconst (v := 3) X dX13_regrid_37 (by decide) ?_
              refine q_icmp_le X 45 dX13_regrid_38 (by decide) (fun c38 => ?_) (fun c38 => ?_)
              · refine q_iconst (v := 0) X dX13_regrid_45 (by decide) ?_
                refine q_iconst (v := 1) X dX13_regrid_46 (by decide) ?_
                refine q_callV X (c_fails0 (why := 1) hB165.1) Y_X13_fails tw_1246 tw_1248 sel_23 z_66r rfl (by omega) rfl rfl (Nat.le_of_ble_eq_true rfl) (rc' := 5) (rs' := 4108) (by omega) (by omega) dX13_regrid_47 (fun v M' hp _ => ?_)
                obtain ⟨rfl, eM⟩ := hp
                have hB183 : rfB G M' r 0 σ vA nA pA plA dg dla dha dva dza dvf dzf vf nf pf tk su le gr := by rw [eM]; exact hB165.ro
                clear eM
                generalize M' = M183 at *
                show qJ G F _ 7 M183 5 4108 50 [(0, .ref r), (1, .int (nI i)), (2, .int (nI jd)), (3, .int kk), (4, .int what)] [.int 0]
                obtain ⟨z_84r, z_841, z_842, z_843, ⟨z_84x, z_844⟩, z_845, z_846, z_847, z_848, z_849, z_8410⟩ := id hB183
                refine q_if_eq X 55 dX13_regrid_50 (by decide) (fun c_85 => ?_) (fun c_85 => absurd (by decide) c_85)
                obtain ⟨kn, hk1, hk2, rfl⟩ := k_in c21 c27
                refine q_sub [0, 1, 2, 3, 4] rfl ?_
                exact tail _ i w hB183 hi hw q150 jd kn hjd hk1 hk2 ((gRoom_y q150).trans ((gNode_y hnd).trans (gNeed_y ⟨nHas_0.mp c16, c21, c27, tKn_y c32 c38⟩)))
              · refine q_iconst (v := 1) X dX13_regrid_41 (by decide) ?_
                refine q_goto X 46 dX13_regrid_42 (by decide) ?_
                refine q_iconst (v := 1) X dX13_regrid_46 (by decide) ?_
                refine q_callV X (c_fails1 (why := 1) hB165.1) Y_X13_fails tw_1246 tw_1248 sel_23 z_66r rfl (by omega) rfl rfl (Nat.le_of_ble_eq_true rfl) (rc' := 5) (rs' := 4108) (by omega) (by omega) dX13_regrid_47 (fun v M' hp _ => ?_)
                obtain ⟨rfl, eM⟩ := hp
                have hB186 : rfB G M' r 1 σ vA nA pA plA dg dla dha dva dza dvf dzf vf nf pf tk su le gr := by rw [eM]; exact hB165.ro
                clear eM
                generalize M' = M186 at *
                show qJ G F _ 7 M186 5 4108 50 [(0, .ref r), (1, .int (nI i)), (2, .int (nI jd)), (3, .int kk), (4, .int what)] [.int 1]
                obtain ⟨z_87r, z_871, z_872, z_873, ⟨z_87x, z_874⟩, z_875, z_876, z_877, z_878, z_879, z_8710⟩ := id hB186
                refine q_if_eq X 55 dX13_regrid_50 (by decide) (fun c_88 => absurd c_88 (by decide)) (fun c_88 => ?_)
                refine q_iconst (v := 0) X dX13_regrid_53 (by decide) ?_
                exact q_iret X hr dX13_regrid_54 (rfP_T ((gRoom_y q150).trans ((gNode_y hnd).trans (gNeed_n (fun z => z.2.2.2 (tKn_n (Or.inr c38)))))) cOp_IA ⟨vA, nA, pA, plA, dg, dla, dha, dva, dza, dvf, dzf, vf, nf, pf, tk, su, le, gr, hB186⟩)
  · refine q_callV X (c_full_n hB q150 hl150) Y_X13_full tw_1332 tw_1334 sel_27 hB.1 rfl (by omega) rfl rfl (Nat.le_of_ble_eq_true rfl) (rc' := 5) (rs' := 4108) (by omega) (by omega) dX13_regrid_1 (fun v M' hp _ => ?_)
    obtain ⟨rfl, eM⟩ := hp
    have hB189 : rfB G M' r 2 σ vA nA pA plA dg dla dha dva dza dvf dzf vf nf pf tk su le gr := by rw [eM]; exact hB.ro
    clear eM
    generalize M' = M189 at *
    show qJ G F _ 7 M189 5 4108 4 [(0, .ref r), (1, .int a), (2, .int d), (3, .int kk), (4, .int what)] [.int 1]
    obtain ⟨z_90r, z_901, z_902, z_903, ⟨z_90x, z_904⟩, z_905, z_906, z_907, z_908, z_909, z_9010⟩ := id hB189
    refine q_if_eq X 9 dX13_regrid_4 (by decide) (fun c_91 => absurd c_91 (by decide)) (fun c_91 => ?_)
    refine q_iconst (v := 0) X dX13_regrid_7 (by decide) ?_
    exact q_iret X hr dX13_regrid_8 (rfP_T (gRoom_n (Nat.not_lt.mpr q150)) cOp_IO ⟨vA, nA, pA, plA, dg, dla, dha, dva, dza, dvf, dzf, vf, nf, pf, tk, su, le, gr, hB189⟩)

set_option maxRecDepth 20000 in
theorem r_window {l : Launch} {G : gV} {M : gMem} {r : Nat} {e : Int32} {σ : sA} (hW : gvW σ) (hR : isRF G M r e σ) {a d kk what : Int32} : qC l G yX13_window cX13_window 7 (some .int) 7 5 4108 [.ref r, .int a, .int d, .int kk, .int what] M (rfP G r cOp (some (.int 0)) (sp_window σ a d kk what)) := by
  refine qC_of (by decide +kernel) (Nat.le_of_ble_eq_true rfl) (fun F hF X hr hn => ?_)
  subst hF
  have X : qX G F cX13_window 7 RX13 7 := X
  obtain ⟨vA, nA, pA, plA, dg, dla, dha, dva, dza, dvf, dzf, vf, nf, pf, tk, su, le, gr, hB⟩ := hR
  have hl150 := hW.1.2.2.2.2.1
  have hl41 := hW.1.2.2.2.1
  have tail : ∀ (M : gMem) (i : Nat) (w : vN) (hB : rfB G M r 0 σ vA nA pA plA dg dla dha dva dza dvf dzf vf nf pf tk su le gr) (hi : (aN σ)[i]? = some w) (hw : vOk w) (h150 : (aN σ).length < 150) (jd rn : Nat) (hjd : jd < vm w) (hk2 : rn ≤ 40) (specE : sp_window σ (nI i) (nI jd) (nI rn) what = gLim σ (vlo w) (vhi w) (nI (vdp w)) (oN σ (vm w, (vlo w), (vhi w), vdp w + 1, foD w (vlo w) (vhi w) (nI jd) 2 (nI rn) what))), qJ G F (qQ G F (rfP G r cOp (some (.int 0)) (sp_window σ (nI i) (nI jd) (nI rn) what))) 7 M 5 4108 54 [(0, .ref r), (1, .int (nI i)), (2, .int (nI jd)), (3, .int (nI rn)), (4, .int what)] [] := by
    intro M i w hB hi hw h150 jd rn hjd hk2 specE
    obtain ⟨o, hnfo, ola, oha, ova, oza, ovf, ozf, hO, bo1, bo2, bo3, bo4⟩ := hB.2.2.2.2.2.2.2.2.1 i w hi
    have hi150 : i < 150 := Nat.lt_of_lt_of_le (List.getElem?_eq_some_iff.mp hi).1 (by omega)
    obtain ⟨pl0, hpl0⟩ := hB.2.2.2.2.1
    have hd40 := hw.2.2
    have hm3 := hw.1.2.1
    have hj3 : jd < 3 := by omega
    have hok := hw.1
    have hLH : ∀ e, e < 3 → e ≠ jd → vlo w e = vlo w e ∧ vhi w e = vhi w e := fun _ _ _ => ⟨rfl, rfl⟩
    refine q_aload_n X dX13_window_54 0 rfl ?_
    refine q_get X hB.1 rfl in_RX13 2 (by decide) tw_1196 rfl rfl dX13_window_55 ?_
    refine q_iload_n X dX13_window_58 1 rfl ?_
    refine q_gald X i hB.2.2.1 (rfl) (hi150) (by decide) hnfo dX13_window_59 ?_
    refine q_astore (lv' := [(5, .ref o), (0, .ref r), (1, .int (nI i)), (2, .int (nI jd)), (3, .int (nI rn)), (4, .int what)]) X dX13_window_60 (by decide) rfl ?_
    refine q_aload X dX13_window_62 0 rfl ?_
    refine q_aload X dX13_window_64 0 rfl ?_
    refine q_get X hO.1 rfl in_RX12 1 (by decide) tw_1157 rfl rfl dX13_window_66 ?_
    refine q_iconst (v := 1) X dX13_window_69 (by decide) ?_
    refine q_iadd X dX13_window_70 ?_
    rw [nI_1]
    refine q_callS X (c_like hO.1 hO.2.1 hO.2.2.1) Y_X13_like tw_1336 tw_1337 (by omega) rfl rfl (Nat.le_of_ble_eq_true rfl) (rc' := 2) (rs' := 4096) (by omega) (by omega) dX13_window_71 (fun v M' hp _ => ?_)
    obtain ⟨q, la, ha, rfl, fq, fla, fha, llh, llq, lhq, hq1, hla1, hha1, ev1⟩ := hp
    generalize M' = M1 at *
    have m_1 : M1 r = some (oB 13 [.int 0, .ref vA, .ref nA, .ref pA, .ref plA, .ref dg, .int (nI (aV σ).length), .int (nI (aN σ).length), .int (nI (aOf σ)), .int (nI (aBg σ)), .int tk, .long su, .long le, .long gr]) := ev1.keep hB.1 id
    have m_2 : M1 nA = some (aG G 150 nf) := ev1.keep hB.2.2.1 id
    have m_3 : M1 o = some (oB 12 [.int (nI (vm w)), .int (nI (vdp w)), .ref ola, .ref oha, .ref ova, .ref oza]) := ev1.keep hO.1 id
    have m_4 : M1 ola = some (aI G 3 (vlo w)) := ev1.keep hO.2.1 id
    have m_5 : M1 oha = some (aI G 3 (vhi w)) := ev1.keep hO.2.2.1 id
    have m_6 : M1 ova = some (aJ G (wsz w) ovf) := ev1.keep hO.2.2.2.1 id
    have m_7 : M1 oza = some (aZ G (wsz w) ozf) := ev1.keep hO.2.2.2.2.1 id
    have m_8 : M1 plA = some (aI G 3 pl0) := ev1.keep hpl0 id
    have evK1 : mEv (fun x => x = r ∨ x = plA) M M1 := ev1.mono (fun _ _ z => z.elim)
    show qJ G F _ 7 M1 2 4096 74 [(5, .ref o), (0, .ref r), (1, .int (nI i)), (2, .int (nI jd)), (3, .int (nI rn)), (4, .int what)] [.ref q]
    refine q_astore (lv' := [(6, .ref q), (5, .ref o), (0, .ref r), (1, .int (nI i)), (2, .int (nI jd)), (3, .int (nI rn)), (4, .int what)]) X dX13_window_74 (by decide) rfl ?_
    refine q_aload_n X dX13_window_76 2 rfl ?_
    refine q_aload X dX13_window_77 0 rfl ?_
    have hB2 : rfB G M1 r 0 σ vA nA pA plA dg dla dha dva dza dvf dzf vf nf pf tk su le gr := hB.ev2 evK1 m_1 ⟨_, m_8⟩
    by_cases hlim : ¬ sWithin (vlo w) (vhi w) = 0 ∧ nI (vdp w) < 40
    · refine q_callV X (c_large_y hB2 hok hd40 hq1 hla1 hha1 hlim) Y_X13_large tw_1359 tw_1361 sel_32 m_1 rfl (by omega) rfl rfl (Nat.le_of_ble_eq_true rfl) (rc' := 2) (rs' := 4096) (by omega) (by omega) dX13_window_79 (fun v M' hp _ => ?_)
      obtain ⟨rfl, eM⟩ := hp
      have m_9 : M' r = some (oB 13 [.int 0, .ref vA, .ref nA, .ref pA, .ref plA, .ref dg, .int (nI (aV σ).length), .int (nI (aN σ).length), .int (nI (aOf σ)), .int (nI (aBg σ)), .int tk, .long su, .long le, .long gr]) := by rw [eM]; exact mU_s
      have m_10 : M' nA = some (aG G 150 nf) := by rw [eM]; exact (mU_n (Ne.symm (g_neoa m_1 m_2))).trans m_2
      have m_11 : M' o = some (oB 12 [.int (nI (vm w)), .int (nI (vdp w)), .ref ola, .ref oha, .ref ova, .ref oza]) := by rw [eM]; exact (mU_n (g_neoo m_3 m_1 (by decide))).trans m_3
      have m_12 : M' ola = some (aI G 3 (vlo w)) := by rw [eM]; exact (mU_n (Ne.symm (g_neoa m_1 m_4))).trans m_4
      have m_13 : M' oha = some (aI G 3 (vhi w)) := by rw [eM]; exact (mU_n (Ne.symm (g_neoa m_1 m_5))).trans m_5
      have m_14 : M' ova = some (aJ G (wsz w) ovf) := by rw [eM]; exact (mU_n (Ne.symm (g_neoa m_1 m_6))).trans m_6
      have m_15 : M' oza = some (aZ G (wsz w) ozf) := by rw [eM]; exact (mU_n (Ne.symm (g_neoa m_1 m_7))).trans m_7
      have m_16 : M' plA = some (aI G 3 pl0) := by rw [eM]; exact (mU_n (Ne.symm (g_neoa m_1 m_8))).trans m_8
      have m_17 : M' q = some (oB 12 [.int (nI (vm w)), .int (nI (vdp w + 1)), .ref la, .ref ha, .null, .null]) := by rw [eM]; exact (mU_n (Ne.symm (g_nef hB.1 fq))).trans hq1
      have m_18 : M' la = some (aI G 3 (vlo w)) := by rw [eM]; exact (mU_n (Ne.symm (g_nef hB.1 fla))).trans hla1
      have m_19 : M' ha = some (aI G 3 (vhi w)) := by rw [eM]; exact (mU_n (Ne.symm (g_nef hB.1 fha))).trans hha1
      have evK3 : mEv (fun x => x = r ∨ x = plA) M M' := by rw [eM]; exact evK1.trans (mEv_upd (K := (fun x => x = r ∨ x = plA)) (Or.inl rfl))
      have hB3 : rfB G M' r 0 σ vA nA pA plA dg dla dha dva dza dvf dzf vf nf pf tk su le gr := by rw [eM]; exact hB2.ro
      clear eM
      generalize M' = M3 at *
      show qJ G F _ 7 M3 2 4096 82 [(6, .ref q), (5, .ref o), (0, .ref r), (1, .int (nI i)), (2, .int (nI jd)), (3, .int (nI rn)), (4, .int what)] [.int 0]
      refine q_if_eq X 87 dX13_window_82 (by decide) (fun c_20 => ?_) (fun c_20 => absurd (by decide) c_20)
      have hw2 : sz3 (vlo w) (vhi w) ≤ 2048 := (within_ok hok hlim.1).2
      refine q_aload X dX13_window_87 0 rfl ?_
      refine q_callV X (c_X12_make (n := sz3 (vlo w) (vhi w)) m_17 m_18 m_19 hok.size (by omega)) Y_X12_make tw_1179 tw_1180 tw_1181 m_17 rfl (by omega) rfl rfl (Nat.le_of_ble_eq_true rfl) (rc' := 0) (rs' := 0) (by omega) (by omega) dX13_window_89 (fun v M' hp _ => ?_)
      obtain ⟨rfl, va, za, fva3, fza3, lvz, hq4, hva4, hza4, ev4⟩ := hp
      generalize M' = M4 at *
      have fva : M va = none := evK3.none fva3
      have fza : M za = none := evK3.none fza3
      have m_21 : M4 r = some (oB 13 [.int 0, .ref vA, .ref nA, .ref pA, .ref plA, .ref dg, .int (nI (aV σ).length), .int (nI (aN σ).length), .int (nI (aOf σ)), .int (nI (aBg σ)), .int tk, .long su, .long le, .long gr]) := ev4.keep m_9 (g_nef hB.1 fq)
      have m_22 : M4 nA = some (aG G 150 nf) := ev4.keep m_10 (g_nef hB.2.2.1 fq)
      have m_23 : M4 o = some (oB 12 [.int (nI (vm w)), .int (nI (vdp w)), .ref ola, .ref oha, .ref ova, .ref oza]) := ev4.keep m_11 (g_nef hO.1 fq)
      have m_24 : M4 ola = some (aI G 3 (vlo w)) := ev4.keep m_12 (g_nef hO.2.1 fq)
      have m_25 : M4 oha = some (aI G 3 (vhi w)) := ev4.keep m_13 (g_nef hO.2.2.1 fq)
      have m_26 : M4 ova = some (aJ G (wsz w) ovf) := ev4.keep m_14 (g_nef hO.2.2.2.1 fq)
      have m_27 : M4 oza = some (aZ G (wsz w) ozf) := ev4.keep m_15 (g_nef hO.2.2.2.2.1 fq)
      have m_28 : M4 plA = some (aI G 3 pl0) := ev4.keep m_16 (g_nef hpl0 fq)
      have m_29 : M4 la = some (aI G 3 (vlo w)) := ev4.keep m_18 (llq)
      have m_30 : M4 ha = some (aI G 3 (vhi w)) := ev4.keep m_19 (lhq)
      have evK4 : mEv (fun x => x = r ∨ x = plA) M M4 := fun x hx => by
        have wq : x ≠ q := fun z => hx (z ▸ fq)
        have e1 := evK3 x hx
        have e2 := ev4 x e1.1
        exact ⟨e2.1, fun k => (e2.2 wq).trans (e1.2 k)⟩
      have hB4 : rfB G M4 r 0 σ vA nA pA plA dg dla dha dva dza dvf dzf vf nf pf tk su le gr := hB.ev2 evK4 m_21 ⟨_, m_28⟩
      show qJ G F _ 7 M4 0 0 92 [(6, .ref q), (5, .ref o), (0, .ref r), (1, .int (nI i)), (2, .int (nI jd)), (3, .int (nI rn)), (4, .int what)] []
      refine q_aload_n X dX13_window_92 2 rfl ?_
      refine q_aload X dX13_window_93 1 rfl ?_
      refine q_aload X dX13_window_95 0 rfl ?_
      refine q_iload_n X dX13_window_97 4 rfl ?_
      refine q_iconst (v := 1) X dX13_window_98 (by decide) ?_
      refine q_iload_n X dX13_window_99 5 rfl ?_
      refine q_iload X dX13_window_100 6 rfl ?_
      refine q_callV X (c_parts (n := sz3 (vlo w) (vhi w)) (L := 2 * rn + 1) (kind := 2) (reach := nI rn) m_21 hw ⟨m_23, m_24, m_25, m_26, m_27, hO.2.2.2.2.2⟩ hq4 m_29 m_30 hva4 hza4 (g_nef m_14 fva3) (g_nef m_15 fza3) hok rfl (by omega) hjd hLH (by decide) (fun x => hAL_w) (by omega) (fun e j k he hj hk => wn_row hw.1 (by omega) hjd hk2 he hj hk)) Y_X13_parts tw_1430 tw_1432 sel_38 m_21 rfl (by omega) rfl rfl (Nat.le_of_ble_eq_true rfl) (rc' := 0) (rs' := 0) (Nat.le_refl _) (Nat.le_refl _) dX13_window_102 (fun v M' hp _ => ?_)
      obtain ⟨rfl, tk9, su9, le9, gr9, eM⟩ := hp
      generalize M' = M5 at *
      have rva : r ≠ va := g_neoa m_21 hva4
      have rza : r ≠ za := g_neoa m_21 hza4
      have hcI := cI_ne X
      have kr5 : M5 r = some (rfO 0 vA nA pA plA dg σ tk9 su9 le9 gr9) := by rw [eM]; exact (mU_n rza).trans ((mU_n rva).trans mU_s)
      have kq5 : M5 q = some (oB 12 [.int (nI (vm w)), .int (nI (vdp w + 1)), .ref la, .ref ha, .ref va, .ref za]) := by rw [eM]; exact (mU_n (g_neoa hq4 hza4)).trans ((mU_n (g_neoa hq4 hva4)).trans ((mU_n (g_neoo hq4 m_21 (by decide))).trans hq4))
      have kla5 : M5 la = some (aI G 3 (vlo w)) := by rw [eM]; exact (mU_n (g_neIZ hcI m_29 hza4)).trans ((mU_n (g_neaa m_29 hva4 (fun z => by simp at z))).trans ((mU_n (Ne.symm (g_neoa m_21 m_29))).trans m_29))
      have kha5 : M5 ha = some (aI G 3 (vhi w)) := by rw [eM]; exact (mU_n (g_neIZ hcI m_30 hza4)).trans ((mU_n (g_neaa m_30 hva4 (fun z => by simp at z))).trans ((mU_n (Ne.symm (g_neoa m_21 m_30))).trans m_30))
      have kplA5 : M5 plA = some (aI G 3 pl0) := by rw [eM]; exact (mU_n (g_neIZ hcI m_28 hza4)).trans ((mU_n (g_neaa m_28 hva4 (fun z => by simp at z))).trans ((mU_n (Ne.symm (g_neoa m_21 m_28))).trans m_28))
      have kva5 : M5 va = some (aJ G (sz3 (vlo w) (vhi w)) (vF (foD w (vlo w) (vhi w) (nI jd) 2 (nI rn) what) (sz3 (vlo w) (vhi w)))) := by rw [eM]; exact (mU_n lvz).trans mU_s
      have kza5 : M5 za = some (aZ G (sz3 (vlo w) (vhi w)) (zF (foD w (vlo w) (vhi w) (nI jd) 2 (nI rn) what) (sz3 (vlo w) (vhi w)))) := by rw [eM]; exact mU_s
      have evz : mEv (fun x => x = r ∨ x = plA) M M5 := fun x hx => by
        have w1 : x ≠ va := fun z => hx (z ▸ fva)
        have w2 : x ≠ za := fun z => hx (z ▸ fza)
        have e1 := evK4 x hx
        by_cases w4 : x = r
        · rw [w4]; exact ⟨g_so kr5, fun k => absurd (Or.inl rfl) k⟩
        have e : M5 x = M4 x := by rw [eM]; exact (mU_n w2).trans ((mU_n w1).trans (mU_n w4))
        exact ⟨by rw [e]; exact e1.1, fun k => e.trans (e1.2 k)⟩
      have hBz : rfB G M5 r 0 σ vA nA pA plA dg dla dha dva dza dvf dzf vf nf pf tk9 su9 le9 gr9 := hB.ev2 evz kr5 ⟨_, kplA5⟩
      have nb : ∀ {x : Nat}, M x = none → ¬ rBad plA pA dva dza x := fun h z => by
        rcases z with z | z | z | z
        · rw [z, hpl0] at h; cases h
        · rw [z, hB.2.2.2.1] at h; cases h
        · rw [z, hB.2.2.2.2.2.1.2.2.2.1] at h; cases h
        · rw [z, hB.2.2.2.2.2.1.2.2.2.2.1] at h; cases h
      have hg : isGrd G M5 (rBad plA pA dva dza) q (vm w, (vlo w), (vhi w), vdp w + 1, (foD w (vlo w) (vhi w) (nI jd) 2 (nI rn) what)) := grd_mk kq5 kla5 kha5 kva5 kza5 (gCt_F (foD w (vlo w) (vhi w) (nI jd) 2 (nI rn) what) (sz3 (vlo w) (vhi w))) (nb fla) (nb fha) (nb fva) (nb fza)
      show qJ G F _ 7 M5 0 0 105 [(6, .ref q), (5, .ref o), (0, .ref r), (1, .int (nI i)), (2, .int (nI jd)), (3, .int (nI rn)), (4, .int what)] []
      refine q_aload_n X dX13_window_105 2 rfl ?_
      refine q_aload X dX13_window_106 0 rfl ?_
      refine q_callV X (c_made hBz hg h150) Y_X13_made tw_1339 tw_1341 sel_28 kr5 rfl (by omega) rfl rfl (Nat.le_of_ble_eq_true rfl) (rc' := 0) (rs' := 0) (Nat.le_refl _) (Nat.le_refl _) dX13_window_108 (fun v M' hp _ => ?_)
      obtain ⟨rfl, hz9⟩ := hp
      generalize M' = M9 at *
      show qJ G F _ 7 M9 0 0 111 [(6, .ref q), (5, .ref o), (0, .ref r), (1, .int (nI i)), (2, .int (nI jd)), (3, .int (nI rn)), (4, .int what)] [.int (nI (aN σ).length)]
      exact q_iret X hr dX13_window_111 (rfP_K (by rw [specE]; exact gLim_y hlim) hz9)
    · refine q_callV X (c_large_n hB2 hok hd40 hq1 hla1 hha1 hlim) Y_X13_large tw_1359 tw_1361 sel_32 m_1 rfl (by omega) rfl rfl (Nat.le_of_ble_eq_true rfl) (rc' := 2) (rs' := 4096) (by omega) (by omega) dX13_window_79 (fun v M' hp _ => ?_)
      obtain ⟨rfl, eM⟩ := hp
      have m_31 : M' r = some (oB 13 [.int 3, .ref vA, .ref nA, .ref pA, .ref plA, .ref dg, .int (nI (aV σ).length), .int (nI (aN σ).length), .int (nI (aOf σ)), .int (nI (aBg σ)), .int tk, .long su, .long le, .long gr]) := by rw [eM]; exact mU_s
      have m_32 : M' nA = some (aG G 150 nf) := by rw [eM]; exact (mU_n (Ne.symm (g_neoa m_1 m_2))).trans m_2
      have m_33 : M' o = some (oB 12 [.int (nI (vm w)), .int (nI (vdp w)), .ref ola, .ref oha, .ref ova, .ref oza]) := by rw [eM]; exact (mU_n (g_neoo m_3 m_1 (by decide))).trans m_3
      have m_34 : M' ola = some (aI G 3 (vlo w)) := by rw [eM]; exact (mU_n (Ne.symm (g_neoa m_1 m_4))).trans m_4
      have m_35 : M' oha = some (aI G 3 (vhi w)) := by rw [eM]; exact (mU_n (Ne.symm (g_neoa m_1 m_5))).trans m_5
      have m_36 : M' ova = some (aJ G (wsz w) ovf) := by rw [eM]; exact (mU_n (Ne.symm (g_neoa m_1 m_6))).trans m_6
      have m_37 : M' oza = some (aZ G (wsz w) ozf) := by rw [eM]; exact (mU_n (Ne.symm (g_neoa m_1 m_7))).trans m_7
      have m_38 : M' plA = some (aI G 3 pl0) := by rw [eM]; exact (mU_n (Ne.symm (g_neoa m_1 m_8))).trans m_8
      have m_39 : M' q = some (oB 12 [.int (nI (vm w)), .int (nI (vdp w + 1)), .ref la, .ref ha, .null, .null]) := by rw [eM]; exact (mU_n (Ne.symm (g_nef hB.1 fq))).trans hq1
      have m_40 : M' la = some (aI G 3 (vlo w)) := by rw [eM]; exact (mU_n (Ne.symm (g_nef hB.1 fla))).trans hla1
      have m_41 : M' ha = some (aI G 3 (vhi w)) := by rw [eM]; exact (mU_n (Ne.symm (g_nef hB.1 fha))).trans hha1
      have evK3 : mEv (fun x => x = r ∨ x = plA) M M' := by rw [eM]; exact evK1.trans (mEv_upd (K := (fun x => x = r ∨ x = plA)) (Or.inl rfl))
      have hB3 : rfB G M' r 3 σ vA nA pA plA dg dla dha dva dza dvf dzf vf nf pf tk su le gr := by rw [eM]; exact hB2.ro
      clear eM
      generalize M' = M3 at *
      show qJ G F _ 7 M3 2 4096 82 [(6, .ref q), (5, .ref o), (0, .ref r), (1, .int (nI i)), (2, .int (nI jd)), (3, .int (nI rn)), (4, .int what)] [.int 1]
      refine q_if_eq X 87 dX13_window_82 (by decide) (fun c_42 => absurd c_42 (by decide)) (fun c_42 => ?_)
      refine q_iconst (v := 0) X dX13_window_85 (by decide) ?_
      exact q_iret X hr dX13_window_86 (rfP_T (by rw [specE]; exact gLim_n hlim) cOp_UO ⟨vA, nA, pA, plA, dg, dla, dha, dva, dza, dvf, dzf, vf, nf, pf, tk, su, le, gr, hB3⟩)
  show qJ G F _ 7 M 5 4108 0 [(0, .ref r), (1, .int a), (2, .int d), (3, .int kk), (4, .int what)] []
  refine q_aload_n X dX13_window_0 0 rfl ?_
  rcases Nat.lt_or_ge (aN σ).length 150 with q150 | q150
  · refine q_callV X (c_full_y hB q150) Y_X13_full tw_1332 tw_1334 sel_27 hB.1 rfl (by omega) rfl rfl (Nat.le_of_ble_eq_true rfl) (rc' := 5) (rs' := 4108) (by omega) (by omega) dX13_window_1 (fun v M' hp _ => ?_)
    obtain ⟨rfl, eM⟩ := hp
    have hB143 : rfB G M' r 0 σ vA nA pA plA dg dla dha dva dza dvf dzf vf nf pf tk su le gr := by rw [eM]; exact hB.ro
    clear eM
    generalize M' = M143 at *
    show qJ G F _ 7 M143 5 4108 4 [(0, .ref r), (1, .int a), (2, .int d), (3, .int kk), (4, .int what)] [.int 0]
    obtain ⟨z_44r, z_441, z_442, z_443, ⟨z_44x, z_444⟩, z_445, z_446, z_447, z_448, z_449, z_4410⟩ := id hB143
    refine q_if_eq X 9 dX13_window_4 (by decide) (fun c_45 => ?_) (fun c_45 => absurd (by decide) c_45)
    refine q_aload_n X dX13_window_9 0 rfl ?_
    refine q_aload_n X dX13_window_10 0 rfl ?_
    refine q_iload_n X dX13_window_11 1 rfl ?_
    refine q_iload_n X dX13_window_12 2 rfl ?_
    rcases hnd : ndAt σ a with _ | w
    · refine q_callVp X (c_noDim_n hB143 (by omega) hnd) Y_X13_noDim tw_1347 tw_1349 sel_29 z_44r rfl (by omega) rfl rfl (Nat.le_of_ble_eq_true rfl) dX13_window_13 ?_
      refine q_if_ne X 40 dX13_window_16 (by decide) (fun c16 => ?_) (fun c16 => absurd c16 (by decide))
      refine q_iconst (v := 1) X dX13_window_40 (by decide) ?_
      refine q_goto X 45 dX13_window_41 (by decide) ?_
      refine q_iconst (v := 1) X dX13_window_45 (by decide) ?_
      refine q_callV X (c_fails1 (why := 1) hB143.1) Y_X13_fails tw_1246 tw_1248 sel_23 z_44r rfl (by omega) rfl rfl (Nat.le_of_ble_eq_true rfl) (rc' := 5) (rs' := 4108) (by omega) (by omega) dX13_window_46 (fun v M' hp _ => ?_)
      obtain ⟨rfl, eM⟩ := hp
      have hB146 : rfB G M' r 1 σ vA nA pA plA dg dla dha dva dza dvf dzf vf nf pf tk su le gr := by rw [eM]; exact hB143.ro
      clear eM
      generalize M' = M146 at *
      show qJ G F _ 7 M146 5 4108 49 [(0, .ref r), (1, .int a), (2, .int d), (3, .int kk), (4, .int what)] [.int 1]
      obtain ⟨z_47r, z_471, z_472, z_473, ⟨z_47x, z_474⟩, z_475, z_476, z_477, z_478, z_479, z_4710⟩ := id hB146
      refine q_if_eq X 54 dX13_window_49 (by decide) (fun c_48 => absurd c_48 (by decide)) (fun c_48 => ?_)
      refine q_iconst (v := 0) X dX13_window_52 (by decide) ?_
      exact q_iret X hr dX13_window_53 (rfP_T ((gRoom_y q150).trans (gNode_n hnd)) cOp_IA ⟨vA, nA, pA, plA, dg, dla, dha, dva, dza, dvf, dzf, vf, nf, pf, tk, su, le, gr, hB146⟩)
    · obtain ⟨i, hi9, rfl, hi⟩ := ndAt_some hnd
      have hw := hW.2 i w hi
      have hi150 : i < 150 := by omega
      obtain ⟨o, hnfo, ola, oha, ova, oza, ovf, ozf, hO, bo1, bo2, bo3, bo4⟩ := hB143.2.2.2.2.2.2.2.2.1 i w hi
      refine q_callVp X (c_noDim_y hB143 hl150 hi) Y_X13_noDim tw_1347 tw_1349 sel_29 z_44r rfl (by omega) rfl rfl (Nat.le_of_ble_eq_true rfl) dX13_window_13 ?_
      refine q_if_ne X 40 dX13_window_16 (by decide) (fun c16 => ?_) (fun c16 => ?_)
      · refine q_iconst (v := 1) X dX13_window_40 (by decide) ?_
        refine q_goto X 45 dX13_window_41 (by decide) ?_
        refine q_iconst (v := 1) X dX13_window_45 (by decide) ?_
        refine q_callV X (c_fails1 (why := 1) hB143.1) Y_X13_fails tw_1246 tw_1248 sel_23 z_44r rfl (by omega) rfl rfl (Nat.le_of_ble_eq_true rfl) (rc' := 5) (rs' := 4108) (by omega) (by omega) dX13_window_46 (fun v M' hp _ => ?_)
        obtain ⟨rfl, eM⟩ := hp
        have hB149 : rfB G M' r 1 σ vA nA pA plA dg dla dha dva dza dvf dzf vf nf pf tk su le gr := by rw [eM]; exact hB143.ro
        clear eM
        generalize M' = M149 at *
        show qJ G F _ 7 M149 5 4108 49 [(0, .ref r), (1, .int (nI i)), (2, .int d), (3, .int kk), (4, .int what)] [.int 1]
        obtain ⟨z_50r, z_501, z_502, z_503, ⟨z_50x, z_504⟩, z_505, z_506, z_507, z_508, z_509, z_5010⟩ := id hB149
        refine q_if_eq X 54 dX13_window_49 (by decide) (fun c_51 => absurd c_51 (by decide)) (fun c_51 => ?_)
        refine q_iconst (v := 0) X dX13_window_52 (by decide) ?_
        exact q_iret X hr dX13_window_53 (rfP_T ((gRoom_y q150).trans ((gNode_y hnd).trans (gNeed_n (fun z => z.1 (Classical.not_not.mp (mt nHas_0.mpr c16)))))) cOp_IA ⟨vA, nA, pA, plA, dg, dla, dha, dva, dza, dvf, dzf, vf, nf, pf, tk, su, le, gr, hB149⟩)
      · obtain ⟨jd, hjd, rfl⟩ := sHas_in hw.1.2.1 (nHas_0.mp c16)
        have hj3 : jd < 3 := Nat.lt_of_lt_of_le hjd hw.1.2.1
        refine q_iload_n X dX13_window_19 3 rfl ?_
        refine q_if_lt X 40 dX13_window_20 (by decide) (fun c20 => ?_) (fun c20 => ?_)
        · refine q_iconst (v := 1) X dX13_window_40 (by decide) ?_
          refine q_goto X 45 dX13_window_41 (by decide) ?_
          refine q_iconst (v := 1) X dX13_window_45 (by decide) ?_
          refine q_callV X (c_fails1 (why := 1) hB143.1) Y_X13_fails tw_1246 tw_1248 sel_23 z_44r rfl (by omega) rfl rfl (Nat.le_of_ble_eq_true rfl) (rc' := 5) (rs' := 4108) (by omega) (by omega) dX13_window_46 (fun v M' hp _ => ?_)
          obtain ⟨rfl, eM⟩ := hp
          have hB152 : rfB G M' r 1 σ vA nA pA plA dg dla dha dva dza dvf dzf vf nf pf tk su le gr := by rw [eM]; exact hB143.ro
          clear eM
          generalize M' = M152 at *
          show qJ G F _ 7 M152 5 4108 49 [(0, .ref r), (1, .int (nI i)), (2, .int (nI jd)), (3, .int kk), (4, .int what)] [.int 1]
          obtain ⟨z_53r, z_531, z_532, z_533, ⟨z_53x, z_534⟩, z_535, z_536, z_537, z_538, z_539, z_5310⟩ := id hB152
          refine q_if_eq X 54 dX13_window_49 (by decide) (fun c_54 => absurd c_54 (by decide)) (fun c_54 => ?_)
          refine q_iconst (v := 0) X dX13_window_52 (by decide) ?_
          exact q_iret X hr dX13_window_53 (rfP_T ((gRoom_y q150).trans ((gNode_y hnd).trans (gNeed_n (fun z => z.2.1 c20)))) cOp_IA ⟨vA, nA, pA, plA, dg, dla, dha, dva, dza, dvf, dzf, vf, nf, pf, tk, su, le, gr, hB152⟩)
        · refine q_iload_n X dX13_window_23 3 rfl ?_
          refine q_bipush (v := 40) X dX13_window_24 (by decide) ?_
          refine q_icmp_gt X 40 dX13_window_26 (by decide) (fun c26 => ?_) (fun c26 => ?_)
          · refine q_iconst (v := 1) X dX13_window_40 (by decide) ?_
            refine q_goto X 45 dX13_window_41 (by decide) ?_
            refine q_iconst (v := 1) X dX13_window_45 (by decide) ?_
            refine q_callV X (c_fails1 (why := 1) hB143.1) Y_X13_fails tw_1246 tw_1248 sel_23 z_44r rfl (by omega) rfl rfl (Nat.le_of_ble_eq_true rfl) (rc' := 5) (rs' := 4108) (by omega) (by omega) dX13_window_46 (fun v M' hp _ => ?_)
            obtain ⟨rfl, eM⟩ := hp
            have hB155 : rfB G M' r 1 σ vA nA pA plA dg dla dha dva dza dvf dzf vf nf pf tk su le gr := by rw [eM]; exact hB143.ro
            clear eM
            generalize M' = M155 at *
            show qJ G F _ 7 M155 5 4108 49 [(0, .ref r), (1, .int (nI i)), (2, .int (nI jd)), (3, .int kk), (4, .int what)] [.int 1]
            obtain ⟨z_56r, z_561, z_562, z_563, ⟨z_56x, z_564⟩, z_565, z_566, z_567, z_568, z_569, z_5610⟩ := id hB155
            refine q_if_eq X 54 dX13_window_49 (by decide) (fun c_57 => absurd c_57 (by decide)) (fun c_57 => ?_)
            refine q_iconst (v := 0) X dX13_window_52 (by decide) ?_
            exact q_iret X hr dX13_window_53 (rfP_T ((gRoom_y q150).trans ((gNode_y hnd).trans (gNeed_n (fun z => z.2.2.1 c26)))) cOp_IA ⟨vA, nA, pA, plA, dg, dla, dha, dva, dza, dvf, dzf, vf, nf, pf, tk, su, le, gr, hB155⟩)
          · refine q_iload X dX13_window_29 4 rfl ?_
            refine q_if_lt X 40 dX13_window_31 (by decide) (fun c31 => ?_) (fun c31 => ?_)
            · refine q_iconst (v := 1) X dX13_window_40 (by decide) ?_
              refine q_goto X 45 dX13_window_41 (by decide) ?_
              refine q_iconst (v := 1) X dX13_window_45 (by decide) ?_
              refine q_callV X (c_fails1 (why := 1) hB143.1) Y_X13_fails tw_1246 tw_1248 sel_23 z_44r rfl (by omega) rfl rfl (Nat.le_of_ble_eq_true rfl) (rc' := 5) (rs' := 4108) (by omega) (by omega) dX13_window_46 (fun v M' hp _ => ?_)
              obtain ⟨rfl, eM⟩ := hp
              have hB158 : rfB G M' r 1 σ vA nA pA plA dg dla dha dva dza dvf dzf vf nf pf tk su le gr := by rw [eM]; exact hB143.ro
              clear eM
              generalize M' = M158 at *
              show qJ G F _ 7 M158 5 4108 49 [(0, .ref r), (1, .int (nI i)), (2, .int (nI jd)), (3, .int kk), (4, .int what)] [.int 1]
              obtain ⟨z_59r, z_591, z_592, z_593, ⟨z_59x, z_594⟩, z_595, z_596, z_597, z_598, z_599, z_5910⟩ := id hB158
              refine q_if_eq X 54 dX13_window_49 (by decide) (fun c_60 => absurd c_60 (by decide)) (fun c_60 => ?_)
              refine q_iconst (v := 0) X dX13_window_52 (by decide) ?_
              exact q_iret X hr dX13_window_53 (rfP_T ((gRoom_y q150).trans ((gNode_y hnd).trans (gNeed_n (fun z => z.2.2.2 (tKn_n (Or.inl c31)))))) cOp_IA ⟨vA, nA, pA, plA, dg, dla, dha, dva, dza, dvf, dzf, vf, nf, pf, tk, su, le, gr, hB158⟩)
            · refine q_iload X dX13_window_34 4 rfl ?_
              refine q_iconst (v := 3) X dX13_window_36 (by decide) ?_
              refine q_icmp_le X 44 dX13_window_37 (by decide) (fun c37 => ?_) (fun c37 => ?_)
              · refine q_iconst (v := 0) X dX13_window_44 (by decide) ?_
                refine q_iconst (v := 1) X dX13_window_45 (by decide) ?_
                refine q_callV X (c_fails0 (why := 1) hB143.1) Y_X13_fails tw_1246 tw_1248 sel_23 z_44r rfl (by omega) rfl rfl (Nat.le_of_ble_eq_true rfl) (rc' := 5) (rs' := 4108) (by omega) (by omega) dX13_window_46 (fun v M' hp _ => ?_)
                obtain ⟨rfl, eM⟩ := hp
                have hB161 : rfB G M' r 0 σ vA nA pA plA dg dla dha dva dza dvf dzf vf nf pf tk su le gr := by rw [eM]; exact hB143.ro
                clear eM
                generalize M' = M161 at *
                show qJ G F _ 7 M161 5 4108 49 [(0, .ref r), (1, .int (nI i)), (2, .int (nI jd)), (3, .int kk), (4, .int what)] [.int 0]
                obtain ⟨z_62r, z_621, z_622, z_623, ⟨z_62x, z_624⟩, z_625, z_626, z_627, z_628, z_629, z_6210⟩ := id hB161
                refine q_if_eq X 54 dX13_window_49 (by decide) (fun c_63 => ?_) (fun c_63 => absurd (by decide) c_63)
                obtain ⟨rn, hk2, rfl⟩ := r_in c20 c26
                refine q_sub [0, 1, 2, 3, 4] rfl ?_
                exact tail _ i w hB161 hi hw q150 jd rn hjd hk2 ((gRoom_y q150).trans ((gNode_y hnd).trans (gNeed_y ⟨nHas_0.mp c16, c20, c26, tKn_y c31 c37⟩)))
              · refine q_iconst (v := 1) X dX13_window_40 (by decide) ?_
                refine q_goto X 45 dX13_window_41 (by decide) ?_
                refine q_iconst (v := 1) X dX13_window_45 (by decide) ?_
                refine q_callV X (c_fails1 (why := 1) hB143.1) Y_X13_fails tw_1246 tw_1248 sel_23 z_44r rfl (by omega) rfl rfl (Nat.le_of_ble_eq_true rfl) (rc' := 5) (rs' := 4108) (by omega) (by omega) dX13_window_46 (fun v M' hp _ => ?_)
                obtain ⟨rfl, eM⟩ := hp
                have hB164 : rfB G M' r 1 σ vA nA pA plA dg dla dha dva dza dvf dzf vf nf pf tk su le gr := by rw [eM]; exact hB143.ro
                clear eM
                generalize M' = M164 at *
                show qJ G F _ 7 M164 5 4108 49 [(0, .ref r), (1, .int (nI i)), (2, .int (nI jd)), (3, .int kk), (4, .int what)] [.int 1]
                obtain ⟨z_65r, z_651, z_652, z_653, ⟨z_65x, z_654⟩, z_655, z_656, z_657, z_658, z_659, z_6510⟩ := id hB164
                refine q_if_eq X 54 dX13_window_49 (by decide) (fun c_66 => absurd c_66 (by decide)) (fun c_66 => ?_)
                refine q_iconst (v := 0) X dX13_window_52 (by decide) ?_
                exact q_iret X hr dX13_window_53 (rfP_T ((gRoom_y q150).trans ((gNode_y hnd).trans (gNeed_n (fun z => z.2.2.2 (tKn_n (Or.inr c37)))))) cOp_IA ⟨vA, nA, pA, plA, dg, dla, dha, dva, dza, dvf, dzf, vf, nf, pf, tk, su, le, gr, hB164⟩)
  · refine q_callV X (c_full_n hB q150 hl150) Y_X13_full tw_1332 tw_1334 sel_27 hB.1 rfl (by omega) rfl rfl (Nat.le_of_ble_eq_true rfl) (rc' := 5) (rs' := 4108) (by omega) (by omega) dX13_window_1 (fun v M' hp _ => ?_)
    obtain ⟨rfl, eM⟩ := hp
    have hB167 : rfB G M' r 2 σ vA nA pA plA dg dla dha dva dza dvf dzf vf nf pf tk su le gr := by rw [eM]; exact hB.ro
    clear eM
    generalize M' = M167 at *
    show qJ G F _ 7 M167 5 4108 4 [(0, .ref r), (1, .int a), (2, .int d), (3, .int kk), (4, .int what)] [.int 1]
    obtain ⟨z_68r, z_681, z_682, z_683, ⟨z_68x, z_684⟩, z_685, z_686, z_687, z_688, z_689, z_6810⟩ := id hB167
    refine q_if_eq X 9 dX13_window_4 (by decide) (fun c_69 => absurd c_69 (by decide)) (fun c_69 => ?_)
    refine q_iconst (v := 0) X dX13_window_7 (by decide) ?_
    exact q_iret X hr dX13_window_8 (rfP_T (gRoom_n (Nat.not_lt.mpr q150)) cOp_IO ⟨vA, nA, pA, plA, dg, dla, dha, dva, dza, dvf, dzf, vf, nf, pf, tk, su, le, gr, hB167⟩)
