/-! begin, and the constructor -/
/-- a range that begin takes -/
theorem aRange_ok {x y : Int32} (h : ¬ aRange x y = 0) : -100 ≤ x.toInt ∧ x.toInt ≤ y.toInt ∧ y.toInt ≤ 100 ∧ y.toInt - x.toInt < 16 := by
  unfold aRange at h
  by_cases c1 : x < -100
  · rw [if_pos c1] at h; exact absurd rfl h
  · rw [if_neg c1] at h
    by_cases c2 : 100 < y
    · rw [if_pos c2] at h; exact absurd rfl h
    · rw [if_neg c2] at h
      by_cases c3 : y < x
      · rw [if_pos c3] at h; exact absurd rfl h
      · rw [if_neg c3] at h
        by_cases c4 : 16 ≤ y - x
        · rw [if_pos c4] at h; exact absurd rfl h
        · rw [Int32.lt_iff_toInt_lt] at c1 c2 c3
          have e1 : (-100 : Int32).toInt = -100 := by decide
          have e2 : (100 : Int32).toInt = 100 := by decide
          have e3 : (16 : Int32).toInt = 16 := by decide
          rw [e1] at c1
          rw [e2] at c2
          have e4 : (y - x).toInt = y.toInt - x.toInt := i_sub (by omega) (by omega)
          rw [Int32.le_iff_toInt_le, e3, e4] at c4
          omega
def beLo (n a c e : Int32) : Nat → Int32 := upd (upd (upd (fun _ => 0) 0 a) 1 (if 2 ≤ n then c else 0)) 2 (if 3 ≤ n then e else 0)
def sp_begin (σ : sA) (n a b c d e f : Int32) : oc :=
  if ¬ nI (aBg σ) < 2 then oT eIS σ else if n < 1 then oT eIA σ else if 3 < n then oT eIA σ else if aRange a b = 0 then oT eIA σ else if ¬ n < 2 ∧ aRange c d = 0 then oT eIA σ else if ¬ n < 3 ∧ aRange e f = 0 then oT eIA σ else oK none (aNew n.toNatClampNeg (beLo n a c e) (beLo n b d f) (aBg σ + 1))
theorem be_ok {n a b c d e f : Int32} (h1 : ¬ n < 1) (h3 : ¬ 3 < n) (r0 : ¬ aRange a b = 0) (r1 : n < 2 ∨ ¬ aRange c d = 0) (r2 : n < 3 ∨ ¬ aRange e f = 0) : (∃ m : Nat, n = nI m ∧ m = n.toNatClampNeg) ∧ okS n.toNatClampNeg (beLo n a c e) (beLo n b d f) ∧ ∀ t, t < 3 → sN (beLo n a c e) (beLo n b d f) t ≤ 16 := by
  have e1 : (1 : Int32).toInt = 1 := by decide
  have e2 : (2 : Int32).toInt = 2 := by decide
  have e3 : (3 : Int32).toInt = 3 := by decide
  have e0 : (0 : Int32).toInt = 0 := by decide
  rw [Int32.lt_iff_toInt_lt] at h1 h3
  have hn : n.toNatClampNeg = n.toInt.toNat := rfl
  have q0 := aRange_ok r0
  have v0 : beLo n a c e 0 = a ∧ beLo n b d f 0 = b := ⟨by simp [beLo, upd], by simp [beLo, upd]⟩
  have v1 : beLo n a c e 1 = (if 2 ≤ n then c else 0) ∧ beLo n b d f 1 = (if 2 ≤ n then d else 0) := ⟨by simp [beLo, upd], by simp [beLo, upd]⟩
  have v2 : beLo n a c e 2 = (if 3 ≤ n then e else 0) ∧ beLo n b d f 2 = (if 3 ≤ n then f else 0) := ⟨by simp [beLo, upd], by simp [beLo, upd]⟩
  have z1 : (2 ≤ n ∧ -100 ≤ c.toInt ∧ c.toInt ≤ d.toInt ∧ d.toInt ≤ 100 ∧ d.toInt - c.toInt < 16) ∨ (¬ 2 ≤ n ∧ n.toInt < 2) := by
    by_cases q : 2 ≤ n
    · refine Or.inl ⟨q, ?_⟩
      rcases r1 with r1 | r1
      · rw [Int32.lt_iff_toInt_lt] at r1; rw [Int32.le_iff_toInt_le] at q; omega
      · exact aRange_ok r1
    · refine Or.inr ⟨q, ?_⟩
      rw [Int32.le_iff_toInt_le] at q; omega
  have z2 : (3 ≤ n ∧ -100 ≤ e.toInt ∧ e.toInt ≤ f.toInt ∧ f.toInt ≤ 100 ∧ f.toInt - e.toInt < 16) ∨ (¬ 3 ≤ n ∧ n.toInt < 3) := by
    by_cases q : 3 ≤ n
    · refine Or.inl ⟨q, ?_⟩
      rcases r2 with r2 | r2
      · rw [Int32.lt_iff_toInt_lt] at r2; rw [Int32.le_iff_toInt_le] at q; omega
      · exact aRange_ok r2
    · refine Or.inr ⟨q, ?_⟩
      rw [Int32.le_iff_toInt_le] at q; omega
  have big : ∀ t, t < 3 → -100 ≤ (beLo n a c e t).toInt ∧ (beLo n a c e t).toInt ≤ (beLo n b d f t).toInt ∧ (beLo n b d f t).toInt ≤ 100 ∧ (beLo n b d f t).toInt - (beLo n a c e t).toInt < 16 := by
    intro t ht
    rcases (show t = 0 ∨ t = 1 ∨ t = 2 by omega) with rfl | rfl | rfl
    · rw [v0.1, v0.2]; exact q0
    · rw [v1.1, v1.2]
      rcases z1 with ⟨q, z⟩ | ⟨q, z⟩
      · rw [if_pos q, if_pos q]; exact z
      · rw [if_neg q, if_neg q, e0]; omega
    · rw [v2.1, v2.2]
      rcases z2 with ⟨q, z⟩ | ⟨q, z⟩
      · rw [if_pos q, if_pos q]; exact z
      · rw [if_neg q, if_neg q, e0]; omega
  refine ⟨⟨n.toNatClampNeg, i_nI (by rw [hn]; omega), rfl⟩, ⟨by rw [hn]; omega, by rw [hn]; omega, fun t ht => by have := big t ht; omega, fun t h4 ht => ?_⟩, fun t ht => ?_⟩
  · rw [hn] at h4
    rcases (show t = 0 ∨ t = 1 ∨ t = 2 by omega) with rfl | rfl | rfl
    · omega
    · rw [v1.1, v1.2]
      rcases z1 with ⟨q, z⟩ | ⟨q, z⟩
      · rw [Int32.le_iff_toInt_le, e2] at q; omega
      · rw [if_neg q, if_neg q]; exact ⟨rfl, rfl⟩
    · rw [v2.1, v2.2]
      rcases z2 with ⟨q, z⟩ | ⟨q, z⟩
      · rw [Int32.le_iff_toInt_le, e3] at q; omega
      · rw [if_neg q, if_neg q]; exact ⟨rfl, rfl⟩
  · have := big t ht
    unfold sN; omega

set_option maxRecDepth 20000 in
theorem c_begin {l : Launch} {G : gV} {M : gMem} {g : Nat} {σ : sA} (hl : l.stackTraces = false) (h : isGV G M g σ) {n a b c d e f : Int32} : xC l G yX11_begin cX11_begin 10 none 10 210 19400 [.ref g, .int n, .int a, .int b, .int c, .int d, .int e, .int f] M (gzP G g (sp_begin σ n a b c d e f)) (gzE G g (sp_begin σ n a b c d e f)) := by
  refine xC_of (by decide +kernel) (Nat.le_of_ble_eq_true rfl) (fun F hF X hN hr hn => ?_)
  subst hF
  have X : qX G F cX11_begin 10 RX11 10 := X
  obtain ⟨vl, nl, kl, fr, dk, dn, dm, ev, en, ek, vs, ns, ks, N, hB⟩ := id h
  obtain ⟨b1, b2, b3, b4, b5, b6, b7, b8, b9, b10, b11, b12⟩ := id hB
  have hG : M g = some (oB 11 [.ref vl, .ref nl, .ref kl, .ref fr, .ref dk, .int (nI (aOf σ)), .int (nI (aBg σ))]) := b1
  obtain ⟨sb, sc, sd, sp, s1, -⟩ := id b2
  obtain ⟨cn1, cm1, d1, d2, d3, -⟩ := id b3
  obtain ⟨mvv, vL1⟩ := id b4.2.1
  obtain ⟨mvn, nL1⟩ := id b5.2.1
  obtain ⟨mvk, kL1⟩ := id b6.2.1
  have hvl : vs.length = (aV σ).length := b9.1
  have hnl : ns.length = (aN σ).length := b10.1
  have hz := b12.sz
  have l41 := b12.2.2.2.1
  have l150 := b12.2.2.2.2.1
  have lof := b12.2.2.2.2.2.1
  have tail : nI (aBg σ) < 2 → ¬ n < 1 → ¬ 3 < n → ¬ aRange a b = 0 → (n < 2 ∨ ¬ aRange c d = 0) → (n < 3 ∨ ¬ aRange e f = 0) → qJ G F (xQ G F (gzP G g (sp_begin σ n a b c d e f)) (gzE G g (sp_begin σ n a b c d e f))) 10 M 210 19400 82 [(0, .ref g), (1, .int n), (2, .int a), (3, .int b), (4, .int c), (5, .int d), (6, .int e), (7, .int f)] [] := by
    intro c5 c20 c25 c41 r1 r2
    obtain ⟨⟨m, em, em2⟩, ok1, ok2⟩ := be_ok c20 c25 c41 r1 r2
    have hbg2 : aBg σ + 1 ≤ 2 := by have h9 := b12.2.2.2.2.2.2.1; rw [show (2 : Int32) = nI 2 from rfl, Int32.lt_iff_toInt_lt, nI_toInt (by omega), nI_toInt (by omega)] at c5; omega
    have specE : sp_begin σ n a b c d e f = oK none (aNew n.toNatClampNeg (beLo n a c e) (beLo n b d f) (aBg σ + 1)) := by
      unfold sp_begin
      rw [if_neg (not_not_intro c5), if_neg c20, if_neg c25, if_neg c41, if_neg (fun z => by rcases r1 with r1 | r1; exact z.1 r1; exact r1 z.2), if_neg (fun z => by rcases r2 with r2 | r2; exact z.1 r2; exact r2 z.2)]
    refine q_da X (fun hda => ?_)
    rcases (show (n < 2 ∧ n < 3) ∨ (2 ≤ n ∧ n < 3) ∨ (2 ≤ n ∧ 3 ≤ n) by
      have e2 : (2 : Int32).toInt = 2 := by decide
      have e3 : (3 : Int32).toInt = 3 := by decide
      rw [Int32.lt_iff_toInt_lt, Int32.lt_iff_toInt_lt, Int32.le_iff_toInt_le, Int32.le_iff_toInt_le]; omega) with ⟨h2, h3⟩ | ⟨h2, h3⟩ | ⟨h2, h3⟩
    · refine q_iconst (v := 3) X dX11_begin_82 (by decide) ?_
      refine q_newI X tw_107 3 (by decide) (by decide) (rc' := 209) (rs' := 19397) (by omega) (by omega) dX11_begin_83 (fun q1 fq1 => ?_)
      have n_1 : g ≠ q1 := g_nef hG fq1
      have m_2 : (mU M q1 (aI G 3 (fun _ => 0))) g = some (oB 11 [.ref vl, .ref nl, .ref kl, .ref fr, .ref dk, .int (nI (aOf σ)), .int (nI (aBg σ))]) := (mU_n n_1).trans hG
      have m_3 : (mU M q1 (aI G 3 (fun _ => 0))) q1 = some (aI G 3 (fun _ => 0)) := mU_s
      refine q_dup X dX11_begin_85 rfl ?_
      refine q_iconst (v := 0) X dX11_begin_86 (by decide) ?_
      refine q_iload_n X dX11_begin_87 2 rfl ?_
      refine q_iastN X 0 m_3 (rfl) (by decide) (by decide) dX11_begin_88 ?_
      have m_4 : (mU (mU M q1 (aI G 3 (fun _ => 0))) q1 (aI G 3 (upd (fun _ => 0) 0 a))) g = some (oB 11 [.ref vl, .ref nl, .ref kl, .ref fr, .ref dk, .int (nI (aOf σ)), .int (nI (aBg σ))]) := (mU_n (n_1)).trans m_2
      have m_5 : (mU (mU M q1 (aI G 3 (fun _ => 0))) q1 (aI G 3 (upd (fun _ => 0) 0 a))) q1 = some (aI G 3 (upd (fun _ => 0) 0 a)) := mU_s
      refine q_dup X dX11_begin_89 rfl ?_
      refine q_iconst (v := 1) X dX11_begin_90 (by decide) ?_
      refine q_iload_n X dX11_begin_91 1 rfl ?_
      refine q_iconst (v := 2) X dX11_begin_92 (by decide) ?_
      refine q_icmp_ge X 100 dX11_begin_93 (by decide) (fun c_6 => absurd c_6 (Int32.not_le.mpr h2)) (fun c_6 => ?_)
      refine q_iconst (v := 0) X dX11_begin_96 (by decide) ?_
      refine q_goto X 102 dX11_begin_97 (by decide) ?_
      refine q_iastN X 1 m_5 (rfl) (by decide) (by decide) dX11_begin_102 ?_
      have m_7 : (mU (mU (mU M q1 (aI G 3 (fun _ => 0))) q1 (aI G 3 (upd (fun _ => 0) 0 a))) q1 (aI G 3 (upd (upd (fun _ => 0) 0 a) 1 0))) g = some (oB 11 [.ref vl, .ref nl, .ref kl, .ref fr, .ref dk, .int (nI (aOf σ)), .int (nI (aBg σ))]) := (mU_n (n_1)).trans m_4
      have m_8 : (mU (mU (mU M q1 (aI G 3 (fun _ => 0))) q1 (aI G 3 (upd (fun _ => 0) 0 a))) q1 (aI G 3 (upd (upd (fun _ => 0) 0 a) 1 0))) q1 = some (aI G 3 (upd (upd (fun _ => 0) 0 a) 1 0)) := mU_s
      refine q_dup X dX11_begin_103 rfl ?_
      refine q_iconst (v := 2) X dX11_begin_104 (by decide) ?_
      refine q_iload_n X dX11_begin_105 1 rfl ?_
      refine q_iconst (v := 3) X dX11_begin_106 (by decide) ?_
      refine q_icmp_ge X 114 dX11_begin_107 (by decide) (fun c_9 => absurd c_9 (Int32.not_le.mpr h3)) (fun c_9 => ?_)
      refine q_iconst (v := 0) X dX11_begin_110 (by decide) ?_
      refine q_goto X 116 dX11_begin_111 (by decide) ?_
      refine q_iastN X 2 m_8 (rfl) (by decide) (by decide) dX11_begin_116 ?_
      have m_10 : (mU (mU (mU (mU M q1 (aI G 3 (fun _ => 0))) q1 (aI G 3 (upd (fun _ => 0) 0 a))) q1 (aI G 3 (upd (upd (fun _ => 0) 0 a) 1 0))) q1 (aI G 3 (upd (upd (upd (fun _ => 0) 0 a) 1 0) 2 0))) g = some (oB 11 [.ref vl, .ref nl, .ref kl, .ref fr, .ref dk, .int (nI (aOf σ)), .int (nI (aBg σ))]) := (mU_n (n_1)).trans m_7
      have m_11 : (mU (mU (mU (mU M q1 (aI G 3 (fun _ => 0))) q1 (aI G 3 (upd (fun _ => 0) 0 a))) q1 (aI G 3 (upd (upd (fun _ => 0) 0 a) 1 0))) q1 (aI G 3 (upd (upd (upd (fun _ => 0) 0 a) 1 0) 2 0))) q1 = some (aI G 3 (upd (upd (upd (fun _ => 0) 0 a) 1 0) 2 0)) := mU_s
      refine q_astore (lv' := [(8, .ref q1), (0, .ref g), (1, .int n), (2, .int a), (3, .int b), (4, .int c), (5, .int d), (6, .int e), (7, .int f)]) X dX11_begin_117 (by decide) rfl ?_
      refine q_iconst (v := 3) X dX11_begin_119 (by decide) ?_
      refine q_newI X tw_107 3 (by decide) (by decide) (rc' := 208) (rs' := 19394) (by omega) (by omega) dX11_begin_120 (fun q2 fq2 => ?_)
      have n_12 : g ≠ q2 := g_nef m_10 fq2
      have m_13 : (mU (mU (mU (mU (mU M q1 (aI G 3 (fun _ => 0))) q1 (aI G 3 (upd (fun _ => 0) 0 a))) q1 (aI G 3 (upd (upd (fun _ => 0) 0 a) 1 0))) q1 (aI G 3 (upd (upd (upd (fun _ => 0) 0 a) 1 0) 2 0))) q2 (aI G 3 (fun _ => 0))) g = some (oB 11 [.ref vl, .ref nl, .ref kl, .ref fr, .ref dk, .int (nI (aOf σ)), .int (nI (aBg σ))]) := (mU_n n_12).trans m_10
      have n_14 : q1 ≠ q2 := g_nef m_11 fq2
      have m_15 : (mU (mU (mU (mU (mU M q1 (aI G 3 (fun _ => 0))) q1 (aI G 3 (upd (fun _ => 0) 0 a))) q1 (aI G 3 (upd (upd (fun _ => 0) 0 a) 1 0))) q1 (aI G 3 (upd (upd (upd (fun _ => 0) 0 a) 1 0) 2 0))) q2 (aI G 3 (fun _ => 0))) q1 = some (aI G 3 (upd (upd (upd (fun _ => 0) 0 a) 1 0) 2 0)) := (mU_n n_14).trans m_11
      have m_16 : (mU (mU (mU (mU (mU M q1 (aI G 3 (fun _ => 0))) q1 (aI G 3 (upd (fun _ => 0) 0 a))) q1 (aI G 3 (upd (upd (fun _ => 0) 0 a) 1 0))) q1 (aI G 3 (upd (upd (upd (fun _ => 0) 0 a) 1 0) 2 0))) q2 (aI G 3 (fun _ => 0))) q2 = some (aI G 3 (fun _ => 0)) := mU_s
      have nq2 : M q2 = none := by
        have w := fq2
        cases h9 : M q2 with
        | none => rfl
        | some e9 =>
          have w1 : q2 ≠ q1 := fun z => by rw [z, fq1] at h9; cases h9
          simp only [mU, w1, if_false] at w; rw [h9] at w; cases w
      refine q_dup X dX11_begin_122 rfl ?_
      refine q_iconst (v := 0) X dX11_begin_123 (by decide) ?_
      refine q_iload_n X dX11_begin_124 4 rfl ?_
      refine q_iastN X 0 m_16 (rfl) (by decide) (by decide) dX11_begin_125 ?_
      have m_17 : (mU (mU (mU (mU (mU (mU M q1 (aI G 3 (fun _ => 0))) q1 (aI G 3 (upd (fun _ => 0) 0 a))) q1 (aI G 3 (upd (upd (fun _ => 0) 0 a) 1 0))) q1 (aI G 3 (upd (upd (upd (fun _ => 0) 0 a) 1 0) 2 0))) q2 (aI G 3 (fun _ => 0))) q2 (aI G 3 (upd (fun _ => 0) 0 b))) g = some (oB 11 [.ref vl, .ref nl, .ref kl, .ref fr, .ref dk, .int (nI (aOf σ)), .int (nI (aBg σ))]) := (mU_n (n_12)).trans m_13
      have m_18 : (mU (mU (mU (mU (mU (mU M q1 (aI G 3 (fun _ => 0))) q1 (aI G 3 (upd (fun _ => 0) 0 a))) q1 (aI G 3 (upd (upd (fun _ => 0) 0 a) 1 0))) q1 (aI G 3 (upd (upd (upd (fun _ => 0) 0 a) 1 0) 2 0))) q2 (aI G 3 (fun _ => 0))) q2 (aI G 3 (upd (fun _ => 0) 0 b))) q1 = some (aI G 3 (upd (upd (upd (fun _ => 0) 0 a) 1 0) 2 0)) := (mU_n (n_14)).trans m_15
      have m_19 : (mU (mU (mU (mU (mU (mU M q1 (aI G 3 (fun _ => 0))) q1 (aI G 3 (upd (fun _ => 0) 0 a))) q1 (aI G 3 (upd (upd (fun _ => 0) 0 a) 1 0))) q1 (aI G 3 (upd (upd (upd (fun _ => 0) 0 a) 1 0) 2 0))) q2 (aI G 3 (fun _ => 0))) q2 (aI G 3 (upd (fun _ => 0) 0 b))) q2 = some (aI G 3 (upd (fun _ => 0) 0 b)) := mU_s
      refine q_dup X dX11_begin_126 rfl ?_
      refine q_iconst (v := 1) X dX11_begin_127 (by decide) ?_
      refine q_iload_n X dX11_begin_128 2 rfl ?_
      refine q_iconst (v := 2) X dX11_begin_129 (by decide) ?_
      refine q_icmp_ge X 137 dX11_begin_130 (by decide) (fun c_20 => absurd c_20 (Int32.not_le.mpr h2)) (fun c_20 => ?_)
      refine q_iconst (v := 0) X dX11_begin_133 (by decide) ?_
      refine q_goto X 139 dX11_begin_134 (by decide) ?_
      refine q_iastN X 1 m_19 (rfl) (by decide) (by decide) dX11_begin_139 ?_
      have m_21 : (mU (mU (mU (mU (mU (mU (mU M q1 (aI G 3 (fun _ => 0))) q1 (aI G 3 (upd (fun _ => 0) 0 a))) q1 (aI G 3 (upd (upd (fun _ => 0) 0 a) 1 0))) q1 (aI G 3 (upd (upd (upd (fun _ => 0) 0 a) 1 0) 2 0))) q2 (aI G 3 (fun _ => 0))) q2 (aI G 3 (upd (fun _ => 0) 0 b))) q2 (aI G 3 (upd (upd (fun _ => 0) 0 b) 1 0))) g = some (oB 11 [.ref vl, .ref nl, .ref kl, .ref fr, .ref dk, .int (nI (aOf σ)), .int (nI (aBg σ))]) := (mU_n (n_12)).trans m_17
      have m_22 : (mU (mU (mU (mU (mU (mU (mU M q1 (aI G 3 (fun _ => 0))) q1 (aI G 3 (upd (fun _ => 0) 0 a))) q1 (aI G 3 (upd (upd (fun _ => 0) 0 a) 1 0))) q1 (aI G 3 (upd (upd (upd (fun _ => 0) 0 a) 1 0) 2 0))) q2 (aI G 3 (fun _ => 0))) q2 (aI G 3 (upd (fun _ => 0) 0 b))) q2 (aI G 3 (upd (upd (fun _ => 0) 0 b) 1 0))) q1 = some (aI G 3 (upd (upd (upd (fun _ => 0) 0 a) 1 0) 2 0)) := (mU_n (n_14)).trans m_18
      have m_23 : (mU (mU (mU (mU (mU (mU (mU M q1 (aI G 3 (fun _ => 0))) q1 (aI G 3 (upd (fun _ => 0) 0 a))) q1 (aI G 3 (upd (upd (fun _ => 0) 0 a) 1 0))) q1 (aI G 3 (upd (upd (upd (fun _ => 0) 0 a) 1 0) 2 0))) q2 (aI G 3 (fun _ => 0))) q2 (aI G 3 (upd (fun _ => 0) 0 b))) q2 (aI G 3 (upd (upd (fun _ => 0) 0 b) 1 0))) q2 = some (aI G 3 (upd (upd (fun _ => 0) 0 b) 1 0)) := mU_s
      refine q_dup X dX11_begin_140 rfl ?_
      refine q_iconst (v := 2) X dX11_begin_141 (by decide) ?_
      refine q_iload_n X dX11_begin_142 2 rfl ?_
      refine q_iconst (v := 3) X dX11_begin_143 (by decide) ?_
      refine q_icmp_ge X 151 dX11_begin_144 (by decide) (fun c_24 => absurd c_24 (Int32.not_le.mpr h3)) (fun c_24 => ?_)
      refine q_iconst (v := 0) X dX11_begin_147 (by decide) ?_
      refine q_goto X 153 dX11_begin_148 (by decide) ?_
      refine q_iastN X 2 m_23 (rfl) (by decide) (by decide) dX11_begin_153 ?_
      have m_25 : (mU (mU (mU (mU (mU (mU (mU (mU M q1 (aI G 3 (fun _ => 0))) q1 (aI G 3 (upd (fun _ => 0) 0 a))) q1 (aI G 3 (upd (upd (fun _ => 0) 0 a) 1 0))) q1 (aI G 3 (upd (upd (upd (fun _ => 0) 0 a) 1 0) 2 0))) q2 (aI G 3 (fun _ => 0))) q2 (aI G 3 (upd (fun _ => 0) 0 b))) q2 (aI G 3 (upd (upd (fun _ => 0) 0 b) 1 0))) q2 (aI G 3 (upd (upd (upd (fun _ => 0) 0 b) 1 0) 2 0))) g = some (oB 11 [.ref vl, .ref nl, .ref kl, .ref fr, .ref dk, .int (nI (aOf σ)), .int (nI (aBg σ))]) := (mU_n (n_12)).trans m_21
      have m_26 : (mU (mU (mU (mU (mU (mU (mU (mU M q1 (aI G 3 (fun _ => 0))) q1 (aI G 3 (upd (fun _ => 0) 0 a))) q1 (aI G 3 (upd (upd (fun _ => 0) 0 a) 1 0))) q1 (aI G 3 (upd (upd (upd (fun _ => 0) 0 a) 1 0) 2 0))) q2 (aI G 3 (fun _ => 0))) q2 (aI G 3 (upd (fun _ => 0) 0 b))) q2 (aI G 3 (upd (upd (fun _ => 0) 0 b) 1 0))) q2 (aI G 3 (upd (upd (upd (fun _ => 0) 0 b) 1 0) 2 0))) q1 = some (aI G 3 (upd (upd (upd (fun _ => 0) 0 a) 1 0) 2 0)) := (mU_n (n_14)).trans m_22
      have m_27 : (mU (mU (mU (mU (mU (mU (mU (mU M q1 (aI G 3 (fun _ => 0))) q1 (aI G 3 (upd (fun _ => 0) 0 a))) q1 (aI G 3 (upd (upd (fun _ => 0) 0 a) 1 0))) q1 (aI G 3 (upd (upd (upd (fun _ => 0) 0 a) 1 0) 2 0))) q2 (aI G 3 (fun _ => 0))) q2 (aI G 3 (upd (fun _ => 0) 0 b))) q2 (aI G 3 (upd (upd (fun _ => 0) 0 b) 1 0))) q2 (aI G 3 (upd (upd (upd (fun _ => 0) 0 b) 1 0) 2 0))) q2 = some (aI G 3 (upd (upd (upd (fun _ => 0) 0 b) 1 0) 2 0)) := mU_s
      refine q_astore (lv' := [(9, .ref q2), (8, .ref q1), (0, .ref g), (1, .int n), (2, .int a), (3, .int b), (4, .int c), (5, .int d), (6, .int e), (7, .int f)]) X dX11_begin_154 (by decide) rfl ?_
      refine q_aload_n X dX11_begin_156 2 rfl ?_
      refine q_dup X dX11_begin_157 rfl ?_
      refine q_get X m_25 rfl in_RX11 6 (by decide) tw_283 rfl rfl dX11_begin_158 ?_
      refine q_iconst (v := 1) X dX11_begin_161 (by decide) ?_
      refine q_iadd X dX11_begin_162 ?_
      rw [nI_1]
      refine q_put X m_25 rfl in_RX11 tyX11 tyX11_ok nmX11 6 (by decide) tw_283 rfl rfl rfl rfl rfl (Nat.le_of_ble_eq_true rfl) (fs1 := [.ref vl, .ref nl, .ref kl, .ref fr, .ref dk, .int (nI (aOf σ)), .int (nI (aBg σ + 1))]) rfl dX11_begin_163 ?_
      have m_28 : (mU (mU (mU (mU (mU (mU (mU (mU (mU M q1 (aI G 3 (fun _ => 0))) q1 (aI G 3 (upd (fun _ => 0) 0 a))) q1 (aI G 3 (upd (upd (fun _ => 0) 0 a) 1 0))) q1 (aI G 3 (upd (upd (upd (fun _ => 0) 0 a) 1 0) 2 0))) q2 (aI G 3 (fun _ => 0))) q2 (aI G 3 (upd (fun _ => 0) 0 b))) q2 (aI G 3 (upd (upd (fun _ => 0) 0 b) 1 0))) q2 (aI G 3 (upd (upd (upd (fun _ => 0) 0 b) 1 0) 2 0))) g (oB 11 [.ref vl, .ref nl, .ref kl, .ref fr, .ref dk, .int (nI (aOf σ)), .int (nI (aBg σ + 1))])) g = some (oB 11 [.ref vl, .ref nl, .ref kl, .ref fr, .ref dk, .int (nI (aOf σ)), .int (nI (aBg σ + 1))]) := mU_s
      have m_29 : (mU (mU (mU (mU (mU (mU (mU (mU (mU M q1 (aI G 3 (fun _ => 0))) q1 (aI G 3 (upd (fun _ => 0) 0 a))) q1 (aI G 3 (upd (upd (fun _ => 0) 0 a) 1 0))) q1 (aI G 3 (upd (upd (upd (fun _ => 0) 0 a) 1 0) 2 0))) q2 (aI G 3 (fun _ => 0))) q2 (aI G 3 (upd (fun _ => 0) 0 b))) q2 (aI G 3 (upd (upd (fun _ => 0) 0 b) 1 0))) q2 (aI G 3 (upd (upd (upd (fun _ => 0) 0 b) 1 0) 2 0))) g (oB 11 [.ref vl, .ref nl, .ref kl, .ref fr, .ref dk, .int (nI (aOf σ)), .int (nI (aBg σ + 1))])) q1 = some (aI G 3 (upd (upd (upd (fun _ => 0) 0 a) 1 0) 2 0)) := (mU_n (Ne.symm n_1)).trans m_26
      have m_30 : (mU (mU (mU (mU (mU (mU (mU (mU (mU M q1 (aI G 3 (fun _ => 0))) q1 (aI G 3 (upd (fun _ => 0) 0 a))) q1 (aI G 3 (upd (upd (fun _ => 0) 0 a) 1 0))) q1 (aI G 3 (upd (upd (upd (fun _ => 0) 0 a) 1 0) 2 0))) q2 (aI G 3 (fun _ => 0))) q2 (aI G 3 (upd (fun _ => 0) 0 b))) q2 (aI G 3 (upd (upd (fun _ => 0) 0 b) 1 0))) q2 (aI G 3 (upd (upd (upd (fun _ => 0) 0 b) 1 0) 2 0))) g (oB 11 [.ref vl, .ref nl, .ref kl, .ref fr, .ref dk, .int (nI (aOf σ)), .int (nI (aBg σ + 1))])) q2 = some (aI G 3 (upd (upd (upd (fun _ => 0) 0 b) 1 0) 2 0)) := (mU_n (Ne.symm n_12)).trans m_27
      have elo : upd (upd (upd (fun _ => 0) 0 a) 1 0) 2 0 = beLo n a c e := by unfold beLo; rw [if_neg (Int32.not_le.mpr h2), if_neg (Int32.not_le.mpr h3)]
      have ehi : upd (upd (upd (fun _ => 0) 0 b) 1 0) 2 0 = beLo n b d f := by unfold beLo; rw [if_neg (Int32.not_le.mpr h2), if_neg (Int32.not_le.mpr h3)]
      refine q_aload_n X dX11_begin_166 2 rfl ?_
      refine q_new X (ci := 7) rfl in_RX7 tyX7 tyX7_ok tw_66 tw_67 tw_5 (fs0 := [.int 0, .null, .null, .null, .null, .int 0]) (fun j hj => by rcases (show j = 0 ∨ j = 1 ∨ j = 2 ∨ j = 3 ∨ j = 4 ∨ j = 5 by omega) with rfl | rfl | rfl | rfl | rfl | rfl <;> rfl) (rc' := 207) (rs' := 19388) (by omega) (by omega) dX11_begin_167 (fun q3 fq3 => ?_)
      have n_31 : g ≠ q3 := g_nef m_28 fq3
      have m_32 : (mU (mU (mU (mU (mU (mU (mU (mU (mU (mU M q1 (aI G 3 (fun _ => 0))) q1 (aI G 3 (upd (fun _ => 0) 0 a))) q1 (aI G 3 (upd (upd (fun _ => 0) 0 a) 1 0))) q1 (aI G 3 (upd (upd (upd (fun _ => 0) 0 a) 1 0) 2 0))) q2 (aI G 3 (fun _ => 0))) q2 (aI G 3 (upd (fun _ => 0) 0 b))) q2 (aI G 3 (upd (upd (fun _ => 0) 0 b) 1 0))) q2 (aI G 3 (upd (upd (upd (fun _ => 0) 0 b) 1 0) 2 0))) g (oB 11 [.ref vl, .ref nl, .ref kl, .ref fr, .ref dk, .int (nI (aOf σ)), .int (nI (aBg σ + 1))])) q3 (oB 7 [.int 0, .null, .null, .null, .null, .int 0])) g = some (oB 11 [.ref vl, .ref nl, .ref kl, .ref fr, .ref dk, .int (nI (aOf σ)), .int (nI (aBg σ + 1))]) := (mU_n n_31).trans m_28
      have n_33 : q1 ≠ q3 := g_nef m_29 fq3
      have m_34 : (mU (mU (mU (mU (mU (mU (mU (mU (mU (mU M q1 (aI G 3 (fun _ => 0))) q1 (aI G 3 (upd (fun _ => 0) 0 a))) q1 (aI G 3 (upd (upd (fun _ => 0) 0 a) 1 0))) q1 (aI G 3 (upd (upd (upd (fun _ => 0) 0 a) 1 0) 2 0))) q2 (aI G 3 (fun _ => 0))) q2 (aI G 3 (upd (fun _ => 0) 0 b))) q2 (aI G 3 (upd (upd (fun _ => 0) 0 b) 1 0))) q2 (aI G 3 (upd (upd (upd (fun _ => 0) 0 b) 1 0) 2 0))) g (oB 11 [.ref vl, .ref nl, .ref kl, .ref fr, .ref dk, .int (nI (aOf σ)), .int (nI (aBg σ + 1))])) q3 (oB 7 [.int 0, .null, .null, .null, .null, .int 0])) q1 = some (aI G 3 (upd (upd (upd (fun _ => 0) 0 a) 1 0) 2 0)) := (mU_n n_33).trans m_29
      have n_35 : q2 ≠ q3 := g_nef m_30 fq3
      have m_36 : (mU (mU (mU (mU (mU (mU (mU (mU (mU (mU M q1 (aI G 3 (fun _ => 0))) q1 (aI G 3 (upd (fun _ => 0) 0 a))) q1 (aI G 3 (upd (upd (fun _ => 0) 0 a) 1 0))) q1 (aI G 3 (upd (upd (upd (fun _ => 0) 0 a) 1 0) 2 0))) q2 (aI G 3 (fun _ => 0))) q2 (aI G 3 (upd (fun _ => 0) 0 b))) q2 (aI G 3 (upd (upd (fun _ => 0) 0 b) 1 0))) q2 (aI G 3 (upd (upd (upd (fun _ => 0) 0 b) 1 0) 2 0))) g (oB 11 [.ref vl, .ref nl, .ref kl, .ref fr, .ref dk, .int (nI (aOf σ)), .int (nI (aBg σ + 1))])) q3 (oB 7 [.int 0, .null, .null, .null, .null, .int 0])) q2 = some (aI G 3 (upd (upd (upd (fun _ => 0) 0 b) 1 0) 2 0)) := (mU_n n_35).trans m_30
      have m_37 : (mU (mU (mU (mU (mU (mU (mU (mU (mU (mU M q1 (aI G 3 (fun _ => 0))) q1 (aI G 3 (upd (fun _ => 0) 0 a))) q1 (aI G 3 (upd (upd (fun _ => 0) 0 a) 1 0))) q1 (aI G 3 (upd (upd (upd (fun _ => 0) 0 a) 1 0) 2 0))) q2 (aI G 3 (fun _ => 0))) q2 (aI G 3 (upd (fun _ => 0) 0 b))) q2 (aI G 3 (upd (upd (fun _ => 0) 0 b) 1 0))) q2 (aI G 3 (upd (upd (upd (fun _ => 0) 0 b) 1 0) 2 0))) g (oB 11 [.ref vl, .ref nl, .ref kl, .ref fr, .ref dk, .int (nI (aOf σ)), .int (nI (aBg σ + 1))])) q3 (oB 7 [.int 0, .null, .null, .null, .null, .int 0])) q3 = some (oB 7 [.int 0, .null, .null, .null, .null, .int 0]) := mU_s
      have nq3 : M q3 = none := by
        have w := fq3
        cases h9 : M q3 with
        | none => rfl
        | some e9 =>
          have w1 : q3 ≠ q1 := fun z => by rw [z, fq1] at h9; cases h9
          have w2 : q3 ≠ q2 := fun z => by rw [z, nq2] at h9; cases h9
          by_cases w3 : q3 = g
          · rw [w3, mU_s] at w; cases w
          · simp only [mU, w1, w2, w3, if_false] at w; rw [h9] at w; cases w
      refine q_dup X dX11_begin_170 rfl ?_
      refine q_iload_n X dX11_begin_171 3 rfl ?_
      refine q_aload X dX11_begin_172 1 rfl ?_
      refine q_aload X dX11_begin_174 0 rfl ?_
      have hm1 : (mU (mU (mU (mU (mU (mU (mU (mU (mU (mU M q1 (aI G 3 (fun _ => 0))) q1 (aI G 3 (upd (fun _ => 0) 0 a))) q1 (aI G 3 (upd (upd (fun _ => 0) 0 a) 1 0))) q1 (aI G 3 (upd (upd (upd (fun _ => 0) 0 a) 1 0) 2 0))) q2 (aI G 3 (fun _ => 0))) q2 (aI G 3 (upd (fun _ => 0) 0 b))) q2 (aI G 3 (upd (upd (fun _ => 0) 0 b) 1 0))) q2 (aI G 3 (upd (upd (upd (fun _ => 0) 0 b) 1 0) 2 0))) g (oB 11 [.ref vl, .ref nl, .ref kl, .ref fr, .ref dk, .int (nI (aOf σ)), .int (nI (aBg σ + 1))])) q3 (oB 7 [.int 0, .null, .null, .null, .null, .int 0])) q1 = some (aI G 3 (beLo n a c e)) := by rw [← elo]; exact m_34
      have hm2 : (mU (mU (mU (mU (mU (mU (mU (mU (mU (mU M q1 (aI G 3 (fun _ => 0))) q1 (aI G 3 (upd (fun _ => 0) 0 a))) q1 (aI G 3 (upd (upd (fun _ => 0) 0 a) 1 0))) q1 (aI G 3 (upd (upd (upd (fun _ => 0) 0 a) 1 0) 2 0))) q2 (aI G 3 (fun _ => 0))) q2 (aI G 3 (upd (fun _ => 0) 0 b))) q2 (aI G 3 (upd (upd (fun _ => 0) 0 b) 1 0))) q2 (aI G 3 (upd (upd (upd (fun _ => 0) 0 b) 1 0) 2 0))) g (oB 11 [.ref vl, .ref nl, .ref kl, .ref fr, .ref dk, .int (nI (aOf σ)), .int (nI (aBg σ + 1))])) q3 (oB 7 [.int 0, .null, .null, .null, .null, .int 0])) q2 = some (aI G 3 (beLo n b d f)) := by rw [← ehi]; exact m_36
      have hm3 := m_37
      have hGq := m_32
      have fq39 := fq3
      have evq : mEv (fun x => x = g) M (mU (mU (mU (mU (mU (mU (mU (mU (mU (mU M q1 (aI G 3 (fun _ => 0))) q1 (aI G 3 (upd (fun _ => 0) 0 a))) q1 (aI G 3 (upd (upd (fun _ => 0) 0 a) 1 0))) q1 (aI G 3 (upd (upd (upd (fun _ => 0) 0 a) 1 0) 2 0))) q2 (aI G 3 (fun _ => 0))) q2 (aI G 3 (upd (fun _ => 0) 0 b))) q2 (aI G 3 (upd (upd (fun _ => 0) 0 b) 1 0))) q2 (aI G 3 (upd (upd (upd (fun _ => 0) 0 b) 1 0) 2 0))) g (oB 11 [.ref vl, .ref nl, .ref kl, .ref fr, .ref dk, .int (nI (aOf σ)), .int (nI (aBg σ + 1))])) q3 (oB 7 [.int 0, .null, .null, .null, .null, .int 0])) := fun x hx => by
        have w1 : x ≠ q1 := fun z => hx (z ▸ fq1)
        have w2 : x ≠ q2 := fun z => hx (by rw [z]; exact nq2)
        have w3 : x ≠ q3 := fun z => hx (by rw [z]; exact nq3)
        by_cases w4 : x = g
        · subst w4; exact ⟨g_so m_32, fun z => absurd rfl z⟩
        · refine ⟨?_, fun _ => ?_⟩
          · simp only [mU, w1, w2, w3, w4, if_false]; exact hx
          · simp only [mU, w1, w2, w3, w4, if_false]
      have ndd : ∀ {x : Nat}, (mU (mU (mU (mU (mU (mU (mU (mU (mU (mU M q1 (aI G 3 (fun _ => 0))) q1 (aI G 3 (upd (fun _ => 0) 0 a))) q1 (aI G 3 (upd (upd (fun _ => 0) 0 a) 1 0))) q1 (aI G 3 (upd (upd (upd (fun _ => 0) 0 a) 1 0) 2 0))) q2 (aI G 3 (fun _ => 0))) q2 (aI G 3 (upd (fun _ => 0) 0 b))) q2 (aI G 3 (upd (upd (fun _ => 0) 0 b) 1 0))) q2 (aI G 3 (upd (upd (upd (fun _ => 0) 0 b) 1 0) 2 0))) g (oB 11 [.ref vl, .ref nl, .ref kl, .ref fr, .ref dk, .int (nI (aOf σ)), .int (nI (aBg σ + 1))])) q3 (oB 7 [.int 0, .null, .null, .null, .null, .int 0])) x = none → M x = none := fun h => evq.none h
      refine q_callI X (c_X7_init (lo := beLo n a c e) (hi := beLo n b d f) hm3 hm1 hm2) Y_X7_init tw_68 tw_69 rfl (by omega) rfl rfl (Nat.le_of_ble_eq_true rfl) (rc' := 205) (rs' := 19382) (by omega) (by omega) dX11_begin_176 (fun v M' hp _ => ?_)
      obtain ⟨rfl, i1, dw, dd, i2w, i2, i3⟩ := hp
      generalize M' = M2 at *
      show qJ G F _ 10 M2 205 19382 179 [(9, .ref q2), (8, .ref q1), (0, .ref g), (1, .int n), (2, .int a), (3, .int b), (4, .int c), (5, .int d), (6, .int e), (7, .int f)] [.ref q3, .ref g]
      have ev2 : mEv (fun x => x = g) M M2 := fun x hx => by
        have e1 := evq x hx
        have n1 : x ≠ q3 := fun z => hx (by rw [z]; exact nq3)
        have n2 : x ≠ dd := fun z => hx (by rw [z]; exact ndd i2)
        have n2w : x ≠ dw := fun z => hx (by rw [z]; exact ndd i2w)
        have e := i3 x n1 n2w n2
        exact ⟨by rw [e]; exact (evq x hx).1, fun k => e.trans ((evq x hx).2 k)⟩
      have gq3 : g ≠ q3 := fun z => g_so hG (by rw [z]; exact nq3)
      have gdd : g ≠ dd := fun z => g_so hG (by rw [z]; exact ndd i2)
      have gdw : g ≠ dw := fun z => g_so hG (by rw [z]; exact ndd i2w)
      have hG2 : M2 g = some (oB 11 [.ref vl, .ref nl, .ref kl, .ref fr, .ref dk, .int (nI (aOf σ)), .int (nI (aBg σ + 1))]) := by rw [i3 g gq3 gdw gdd]; exact hGq
      have l4 := b4.ev ev2 (fun z => by rw [z, hG] at vL1; cases vL1) (fun _ z => b4.ned hda hG (fun _ _ q => by cases q) z.symm)
      have l5 := b5.ev ev2 (fun z => by rw [z, hG] at nL1; cases nL1) (fun _ z => b5.ned hda hG (fun _ _ q => by cases q) z.symm)
      have l6 := b6.ev ev2 (fun z => by rw [z, hG] at kL1; cases kL1) (fun _ z => b6.ned hda hG (fun _ _ q => by cases q) z.symm)
      refine q_callV X (c_startAnew (m := n.toNatClampNeg) (bg := aBg σ + 1) hG2 (by rw [← em2, ← em]; exact i1) ok1 ok2 l4 l5 l6 b11.1 b11.2.1 b11.2.2.1 b11.2.2.2.1 b11.2.2.2.2.1 b11.2.2.2.2.2.1 hbg2) Y_X11_startAnew tw_108 tw_110 sel_0 hG2 rfl (by omega) rfl rfl (Nat.le_of_ble_eq_true rfl) (rc' := 4) (rs' := 82) (by omega) (by omega) dX11_begin_179 (fun v M' hp _ => ?_)
      obtain ⟨rfl, i9⟩ := hp
      generalize M' = M3 at *
      show qJ G F _ 10 M3 4 82 182 [(9, .ref q2), (8, .ref q1), (0, .ref g), (1, .int n), (2, .int a), (3, .int b), (4, .int c), (5, .int d), (6, .int e), (7, .int f)] []
      exact x_ret (q_vret X hr dX11_begin_182 (gzP_K specE i9))
    · refine q_iconst (v := 3) X dX11_begin_82 (by decide) ?_
      refine q_newI X tw_107 3 (by decide) (by decide) (rc' := 209) (rs' := 19397) (by omega) (by omega) dX11_begin_83 (fun q1 fq1 => ?_)
      have n_38 : g ≠ q1 := g_nef hG fq1
      have m_39 : (mU M q1 (aI G 3 (fun _ => 0))) g = some (oB 11 [.ref vl, .ref nl, .ref kl, .ref fr, .ref dk, .int (nI (aOf σ)), .int (nI (aBg σ))]) := (mU_n n_38).trans hG
      have m_40 : (mU M q1 (aI G 3 (fun _ => 0))) q1 = some (aI G 3 (fun _ => 0)) := mU_s
      refine q_dup X dX11_begin_85 rfl ?_
      refine q_iconst (v := 0) X dX11_begin_86 (by decide) ?_
      refine q_iload_n X dX11_begin_87 2 rfl ?_
      refine q_iastN X 0 m_40 (rfl) (by decide) (by decide) dX11_begin_88 ?_
      have m_41 : (mU (mU M q1 (aI G 3 (fun _ => 0))) q1 (aI G 3 (upd (fun _ => 0) 0 a))) g = some (oB 11 [.ref vl, .ref nl, .ref kl, .ref fr, .ref dk, .int (nI (aOf σ)), .int (nI (aBg σ))]) := (mU_n (n_38)).trans m_39
      have m_42 : (mU (mU M q1 (aI G 3 (fun _ => 0))) q1 (aI G 3 (upd (fun _ => 0) 0 a))) q1 = some (aI G 3 (upd (fun _ => 0) 0 a)) := mU_s
      refine q_dup X dX11_begin_89 rfl ?_
      refine q_iconst (v := 1) X dX11_begin_90 (by decide) ?_
      refine q_iload_n X dX11_begin_91 1 rfl ?_
      refine q_iconst (v := 2) X dX11_begin_92 (by decide) ?_
      refine q_icmp_ge X 100 dX11_begin_93 (by decide) (fun c_43 => ?_) (fun c_43 => absurd h2 c_43)
      refine q_iload X dX11_begin_100 4 rfl ?_
      refine q_iastN X 1 m_42 (rfl) (by decide) (by decide) dX11_begin_102 ?_
      have m_44 : (mU (mU (mU M q1 (aI G 3 (fun _ => 0))) q1 (aI G 3 (upd (fun _ => 0) 0 a))) q1 (aI G 3 (upd (upd (fun _ => 0) 0 a) 1 c))) g = some (oB 11 [.ref vl, .ref nl, .ref kl, .ref fr, .ref dk, .int (nI (aOf σ)), .int (nI (aBg σ))]) := (mU_n (n_38)).trans m_41
      have m_45 : (mU (mU (mU M q1 (aI G 3 (fun _ => 0))) q1 (aI G 3 (upd (fun _ => 0) 0 a))) q1 (aI G 3 (upd (upd (fun _ => 0) 0 a) 1 c))) q1 = some (aI G 3 (upd (upd (fun _ => 0) 0 a) 1 c)) := mU_s
      refine q_dup X dX11_begin_103 rfl ?_
      refine q_iconst (v := 2) X dX11_begin_104 (by decide) ?_
      refine q_iload_n X dX11_begin_105 1 rfl ?_
      refine q_iconst (v := 3) X dX11_begin_106 (by decide) ?_
      refine q_icmp_ge X 114 dX11_begin_107 (by decide) (fun c_46 => absurd c_46 (Int32.not_le.mpr h3)) (fun c_46 => ?_)
      refine q_iconst (v := 0) X dX11_begin_110 (by decide) ?_
      refine q_goto X 116 dX11_begin_111 (by decide) ?_
      refine q_iastN X 2 m_45 (rfl) (by decide) (by decide) dX11_begin_116 ?_
      have m_47 : (mU (mU (mU (mU M q1 (aI G 3 (fun _ => 0))) q1 (aI G 3 (upd (fun _ => 0) 0 a))) q1 (aI G 3 (upd (upd (fun _ => 0) 0 a) 1 c))) q1 (aI G 3 (upd (upd (upd (fun _ => 0) 0 a) 1 c) 2 0))) g = some (oB 11 [.ref vl, .ref nl, .ref kl, .ref fr, .ref dk, .int (nI (aOf σ)), .int (nI (aBg σ))]) := (mU_n (n_38)).trans m_44
      have m_48 : (mU (mU (mU (mU M q1 (aI G 3 (fun _ => 0))) q1 (aI G 3 (upd (fun _ => 0) 0 a))) q1 (aI G 3 (upd (upd (fun _ => 0) 0 a) 1 c))) q1 (aI G 3 (upd (upd (upd (fun _ => 0) 0 a) 1 c) 2 0))) q1 = some (aI G 3 (upd (upd (upd (fun _ => 0) 0 a) 1 c) 2 0)) := mU_s
      refine q_astore (lv' := [(8, .ref q1), (0, .ref g), (1, .int n), (2, .int a), (3, .int b), (4, .int c), (5, .int d), (6, .int e), (7, .int f)]) X dX11_begin_117 (by decide) rfl ?_
      refine q_iconst (v := 3) X dX11_begin_119 (by decide) ?_
      refine q_newI X tw_107 3 (by decide) (by decide) (rc' := 208) (rs' := 19394) (by omega) (by omega) dX11_begin_120 (fun q2 fq2 => ?_)
      have n_49 : g ≠ q2 := g_nef m_47 fq2
      have m_50 : (mU (mU (mU (mU (mU M q1 (aI G 3 (fun _ => 0))) q1 (aI G 3 (upd (fun _ => 0) 0 a))) q1 (aI G 3 (upd (upd (fun _ => 0) 0 a) 1 c))) q1 (aI G 3 (upd (upd (upd (fun _ => 0) 0 a) 1 c) 2 0))) q2 (aI G 3 (fun _ => 0))) g = some (oB 11 [.ref vl, .ref nl, .ref kl, .ref fr, .ref dk, .int (nI (aOf σ)), .int (nI (aBg σ))]) := (mU_n n_49).trans m_47
      have n_51 : q1 ≠ q2 := g_nef m_48 fq2
      have m_52 : (mU (mU (mU (mU (mU M q1 (aI G 3 (fun _ => 0))) q1 (aI G 3 (upd (fun _ => 0) 0 a))) q1 (aI G 3 (upd (upd (fun _ => 0) 0 a) 1 c))) q1 (aI G 3 (upd (upd (upd (fun _ => 0) 0 a) 1 c) 2 0))) q2 (aI G 3 (fun _ => 0))) q1 = some (aI G 3 (upd (upd (upd (fun _ => 0) 0 a) 1 c) 2 0)) := (mU_n n_51).trans m_48
      have m_53 : (mU (mU (mU (mU (mU M q1 (aI G 3 (fun _ => 0))) q1 (aI G 3 (upd (fun _ => 0) 0 a))) q1 (aI G 3 (upd (upd (fun _ => 0) 0 a) 1 c))) q1 (aI G 3 (upd (upd (upd (fun _ => 0) 0 a) 1 c) 2 0))) q2 (aI G 3 (fun _ => 0))) q2 = some (aI G 3 (fun _ => 0)) := mU_s
      have nq2 : M q2 = none := by
        have w := fq2
        cases h9 : M q2 with
        | none => rfl
        | some e9 =>
          have w1 : q2 ≠ q1 := fun z => by rw [z, fq1] at h9; cases h9
          simp only [mU, w1, if_false] at w; rw [h9] at w; cases w
      refine q_dup X dX11_begin_122 rfl ?_
      refine q_iconst (v := 0) X dX11_begin_123 (by decide) ?_
      refine q_iload_n X dX11_begin_124 4 rfl ?_
      refine q_iastN X 0 m_53 (rfl) (by decide) (by decide) dX11_begin_125 ?_
      have m_54 : (mU (mU (mU (mU (mU (mU M q1 (aI G 3 (fun _ => 0))) q1 (aI G 3 (upd (fun _ => 0) 0 a))) q1 (aI G 3 (upd (upd (fun _ => 0) 0 a) 1 c))) q1 (aI G 3 (upd (upd (upd (fun _ => 0) 0 a) 1 c) 2 0))) q2 (aI G 3 (fun _ => 0))) q2 (aI G 3 (upd (fun _ => 0) 0 b))) g = some (oB 11 [.ref vl, .ref nl, .ref kl, .ref fr, .ref dk, .int (nI (aOf σ)), .int (nI (aBg σ))]) := (mU_n (n_49)).trans m_50
      have m_55 : (mU (mU (mU (mU (mU (mU M q1 (aI G 3 (fun _ => 0))) q1 (aI G 3 (upd (fun _ => 0) 0 a))) q1 (aI G 3 (upd (upd (fun _ => 0) 0 a) 1 c))) q1 (aI G 3 (upd (upd (upd (fun _ => 0) 0 a) 1 c) 2 0))) q2 (aI G 3 (fun _ => 0))) q2 (aI G 3 (upd (fun _ => 0) 0 b))) q1 = some (aI G 3 (upd (upd (upd (fun _ => 0) 0 a) 1 c) 2 0)) := (mU_n (n_51)).trans m_52
      have m_56 : (mU (mU (mU (mU (mU (mU M q1 (aI G 3 (fun _ => 0))) q1 (aI G 3 (upd (fun _ => 0) 0 a))) q1 (aI G 3 (upd (upd (fun _ => 0) 0 a) 1 c))) q1 (aI G 3 (upd (upd (upd (fun _ => 0) 0 a) 1 c) 2 0))) q2 (aI G 3 (fun _ => 0))) q2 (aI G 3 (upd (fun _ => 0) 0 b))) q2 = some (aI G 3 (upd (fun _ => 0) 0 b)) := mU_s
      refine q_dup X dX11_begin_126 rfl ?_
      refine q_iconst (v := 1) X dX11_begin_127 (by decide) ?_
      refine q_iload_n X dX11_begin_128 2 rfl ?_
      refine q_iconst (v := 2) X dX11_begin_129 (by decide) ?_
      refine q_icmp_ge X 137 dX11_begin_130 (by decide) (fun c_57 => ?_) (fun c_57 => absurd h2 c_57)
      refine q_iload X dX11_begin_137 6 rfl ?_
      refine q_iastN X 1 m_56 (rfl) (by decide) (by decide) dX11_begin_139 ?_
      have m_58 : (mU (mU (mU (mU (mU (mU (mU M q1 (aI G 3 (fun _ => 0))) q1 (aI G 3 (upd (fun _ => 0) 0 a))) q1 (aI G 3 (upd (upd (fun _ => 0) 0 a) 1 c))) q1 (aI G 3 (upd (upd (upd (fun _ => 0) 0 a) 1 c) 2 0))) q2 (aI G 3 (fun _ => 0))) q2 (aI G 3 (upd (fun _ => 0) 0 b))) q2 (aI G 3 (upd (upd (fun _ => 0) 0 b) 1 d))) g = some (oB 11 [.ref vl, .ref nl, .ref kl, .ref fr, .ref dk, .int (nI (aOf σ)), .int (nI (aBg σ))]) := (mU_n (n_49)).trans m_54
      have m_59 : (mU (mU (mU (mU (mU (mU (mU M q1 (aI G 3 (fun _ => 0))) q1 (aI G 3 (upd (fun _ => 0) 0 a))) q1 (aI G 3 (upd (upd (fun _ => 0) 0 a) 1 c))) q1 (aI G 3 (upd (upd (upd (fun _ => 0) 0 a) 1 c) 2 0))) q2 (aI G 3 (fun _ => 0))) q2 (aI G 3 (upd (fun _ => 0) 0 b))) q2 (aI G 3 (upd (upd (fun _ => 0) 0 b) 1 d))) q1 = some (aI G 3 (upd (upd (upd (fun _ => 0) 0 a) 1 c) 2 0)) := (mU_n (n_51)).trans m_55
      have m_60 : (mU (mU (mU (mU (mU (mU (mU M q1 (aI G 3 (fun _ => 0))) q1 (aI G 3 (upd (fun _ => 0) 0 a))) q1 (aI G 3 (upd (upd (fun _ => 0) 0 a) 1 c))) q1 (aI G 3 (upd (upd (upd (fun _ => 0) 0 a) 1 c) 2 0))) q2 (aI G 3 (fun _ => 0))) q2 (aI G 3 (upd (fun _ => 0) 0 b))) q2 (aI G 3 (upd (upd (fun _ => 0) 0 b) 1 d))) q2 = some (aI G 3 (upd (upd (fun _ => 0) 0 b) 1 d)) := mU_s
      refine q_dup X dX11_begin_140 rfl ?_
      refine q_iconst (v := 2) X dX11_begin_141 (by decide) ?_
      refine q_iload_n X dX11_begin_142 2 rfl ?_
      refine q_iconst (v := 3) X dX11_begin_143 (by decide) ?_
      refine q_icmp_ge X 151 dX11_begin_144 (by decide) (fun c_61 => absurd c_61 (Int32.not_le.mpr h3)) (fun c_61 => ?_)
      refine q_iconst (v := 0) X dX11_begin_147 (by decide) ?_
      refine q_goto X 153 dX11_begin_148 (by decide) ?_
      refine q_iastN X 2 m_60 (rfl) (by decide) (by decide) dX11_begin_153 ?_
      have m_62 : (mU (mU (mU (mU (mU (mU (mU (mU M q1 (aI G 3 (fun _ => 0))) q1 (aI G 3 (upd (fun _ => 0) 0 a))) q1 (aI G 3 (upd (upd (fun _ => 0) 0 a) 1 c))) q1 (aI G 3 (upd (upd (upd (fun _ => 0) 0 a) 1 c) 2 0))) q2 (aI G 3 (fun _ => 0))) q2 (aI G 3 (upd (fun _ => 0) 0 b))) q2 (aI G 3 (upd (upd (fun _ => 0) 0 b) 1 d))) q2 (aI G 3 (upd (upd (upd (fun _ => 0) 0 b) 1 d) 2 0))) g = some (oB 11 [.ref vl, .ref nl, .ref kl, .ref fr, .ref dk, .int (nI (aOf σ)), .int (nI (aBg σ))]) := (mU_n (n_49)).trans m_58
      have m_63 : (mU (mU (mU (mU (mU (mU (mU (mU M q1 (aI G 3 (fun _ => 0))) q1 (aI G 3 (upd (fun _ => 0) 0 a))) q1 (aI G 3 (upd (upd (fun _ => 0) 0 a) 1 c))) q1 (aI G 3 (upd (upd (upd (fun _ => 0) 0 a) 1 c) 2 0))) q2 (aI G 3 (fun _ => 0))) q2 (aI G 3 (upd (fun _ => 0) 0 b))) q2 (aI G 3 (upd (upd (fun _ => 0) 0 b) 1 d))) q2 (aI G 3 (upd (upd (upd (fun _ => 0) 0 b) 1 d) 2 0))) q1 = some (aI G 3 (upd (upd (upd (fun _ => 0) 0 a) 1 c) 2 0)) := (mU_n (n_51)).trans m_59
      have m_64 : (mU (mU (mU (mU (mU (mU (mU (mU M q1 (aI G 3 (fun _ => 0))) q1 (aI G 3 (upd (fun _ => 0) 0 a))) q1 (aI G 3 (upd (upd (fun _ => 0) 0 a) 1 c))) q1 (aI G 3 (upd (upd (upd (fun _ => 0) 0 a) 1 c) 2 0))) q2 (aI G 3 (fun _ => 0))) q2 (aI G 3 (upd (fun _ => 0) 0 b))) q2 (aI G 3 (upd (upd (fun _ => 0) 0 b) 1 d))) q2 (aI G 3 (upd (upd (upd (fun _ => 0) 0 b) 1 d) 2 0))) q2 = some (aI G 3 (upd (upd (upd (fun _ => 0) 0 b) 1 d) 2 0)) := mU_s
      refine q_astore (lv' := [(9, .ref q2), (8, .ref q1), (0, .ref g), (1, .int n), (2, .int a), (3, .int b), (4, .int c), (5, .int d), (6, .int e), (7, .int f)]) X dX11_begin_154 (by decide) rfl ?_
      refine q_aload_n X dX11_begin_156 2 rfl ?_
      refine q_dup X dX11_begin_157 rfl ?_
      refine q_get X m_62 rfl in_RX11 6 (by decide) tw_283 rfl rfl dX11_begin_158 ?_
      refine q_iconst (v := 1) X dX11_begin_161 (by decide) ?_
      refine q_iadd X dX11_begin_162 ?_
      rw [nI_1]
      refine q_put X m_62 rfl in_RX11 tyX11 tyX11_ok nmX11 6 (by decide) tw_283 rfl rfl rfl rfl rfl (Nat.le_of_ble_eq_true rfl) (fs1 := [.ref vl, .ref nl, .ref kl, .ref fr, .ref dk, .int (nI (aOf σ)), .int (nI (aBg σ + 1))]) rfl dX11_begin_163 ?_
      have m_65 : (mU (mU (mU (mU (mU (mU (mU (mU (mU M q1 (aI G 3 (fun _ => 0))) q1 (aI G 3 (upd (fun _ => 0) 0 a))) q1 (aI G 3 (upd (upd (fun _ => 0) 0 a) 1 c))) q1 (aI G 3 (upd (upd (upd (fun _ => 0) 0 a) 1 c) 2 0))) q2 (aI G 3 (fun _ => 0))) q2 (aI G 3 (upd (fun _ => 0) 0 b))) q2 (aI G 3 (upd (upd (fun _ => 0) 0 b) 1 d))) q2 (aI G 3 (upd (upd (upd (fun _ => 0) 0 b) 1 d) 2 0))) g (oB 11 [.ref vl, .ref nl, .ref kl, .ref fr, .ref dk, .int (nI (aOf σ)), .int (nI (aBg σ + 1))])) g = some (oB 11 [.ref vl, .ref nl, .ref kl, .ref fr, .ref dk, .int (nI (aOf σ)), .int (nI (aBg σ + 1))]) := mU_s
      have m_66 : (mU (mU (mU (mU (mU (mU (mU (mU (mU M q1 (aI G 3 (fun _ => 0))) q1 (aI G 3 (upd (fun _ => 0) 0 a))) q1 (aI G 3 (upd (upd (fun _ => 0) 0 a) 1 c))) q1 (aI G 3 (upd (upd (upd (fun _ => 0) 0 a) 1 c) 2 0))) q2 (aI G 3 (fun _ => 0))) q2 (aI G 3 (upd (fun _ => 0) 0 b))) q2 (aI G 3 (upd (upd (fun _ => 0) 0 b) 1 d))) q2 (aI G 3 (upd (upd (upd (fun _ => 0) 0 b) 1 d) 2 0))) g (oB 11 [.ref vl, .ref nl, .ref kl, .ref fr, .ref dk, .int (nI (aOf σ)), .int (nI (aBg σ + 1))])) q1 = some (aI G 3 (upd (upd (upd (fun _ => 0) 0 a) 1 c) 2 0)) := (mU_n (Ne.symm n_38)).trans m_63
      have m_67 : (mU (mU (mU (mU (mU (mU (mU (mU (mU M q1 (aI G 3 (fun _ => 0))) q1 (aI G 3 (upd (fun _ => 0) 0 a))) q1 (aI G 3 (upd (upd (fun _ => 0) 0 a) 1 c))) q1 (aI G 3 (upd (upd (upd (fun _ => 0) 0 a) 1 c) 2 0))) q2 (aI G 3 (fun _ => 0))) q2 (aI G 3 (upd (fun _ => 0) 0 b))) q2 (aI G 3 (upd (upd (fun _ => 0) 0 b) 1 d))) q2 (aI G 3 (upd (upd (upd (fun _ => 0) 0 b) 1 d) 2 0))) g (oB 11 [.ref vl, .ref nl, .ref kl, .ref fr, .ref dk, .int (nI (aOf σ)), .int (nI (aBg σ + 1))])) q2 = some (aI G 3 (upd (upd (upd (fun _ => 0) 0 b) 1 d) 2 0)) := (mU_n (Ne.symm n_49)).trans m_64
      have elo : upd (upd (upd (fun _ => 0) 0 a) 1 c) 2 0 = beLo n a c e := by unfold beLo; rw [if_pos h2, if_neg (Int32.not_le.mpr h3)]
      have ehi : upd (upd (upd (fun _ => 0) 0 b) 1 d) 2 0 = beLo n b d f := by unfold beLo; rw [if_pos h2, if_neg (Int32.not_le.mpr h3)]
      refine q_aload_n X dX11_begin_166 2 rfl ?_
      refine q_new X (ci := 7) rfl in_RX7 tyX7 tyX7_ok tw_66 tw_67 tw_5 (fs0 := [.int 0, .null, .null, .null, .null, .int 0]) (fun j hj => by rcases (show j = 0 ∨ j = 1 ∨ j = 2 ∨ j = 3 ∨ j = 4 ∨ j = 5 by omega) with rfl | rfl | rfl | rfl | rfl | rfl <;> rfl) (rc' := 207) (rs' := 19388) (by omega) (by omega) dX11_begin_167 (fun q3 fq3 => ?_)
      have n_68 : g ≠ q3 := g_nef m_65 fq3
      have m_69 : (mU (mU (mU (mU (mU (mU (mU (mU (mU (mU M q1 (aI G 3 (fun _ => 0))) q1 (aI G 3 (upd (fun _ => 0) 0 a))) q1 (aI G 3 (upd (upd (fun _ => 0) 0 a) 1 c))) q1 (aI G 3 (upd (upd (upd (fun _ => 0) 0 a) 1 c) 2 0))) q2 (aI G 3 (fun _ => 0))) q2 (aI G 3 (upd (fun _ => 0) 0 b))) q2 (aI G 3 (upd (upd (fun _ => 0) 0 b) 1 d))) q2 (aI G 3 (upd (upd (upd (fun _ => 0) 0 b) 1 d) 2 0))) g (oB 11 [.ref vl, .ref nl, .ref kl, .ref fr, .ref dk, .int (nI (aOf σ)), .int (nI (aBg σ + 1))])) q3 (oB 7 [.int 0, .null, .null, .null, .null, .int 0])) g = some (oB 11 [.ref vl, .ref nl, .ref kl, .ref fr, .ref dk, .int (nI (aOf σ)), .int (nI (aBg σ + 1))]) := (mU_n n_68).trans m_65
      have n_70 : q1 ≠ q3 := g_nef m_66 fq3
      have m_71 : (mU (mU (mU (mU (mU (mU (mU (mU (mU (mU M q1 (aI G 3 (fun _ => 0))) q1 (aI G 3 (upd (fun _ => 0) 0 a))) q1 (aI G 3 (upd (upd (fun _ => 0) 0 a) 1 c))) q1 (aI G 3 (upd (upd (upd (fun _ => 0) 0 a) 1 c) 2 0))) q2 (aI G 3 (fun _ => 0))) q2 (aI G 3 (upd (fun _ => 0) 0 b))) q2 (aI G 3 (upd (upd (fun _ => 0) 0 b) 1 d))) q2 (aI G 3 (upd (upd (upd (fun _ => 0) 0 b) 1 d) 2 0))) g (oB 11 [.ref vl, .ref nl, .ref kl, .ref fr, .ref dk, .int (nI (aOf σ)), .int (nI (aBg σ + 1))])) q3 (oB 7 [.int 0, .null, .null, .null, .null, .int 0])) q1 = some (aI G 3 (upd (upd (upd (fun _ => 0) 0 a) 1 c) 2 0)) := (mU_n n_70).trans m_66
      have n_72 : q2 ≠ q3 := g_nef m_67 fq3
      have m_73 : (mU (mU (mU (mU (mU (mU (mU (mU (mU (mU M q1 (aI G 3 (fun _ => 0))) q1 (aI G 3 (upd (fun _ => 0) 0 a))) q1 (aI G 3 (upd (upd (fun _ => 0) 0 a) 1 c))) q1 (aI G 3 (upd (upd (upd (fun _ => 0) 0 a) 1 c) 2 0))) q2 (aI G 3 (fun _ => 0))) q2 (aI G 3 (upd (fun _ => 0) 0 b))) q2 (aI G 3 (upd (upd (fun _ => 0) 0 b) 1 d))) q2 (aI G 3 (upd (upd (upd (fun _ => 0) 0 b) 1 d) 2 0))) g (oB 11 [.ref vl, .ref nl, .ref kl, .ref fr, .ref dk, .int (nI (aOf σ)), .int (nI (aBg σ + 1))])) q3 (oB 7 [.int 0, .null, .null, .null, .null, .int 0])) q2 = some (aI G 3 (upd (upd (upd (fun _ => 0) 0 b) 1 d) 2 0)) := (mU_n n_72).trans m_67
      have m_74 : (mU (mU (mU (mU (mU (mU (mU (mU (mU (mU M q1 (aI G 3 (fun _ => 0))) q1 (aI G 3 (upd (fun _ => 0) 0 a))) q1 (aI G 3 (upd (upd (fun _ => 0) 0 a) 1 c))) q1 (aI G 3 (upd (upd (upd (fun _ => 0) 0 a) 1 c) 2 0))) q2 (aI G 3 (fun _ => 0))) q2 (aI G 3 (upd (fun _ => 0) 0 b))) q2 (aI G 3 (upd (upd (fun _ => 0) 0 b) 1 d))) q2 (aI G 3 (upd (upd (upd (fun _ => 0) 0 b) 1 d) 2 0))) g (oB 11 [.ref vl, .ref nl, .ref kl, .ref fr, .ref dk, .int (nI (aOf σ)), .int (nI (aBg σ + 1))])) q3 (oB 7 [.int 0, .null, .null, .null, .null, .int 0])) q3 = some (oB 7 [.int 0, .null, .null, .null, .null, .int 0]) := mU_s
      have nq3 : M q3 = none := by
        have w := fq3
        cases h9 : M q3 with
        | none => rfl
        | some e9 =>
          have w1 : q3 ≠ q1 := fun z => by rw [z, fq1] at h9; cases h9
          have w2 : q3 ≠ q2 := fun z => by rw [z, nq2] at h9; cases h9
          by_cases w3 : q3 = g
          · rw [w3, mU_s] at w; cases w
          · simp only [mU, w1, w2, w3, if_false] at w; rw [h9] at w; cases w
      refine q_dup X dX11_begin_170 rfl ?_
      refine q_iload_n X dX11_begin_171 3 rfl ?_
      refine q_aload X dX11_begin_172 1 rfl ?_
      refine q_aload X dX11_begin_174 0 rfl ?_
      have hm1 : (mU (mU (mU (mU (mU (mU (mU (mU (mU (mU M q1 (aI G 3 (fun _ => 0))) q1 (aI G 3 (upd (fun _ => 0) 0 a))) q1 (aI G 3 (upd (upd (fun _ => 0) 0 a) 1 c))) q1 (aI G 3 (upd (upd (upd (fun _ => 0) 0 a) 1 c) 2 0))) q2 (aI G 3 (fun _ => 0))) q2 (aI G 3 (upd (fun _ => 0) 0 b))) q2 (aI G 3 (upd (upd (fun _ => 0) 0 b) 1 d))) q2 (aI G 3 (upd (upd (upd (fun _ => 0) 0 b) 1 d) 2 0))) g (oB 11 [.ref vl, .ref nl, .ref kl, .ref fr, .ref dk, .int (nI (aOf σ)), .int (nI (aBg σ + 1))])) q3 (oB 7 [.int 0, .null, .null, .null, .null, .int 0])) q1 = some (aI G 3 (beLo n a c e)) := by rw [← elo]; exact m_71
      have hm2 : (mU (mU (mU (mU (mU (mU (mU (mU (mU (mU M q1 (aI G 3 (fun _ => 0))) q1 (aI G 3 (upd (fun _ => 0) 0 a))) q1 (aI G 3 (upd (upd (fun _ => 0) 0 a) 1 c))) q1 (aI G 3 (upd (upd (upd (fun _ => 0) 0 a) 1 c) 2 0))) q2 (aI G 3 (fun _ => 0))) q2 (aI G 3 (upd (fun _ => 0) 0 b))) q2 (aI G 3 (upd (upd (fun _ => 0) 0 b) 1 d))) q2 (aI G 3 (upd (upd (upd (fun _ => 0) 0 b) 1 d) 2 0))) g (oB 11 [.ref vl, .ref nl, .ref kl, .ref fr, .ref dk, .int (nI (aOf σ)), .int (nI (aBg σ + 1))])) q3 (oB 7 [.int 0, .null, .null, .null, .null, .int 0])) q2 = some (aI G 3 (beLo n b d f)) := by rw [← ehi]; exact m_73
      have hm3 := m_74
      have hGq := m_69
      have fq39 := fq3
      have evq : mEv (fun x => x = g) M (mU (mU (mU (mU (mU (mU (mU (mU (mU (mU M q1 (aI G 3 (fun _ => 0))) q1 (aI G 3 (upd (fun _ => 0) 0 a))) q1 (aI G 3 (upd (upd (fun _ => 0) 0 a) 1 c))) q1 (aI G 3 (upd (upd (upd (fun _ => 0) 0 a) 1 c) 2 0))) q2 (aI G 3 (fun _ => 0))) q2 (aI G 3 (upd (fun _ => 0) 0 b))) q2 (aI G 3 (upd (upd (fun _ => 0) 0 b) 1 d))) q2 (aI G 3 (upd (upd (upd (fun _ => 0) 0 b) 1 d) 2 0))) g (oB 11 [.ref vl, .ref nl, .ref kl, .ref fr, .ref dk, .int (nI (aOf σ)), .int (nI (aBg σ + 1))])) q3 (oB 7 [.int 0, .null, .null, .null, .null, .int 0])) := fun x hx => by
        have w1 : x ≠ q1 := fun z => hx (z ▸ fq1)
        have w2 : x ≠ q2 := fun z => hx (by rw [z]; exact nq2)
        have w3 : x ≠ q3 := fun z => hx (by rw [z]; exact nq3)
        by_cases w4 : x = g
        · subst w4; exact ⟨g_so m_69, fun z => absurd rfl z⟩
        · refine ⟨?_, fun _ => ?_⟩
          · simp only [mU, w1, w2, w3, w4, if_false]; exact hx
          · simp only [mU, w1, w2, w3, w4, if_false]
      have ndd : ∀ {x : Nat}, (mU (mU (mU (mU (mU (mU (mU (mU (mU (mU M q1 (aI G 3 (fun _ => 0))) q1 (aI G 3 (upd (fun _ => 0) 0 a))) q1 (aI G 3 (upd (upd (fun _ => 0) 0 a) 1 c))) q1 (aI G 3 (upd (upd (upd (fun _ => 0) 0 a) 1 c) 2 0))) q2 (aI G 3 (fun _ => 0))) q2 (aI G 3 (upd (fun _ => 0) 0 b))) q2 (aI G 3 (upd (upd (fun _ => 0) 0 b) 1 d))) q2 (aI G 3 (upd (upd (upd (fun _ => 0) 0 b) 1 d) 2 0))) g (oB 11 [.ref vl, .ref nl, .ref kl, .ref fr, .ref dk, .int (nI (aOf σ)), .int (nI (aBg σ + 1))])) q3 (oB 7 [.int 0, .null, .null, .null, .null, .int 0])) x = none → M x = none := fun h => evq.none h
      refine q_callI X (c_X7_init (lo := beLo n a c e) (hi := beLo n b d f) hm3 hm1 hm2) Y_X7_init tw_68 tw_69 rfl (by omega) rfl rfl (Nat.le_of_ble_eq_true rfl) (rc' := 205) (rs' := 19382) (by omega) (by omega) dX11_begin_176 (fun v M' hp _ => ?_)
      obtain ⟨rfl, i1, dw, dd, i2w, i2, i3⟩ := hp
      generalize M' = M2 at *
      show qJ G F _ 10 M2 205 19382 179 [(9, .ref q2), (8, .ref q1), (0, .ref g), (1, .int n), (2, .int a), (3, .int b), (4, .int c), (5, .int d), (6, .int e), (7, .int f)] [.ref q3, .ref g]
      have ev2 : mEv (fun x => x = g) M M2 := fun x hx => by
        have e1 := evq x hx
        have n1 : x ≠ q3 := fun z => hx (by rw [z]; exact nq3)
        have n2 : x ≠ dd := fun z => hx (by rw [z]; exact ndd i2)
        have n2w : x ≠ dw := fun z => hx (by rw [z]; exact ndd i2w)
        have e := i3 x n1 n2w n2
        exact ⟨by rw [e]; exact (evq x hx).1, fun k => e.trans ((evq x hx).2 k)⟩
      have gq3 : g ≠ q3 := fun z => g_so hG (by rw [z]; exact nq3)
      have gdd : g ≠ dd := fun z => g_so hG (by rw [z]; exact ndd i2)
      have gdw : g ≠ dw := fun z => g_so hG (by rw [z]; exact ndd i2w)
      have hG2 : M2 g = some (oB 11 [.ref vl, .ref nl, .ref kl, .ref fr, .ref dk, .int (nI (aOf σ)), .int (nI (aBg σ + 1))]) := by rw [i3 g gq3 gdw gdd]; exact hGq
      have l4 := b4.ev ev2 (fun z => by rw [z, hG] at vL1; cases vL1) (fun _ z => b4.ned hda hG (fun _ _ q => by cases q) z.symm)
      have l5 := b5.ev ev2 (fun z => by rw [z, hG] at nL1; cases nL1) (fun _ z => b5.ned hda hG (fun _ _ q => by cases q) z.symm)
      have l6 := b6.ev ev2 (fun z => by rw [z, hG] at kL1; cases kL1) (fun _ z => b6.ned hda hG (fun _ _ q => by cases q) z.symm)
      refine q_callV X (c_startAnew (m := n.toNatClampNeg) (bg := aBg σ + 1) hG2 (by rw [← em2, ← em]; exact i1) ok1 ok2 l4 l5 l6 b11.1 b11.2.1 b11.2.2.1 b11.2.2.2.1 b11.2.2.2.2.1 b11.2.2.2.2.2.1 hbg2) Y_X11_startAnew tw_108 tw_110 sel_0 hG2 rfl (by omega) rfl rfl (Nat.le_of_ble_eq_true rfl) (rc' := 4) (rs' := 82) (by omega) (by omega) dX11_begin_179 (fun v M' hp _ => ?_)
      obtain ⟨rfl, i9⟩ := hp
      generalize M' = M3 at *
      show qJ G F _ 10 M3 4 82 182 [(9, .ref q2), (8, .ref q1), (0, .ref g), (1, .int n), (2, .int a), (3, .int b), (4, .int c), (5, .int d), (6, .int e), (7, .int f)] []
      exact x_ret (q_vret X hr dX11_begin_182 (gzP_K specE i9))
    · refine q_iconst (v := 3) X dX11_begin_82 (by decide) ?_
      refine q_newI X tw_107 3 (by decide) (by decide) (rc' := 209) (rs' := 19397) (by omega) (by omega) dX11_begin_83 (fun q1 fq1 => ?_)
      have n_75 : g ≠ q1 := g_nef hG fq1
      have m_76 : (mU M q1 (aI G 3 (fun _ => 0))) g = some (oB 11 [.ref vl, .ref nl, .ref kl, .ref fr, .ref dk, .int (nI (aOf σ)), .int (nI (aBg σ))]) := (mU_n n_75).trans hG
      have m_77 : (mU M q1 (aI G 3 (fun _ => 0))) q1 = some (aI G 3 (fun _ => 0)) := mU_s
      refine q_dup X dX11_begin_85 rfl ?_
      refine q_iconst (v := 0) X dX11_begin_86 (by decide) ?_
      refine q_iload_n X dX11_begin_87 2 rfl ?_
      refine q_iastN X 0 m_77 (rfl) (by decide) (by decide) dX11_begin_88 ?_
      have m_78 : (mU (mU M q1 (aI G 3 (fun _ => 0))) q1 (aI G 3 (upd (fun _ => 0) 0 a))) g = some (oB 11 [.ref vl, .ref nl, .ref kl, .ref fr, .ref dk, .int (nI (aOf σ)), .int (nI (aBg σ))]) := (mU_n (n_75)).trans m_76
      have m_79 : (mU (mU M q1 (aI G 3 (fun _ => 0))) q1 (aI G 3 (upd (fun _ => 0) 0 a))) q1 = some (aI G 3 (upd (fun _ => 0) 0 a)) := mU_s
      refine q_dup X dX11_begin_89 rfl ?_
      refine q_iconst (v := 1) X dX11_begin_90 (by decide) ?_
      refine q_iload_n X dX11_begin_91 1 rfl ?_
      refine q_iconst (v := 2) X dX11_begin_92 (by decide) ?_
      refine q_icmp_ge X 100 dX11_begin_93 (by decide) (fun c_80 => ?_) (fun c_80 => absurd h2 c_80)
      refine q_iload X dX11_begin_100 4 rfl ?_
      refine q_iastN X 1 m_79 (rfl) (by decide) (by decide) dX11_begin_102 ?_
      have m_81 : (mU (mU (mU M q1 (aI G 3 (fun _ => 0))) q1 (aI G 3 (upd (fun _ => 0) 0 a))) q1 (aI G 3 (upd (upd (fun _ => 0) 0 a) 1 c))) g = some (oB 11 [.ref vl, .ref nl, .ref kl, .ref fr, .ref dk, .int (nI (aOf σ)), .int (nI (aBg σ))]) := (mU_n (n_75)).trans m_78
      have m_82 : (mU (mU (mU M q1 (aI G 3 (fun _ => 0))) q1 (aI G 3 (upd (fun _ => 0) 0 a))) q1 (aI G 3 (upd (upd (fun _ => 0) 0 a) 1 c))) q1 = some (aI G 3 (upd (upd (fun _ => 0) 0 a) 1 c)) := mU_s
      refine q_dup X dX11_begin_103 rfl ?_
      refine q_iconst (v := 2) X dX11_begin_104 (by decide) ?_
      refine q_iload_n X dX11_begin_105 1 rfl ?_
      refine q_iconst (v := 3) X dX11_begin_106 (by decide) ?_
      refine q_icmp_ge X 114 dX11_begin_107 (by decide) (fun c_83 => ?_) (fun c_83 => absurd h3 c_83)
      refine q_iload X dX11_begin_114 6 rfl ?_
      refine q_iastN X 2 m_82 (rfl) (by decide) (by decide) dX11_begin_116 ?_
      have m_84 : (mU (mU (mU (mU M q1 (aI G 3 (fun _ => 0))) q1 (aI G 3 (upd (fun _ => 0) 0 a))) q1 (aI G 3 (upd (upd (fun _ => 0) 0 a) 1 c))) q1 (aI G 3 (upd (upd (upd (fun _ => 0) 0 a) 1 c) 2 e))) g = some (oB 11 [.ref vl, .ref nl, .ref kl, .ref fr, .ref dk, .int (nI (aOf σ)), .int (nI (aBg σ))]) := (mU_n (n_75)).trans m_81
      have m_85 : (mU (mU (mU (mU M q1 (aI G 3 (fun _ => 0))) q1 (aI G 3 (upd (fun _ => 0) 0 a))) q1 (aI G 3 (upd (upd (fun _ => 0) 0 a) 1 c))) q1 (aI G 3 (upd (upd (upd (fun _ => 0) 0 a) 1 c) 2 e))) q1 = some (aI G 3 (upd (upd (upd (fun _ => 0) 0 a) 1 c) 2 e)) := mU_s
      refine q_astore (lv' := [(8, .ref q1), (0, .ref g), (1, .int n), (2, .int a), (3, .int b), (4, .int c), (5, .int d), (6, .int e), (7, .int f)]) X dX11_begin_117 (by decide) rfl ?_
      refine q_iconst (v := 3) X dX11_begin_119 (by decide) ?_
      refine q_newI X tw_107 3 (by decide) (by decide) (rc' := 208) (rs' := 19394) (by omega) (by omega) dX11_begin_120 (fun q2 fq2 => ?_)
      have n_86 : g ≠ q2 := g_nef m_84 fq2
      have m_87 : (mU (mU (mU (mU (mU M q1 (aI G 3 (fun _ => 0))) q1 (aI G 3 (upd (fun _ => 0) 0 a))) q1 (aI G 3 (upd (upd (fun _ => 0) 0 a) 1 c))) q1 (aI G 3 (upd (upd (upd (fun _ => 0) 0 a) 1 c) 2 e))) q2 (aI G 3 (fun _ => 0))) g = some (oB 11 [.ref vl, .ref nl, .ref kl, .ref fr, .ref dk, .int (nI (aOf σ)), .int (nI (aBg σ))]) := (mU_n n_86).trans m_84
      have n_88 : q1 ≠ q2 := g_nef m_85 fq2
      have m_89 : (mU (mU (mU (mU (mU M q1 (aI G 3 (fun _ => 0))) q1 (aI G 3 (upd (fun _ => 0) 0 a))) q1 (aI G 3 (upd (upd (fun _ => 0) 0 a) 1 c))) q1 (aI G 3 (upd (upd (upd (fun _ => 0) 0 a) 1 c) 2 e))) q2 (aI G 3 (fun _ => 0))) q1 = some (aI G 3 (upd (upd (upd (fun _ => 0) 0 a) 1 c) 2 e)) := (mU_n n_88).trans m_85
      have m_90 : (mU (mU (mU (mU (mU M q1 (aI G 3 (fun _ => 0))) q1 (aI G 3 (upd (fun _ => 0) 0 a))) q1 (aI G 3 (upd (upd (fun _ => 0) 0 a) 1 c))) q1 (aI G 3 (upd (upd (upd (fun _ => 0) 0 a) 1 c) 2 e))) q2 (aI G 3 (fun _ => 0))) q2 = some (aI G 3 (fun _ => 0)) := mU_s
      have nq2 : M q2 = none := by
        have w := fq2
        cases h9 : M q2 with
        | none => rfl
        | some e9 =>
          have w1 : q2 ≠ q1 := fun z => by rw [z, fq1] at h9; cases h9
          simp only [mU, w1, if_false] at w; rw [h9] at w; cases w
      refine q_dup X dX11_begin_122 rfl ?_
      refine q_iconst (v := 0) X dX11_begin_123 (by decide) ?_
      refine q_iload_n X dX11_begin_124 4 rfl ?_
      refine q_iastN X 0 m_90 (rfl) (by decide) (by decide) dX11_begin_125 ?_
      have m_91 : (mU (mU (mU (mU (mU (mU M q1 (aI G 3 (fun _ => 0))) q1 (aI G 3 (upd (fun _ => 0) 0 a))) q1 (aI G 3 (upd (upd (fun _ => 0) 0 a) 1 c))) q1 (aI G 3 (upd (upd (upd (fun _ => 0) 0 a) 1 c) 2 e))) q2 (aI G 3 (fun _ => 0))) q2 (aI G 3 (upd (fun _ => 0) 0 b))) g = some (oB 11 [.ref vl, .ref nl, .ref kl, .ref fr, .ref dk, .int (nI (aOf σ)), .int (nI (aBg σ))]) := (mU_n (n_86)).trans m_87
      have m_92 : (mU (mU (mU (mU (mU (mU M q1 (aI G 3 (fun _ => 0))) q1 (aI G 3 (upd (fun _ => 0) 0 a))) q1 (aI G 3 (upd (upd (fun _ => 0) 0 a) 1 c))) q1 (aI G 3 (upd (upd (upd (fun _ => 0) 0 a) 1 c) 2 e))) q2 (aI G 3 (fun _ => 0))) q2 (aI G 3 (upd (fun _ => 0) 0 b))) q1 = some (aI G 3 (upd (upd (upd (fun _ => 0) 0 a) 1 c) 2 e)) := (mU_n (n_88)).trans m_89
      have m_93 : (mU (mU (mU (mU (mU (mU M q1 (aI G 3 (fun _ => 0))) q1 (aI G 3 (upd (fun _ => 0) 0 a))) q1 (aI G 3 (upd (upd (fun _ => 0) 0 a) 1 c))) q1 (aI G 3 (upd (upd (upd (fun _ => 0) 0 a) 1 c) 2 e))) q2 (aI G 3 (fun _ => 0))) q2 (aI G 3 (upd (fun _ => 0) 0 b))) q2 = some (aI G 3 (upd (fun _ => 0) 0 b)) := mU_s
      refine q_dup X dX11_begin_126 rfl ?_
      refine q_iconst (v := 1) X dX11_begin_127 (by decide) ?_
      refine q_iload_n X dX11_begin_128 2 rfl ?_
      refine q_iconst (v := 2) X dX11_begin_129 (by decide) ?_
      refine q_icmp_ge X 137 dX11_begin_130 (by decide) (fun c_94 => ?_) (fun c_94 => absurd h2 c_94)
      refine q_iload X dX11_begin_137 6 rfl ?_
      refine q_iastN X 1 m_93 (rfl) (by decide) (by decide) dX11_begin_139 ?_
      have m_95 : (mU (mU (mU (mU (mU (mU (mU M q1 (aI G 3 (fun _ => 0))) q1 (aI G 3 (upd (fun _ => 0) 0 a))) q1 (aI G 3 (upd (upd (fun _ => 0) 0 a) 1 c))) q1 (aI G 3 (upd (upd (upd (fun _ => 0) 0 a) 1 c) 2 e))) q2 (aI G 3 (fun _ => 0))) q2 (aI G 3 (upd (fun _ => 0) 0 b))) q2 (aI G 3 (upd (upd (fun _ => 0) 0 b) 1 d))) g = some (oB 11 [.ref vl, .ref nl, .ref kl, .ref fr, .ref dk, .int (nI (aOf σ)), .int (nI (aBg σ))]) := (mU_n (n_86)).trans m_91
      have m_96 : (mU (mU (mU (mU (mU (mU (mU M q1 (aI G 3 (fun _ => 0))) q1 (aI G 3 (upd (fun _ => 0) 0 a))) q1 (aI G 3 (upd (upd (fun _ => 0) 0 a) 1 c))) q1 (aI G 3 (upd (upd (upd (fun _ => 0) 0 a) 1 c) 2 e))) q2 (aI G 3 (fun _ => 0))) q2 (aI G 3 (upd (fun _ => 0) 0 b))) q2 (aI G 3 (upd (upd (fun _ => 0) 0 b) 1 d))) q1 = some (aI G 3 (upd (upd (upd (fun _ => 0) 0 a) 1 c) 2 e)) := (mU_n (n_88)).trans m_92
      have m_97 : (mU (mU (mU (mU (mU (mU (mU M q1 (aI G 3 (fun _ => 0))) q1 (aI G 3 (upd (fun _ => 0) 0 a))) q1 (aI G 3 (upd (upd (fun _ => 0) 0 a) 1 c))) q1 (aI G 3 (upd (upd (upd (fun _ => 0) 0 a) 1 c) 2 e))) q2 (aI G 3 (fun _ => 0))) q2 (aI G 3 (upd (fun _ => 0) 0 b))) q2 (aI G 3 (upd (upd (fun _ => 0) 0 b) 1 d))) q2 = some (aI G 3 (upd (upd (fun _ => 0) 0 b) 1 d)) := mU_s
      refine q_dup X dX11_begin_140 rfl ?_
      refine q_iconst (v := 2) X dX11_begin_141 (by decide) ?_
      refine q_iload_n X dX11_begin_142 2 rfl ?_
      refine q_iconst (v := 3) X dX11_begin_143 (by decide) ?_
      refine q_icmp_ge X 151 dX11_begin_144 (by decide) (fun c_98 => ?_) (fun c_98 => absurd h3 c_98)
      refine q_iload X dX11_begin_151 8 rfl ?_
      refine q_iastN X 2 m_97 (rfl) (by decide) (by decide) dX11_begin_153 ?_
      have m_99 : (mU (mU (mU (mU (mU (mU (mU (mU M q1 (aI G 3 (fun _ => 0))) q1 (aI G 3 (upd (fun _ => 0) 0 a))) q1 (aI G 3 (upd (upd (fun _ => 0) 0 a) 1 c))) q1 (aI G 3 (upd (upd (upd (fun _ => 0) 0 a) 1 c) 2 e))) q2 (aI G 3 (fun _ => 0))) q2 (aI G 3 (upd (fun _ => 0) 0 b))) q2 (aI G 3 (upd (upd (fun _ => 0) 0 b) 1 d))) q2 (aI G 3 (upd (upd (upd (fun _ => 0) 0 b) 1 d) 2 f))) g = some (oB 11 [.ref vl, .ref nl, .ref kl, .ref fr, .ref dk, .int (nI (aOf σ)), .int (nI (aBg σ))]) := (mU_n (n_86)).trans m_95
      have m_100 : (mU (mU (mU (mU (mU (mU (mU (mU M q1 (aI G 3 (fun _ => 0))) q1 (aI G 3 (upd (fun _ => 0) 0 a))) q1 (aI G 3 (upd (upd (fun _ => 0) 0 a) 1 c))) q1 (aI G 3 (upd (upd (upd (fun _ => 0) 0 a) 1 c) 2 e))) q2 (aI G 3 (fun _ => 0))) q2 (aI G 3 (upd (fun _ => 0) 0 b))) q2 (aI G 3 (upd (upd (fun _ => 0) 0 b) 1 d))) q2 (aI G 3 (upd (upd (upd (fun _ => 0) 0 b) 1 d) 2 f))) q1 = some (aI G 3 (upd (upd (upd (fun _ => 0) 0 a) 1 c) 2 e)) := (mU_n (n_88)).trans m_96
      have m_101 : (mU (mU (mU (mU (mU (mU (mU (mU M q1 (aI G 3 (fun _ => 0))) q1 (aI G 3 (upd (fun _ => 0) 0 a))) q1 (aI G 3 (upd (upd (fun _ => 0) 0 a) 1 c))) q1 (aI G 3 (upd (upd (upd (fun _ => 0) 0 a) 1 c) 2 e))) q2 (aI G 3 (fun _ => 0))) q2 (aI G 3 (upd (fun _ => 0) 0 b))) q2 (aI G 3 (upd (upd (fun _ => 0) 0 b) 1 d))) q2 (aI G 3 (upd (upd (upd (fun _ => 0) 0 b) 1 d) 2 f))) q2 = some (aI G 3 (upd (upd (upd (fun _ => 0) 0 b) 1 d) 2 f)) := mU_s
      refine q_astore (lv' := [(9, .ref q2), (8, .ref q1), (0, .ref g), (1, .int n), (2, .int a), (3, .int b), (4, .int c), (5, .int d), (6, .int e), (7, .int f)]) X dX11_begin_154 (by decide) rfl ?_
      refine q_aload_n X dX11_begin_156 2 rfl ?_
      refine q_dup X dX11_begin_157 rfl ?_
      refine q_get X m_99 rfl in_RX11 6 (by decide) tw_283 rfl rfl dX11_begin_158 ?_
      refine q_iconst (v := 1) X dX11_begin_161 (by decide) ?_
      refine q_iadd X dX11_begin_162 ?_
      rw [nI_1]
      refine q_put X m_99 rfl in_RX11 tyX11 tyX11_ok nmX11 6 (by decide) tw_283 rfl rfl rfl rfl rfl (Nat.le_of_ble_eq_true rfl) (fs1 := [.ref vl, .ref nl, .ref kl, .ref fr, .ref dk, .int (nI (aOf σ)), .int (nI (aBg σ + 1))]) rfl dX11_begin_163 ?_
      have m_102 : (mU (mU (mU (mU (mU (mU (mU (mU (mU M q1 (aI G 3 (fun _ => 0))) q1 (aI G 3 (upd (fun _ => 0) 0 a))) q1 (aI G 3 (upd (upd (fun _ => 0) 0 a) 1 c))) q1 (aI G 3 (upd (upd (upd (fun _ => 0) 0 a) 1 c) 2 e))) q2 (aI G 3 (fun _ => 0))) q2 (aI G 3 (upd (fun _ => 0) 0 b))) q2 (aI G 3 (upd (upd (fun _ => 0) 0 b) 1 d))) q2 (aI G 3 (upd (upd (upd (fun _ => 0) 0 b) 1 d) 2 f))) g (oB 11 [.ref vl, .ref nl, .ref kl, .ref fr, .ref dk, .int (nI (aOf σ)), .int (nI (aBg σ + 1))])) g = some (oB 11 [.ref vl, .ref nl, .ref kl, .ref fr, .ref dk, .int (nI (aOf σ)), .int (nI (aBg σ + 1))]) := mU_s
      have m_103 : (mU (mU (mU (mU (mU (mU (mU (mU (mU M q1 (aI G 3 (fun _ => 0))) q1 (aI G 3 (upd (fun _ => 0) 0 a))) q1 (aI G 3 (upd (upd (fun _ => 0) 0 a) 1 c))) q1 (aI G 3 (upd (upd (upd (fun _ => 0) 0 a) 1 c) 2 e))) q2 (aI G 3 (fun _ => 0))) q2 (aI G 3 (upd (fun _ => 0) 0 b))) q2 (aI G 3 (upd (upd (fun _ => 0) 0 b) 1 d))) q2 (aI G 3 (upd (upd (upd (fun _ => 0) 0 b) 1 d) 2 f))) g (oB 11 [.ref vl, .ref nl, .ref kl, .ref fr, .ref dk, .int (nI (aOf σ)), .int (nI (aBg σ + 1))])) q1 = some (aI G 3 (upd (upd (upd (fun _ => 0) 0 a) 1 c) 2 e)) := (mU_n (Ne.symm n_75)).trans m_100
      have m_104 : (mU (mU (mU (mU (mU (mU (mU (mU (mU M q1 (aI G 3 (fun _ => 0))) q1 (aI G 3 (upd (fun _ => 0) 0 a))) q1 (aI G 3 (upd (upd (fun _ => 0) 0 a) 1 c))) q1 (aI G 3 (upd (upd (upd (fun _ => 0) 0 a) 1 c) 2 e))) q2 (aI G 3 (fun _ => 0))) q2 (aI G 3 (upd (fun _ => 0) 0 b))) q2 (aI G 3 (upd (upd (fun _ => 0) 0 b) 1 d))) q2 (aI G 3 (upd (upd (upd (fun _ => 0) 0 b) 1 d) 2 f))) g (oB 11 [.ref vl, .ref nl, .ref kl, .ref fr, .ref dk, .int (nI (aOf σ)), .int (nI (aBg σ + 1))])) q2 = some (aI G 3 (upd (upd (upd (fun _ => 0) 0 b) 1 d) 2 f)) := (mU_n (Ne.symm n_86)).trans m_101
      have elo : upd (upd (upd (fun _ => 0) 0 a) 1 c) 2 e = beLo n a c e := by unfold beLo; rw [if_pos h2, if_pos h3]
      have ehi : upd (upd (upd (fun _ => 0) 0 b) 1 d) 2 f = beLo n b d f := by unfold beLo; rw [if_pos h2, if_pos h3]
      refine q_aload_n X dX11_begin_166 2 rfl ?_
      refine q_new X (ci := 7) rfl in_RX7 tyX7 tyX7_ok tw_66 tw_67 tw_5 (fs0 := [.int 0, .null, .null, .null, .null, .int 0]) (fun j hj => by rcases (show j = 0 ∨ j = 1 ∨ j = 2 ∨ j = 3 ∨ j = 4 ∨ j = 5 by omega) with rfl | rfl | rfl | rfl | rfl | rfl <;> rfl) (rc' := 207) (rs' := 19388) (by omega) (by omega) dX11_begin_167 (fun q3 fq3 => ?_)
      have n_105 : g ≠ q3 := g_nef m_102 fq3
      have m_106 : (mU (mU (mU (mU (mU (mU (mU (mU (mU (mU M q1 (aI G 3 (fun _ => 0))) q1 (aI G 3 (upd (fun _ => 0) 0 a))) q1 (aI G 3 (upd (upd (fun _ => 0) 0 a) 1 c))) q1 (aI G 3 (upd (upd (upd (fun _ => 0) 0 a) 1 c) 2 e))) q2 (aI G 3 (fun _ => 0))) q2 (aI G 3 (upd (fun _ => 0) 0 b))) q2 (aI G 3 (upd (upd (fun _ => 0) 0 b) 1 d))) q2 (aI G 3 (upd (upd (upd (fun _ => 0) 0 b) 1 d) 2 f))) g (oB 11 [.ref vl, .ref nl, .ref kl, .ref fr, .ref dk, .int (nI (aOf σ)), .int (nI (aBg σ + 1))])) q3 (oB 7 [.int 0, .null, .null, .null, .null, .int 0])) g = some (oB 11 [.ref vl, .ref nl, .ref kl, .ref fr, .ref dk, .int (nI (aOf σ)), .int (nI (aBg σ + 1))]) := (mU_n n_105).trans m_102
      have n_107 : q1 ≠ q3 := g_nef m_103 fq3
      have m_108 : (mU (mU (mU (mU (mU (mU (mU (mU (mU (mU M q1 (aI G 3 (fun _ => 0))) q1 (aI G 3 (upd (fun _ => 0) 0 a))) q1 (aI G 3 (upd (upd (fun _ => 0) 0 a) 1 c))) q1 (aI G 3 (upd (upd (upd (fun _ => 0) 0 a) 1 c) 2 e))) q2 (aI G 3 (fun _ => 0))) q2 (aI G 3 (upd (fun _ => 0) 0 b))) q2 (aI G 3 (upd (upd (fun _ => 0) 0 b) 1 d))) q2 (aI G 3 (upd (upd (upd (fun _ => 0) 0 b) 1 d) 2 f))) g (oB 11 [.ref vl, .ref nl, .ref kl, .ref fr, .ref dk, .int (nI (aOf σ)), .int (nI (aBg σ + 1))])) q3 (oB 7 [.int 0, .null, .null, .null, .null, .int 0])) q1 = some (aI G 3 (upd (upd (upd (fun _ => 0) 0 a) 1 c) 2 e)) := (mU_n n_107).trans m_103
      have n_109 : q2 ≠ q3 := g_nef m_104 fq3
      have m_110 : (mU (mU (mU (mU (mU (mU (mU (mU (mU (mU M q1 (aI G 3 (fun _ => 0))) q1 (aI G 3 (upd (fun _ => 0) 0 a))) q1 (aI G 3 (upd (upd (fun _ => 0) 0 a) 1 c))) q1 (aI G 3 (upd (upd (upd (fun _ => 0) 0 a) 1 c) 2 e))) q2 (aI G 3 (fun _ => 0))) q2 (aI G 3 (upd (fun _ => 0) 0 b))) q2 (aI G 3 (upd (upd (fun _ => 0) 0 b) 1 d))) q2 (aI G 3 (upd (upd (upd (fun _ => 0) 0 b) 1 d) 2 f))) g (oB 11 [.ref vl, .ref nl, .ref kl, .ref fr, .ref dk, .int (nI (aOf σ)), .int (nI (aBg σ + 1))])) q3 (oB 7 [.int 0, .null, .null, .null, .null, .int 0])) q2 = some (aI G 3 (upd (upd (upd (fun _ => 0) 0 b) 1 d) 2 f)) := (mU_n n_109).trans m_104
      have m_111 : (mU (mU (mU (mU (mU (mU (mU (mU (mU (mU M q1 (aI G 3 (fun _ => 0))) q1 (aI G 3 (upd (fun _ => 0) 0 a))) q1 (aI G 3 (upd (upd (fun _ => 0) 0 a) 1 c))) q1 (aI G 3 (upd (upd (upd (fun _ => 0) 0 a) 1 c) 2 e))) q2 (aI G 3 (fun _ => 0))) q2 (aI G 3 (upd (fun _ => 0) 0 b))) q2 (aI G 3 (upd (upd (fun _ => 0) 0 b) 1 d))) q2 (aI G 3 (upd (upd (upd (fun _ => 0) 0 b) 1 d) 2 f))) g (oB 11 [.ref vl, .ref nl, .ref kl, .ref fr, .ref dk, .int (nI (aOf σ)), .int (nI (aBg σ + 1))])) q3 (oB 7 [.int 0, .null, .null, .null, .null, .int 0])) q3 = some (oB 7 [.int 0, .null, .null, .null, .null, .int 0]) := mU_s
      have nq3 : M q3 = none := by
        have w := fq3
        cases h9 : M q3 with
        | none => rfl
        | some e9 =>
          have w1 : q3 ≠ q1 := fun z => by rw [z, fq1] at h9; cases h9
          have w2 : q3 ≠ q2 := fun z => by rw [z, nq2] at h9; cases h9
          by_cases w3 : q3 = g
          · rw [w3, mU_s] at w; cases w
          · simp only [mU, w1, w2, w3, if_false] at w; rw [h9] at w; cases w
      refine q_dup X dX11_begin_170 rfl ?_
      refine q_iload_n X dX11_begin_171 3 rfl ?_
      refine q_aload X dX11_begin_172 1 rfl ?_
      refine q_aload X dX11_begin_174 0 rfl ?_
      have hm1 : (mU (mU (mU (mU (mU (mU (mU (mU (mU (mU M q1 (aI G 3 (fun _ => 0))) q1 (aI G 3 (upd (fun _ => 0) 0 a))) q1 (aI G 3 (upd (upd (fun _ => 0) 0 a) 1 c))) q1 (aI G 3 (upd (upd (upd (fun _ => 0) 0 a) 1 c) 2 e))) q2 (aI G 3 (fun _ => 0))) q2 (aI G 3 (upd (fun _ => 0) 0 b))) q2 (aI G 3 (upd (upd (fun _ => 0) 0 b) 1 d))) q2 (aI G 3 (upd (upd (upd (fun _ => 0) 0 b) 1 d) 2 f))) g (oB 11 [.ref vl, .ref nl, .ref kl, .ref fr, .ref dk, .int (nI (aOf σ)), .int (nI (aBg σ + 1))])) q3 (oB 7 [.int 0, .null, .null, .null, .null, .int 0])) q1 = some (aI G 3 (beLo n a c e)) := by rw [← elo]; exact m_108
      have hm2 : (mU (mU (mU (mU (mU (mU (mU (mU (mU (mU M q1 (aI G 3 (fun _ => 0))) q1 (aI G 3 (upd (fun _ => 0) 0 a))) q1 (aI G 3 (upd (upd (fun _ => 0) 0 a) 1 c))) q1 (aI G 3 (upd (upd (upd (fun _ => 0) 0 a) 1 c) 2 e))) q2 (aI G 3 (fun _ => 0))) q2 (aI G 3 (upd (fun _ => 0) 0 b))) q2 (aI G 3 (upd (upd (fun _ => 0) 0 b) 1 d))) q2 (aI G 3 (upd (upd (upd (fun _ => 0) 0 b) 1 d) 2 f))) g (oB 11 [.ref vl, .ref nl, .ref kl, .ref fr, .ref dk, .int (nI (aOf σ)), .int (nI (aBg σ + 1))])) q3 (oB 7 [.int 0, .null, .null, .null, .null, .int 0])) q2 = some (aI G 3 (beLo n b d f)) := by rw [← ehi]; exact m_110
      have hm3 := m_111
      have hGq := m_106
      have fq39 := fq3
      have evq : mEv (fun x => x = g) M (mU (mU (mU (mU (mU (mU (mU (mU (mU (mU M q1 (aI G 3 (fun _ => 0))) q1 (aI G 3 (upd (fun _ => 0) 0 a))) q1 (aI G 3 (upd (upd (fun _ => 0) 0 a) 1 c))) q1 (aI G 3 (upd (upd (upd (fun _ => 0) 0 a) 1 c) 2 e))) q2 (aI G 3 (fun _ => 0))) q2 (aI G 3 (upd (fun _ => 0) 0 b))) q2 (aI G 3 (upd (upd (fun _ => 0) 0 b) 1 d))) q2 (aI G 3 (upd (upd (upd (fun _ => 0) 0 b) 1 d) 2 f))) g (oB 11 [.ref vl, .ref nl, .ref kl, .ref fr, .ref dk, .int (nI (aOf σ)), .int (nI (aBg σ + 1))])) q3 (oB 7 [.int 0, .null, .null, .null, .null, .int 0])) := fun x hx => by
        have w1 : x ≠ q1 := fun z => hx (z ▸ fq1)
        have w2 : x ≠ q2 := fun z => hx (by rw [z]; exact nq2)
        have w3 : x ≠ q3 := fun z => hx (by rw [z]; exact nq3)
        by_cases w4 : x = g
        · subst w4; exact ⟨g_so m_106, fun z => absurd rfl z⟩
        · refine ⟨?_, fun _ => ?_⟩
          · simp only [mU, w1, w2, w3, w4, if_false]; exact hx
          · simp only [mU, w1, w2, w3, w4, if_false]
      have ndd : ∀ {x : Nat}, (mU (mU (mU (mU (mU (mU (mU (mU (mU (mU M q1 (aI G 3 (fun _ => 0))) q1 (aI G 3 (upd (fun _ => 0) 0 a))) q1 (aI G 3 (upd (upd (fun _ => 0) 0 a) 1 c))) q1 (aI G 3 (upd (upd (upd (fun _ => 0) 0 a) 1 c) 2 e))) q2 (aI G 3 (fun _ => 0))) q2 (aI G 3 (upd (fun _ => 0) 0 b))) q2 (aI G 3 (upd (upd (fun _ => 0) 0 b) 1 d))) q2 (aI G 3 (upd (upd (upd (fun _ => 0) 0 b) 1 d) 2 f))) g (oB 11 [.ref vl, .ref nl, .ref kl, .ref fr, .ref dk, .int (nI (aOf σ)), .int (nI (aBg σ + 1))])) q3 (oB 7 [.int 0, .null, .null, .null, .null, .int 0])) x = none → M x = none := fun h => evq.none h
      refine q_callI X (c_X7_init (lo := beLo n a c e) (hi := beLo n b d f) hm3 hm1 hm2) Y_X7_init tw_68 tw_69 rfl (by omega) rfl rfl (Nat.le_of_ble_eq_true rfl) (rc' := 205) (rs' := 19382) (by omega) (by omega) dX11_begin_176 (fun v M' hp _ => ?_)
      obtain ⟨rfl, i1, dw, dd, i2w, i2, i3⟩ := hp
      generalize M' = M2 at *
      show qJ G F _ 10 M2 205 19382 179 [(9, .ref q2), (8, .ref q1), (0, .ref g), (1, .int n), (2, .int a), (3, .int b), (4, .int c), (5, .int d), (6, .int e), (7, .int f)] [.ref q3, .ref g]
      have ev2 : mEv (fun x => x = g) M M2 := fun x hx => by
        have e1 := evq x hx
        have n1 : x ≠ q3 := fun z => hx (by rw [z]; exact nq3)
        have n2 : x ≠ dd := fun z => hx (by rw [z]; exact ndd i2)
        have n2w : x ≠ dw := fun z => hx (by rw [z]; exact ndd i2w)
        have e := i3 x n1 n2w n2
        exact ⟨by rw [e]; exact (evq x hx).1, fun k => e.trans ((evq x hx).2 k)⟩
      have gq3 : g ≠ q3 := fun z => g_so hG (by rw [z]; exact nq3)
      have gdd : g ≠ dd := fun z => g_so hG (by rw [z]; exact ndd i2)
      have gdw : g ≠ dw := fun z => g_so hG (by rw [z]; exact ndd i2w)
      have hG2 : M2 g = some (oB 11 [.ref vl, .ref nl, .ref kl, .ref fr, .ref dk, .int (nI (aOf σ)), .int (nI (aBg σ + 1))]) := by rw [i3 g gq3 gdw gdd]; exact hGq
      have l4 := b4.ev ev2 (fun z => by rw [z, hG] at vL1; cases vL1) (fun _ z => b4.ned hda hG (fun _ _ q => by cases q) z.symm)
      have l5 := b5.ev ev2 (fun z => by rw [z, hG] at nL1; cases nL1) (fun _ z => b5.ned hda hG (fun _ _ q => by cases q) z.symm)
      have l6 := b6.ev ev2 (fun z => by rw [z, hG] at kL1; cases kL1) (fun _ z => b6.ned hda hG (fun _ _ q => by cases q) z.symm)
      refine q_callV X (c_startAnew (m := n.toNatClampNeg) (bg := aBg σ + 1) hG2 (by rw [← em2, ← em]; exact i1) ok1 ok2 l4 l5 l6 b11.1 b11.2.1 b11.2.2.1 b11.2.2.2.1 b11.2.2.2.2.1 b11.2.2.2.2.2.1 hbg2) Y_X11_startAnew tw_108 tw_110 sel_0 hG2 rfl (by omega) rfl rfl (Nat.le_of_ble_eq_true rfl) (rc' := 4) (rs' := 82) (by omega) (by omega) dX11_begin_179 (fun v M' hp _ => ?_)
      obtain ⟨rfl, i9⟩ := hp
      generalize M' = M3 at *
      show qJ G F _ 10 M3 4 82 182 [(9, .ref q2), (8, .ref q1), (0, .ref g), (1, .int n), (2, .int a), (3, .int b), (4, .int c), (5, .int d), (6, .int e), (7, .int f)] []
      exact x_ret (q_vret X hr dX11_begin_182 (gzP_K specE i9))
  show qJ G F _ 10 M 210 19400 0 [(0, .ref g), (1, .int n), (2, .int a), (3, .int b), (4, .int c), (5, .int d), (6, .int e), (7, .int f)] []
  refine q_aload_n X dX11_begin_0 0 rfl ?_
  refine q_get X hG rfl in_RX11 6 (by decide) tw_283 rfl rfl dX11_begin_1 ?_
  refine q_iconst (v := 2) X dX11_begin_4 (by decide) ?_
  refine q_icmp_lt X 18 dX11_begin_5 (by decide) (fun c5 => ?_) (fun c5 => ?_)
  · refine q_iload_n X dX11_begin_18 1 rfl ?_
    refine q_iconst (v := 1) X dX11_begin_19 (by decide) ?_
    refine q_icmp_lt X 32 dX11_begin_20 (by decide) (fun c20 => ?_) (fun c20 => ?_)
    · refine q_iconst (v := 0) X dX11_begin_32 (by decide) ?_
      exact x_callS X (c_need hl) Y_X11_need tw_377 tw_378 (by omega) rfl rfl (Nat.le_of_ble_eq_true rfl) (rc' := 209) (rs' := 19394) (by omega) (by omega) dX11_begin_33 (fun v M' hp _ => absurd rfl hp.2.1) (fun E M' hx => t_out X hN (by obtain ⟨rfl, -, eM⟩ := hx; rw [eM]; exact gzE_T (by unfold sp_begin; rw [if_neg (not_not_intro c5), if_pos c20]) h))
    · refine q_iload_n X dX11_begin_23 1 rfl ?_
      refine q_iconst (v := 3) X dX11_begin_24 (by decide) ?_
      refine q_icmp_gt X 32 dX11_begin_25 (by decide) (fun c25 => ?_) (fun c25 => ?_)
      · refine q_iconst (v := 0) X dX11_begin_32 (by decide) ?_
        exact x_callS X (c_need hl) Y_X11_need tw_377 tw_378 (by omega) rfl rfl (Nat.le_of_ble_eq_true rfl) (rc' := 209) (rs' := 19394) (by omega) (by omega) dX11_begin_33 (fun v M' hp _ => absurd rfl hp.2.1) (fun E M' hx => t_out X hN (by obtain ⟨rfl, -, eM⟩ := hx; rw [eM]; exact gzE_T (by unfold sp_begin; rw [if_neg (not_not_intro c5), if_neg c20, if_pos c25]) h))
      · refine q_iconst (v := 1) X dX11_begin_28 (by decide) ?_
        refine q_goto X 33 dX11_begin_29 (by decide) ?_
        refine q_callS X (c_need1) Y_X11_need tw_377 tw_378 (by omega) rfl rfl (Nat.le_of_ble_eq_true rfl) (rc' := 210) (rs' := 19400) (by omega) (by omega) dX11_begin_33 (fun v M' hp _ => ?_)
        obtain ⟨rfl, eM⟩ := hp
        rw [eM]
        clear eM
        show qJ G F _ 10 M 210 19400 36 [(0, .ref g), (1, .int n), (2, .int a), (3, .int b), (4, .int c), (5, .int d), (6, .int e), (7, .int f)] []
        refine q_iload_n X dX11_begin_36 2 rfl ?_
        refine q_iload_n X dX11_begin_37 3 rfl ?_
        refine q_callSp X (c_isArrayRange) Y_X11_isArrayRange tw_396 tw_397 (by omega) rfl rfl (Nat.le_of_ble_eq_true rfl) dX11_begin_38 ?_
        refine q_if_eq X 78 dX11_begin_41 (by decide) (fun c41 => ?_) (fun c41 => ?_)
        · refine q_iconst (v := 0) X dX11_begin_78 (by decide) ?_
          exact x_callS X (c_need hl) Y_X11_need tw_377 tw_378 (by omega) rfl rfl (Nat.le_of_ble_eq_true rfl) (rc' := 209) (rs' := 19394) (by omega) (by omega) dX11_begin_79 (fun v M' hp _ => absurd rfl hp.2.1) (fun E M' hx => t_out X hN (by obtain ⟨rfl, -, eM⟩ := hx; rw [eM]; exact gzE_T (by unfold sp_begin; rw [if_neg (not_not_intro c5), if_neg c20, if_neg c25, if_pos c41]) h))
        · refine q_iload_n X dX11_begin_44 1 rfl ?_
          refine q_iconst (v := 2) X dX11_begin_45 (by decide) ?_
          refine q_icmp_lt X 59 dX11_begin_46 (by decide) (fun c46 => ?_) (fun c46 => ?_)
          · refine q_iload_n X dX11_begin_59 1 rfl ?_
            refine q_iconst (v := 3) X dX11_begin_60 (by decide) ?_
            refine q_icmp_lt X 74 dX11_begin_61 (by decide) (fun c61 => ?_) (fun c61 => ?_)
            · refine q_iconst (v := 1) X dX11_begin_74 (by decide) ?_
              refine q_goto X 79 dX11_begin_75 (by decide) ?_
              refine q_callS X (c_need1) Y_X11_need tw_377 tw_378 (by omega) rfl rfl (Nat.le_of_ble_eq_true rfl) (rc' := 210) (rs' := 19400) (by omega) (by omega) dX11_begin_79 (fun v M' hp _ => ?_)
              obtain ⟨rfl, eM⟩ := hp
              rw [eM]
              clear eM
              show qJ G F _ 10 M 210 19400 82 [(0, .ref g), (1, .int n), (2, .int a), (3, .int b), (4, .int c), (5, .int d), (6, .int e), (7, .int f)] []
              refine q_sub [0, 1, 2, 3, 4, 5, 6, 7] rfl ?_
              exact tail c5 c20 c25 c41 (Or.inl c46) (Or.inl c61)
            · refine q_iload X dX11_begin_64 6 rfl ?_
              refine q_iload X dX11_begin_66 7 rfl ?_
              refine q_callSp X (c_isArrayRange) Y_X11_isArrayRange tw_396 tw_397 (by omega) rfl rfl (Nat.le_of_ble_eq_true rfl) dX11_begin_68 ?_
              refine q_if_eq X 78 dX11_begin_71 (by decide) (fun c71 => ?_) (fun c71 => ?_)
              · refine q_iconst (v := 0) X dX11_begin_78 (by decide) ?_
                exact x_callS X (c_need hl) Y_X11_need tw_377 tw_378 (by omega) rfl rfl (Nat.le_of_ble_eq_true rfl) (rc' := 209) (rs' := 19394) (by omega) (by omega) dX11_begin_79 (fun v M' hp _ => absurd rfl hp.2.1) (fun E M' hx => t_out X hN (by obtain ⟨rfl, -, eM⟩ := hx; rw [eM]; exact gzE_T (by unfold sp_begin; rw [if_neg (not_not_intro c5), if_neg c20, if_neg c25, if_neg c41, if_neg (fun z => z.1 c46), if_pos ⟨c61, c71⟩]) h))
              · refine q_iconst (v := 1) X dX11_begin_74 (by decide) ?_
                refine q_goto X 79 dX11_begin_75 (by decide) ?_
                refine q_callS X (c_need1) Y_X11_need tw_377 tw_378 (by omega) rfl rfl (Nat.le_of_ble_eq_true rfl) (rc' := 210) (rs' := 19400) (by omega) (by omega) dX11_begin_79 (fun v M' hp _ => ?_)
                obtain ⟨rfl, eM⟩ := hp
                rw [eM]
                clear eM
                show qJ G F _ 10 M 210 19400 82 [(0, .ref g), (1, .int n), (2, .int a), (3, .int b), (4, .int c), (5, .int d), (6, .int e), (7, .int f)] []
                refine q_sub [0, 1, 2, 3, 4, 5, 6, 7] rfl ?_
                exact tail c5 c20 c25 c41 (Or.inl c46) (Or.inr c71)
          · refine q_iload X dX11_begin_49 4 rfl ?_
            refine q_iload X dX11_begin_51 5 rfl ?_
            refine q_callSp X (c_isArrayRange) Y_X11_isArrayRange tw_396 tw_397 (by omega) rfl rfl (Nat.le_of_ble_eq_true rfl) dX11_begin_53 ?_
            refine q_if_eq X 78 dX11_begin_56 (by decide) (fun c56 => ?_) (fun c56 => ?_)
            · refine q_iconst (v := 0) X dX11_begin_78 (by decide) ?_
              exact x_callS X (c_need hl) Y_X11_need tw_377 tw_378 (by omega) rfl rfl (Nat.le_of_ble_eq_true rfl) (rc' := 209) (rs' := 19394) (by omega) (by omega) dX11_begin_79 (fun v M' hp _ => absurd rfl hp.2.1) (fun E M' hx => t_out X hN (by obtain ⟨rfl, -, eM⟩ := hx; rw [eM]; exact gzE_T (by unfold sp_begin; rw [if_neg (not_not_intro c5), if_neg c20, if_neg c25, if_neg c41, if_pos ⟨c46, c56⟩]) h))
            · refine q_iload_n X dX11_begin_59 1 rfl ?_
              refine q_iconst (v := 3) X dX11_begin_60 (by decide) ?_
              refine q_icmp_lt X 74 dX11_begin_61 (by decide) (fun c61 => ?_) (fun c61 => ?_)
              · refine q_iconst (v := 1) X dX11_begin_74 (by decide) ?_
                refine q_goto X 79 dX11_begin_75 (by decide) ?_
                refine q_callS X (c_need1) Y_X11_need tw_377 tw_378 (by omega) rfl rfl (Nat.le_of_ble_eq_true rfl) (rc' := 210) (rs' := 19400) (by omega) (by omega) dX11_begin_79 (fun v M' hp _ => ?_)
                obtain ⟨rfl, eM⟩ := hp
                rw [eM]
                clear eM
                show qJ G F _ 10 M 210 19400 82 [(0, .ref g), (1, .int n), (2, .int a), (3, .int b), (4, .int c), (5, .int d), (6, .int e), (7, .int f)] []
                refine q_sub [0, 1, 2, 3, 4, 5, 6, 7] rfl ?_
                exact tail c5 c20 c25 c41 (Or.inr c56) (Or.inl c61)
              · refine q_iload X dX11_begin_64 6 rfl ?_
                refine q_iload X dX11_begin_66 7 rfl ?_
                refine q_callSp X (c_isArrayRange) Y_X11_isArrayRange tw_396 tw_397 (by omega) rfl rfl (Nat.le_of_ble_eq_true rfl) dX11_begin_68 ?_
                refine q_if_eq X 78 dX11_begin_71 (by decide) (fun c71 => ?_) (fun c71 => ?_)
                · refine q_iconst (v := 0) X dX11_begin_78 (by decide) ?_
                  exact x_callS X (c_need hl) Y_X11_need tw_377 tw_378 (by omega) rfl rfl (Nat.le_of_ble_eq_true rfl) (rc' := 209) (rs' := 19394) (by omega) (by omega) dX11_begin_79 (fun v M' hp _ => absurd rfl hp.2.1) (fun E M' hx => t_out X hN (by obtain ⟨rfl, -, eM⟩ := hx; rw [eM]; exact gzE_T (by unfold sp_begin; rw [if_neg (not_not_intro c5), if_neg c20, if_neg c25, if_neg c41, if_neg (fun z => c56 z.2), if_pos ⟨c61, c71⟩]) h))
                · refine q_iconst (v := 1) X dX11_begin_74 (by decide) ?_
                  refine q_goto X 79 dX11_begin_75 (by decide) ?_
                  refine q_callS X (c_need1) Y_X11_need tw_377 tw_378 (by omega) rfl rfl (Nat.le_of_ble_eq_true rfl) (rc' := 210) (rs' := 19400) (by omega) (by omega) dX11_begin_79 (fun v M' hp _ => ?_)
                  obtain ⟨rfl, eM⟩ := hp
                  rw [eM]
                  clear eM
                  show qJ G F _ 10 M 210 19400 82 [(0, .ref g), (1, .int n), (2, .int a), (3, .int b), (4, .int c), (5, .int d), (6, .int e), (7, .int f)] []
                  refine q_sub [0, 1, 2, 3, 4, 5, 6, 7] rfl ?_
                  exact tail c5 c20 c25 c41 (Or.inr c56) (Or.inr c71)
  · exact x_throw X rfl hN hl xe_IS tw_308 tw_19 (s_37 X) dX11_begin_8 dX11_begin_11 dX11_begin_12 dX11_begin_14 dX11_begin_17 (by omega) (Nat.le_of_ble_eq_true rfl) (by omega) (by omega) (gzE_T (by unfold sp_begin; rw [if_pos c5]) h)
