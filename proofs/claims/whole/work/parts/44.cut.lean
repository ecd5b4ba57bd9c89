/-! the chunks of a frame -/
theorem lo_4 {lo : Int32} {a : Nat} : lo + nI (4 * a) + 4 = lo + nI (4 * (a + 1)) := by rw [Int32.add_assoc, show nI (4 * a) + 4 = nI (4 * a + 4) from nI_add _ 4]; rfl
def n4 (s : Nat) : Nat := (s + 3) / 4
/-- the chunk number b of a frame of A, B, C places -/
def chW (A B C b : Nat) : Nat := ckN A B C (4 * (b / (n4 B * n4 C))) (4 * (b / n4 C % n4 B)) (4 * (b % n4 C))
def chP (_A B C b : Nat) : Nat → Nat := ckP B C (4 * (b / (n4 B * n4 C))) (4 * (b / n4 C % n4 B)) (4 * (b % n4 C)) (ckW B (4 * (b / n4 C % n4 B))) (ckW C (4 * (b % n4 C)))
def chN (A B C : Nat) : Nat := n4 A * n4 B * n4 C
theorem chW_c3 {A B C e j k : Nat} (hj : j < n4 B) (hk : k < n4 C) : chW A B C (c3 (n4 B) (n4 C) e j k) = ckN A B C (4 * e) (4 * j) (4 * k) := by
  unfold chW; rw [c3_i hj hk, c3_jj hj hk, c3_kk hk]
theorem chP_c3 {A B C e j k : Nat} (hj : j < n4 B) (hk : k < n4 C) : chP A B C (c3 (n4 B) (n4 C) e j k) = ckP B C (4 * e) (4 * j) (4 * k) (ckW B (4 * j)) (ckW C (4 * k)) := by
  unfold chP; rw [c3_i hj hk, c3_jj hj hk, c3_kk hk]
/-- the list of chunks, c of them made since M -/
def cutI (G : gV) (M : gMem) (kl ed0 A B C c : Nat) (M1 : gMem) : Prop := ∃ (ed : Nat) (ks : List Nat), isList G M1 kl ed ks ∧ ks.length = c ∧ (∀ b k, ks[b]? = some k → M k = none ∧ okE M1 k ∧ isChunk G M1 k (chW A B C b) (A * B * C) (chP A B C b)) ∧ (ed = ed0 ∨ M ed = none) ∧ mEv (fun q => q = kl ∨ q = ed0) M M1

set_option maxRecDepth 20000 in
theorem c_X11_cutChunks {l : Launch} {G : gV} {M : gMem} {g vl nl kl fr dk ed0 m : Nat} {dv bg : Int32} {lo hi : Nat → Int32} {ks0 : List Nat} (hG : M g = some (oB 11 [.ref vl, .ref nl, .ref kl, .ref fr, .ref dk, .int dv, .int bg])) (hS : isShape G M fr (nI m) lo hi) (hO : okS m lo hi) (h16 : ∀ d, d < 3 → sN lo hi d ≤ 16) (hL : isList G M kl ed0 ks0) : qC l G yX11_cutChunks cX11_cutChunks 4 none 8 192 10816 [.ref g] M (fun v M' => v = none ∧ cutI G M kl ed0 (sN lo hi 0) (sN lo hi 1) (sN lo hi 2) (chN (sN lo hi 0) (sN lo hi 1) (sN lo hi 2)) M') := by
  refine qC_of (by decide +kernel) (Nat.le_of_ble_eq_true rfl) (fun F hF X hr hn => ?_)
  subst hF
  have X : qX G F cX11_cutChunks 4 RX11 8 := X
  have hN0 := hO.N (d := 0) (by decide)
  have hN1 := hO.N (d := 1) (by decide)
  have hN2 := hO.N (d := 2) (by decide)
  have l0 := hO.lo (d := 0) (by decide)
  have l1 := hO.lo (d := 1) (by decide)
  have l2 := hO.lo (d := 2) (by decide)
  have m0 := h16 0 (by decide)
  have m1 := h16 1 (by decide)
  have m2 := h16 2 (by decide)
  have y0 := hO.hi (d := 0) (by decide)
  have y1 := hO.hi (d := 1) (by decide)
  have y2 := hO.hi (d := 2) (by decide)
  have hz : sz3 lo hi ≤ 4096 := Nat.le_trans (Nat.mul_le_mul (Nat.mul_le_mul m0 m1) m2) (by decide)
  have h64 : chN (sN lo hi 0) (sN lo hi 1) (sN lo hi 2) ≤ 64 := Nat.le_trans (Nat.mul_le_mul (Nat.mul_le_mul (show n4 (sN lo hi 0) ≤ 4 by unfold n4; omega) (show n4 (sN lo hi 1) ≤ 4 by unfold n4; omega)) (show n4 (sN lo hi 2) ≤ 4 by unfold n4; omega)) (by decide)
  have a0 : ∀ t, t < n4 (sN lo hi 0) ↔ 4 * t < sN lo hi 0 := fun t => by unfold n4; omega
  have a1 : ∀ t, t < n4 (sN lo hi 1) ↔ 4 * t < sN lo hi 1 := fun t => by unfold n4; omega
  have a2 : ∀ t, t < n4 (sN lo hi 2) ↔ 4 * t < sN lo hi 2 := fun t => by unfold n4; omega
  have z0 : 4 * n4 (sN lo hi 0) < 100 := by unfold n4; omega
  have z1 : 4 * n4 (sN lo hi 1) < 100 := by unfold n4; omega
  have z2 : 4 * n4 (sN lo hi 2) < 100 := by unfold n4; omega
  obtain ⟨sb, sc, sd, sp, s1, s2, s3, s4, s5⟩ := id hS
  obtain ⟨mv0, hK0⟩ := id hL.2.1
  have loops : M (gDA G) = none → ∀ M8 : gMem, cutI G M kl ed0 (sN lo hi 0) (sN lo hi 1) (sN lo hi 2) (c3 (n4 (sN lo hi 1)) (n4 (sN lo hi 2)) 0 0 0) M8 → qJ G F (qQ G F (fun v M' => v = none ∧ cutI G M kl ed0 (sN lo hi 0) (sN lo hi 1) (sN lo hi 2) (chN (sN lo hi 0) (sN lo hi 1) (sN lo hi 2)) M')) 4 M8 (3 * (64 - c3 (n4 (sN lo hi 1)) (n4 (sN lo hi 2)) 0 0 0)) (169 * (64 - c3 (n4 (sN lo hi 1)) (n4 (sN lo hi 2)) 0 0 0)) 18 [(0, .ref g), (1, .int (lo 0 + nI (4 * 0)))] [] := by
    intro hda M8 hI0
    have nk : ∀ {q : Nat} {e : va_E}, M q = some e → (∀ n f, e ≠ aO G n f) → (∀ fs0, e ≠ oB 0 fs0) → ¬ (q = kl ∨ q = ed0) := fun h h1 h2 z => by
      rcases z with z | z
      · exact hL.nea h h2 z
      · exact hL.ned hda h h1 z
    have gob : ∀ {M1 : gMem} {c : Nat}, cutI G M kl ed0 (sN lo hi 0) (sN lo hi 1) (sN lo hi 2) (c) M1 → M1 g = some (oB 11 [.ref vl, .ref nl, .ref kl, .ref fr, .ref dk, .int dv, .int bg]) ∧ isShape G M1 fr (nI m) lo hi ∧ M1 fr = some (oB 7 [.int (nI m), .ref sb, .ref sc, .ref sp.2.1, .ref sd, .int (sL lo hi 0 * sL lo hi 1 * sL lo hi 2)]) := by
      intro M1 c hI
      obtain ⟨ed, ks, -, -, -, -, hf⟩ := hI
      exact ⟨hf.keep hG (nk hG (fun _ _ z => by cases z) (fun _ z => by cases z)), hS.ev hf (fun q hq => by rcases hq with ⟨_, h⟩ | ⟨_, h⟩; exact nk h (fun _ _ z => by cases z) (fun _ z => by cases z); exact nk h (fun _ _ z => by simp at z) (fun _ z => by cases z)), hf.keep s1 (nk s1 (fun _ _ z => by cases z) (fun _ z => by cases z))⟩
    have L2 : ∀ (e j : Nat) (he : e < n4 (sN lo hi 0)) (hj : j < n4 (sN lo hi 1)) (kk : ∀ M2 : gMem, cutI G M kl ed0 (sN lo hi 0) (sN lo hi 1) (sN lo hi 2) (c3 (n4 (sN lo hi 1)) (n4 (sN lo hi 2)) e j (n4 (sN lo hi 2))) M2 → qJ G F (qQ G F (fun v M' => v = none ∧ cutI G M kl ed0 (sN lo hi 0) (sN lo hi 1) (sN lo hi 2) (chN (sN lo hi 0) (sN lo hi 1) (sN lo hi 2)) M')) 4 M2 (3 * (64 - c3 (n4 (sN lo hi 1)) (n4 (sN lo hi 2)) e j (n4 (sN lo hi 2)))) (169 * (64 - c3 (n4 (sN lo hi 1)) (n4 (sN lo hi 2)) e j (n4 (sN lo hi 2)))) 102 [(0, .ref g), (1, .int (lo 0 + nI (4 * e))), (2, .int (lo 1 + nI (4 * j)))] []) (t k : Nat) (M1 : gMem), k + t = n4 (sN lo hi 2) → cutI G M kl ed0 (sN lo hi 0) (sN lo hi 1) (sN lo hi 2) (c3 (n4 (sN lo hi 1)) (n4 (sN lo hi 2)) e j k) M1 → qJ G F (qQ G F (fun v M' => v = none ∧ cutI G M kl ed0 (sN lo hi 0) (sN lo hi 1) (sN lo hi 2) (chN (sN lo hi 0) (sN lo hi 1) (sN lo hi 2)) M')) 4 M1 (3 * (64 - c3 (n4 (sN lo hi 1)) (n4 (sN lo hi 2)) e j k)) (169 * (64 - c3 (n4 (sN lo hi 1)) (n4 (sN lo hi 2)) e j k)) 60 [(0, .ref g), (1, .int (lo 0 + nI (4 * e))), (2, .int (lo 1 + nI (4 * j))), (3, .int (lo 2 + nI (4 * k)))] [] := by
      intro e j he hj kk t
      induction t with
      | zero =>
        intro k M1 hk0 hI
        obtain rfl : k = n4 (sN lo hi 2) := by omega
        obtain ⟨hg1, hs1, hf1⟩ := gob hI
        refine q_iload_n X dX11_cutChunks_60 3 rfl ?_
        refine q_aload_n X dX11_cutChunks_61 0 rfl ?_
        refine q_get X hg1 rfl in_RX11 3 (by decide) tw_280 rfl rfl dX11_cutChunks_62 ?_
        refine q_iconst (v := 2) X dX11_cutChunks_65 (by decide) ?_
        refine q_callVp X (c_X7_highN hs1.lh 2 (by decide) (by decide)) Y_X7_high tw_251 tw_73 tw_74 hf1 rfl (by decide) rfl rfl (Nat.le_of_ble_eq_true rfl) dX11_cutChunks_66 ?_
        refine q_icmp_gt X 102 dX11_cutChunks_69 (by decide) (fun c_1 => ?_) (fun c_1 => absurd (by rw [y2]; exact (lo_lt l2.1 l2.2 (by omega) (by omega)).mpr (by have := mt (a2 (n4 (sN lo hi 2))).mpr (Nat.lt_irrefl _); omega)) c_1)
        refine q_sub [0, 1, 2] rfl ?_
        exact kk M1 hI
      | succ t ih =>
        intro k M1 hk0 hI
        have hk : k < n4 (sN lo hi 2) := by omega
        obtain ⟨hg1, hs1, hf1⟩ := gob hI
        refine q_iload_n X dX11_cutChunks_60 3 rfl ?_
        refine q_aload_n X dX11_cutChunks_61 0 rfl ?_
        refine q_get X hg1 rfl in_RX11 3 (by decide) tw_280 rfl rfl dX11_cutChunks_62 ?_
        refine q_iconst (v := 2) X dX11_cutChunks_65 (by decide) ?_
        refine q_callVp X (c_X7_highN hs1.lh 2 (by decide) (by decide)) Y_X7_high tw_251 tw_73 tw_74 hf1 rfl (by decide) rfl rfl (Nat.le_of_ble_eq_true rfl) dX11_cutChunks_66 ?_
        refine q_icmp_gt X 102 dX11_cutChunks_69 (by decide) (fun c_2 => absurd ((lo_lt l2.1 l2.2 (by omega) (by have := (a2 k).mp hk; omega)).mp (y2 ▸ c_2)) (by have := (a2 k).mp hk; omega)) (fun c_2 => ?_)
        refine q_aload_n X dX11_cutChunks_72 0 rfl ?_
        refine q_get X hg1 rfl in_RX11 2 (by decide) tw_279 rfl rfl dX11_cutChunks_73 ?_
        refine q_new X (ci := 2) rfl in_RX1 tyX1 tyX1_ok tw_252 tw_253 tw_13 (fs0 := [.null]) (fun j hj => by rcases (show j = 0 by omega) with rfl <;> rfl) (rc' := 3 * (64 - c3 (n4 (sN lo hi 1)) (n4 (sN lo hi 2)) e j k) - 1) (rs' := 169 * (64 - c3 (n4 (sN lo hi 1)) (n4 (sN lo hi 2)) e j k) - 1) (by have := c3_lt he hj hk; have : n4 (sN lo hi 0) * n4 (sN lo hi 1) * n4 (sN lo hi 2) = chN (sN lo hi 0) (sN lo hi 1) (sN lo hi 2) := rfl; omega) (by have := c3_lt he hj hk; have : n4 (sN lo hi 0) * n4 (sN lo hi 1) * n4 (sN lo hi 2) = chN (sN lo hi 0) (sN lo hi 1) (sN lo hi 2) := rfl; omega) dX11_cutChunks_76 (fun q fq => ?_)
        have n_3 : g ≠ q := g_nef hg1 fq
        have m_4 : (mU M1 q (oB 2 [.null])) g = some (oB 11 [.ref vl, .ref nl, .ref kl, .ref fr, .ref dk, .int dv, .int bg]) := (mU_n n_3).trans hg1
        have n_5 : fr ≠ q := g_nef hf1 fq
        have m_6 : (mU M1 q (oB 2 [.null])) fr = some (oB 7 [.int (nI m), .ref sb, .ref sc, .ref sp.2.1, .ref sd, .int (sL lo hi 0 * sL lo hi 1 * sL lo hi 2)]) := (mU_n n_5).trans hf1
        have m_7 : (mU M1 q (oB 2 [.null])) q = some (oB 2 [.null]) := mU_s
        have fq9 := fq
        have hs9 : isShape G (mU M1 q (oB 2 [.null])) fr (nI m) lo hi := hs1.ext (mExt_new fq)
        clear fq
        refine q_dup X dX11_cutChunks_79 rfl ?_
        refine q_aload_n X dX11_cutChunks_80 0 rfl ?_
        refine q_get X m_4 rfl in_RX11 3 (by decide) tw_280 rfl rfl dX11_cutChunks_81 ?_
        refine q_iload_n X dX11_cutChunks_84 1 rfl ?_
        refine q_iload_n X dX11_cutChunks_85 2 rfl ?_
        refine q_iload_n X dX11_cutChunks_86 3 rfl ?_
        refine q_callI X (c_X1_init (X1 := 4 * e) (Y := 4 * j) (Z := 4 * k) mU_s hs9 hO ((a0 e).mp he) ((a1 j).mp hj) ((a2 k).mp hk) hz) Y_X1_init tw_254 tw_255 rfl (by decide) rfl rfl (Nat.le_of_ble_eq_true rfl) (rc' := 3 * (64 - c3 (n4 (sN lo hi 1)) (n4 (sN lo hi 2)) e j k) - 2) (rs' := 169 * (64 - c3 (n4 (sN lo hi 1)) (n4 (sN lo hi 2)) e j k) - 65) (by have := c3_lt he hj hk; have : n4 (sN lo hi 0) * n4 (sN lo hi 1) * n4 (sN lo hi 2) = chN (sN lo hi 0) (sN lo hi 1) (sN lo hi 2) := rfl; omega) (by have := c3_lt he hj hk; have : n4 (sN lo hi 0) * n4 (sN lo hi 1) * n4 (sN lo hi 2) = chN (sN lo hi 0) (sN lo hi 1) (sN lo hi 2) := rfl; omega) dX11_cutChunks_87 (fun v M' hp _ => ?_)
        have v3 := hp.ev
        obtain ⟨rfl, hck, -⟩ := hp
        generalize M' = M3 at *
        show qJ G F _ 4 M3 (3 * (64 - c3 (n4 (sN lo hi 1)) (n4 (sN lo hi 2)) e j k) - 2) (169 * (64 - c3 (n4 (sN lo hi 1)) (n4 (sN lo hi 2)) e j k) - 65) 90 [(0, .ref g), (1, .int (lo 0 + nI (4 * e))), (2, .int (lo 1 + nI (4 * j))), (3, .int (lo 2 + nI (4 * k)))] [.ref q, .ref kl]
        obtain ⟨ed, ks, i1, i2, i3, i4, i5⟩ := id hI
        obtain ⟨mv1, hkl1⟩ := id i1.2.1
        have ev3 : mEv (fun _ => False) M1 M3 := fun x hx => ⟨(v3 x (mEv_new (K := fun _ => False) fq9 x hx).1).1, fun _ => ((v3 x (mEv_new (K := fun _ => False) fq9 x hx).1).2 (fun z => hx (z ▸ fq9))).trans ((mEv_new (K := fun _ => False) fq9 x hx).2 id)⟩
        have i6 : isList G M3 kl ed ks := i1.mv ((ev3 kl (g_so hkl1)).2 id) (fun n f h => (ev3 ed (g_so h)).2 id)
        have hkl3 : M3 kl = some (oB 0 [.int mv1, .ref ed, .int (nI ks.length)]) := ev3.keep hkl1 id
        have hcl : ks.length = c3 (n4 (sN lo hi 1)) (n4 (sN lo hi 2)) e j k := i2
        obtain ⟨p9, pl9, k9, k10, k11⟩ := id hck
        have hokq : okE M3 q := ⟨2, _, _, _, _, k9, rfl, tn_1471⟩
        have hok3 : ∀ y ∈ ks, okE M3 y := fun y hy => by obtain ⟨b, hb⟩ := List.getElem?_of_mem hy; obtain ⟨-, v2, -⟩ := i3 b y hb; exact v2.ev ev3 id
        refine q_da X (fun hda3 => ?_)
        refine q_callF X (x := ⟨"java/util/List", "add", "(Ljava/lang/Object;)Z"⟩) (c_list_add (v := q) (ms := 104) i6 hokq hok3 (by have := c3_lt he hj hk; have : n4 (sN lo hi 0) * n4 (sN lo hi 1) * n4 (sN lo hi 2) = chN (sN lo hi 0) (sN lo hi 1) (sN lo hi 2) := rfl; rw [hcl]; omega) (by have := c3_lt he hj hk; have : n4 (sN lo hi 0) * n4 (sN lo hi 1) * n4 (sN lo hi 2) = chN (sN lo hi 0) (sN lo hi 1) (sN lo hi 2) := rfl; rw [hcl]; omega)) Y_Jx4a65c_add_9ea2d tw_179 tw_182 tw_184 tn_181 tn_180 tn_185 tn_183 tn_137 (by decide +kernel) hkl3 rfl (by omega) rfl rfl (Nat.le_of_ble_eq_true rfl) (rc' := 3 * (64 - c3 (n4 (sN lo hi 1)) (n4 (sN lo hi 2)) e j (k + 1))) (rs' := 169 * (64 - c3 (n4 (sN lo hi 1)) (n4 (sN lo hi 2)) e j (k + 1))) (by rw [show c3 (n4 (sN lo hi 1)) (n4 (sN lo hi 2)) e j (k + 1) = c3 (n4 (sN lo hi 1)) (n4 (sN lo hi 2)) e j k + 1 from rfl]; have := c3_lt he hj hk; have : n4 (sN lo hi 0) * n4 (sN lo hi 1) * n4 (sN lo hi 2) = chN (sN lo hi 0) (sN lo hi 1) (sN lo hi 2) := rfl; omega) (by rw [show c3 (n4 (sN lo hi 1)) (n4 (sN lo hi 2)) e j (k + 1) = c3 (n4 (sN lo hi 1)) (n4 (sN lo hi 2)) e j k + 1 from rfl]; have := c3_lt he hj hk; have : n4 (sN lo hi 0) * n4 (sN lo hi 1) * n4 (sN lo hi 2) = chN (sN lo hi 0) (sN lo hi 1) (sN lo hi 2) := rfl; omega) dX11_cutChunks_90 (fun v M' hp _ => ?_)
        have ev4 := hp.ev
        obtain ⟨rfl, ed2, j1, j2, -⟩ := hp
        generalize M' = M4 at *
        show qJ G F _ 4 M4 (3 * (64 - c3 (n4 (sN lo hi 1)) (n4 (sN lo hi 2)) e j (k + 1))) (169 * (64 - c3 (n4 (sN lo hi 1)) (n4 (sN lo hi 2)) e j (k + 1))) 95 [(0, .ref g), (1, .int (lo 0 + nI (4 * e))), (2, .int (lo 1 + nI (4 * j))), (3, .int (lo 2 + nI (4 * k)))] [.int 1]
        refine q_pop X dX11_cutChunks_95 rfl ?_
        refine q_iinc (v := (lo 2 + nI (4 * (k + 1)))) (lv' := [(3, .int (lo 2 + nI (4 * (k + 1)))), (0, .ref g), (1, .int (lo 0 + nI (4 * e))), (2, .int (lo 1 + nI (4 * j)))]) X dX11_cutChunks_96 3 rfl (lo_4) (by decide) rfl ?_
        refine q_goto X 60 dX11_cutChunks_99 (by decide) ?_
        refine q_sub [1, 2, 3, 0] rfl ?_
        have nk3 : ∀ {q : Nat} {e : va_E}, M3 q = some e → (∀ n f, e ≠ aO G n f) → (∀ fs0, e ≠ oB 0 fs0) → ¬ (q = kl ∨ q = ed) := fun h h1 h2 z => by
          rcases z with z | z
          · exact i6.nea h h2 z
          · exact i6.ned hda3 h h1 z
        refine ih (k + 1) M4 (by omega) ⟨ed2, ks ++ [q], j1, by rw [List.length_append, i2]; rfl, fun b x hb => ?_, ?_, fun x x0 => ?_⟩
        · by_cases hlt : b < ks.length
          · rw [List.getElem?_append_left hlt] at hb
            obtain ⟨v1, v2, v5⟩ := i3 b x hb
            have v6 := v5.ev ev3 (fun _ _ => id)
            refine ⟨v1, (v2.ev ev3 id).ev ev4 ?_, v6.ev ev4 (fun y hy => ?_)⟩
            · obtain ⟨_, _, h9, -⟩ := v6; exact nk3 h9 (fun _ _ z => by cases z) (fun _ z => by cases z)
            · rcases hy with ⟨_, h⟩ | ⟨_, _, h⟩
              · exact nk3 h (fun _ _ z => by cases z) (fun _ z => by cases z)
              · exact nk3 h (fun _ _ z => by simp at z) (fun _ z => by cases z)
          · have hbe : b = ks.length := by
              have := (List.getElem?_eq_some_iff.mp hb).1; rw [List.length_append] at this; simp at this; omega
            subst hbe
            rw [List.getElem?_concat_length] at hb; cases hb
            refine ⟨i5.none fq9, hokq.ev ev4 (nk3 k9 (fun _ _ z => by cases z) (fun _ z => by cases z)), ?_⟩
            rw [hcl, chW_c3 hj hk, chP_c3 hj hk]
            refine hck.ev ev4 (fun y hy => ?_)
            rcases hy with ⟨_, h⟩ | ⟨_, _, h⟩
            · exact nk3 h (fun _ _ z => by cases z) (fun _ z => by cases z)
            · exact nk3 h (fun _ _ z => by simp at z) (fun _ z => by cases z)
        · rcases j2 with j2 | j2
          · subst j2; exact i4
          · exact Or.inr (i5.none (ev3.none j2))
        · have h1 := i5 x x0
          have h2 := ev3 x h1.1
          have h3 := ev4 x h2.1
          refine ⟨h3.1, fun kx => (h3.2 (fun z => ?_)).trans ((h2.2 id).trans (h1.2 kx))⟩
          rcases z with z | z
          · exact kx (Or.inl z)
          · rcases i4 with i4 | i4
            · exact kx (Or.inr (z.trans i4))
            · exact x0 (z ▸ i4)
    have L1 : ∀ (e : Nat) (he : e < n4 (sN lo hi 0)) (kk : ∀ M2 : gMem, cutI G M kl ed0 (sN lo hi 0) (sN lo hi 1) (sN lo hi 2) (c3 (n4 (sN lo hi 1)) (n4 (sN lo hi 2)) e (n4 (sN lo hi 1)) 0) M2 → qJ G F (qQ G F (fun v M' => v = none ∧ cutI G M kl ed0 (sN lo hi 0) (sN lo hi 1) (sN lo hi 2) (chN (sN lo hi 0) (sN lo hi 1) (sN lo hi 2)) M')) 4 M2 (3 * (64 - c3 (n4 (sN lo hi 1)) (n4 (sN lo hi 2)) e (n4 (sN lo hi 1)) 0)) (169 * (64 - c3 (n4 (sN lo hi 1)) (n4 (sN lo hi 2)) e (n4 (sN lo hi 1)) 0)) 108 [(0, .ref g), (1, .int (lo 0 + nI (4 * e)))] []) (t j : Nat) (M1 : gMem), j + t = n4 (sN lo hi 1) → cutI G M kl ed0 (sN lo hi 0) (sN lo hi 1) (sN lo hi 2) (c3 (n4 (sN lo hi 1)) (n4 (sN lo hi 2)) e j 0) M1 → qJ G F (qQ G F (fun v M' => v = none ∧ cutI G M kl ed0 (sN lo hi 0) (sN lo hi 1) (sN lo hi 2) (chN (sN lo hi 0) (sN lo hi 1) (sN lo hi 2)) M')) 4 M1 (3 * (64 - c3 (n4 (sN lo hi 1)) (n4 (sN lo hi 2)) e j 0)) (169 * (64 - c3 (n4 (sN lo hi 1)) (n4 (sN lo hi 2)) e j 0)) 39 [(0, .ref g), (1, .int (lo 0 + nI (4 * e))), (2, .int (lo 1 + nI (4 * j)))] [] := by
      intro e he kk t
      induction t with
      | zero =>
        intro j M1 hj0 hI
        obtain rfl : j = n4 (sN lo hi 1) := by omega
        obtain ⟨hg1, hs1, hf1⟩ := gob hI
        refine q_iload_n X dX11_cutChunks_39 2 rfl ?_
        refine q_aload_n X dX11_cutChunks_40 0 rfl ?_
        refine q_get X hg1 rfl in_RX11 3 (by decide) tw_280 rfl rfl dX11_cutChunks_41 ?_
        refine q_iconst (v := 1) X dX11_cutChunks_44 (by decide) ?_
        refine q_callVp X (c_X7_highN hs1.lh 1 (by decide) (by decide)) Y_X7_high tw_251 tw_73 tw_74 hf1 rfl (by decide) rfl rfl (Nat.le_of_ble_eq_true rfl) dX11_cutChunks_45 ?_
        refine q_icmp_gt X 108 dX11_cutChunks_48 (by decide) (fun c_8 => ?_) (fun c_8 => absurd (by rw [y1]; exact (lo_lt l1.1 l1.2 (by omega) (by omega)).mpr (by have := mt (a1 (n4 (sN lo hi 1))).mpr (Nat.lt_irrefl _); omega)) c_8)
        refine q_sub [0, 1] rfl ?_
        exact kk M1 hI
      | succ t ih =>
        intro j M1 hj0 hI
        have hj : j < n4 (sN lo hi 1) := by omega
        obtain ⟨hg1, hs1, hf1⟩ := gob hI
        refine q_iload_n X dX11_cutChunks_39 2 rfl ?_
        refine q_aload_n X dX11_cutChunks_40 0 rfl ?_
        refine q_get X hg1 rfl in_RX11 3 (by decide) tw_280 rfl rfl dX11_cutChunks_41 ?_
        refine q_iconst (v := 1) X dX11_cutChunks_44 (by decide) ?_
        refine q_callVp X (c_X7_highN hs1.lh 1 (by decide) (by decide)) Y_X7_high tw_251 tw_73 tw_74 hf1 rfl (by decide) rfl rfl (Nat.le_of_ble_eq_true rfl) dX11_cutChunks_45 ?_
        refine q_icmp_gt X 108 dX11_cutChunks_48 (by decide) (fun c_9 => absurd ((lo_lt l1.1 l1.2 (by omega) (by have := (a1 j).mp hj; omega)).mp (y1 ▸ c_9)) (by have := (a1 j).mp hj; omega)) (fun c_9 => ?_)
        refine q_aload_n X dX11_cutChunks_51 0 rfl ?_
        refine q_get X hg1 rfl in_RX11 3 (by decide) tw_280 rfl rfl dX11_cutChunks_52 ?_
        refine q_iconst (v := 2) X dX11_cutChunks_55 (by decide) ?_
        refine q_callVp X (c_X7_lowN hs1.lh 2 (by decide) (by decide)) Y_X7_low tw_250 tw_77 tw_78 hf1 rfl (by decide) rfl rfl (Nat.le_of_ble_eq_true rfl) dX11_cutChunks_56 ?_
        rw [show lo 2 = lo 2 + nI (4 * 0) from lo_0.symm]
        refine q_istore_n (lv' := [(3, .int (lo 2 + nI (4 * 0))), (0, .ref g), (1, .int (lo 0 + nI (4 * e))), (2, .int (lo 1 + nI (4 * j)))]) X dX11_cutChunks_59 (by decide) rfl ?_
        refine q_sub [1, 2, 3, 0] rfl ?_
        refine L2 e j he hj (fun M2 hI2 => ?_) _ 0 M1 (Nat.zero_add _) hI
        rw [c3_k] at hI2 ⊢
        refine q_iinc (v := (lo 1 + nI (4 * (j + 1)))) (lv' := [(2, .int (lo 1 + nI (4 * (j + 1)))), (0, .ref g), (1, .int (lo 0 + nI (4 * e)))]) X dX11_cutChunks_102 2 rfl (lo_4) (by decide) rfl ?_
        refine q_goto X 39 dX11_cutChunks_105 (by decide) ?_
        refine q_sub [1, 2, 0] rfl ?_
        exact ih (j + 1) M2 (by omega) hI2
    have L0 : ∀ (kk : ∀ M2 : gMem, cutI G M kl ed0 (sN lo hi 0) (sN lo hi 1) (sN lo hi 2) (c3 (n4 (sN lo hi 1)) (n4 (sN lo hi 2)) (n4 (sN lo hi 0)) 0 0) M2 → qJ G F (qQ G F (fun v M' => v = none ∧ cutI G M kl ed0 (sN lo hi 0) (sN lo hi 1) (sN lo hi 2) (chN (sN lo hi 0) (sN lo hi 1) (sN lo hi 2)) M')) 4 M2 (3 * (64 - c3 (n4 (sN lo hi 1)) (n4 (sN lo hi 2)) (n4 (sN lo hi 0)) 0 0)) (169 * (64 - c3 (n4 (sN lo hi 1)) (n4 (sN lo hi 2)) (n4 (sN lo hi 0)) 0 0)) 114 [(0, .ref g)] []) (t e : Nat) (M1 : gMem), e + t = n4 (sN lo hi 0) → cutI G M kl ed0 (sN lo hi 0) (sN lo hi 1) (sN lo hi 2) (c3 (n4 (sN lo hi 1)) (n4 (sN lo hi 2)) e 0 0) M1 → qJ G F (qQ G F (fun v M' => v = none ∧ cutI G M kl ed0 (sN lo hi 0) (sN lo hi 1) (sN lo hi 2) (chN (sN lo hi 0) (sN lo hi 1) (sN lo hi 2)) M')) 4 M1 (3 * (64 - c3 (n4 (sN lo hi 1)) (n4 (sN lo hi 2)) e 0 0)) (169 * (64 - c3 (n4 (sN lo hi 1)) (n4 (sN lo hi 2)) e 0 0)) 18 [(0, .ref g), (1, .int (lo 0 + nI (4 * e)))] [] := by
      intro  kk t
      induction t with
      | zero =>
        intro e M1 he0 hI
        obtain rfl : e = n4 (sN lo hi 0) := by omega
        obtain ⟨hg1, hs1, hf1⟩ := gob hI
        refine q_iload_n X dX11_cutChunks_18 1 rfl ?_
        refine q_aload_n X dX11_cutChunks_19 0 rfl ?_
        refine q_get X hg1 rfl in_RX11 3 (by decide) tw_280 rfl rfl dX11_cutChunks_20 ?_
        refine q_iconst (v := 0) X dX11_cutChunks_23 (by decide) ?_
        refine q_callVp X (c_X7_highN hs1.lh 0 (by decide) (by decide)) Y_X7_high tw_251 tw_73 tw_74 hf1 rfl (by decide) rfl rfl (Nat.le_of_ble_eq_true rfl) dX11_cutChunks_24 ?_
        refine q_icmp_gt X 114 dX11_cutChunks_27 (by decide) (fun c_10 => ?_) (fun c_10 => absurd (by rw [y0]; exact (lo_lt l0.1 l0.2 (by omega) (by omega)).mpr (by have := mt (a0 (n4 (sN lo hi 0))).mpr (Nat.lt_irrefl _); omega)) c_10)
        refine q_sub [0] rfl ?_
        exact kk M1 hI
      | succ t ih =>
        intro e M1 he0 hI
        have he : e < n4 (sN lo hi 0) := by omega
        obtain ⟨hg1, hs1, hf1⟩ := gob hI
        refine q_iload_n X dX11_cutChunks_18 1 rfl ?_
        refine q_aload_n X dX11_cutChunks_19 0 rfl ?_
        refine q_get X hg1 rfl in_RX11 3 (by decide) tw_280 rfl rfl dX11_cutChunks_20 ?_
        refine q_iconst (v := 0) X dX11_cutChunks_23 (by decide) ?_
        refine q_callVp X (c_X7_highN hs1.lh 0 (by decide) (by decide)) Y_X7_high tw_251 tw_73 tw_74 hf1 rfl (by decide) rfl rfl (Nat.le_of_ble_eq_true rfl) dX11_cutChunks_24 ?_
        refine q_icmp_gt X 114 dX11_cutChunks_27 (by decide) (fun c_11 => absurd ((lo_lt l0.1 l0.2 (by omega) (by have := (a0 e).mp he; omega)).mp (y0 ▸ c_11)) (by have := (a0 e).mp he; omega)) (fun c_11 => ?_)
        refine q_aload_n X dX11_cutChunks_30 0 rfl ?_
        refine q_get X hg1 rfl in_RX11 3 (by decide) tw_280 rfl rfl dX11_cutChunks_31 ?_
        refine q_iconst (v := 1) X dX11_cutChunks_34 (by decide) ?_
        refine q_callVp X (c_X7_lowN hs1.lh 1 (by decide) (by decide)) Y_X7_low tw_250 tw_77 tw_78 hf1 rfl (by decide) rfl rfl (Nat.le_of_ble_eq_true rfl) dX11_cutChunks_35 ?_
        rw [show lo 1 = lo 1 + nI (4 * 0) from lo_0.symm]
        refine q_istore_n (lv' := [(2, .int (lo 1 + nI (4 * 0))), (0, .ref g), (1, .int (lo 0 + nI (4 * e)))]) X dX11_cutChunks_38 (by decide) rfl ?_
        refine q_sub [1, 2, 0] rfl ?_
        refine L1 e he (fun M2 hI2 => ?_) _ 0 M1 (Nat.zero_add _) hI
        rw [c3_j] at hI2 ⊢
        refine q_iinc (v := (lo 0 + nI (4 * (e + 1)))) (lv' := [(1, .int (lo 0 + nI (4 * (e + 1)))), (0, .ref g)]) X dX11_cutChunks_108 1 rfl (lo_4) (by decide) rfl ?_
        refine q_goto X 18 dX11_cutChunks_111 (by decide) ?_
        refine q_sub [1, 0] rfl ?_
        exact ih (e + 1) M2 (by omega) hI2
    exact L0 (fun M2 hI2 => q_vret X hr dX11_cutChunks_114 ⟨rfl, by rw [c3_A] at hI2; exact hI2⟩) _ 0 M8 (Nat.zero_add _) hI0
  refine q_da X (fun hda => ?_)
  show qJ G F _ 4 M 192 10816 0 [(0, .ref g)] []
  refine q_aload_n X dX11_cutChunks_0 0 rfl ?_
  refine q_get X hG rfl in_RX11 2 (by decide) tw_279 rfl rfl dX11_cutChunks_1 ?_
  refine q_callF X (x := ⟨"java/util/List", "clear", "()V"⟩) (c_list_clear hL) Y_Jx4a65c_clear_da8c8 tw_134 tw_138 tw_140 tn_136 tn_135 tn_141 tn_139 tn_137 (by decide +kernel) hK0 rfl (by omega) rfl rfl (Nat.le_of_ble_eq_true rfl) (rc' := 192) (rs' := 10816) (Nat.le_refl _) (Nat.le_refl _) dX11_cutChunks_4 (fun v M' hp _ => ?_)
  have ev := hp.ev hda
  obtain ⟨rfl, k1, k2⟩ := hp
  generalize M' = M2 at *
  show qJ G F _ 4 M2 192 10816 9 [(0, .ref g)] []
  have hI : cutI G M kl ed0 (sN lo hi 0) (sN lo hi 1) (sN lo hi 2) (c3 (n4 (sN lo hi 1)) (n4 (sN lo hi 2)) 0 0 0) M2 := ⟨ed0, [], k1, c3_0.symm, fun b k hb => by simp at hb, Or.inl rfl, ev⟩
  have nk : ∀ {q : Nat} {e : va_E}, M q = some e → (∀ n f, e ≠ aO G n f) → (∀ fs0, e ≠ oB 0 fs0) → ¬ (q = kl ∨ q = ed0) := fun h h1 h2 z => by
    rcases z with z | z
    · exact hL.nea h h2 z
    · exact hL.ned hda h h1 z
  have hg1 := ev.keep hG (nk hG (fun _ _ z => by cases z) (fun _ z => by cases z))
  have hf1 := ev.keep s1 (nk s1 (fun _ _ z => by cases z) (fun _ z => by cases z))
  have hs1 : isShape G M2 fr (nI m) lo hi := hS.ev ev (fun q hq => by rcases hq with ⟨_, h⟩ | ⟨_, h⟩; exact nk h (fun _ _ z => by cases z) (fun _ z => by cases z); exact nk h (fun _ _ z => by simp at z) (fun _ z => by cases z))
  refine q_aload_n X dX11_cutChunks_9 0 rfl ?_
  refine q_get X hg1 rfl in_RX11 3 (by decide) tw_280 rfl rfl dX11_cutChunks_10 ?_
  refine q_iconst (v := 0) X dX11_cutChunks_13 (by decide) ?_
  refine q_callVp X (c_X7_lowN hs1.lh 0 (by decide) (by decide)) Y_X7_low tw_250 tw_77 tw_78 hf1 rfl (by decide) rfl rfl (Nat.le_of_ble_eq_true rfl) dX11_cutChunks_14 ?_
  rw [show lo 0 = lo 0 + nI (4 * 0) from lo_0.symm]
  refine q_istore_n (lv' := [(1, .int (lo 0 + nI (4 * 0))), (0, .ref g)]) X dX11_cutChunks_17 (by decide) rfl ?_
  refine q_sub [1, 0] rfl ?_
  have G5 := loops hda M2 hI
  rw [c3_0] at G5
  exact G5
