/-! a node's filled cells; versions: what they answer, how they are coded -/
theorem isList.mv {G : gV} {M M' : gMem} {a ed : Nat} {xs : List Nat} (h : isList G M a ed xs) (h1 : M' a = M a) (h2 : ∀ n f, M ed = some (aO G n f) → M' ed = M ed) : isList G M' a ed xs := by
  obtain ⟨q1, ⟨mv, q2⟩, q3⟩ := h
  exact ⟨q1, ⟨mv, h1.trans q2⟩, q3.imp id (fun ⟨n, f, r1, r2⟩ => ⟨n, f, (h2 n f r1).trans r1, r2⟩)⟩
theorem isChunk.mv {G : gV} {M M' : gMem} {a W N : Nat} {pj : Nat → Nat} (h : isChunk G M a W N pj) (hm : ∀ x, (∃ fs0, M x = some (oB 2 fs0)) ∨ (∃ n f, M x = some (aI G n f)) → M' x = M x) : isChunk G M' a W N pj := by
  obtain ⟨p, pl, h1, h2, h3⟩ := h
  exact ⟨p, pl, (hm a (Or.inl ⟨_, h1⟩)).trans h1, (hm p (Or.inr ⟨_, _, h2⟩)).trans h2, h3⟩
/-- the first j chunks: how many differ, their octets -/
def encS (f h : Nat → Option Int64) (cs : List (Nat × (Nat → Nat))) : Nat → Nat × Nat
  | 0 => (0, 0)
  | j + 1 => match cs[j]? with
    | none => encS f h cs j
    | some c => if sameB f h c.2 c.1 = true then encS f h cs j else ((encS f h cs j).1 + 1, (encS f h cs j).2 + (octS f c.2 c.1).1)
theorem encS_y {f h : Nat → Option Int64} {cs : List (Nat × (Nat → Nat))} {j : Nat} {c : Nat × (Nat → Nat)} (hc : cs[j]? = some c) (e : sameB f h c.2 c.1 = true) : encS f h cs (j + 1) = encS f h cs j := by simp only [encS, hc, e, if_true]
theorem encS_n {f h : Nat → Option Int64} {cs : List (Nat × (Nat → Nat))} {j : Nat} {c : Nat × (Nat → Nat)} (hc : cs[j]? = some c) (e : sameB f h c.2 c.1 = false) : encS f h cs (j + 1) = ((encS f h cs j).1 + 1, (encS f h cs j).2 + (octS f c.2 c.1).1) := by simp [encS, hc, e]
theorem cntB_s {p : Nat → Bool} {n : Nat} (h : p n = true) : cntB p (n + 1) = cntB p n + 1 := by simp [cntB, h]
theorem cntB_n {p : Nat → Bool} {n : Nat} (h : p n = false) : cntB p (n + 1) = cntB p n := by simp [cntB, h]

set_option maxRecDepth 20000 in
theorem c_cells_raw {l : Launch} {G : gV} {M : gMem} {a ci c : Nat} {w0 w1 w3 : Value} {ex : List Value} (hci : isNC ci) (hA : M a = some (oB ci (w0 :: w1 :: .ref c :: w3 :: ex))) : qC l G yX5_cells cX5_cells 1 (some (.object "GridVault$Cells")) 1 0 0 [.ref a] M (pP (.ref c) M) := by
  refine qC_of (by decide +kernel) (Nat.le_of_ble_eq_true rfl) (fun F hF X hr hn => ?_)
  subst hF
  have X : qX G F cX5_cells 1 RX5 1 := X
  show qJ G F _ 1 M 0 0 0 [(0, .ref a)] []
  refine q_aload_n X dX5_cells_0 0 rfl ?_
  refine q_get_cells X hci hA dX5_cells_1 ?_
  exact q_aret X hr (Or.inl ⟨_, rfl⟩) dX5_cells_4 (⟨rfl, rfl⟩)

set_option maxRecDepth 20000 in
theorem c_X9_parent {l : Launch} {G : gV} {M : gMem} {a : Nat} {w0 w1 w2 w3 : Value} {p dc oc : Int32} (hA : M a = some (oB 9 [w0, w1, w2, w3, .int p, .int dc, .int oc])) : qC l G yX9_parent cX9_parent 1 (some .int) 1 0 0 [.ref a] M (pP (.int p) M) := by
  refine qC_of (by decide +kernel) (Nat.le_of_ble_eq_true rfl) (fun F hF X hr hn => ?_)
  subst hF
  have X : qX G F cX9_parent 1 RX9 1 := X
  show qJ G F _ 1 M 0 0 0 [(0, .ref a)] []
  refine q_aload_n X dX9_parent_0 0 rfl ?_
  refine q_get X hA rfl in_RX9 4 (by decide) tw_156 rfl rfl dX9_parent_1 ?_
  exact q_iret X hr dX9_parent_4 (⟨rfl, rfl⟩)

set_option maxRecDepth 20000 in
theorem c_X9_differingChunks {l : Launch} {G : gV} {M : gMem} {a : Nat} {w0 w1 w2 w3 : Value} {p dc oc : Int32} (hA : M a = some (oB 9 [w0, w1, w2, w3, .int p, .int dc, .int oc])) : qC l G yX9_differingChunks cX9_differingChunks 1 (some .int) 1 0 0 [.ref a] M (pP (.int dc) M) := by
  refine qC_of (by decide +kernel) (Nat.le_of_ble_eq_true rfl) (fun F hF X hr hn => ?_)
  subst hF
  have X : qX G F cX9_differingChunks 1 RX9 1 := X
  show qJ G F _ 1 M 0 0 0 [(0, .ref a)] []
  refine q_aload_n X dX9_differingChunks_0 0 rfl ?_
  refine q_get X hA rfl in_RX9 5 (by decide) tw_157 rfl rfl dX9_differingChunks_1 ?_
  exact q_iret X hr dX9_differingChunks_4 (⟨rfl, rfl⟩)

set_option maxRecDepth 20000 in
theorem c_X9_octets {l : Launch} {G : gV} {M : gMem} {a : Nat} {w0 w1 w2 w3 : Value} {p dc oc : Int32} (hA : M a = some (oB 9 [w0, w1, w2, w3, .int p, .int dc, .int oc])) : qC l G yX9_octets cX9_octets 1 (some .int) 1 0 0 [.ref a] M (pP (.int oc) M) := by
  refine qC_of (by decide +kernel) (Nat.le_of_ble_eq_true rfl) (fun F hF X hr hn => ?_)
  subst hF
  have X : qX G F cX9_octets 1 RX9 1 := X
  show qJ G F _ 1 M 0 0 0 [(0, .ref a)] []
  refine q_aload_n X dX9_octets_0 0 rfl ?_
  refine q_get X hA rfl in_RX9 6 (by decide) tw_158 rfl rfl dX9_octets_1 ?_
  exact q_iret X hr dX9_octets_4 (⟨rfl, rfl⟩)

/-- how many cells of a node aren't empty: asked one by one -/
def fiP (G : gV) (N : gN) (M : gMem) (a : Nat) : Option Value → gMem → Prop := fun v M' => v = some (.int (nI (cntB (fun i => (nden N a i).isSome) (nsz N a)))) ∧ nInv G M' N (fun _ _ => False) ∧ nFr G N (ndp N a) M M'

set_option maxRecDepth 20000 in
theorem c_X5_filled {l : Launch} {G : gV} {M : gMem} {N : gN} {a : Nat} (h : nInv G M N (fun _ _ => False)) (ha : nS N a) : qC l G yX5_filled cX5_filled 4 (some .int) (11 + 4 * ndp N a) 0 0 [.ref a] M (fiP G N M a) := by
  refine qC_of (by decide +kernel) (Nat.le_of_ble_eq_true rfl) (fun F hF X hr hn => ?_)
  subst hF
  have X : qX G F cX5_filled 4 RX5 (11 + 4 * ndp N a) := X
  have hsa := (h.1 a ha).1
  have z2 : nsz N a ≤ 4096 := hsa.2.2.2.2.1
  obtain ⟨ub, uc, ud, us, u1, -⟩ := id hsa.2.2.1
  have loop : ∀ (t j : Nat) (M1 : gMem), j + t = nsz N a → nInv G M1 N (fun _ _ => False) → nFr G N (ndp N a) M M1 → qJ G F (qQ G F (fiP G N M a)) 4 M1 0 0 12 [(0, .ref a), (1, .int (nI (nsz N a))), (2, .int (nI (cntB (fun i => (nden N a i).isSome) j))), (3, .int (nI j))] [] := by
    intro t
    induction t with
    | zero =>
      intro j M1 hj h1 hf1
      obtain rfl : j = nsz N a := by omega
      refine q_iload_n X dX5_filled_12 3 rfl ?_
      refine q_iload_n X dX5_filled_13 1 rfl ?_
      refine q_icmp_ge X 34 dX5_filled_14 (by decide) (fun c_1 => ?_) (fun c_1 => absurd (Int32.le_refl _) c_1)
      refine q_iload_n X dX5_filled_34 2 rfl ?_
      exact q_iret X hr dX5_filled_35 (⟨rfl, h1, hf1⟩)
    | succ t ih =>
      intro j M1 hj h1 hf1
      have hjK : j < nsz N a := by omega
      have hsa1 := (h1.1 a ha).1
      have hle := cntB_le (fun i => (nden N a i).isSome) j
      refine q_iload_n X dX5_filled_12 3 rfl ?_
      refine q_iload_n X dX5_filled_13 1 rfl ?_
      refine q_icmp_ge X 34 dX5_filled_14 (by decide) (fun c_2 => absurd c_2 (nI_ge hjK (by omega))) (fun c_2 => ?_)
      refine q_aload_n X dX5_filled_17 0 rfl ?_
      refine q_iload_n X dX5_filled_18 3 rfl ?_
      refine q_callU X (x := ⟨"GridVault$Node", "holds", "(I)Z"⟩) (owner := "GridVault$Node") (ci := nci N a) (c_holds h1 ha (nI j)) Y_X5_holds tw_953 tw_955 (by decide) rfl (g_declC X tw_954 tw_962) tw_954 (se_X5_holds hsa1.1) hsa1.2.1 (by omega) rfl rfl (Nat.le_of_ble_eq_true rfl) (rc' := 0) (rs' := 0) (Nat.le_refl _) (Nat.le_refl _) dX5_filled_19 (fun v M' hp _ => ?_)
      obtain ⟨rfl, h2, hf2, -⟩ := hp
      generalize M' = M2 at *
      rw [nAt_N hjK z2]
      show qJ G F _ 4 M2 0 0 22 [(0, .ref a), (1, .int (nI (nsz N a))), (2, .int (nI (cntB (fun i => (nden N a i).isSome) j))), (3, .int (nI j))] [.int (bI (nden N a j).isSome)]
      refine q_if_eq X 28 dX5_filled_22 (by decide) (fun k1 => ?_) (fun k1 => ?_)
      · refine q_iinc (v := (nI (j + 1))) (lv' := [(3, .int (nI (j + 1))), (0, .ref a), (1, .int (nI (nsz N a))), (2, .int (nI (cntB (fun i => (nden N a i).isSome) j)))]) X dX5_filled_28 3 rfl (nI_1 j) (by decide) rfl ?_
        refine q_goto X 12 dX5_filled_31 (by decide) ?_
        refine q_sub [1, 2, 3, 0] rfl ?_
        have G5 := ih (j + 1) M2 (by omega) h2 (hf1.trans hf2)
        rw [cntB_n (bI_fl k1)] at G5
        exact G5
      · refine q_iinc (v := (nI (cntB (fun i => (nden N a i).isSome) j + 1))) (lv' := [(2, .int (nI (cntB (fun i => (nden N a i).isSome) j + 1))), (0, .ref a), (1, .int (nI (nsz N a))), (3, .int (nI j))]) X dX5_filled_25 2 rfl (nI_1 _) (by decide) rfl ?_
        refine q_iinc (v := (nI (j + 1))) (lv' := [(3, .int (nI (j + 1))), (2, .int (nI (cntB (fun i => (nden N a i).isSome) j + 1))), (0, .ref a), (1, .int (nI (nsz N a)))]) X dX5_filled_28 3 rfl (nI_1 j) (by decide) rfl ?_
        refine q_goto X 12 dX5_filled_31 (by decide) ?_
        refine q_sub [2, 3, 1, 0] rfl ?_
        have G5 := ih (j + 1) M2 (by omega) h2 (hf1.trans hf2)
        rw [cntB_s (bI_ne k1)] at G5
        exact G5
  refine q_aload_n X dX5_filled_0 0 rfl ?_
  refine q_get_shape X hsa.1 hsa.2.1 dX5_filled_1 ?_
  refine q_callVp X (c_X7_size hsa.2.2.1) Y_X7_size tw_153 tw_115 tw_116 u1 rfl (by omega) rfl rfl (Nat.le_of_ble_eq_true rfl) dX5_filled_4 ?_
  rw [show sL (nlo N a) (nhi N a) 0 * sL (nlo N a) (nhi N a) 1 * sL (nlo N a) (nhi N a) 2 = nI (nsz N a) from hsa.2.2.2.1.size]
  refine q_istore_n (lv' := [(1, .int (nI (nsz N a))), (0, .ref a)]) X dX5_filled_7 (by decide) rfl ?_
  refine q_iconst (v := 0) X dX5_filled_8 (by decide) ?_
  refine q_istore_n (lv' := [(2, .int 0), (1, .int (nI (nsz N a))), (0, .ref a)]) X dX5_filled_9 (by decide) rfl ?_
  refine q_iconst (v := 0) X dX5_filled_10 (by decide) ?_
  refine q_istore_n (lv' := [(3, .int 0), (2, .int 0), (1, .int (nI (nsz N a))), (0, .ref a)]) X dX5_filled_11 (by decide) rfl ?_
  refine q_sub [3, 2, 1, 0] rfl ?_
  exact loop (nsz N a) 0 M (by omega) h (nFr.rf _ _ _ _)

/-- a version was coded -/
def enP (G : gV) (M : gMem) (a cl nb mb N : Nat) (w0 w1 w3 : Value) (p : Int32) (g h : Nat → Option Int64) (cs : List (Nat × (Nat → Nat))) (K : Nat) : Option Value → gMem → Prop := fun v M' => v = none ∧ M' a = some (oB 9 [w0, w1, .ref cl, w3, .int p, .int (nI (encS g h cs K).1), .int (nI (encS g h cs K).2)]) ∧ isCells G M' cl nb mb N g ∧ ∀ q, q ≠ a → q ≠ nb → q ≠ mb → M' q = M q

set_option maxRecDepth 20000 in
theorem c_X9_encode {l : Launch} {G : gV} {M : gMem} {a cl nb mb N dk dn dm b cb nb2 mb2 kl ed : Nat} {w0 w1 w3 u0 u1 u3 : Value} {ex2 : List Value} {p : Int32} {f0 g h : Nat → Option Int64} {ks : List Nat} {cs : List (Nat × (Nat → Nat))} (hA : M a = some (oB 9 [w0, w1, .ref cl, w3, .int p, .int 0, .int 0])) (hC : isCells G M cl nb mb N f0) (hD : isCells G M dk dn dm N g) (hB : M b = some (oB 9 (u0 :: u1 :: .ref cb :: u3 :: ex2))) (hab : b ≠ a) (hC2 : isCells G M cb nb2 mb2 N h) (hL : isList G M kl ed ks) (hK : ∀ (i k : Nat), ks[i]? = some k → ∃ c : Nat × (Nat → Nat), cs[i]? = some c ∧ isChunk G M k c.1 N c.2) (x1 : nb ≠ dn) (x2 : nb ≠ dm) (x3 : mb ≠ dn) (x4 : mb ≠ dm) (x5 : nb ≠ nb2) (x6 : nb ≠ mb2) (x7 : mb ≠ nb2) (x8 : mb ≠ mb2) : qC l G yX9_encode cX9_encode 6 none 6 0 0 [.ref a, .ref dk, .ref b, .ref kl] M (enP G M a cl nb mb N w0 w1 w3 p g h cs ks.length) := by
  refine qC_of (by decide +kernel) (Nat.le_of_ble_eq_true rfl) (fun F hF X hr hn => ?_)
  subst hF
  have X : qX G F cX9_encode 6 RX9 6 := X
  obtain ⟨cn1, cm1, cC1, cC2, cC3, -⟩ := id hC
  obtain ⟨dn1, dm1, dC1, dC2, dC3, -⟩ := id hD
  obtain ⟨bn1, bm1, bC1, bC2, bC3, -⟩ := id hC2
  have hl0 := hL.1
  have loop : ∀ (M2 : gMem) (t j : Nat) (M1 : gMem), isCells G M2 cl nb mb N g → isCells G M2 dk dn dm N g → isCells G M2 cb nb2 mb2 N h → M2 b = some (oB 9 (u0 :: u1 :: .ref cb :: u3 :: ex2)) → isList G M2 kl ed ks → (∀ (i k : Nat), ks[i]? = some k → ∃ c : Nat × (Nat → Nat), cs[i]? = some c ∧ isChunk G M2 k c.1 N c.2) → (∃ fs0, M2 a = some (oB 9 fs0)) → (∀ q, q ≠ nb → q ≠ mb → M2 q = M q) → j + t = ks.length → M1 a = some (oB 9 [w0, w1, .ref cl, w3, .int p, .int (nI (encS g h cs j).1), .int (nI (encS g h cs j).2)]) → (∀ q, q ≠ a → M1 q = M2 q) → qJ G F (qQ G F (enP G M a cl nb mb N w0 w1 w3 p g h cs ks.length)) 6 M1 0 0 11 [(0, .ref a), (1, .ref dk), (2, .ref b), (3, .ref kl), (4, .int (nI j))] [] := by
    intro M2 t
    induction t with
    | zero =>
      intro j M1 y1 y2 y3 y4 y5 y6 y7 y8 hj hA1 hf1
      obtain ⟨fs9, y7⟩ := y7
      have oth : ∀ x e, M2 x = some e → (∀ fs0, e ≠ oB 9 fs0) → M1 x = M2 x := fun x e q1 q2 => hf1 x (fun z => by rw [z, y7] at q1; cases q1; exact q2 _ rfl)
      have z5 : isList G M1 kl ed ks := by
        obtain ⟨mv, r1⟩ := id y5.2.1
        exact y5.mv (oth kl _ r1 (fun _ z => by cases z)) (fun n f r2 => oth ed _ r2 (fun _ z => by cases z))
      obtain ⟨mv5, hKL⟩ := id z5.2.1
      have cmv : ∀ {x nx mx : Nat} {f : Nat → Option Int64}, isCells G M2 x nx mx N f → isCells G M1 x nx mx N f := fun hx => by
        obtain ⟨n9, m9, r1, r2, r3, -⟩ := id hx
        exact hx.mv (oth _ _ r1 (fun _ z => by cases z)) (oth _ _ r2 (fun _ z => by cases z)) (oth _ _ r3 (fun _ z => by cases z))
      obtain rfl : j = ks.length := by omega
      refine q_iload X dX9_encode_11 4 rfl ?_
      refine q_aload_n X dX9_encode_13 3 rfl ?_
      refine q_callF X (x := ⟨"java/util/List", "size", "()I"⟩) (c_list_size z5) Y_Jx4a65c_size_8abf5 tw_519 tw_474 tw_476 tn_473 tn_472 tn_477 tn_475 tn_137 (by decide +kernel) hKL rfl (by omega) rfl rfl (Nat.le_of_ble_eq_true rfl) (Nat.le_refl _) (Nat.le_refl _) dX9_encode_14 (fun v M' hp _ => ?_)
      obtain ⟨rfl, eM⟩ := hp
      rw [eM]
      clear eM
      show qJ G F _ 6 M1 _ _ 19 [(0, .ref a), (1, .ref dk), (2, .ref b), (3, .ref kl), (4, .int (nI ks.length))] [.int (nI ks.length), .int (nI ks.length)]
      refine q_icmp_ge X 79 dX9_encode_19 (by decide) (fun c_1 => ?_) (fun c_1 => absurd (Int32.le_refl _) c_1)
      exact q_vret X hr dX9_encode_79 (⟨rfl, hA1, cmv y1, fun q q1 q2 q3 => (hf1 q q1).trans (y8 q q2 q3)⟩)
    | succ t ih =>
      intro j M1 y1 y2 y3 y4 y5 y6 y7 y8 hj hA1 hf1
      obtain ⟨fs9, y7⟩ := y7
      have oth : ∀ x e, M2 x = some e → (∀ fs0, e ≠ oB 9 fs0) → M1 x = M2 x := fun x e q1 q2 => hf1 x (fun z => by rw [z, y7] at q1; cases q1; exact q2 _ rfl)
      have z5 : isList G M1 kl ed ks := by
        obtain ⟨mv, r1⟩ := id y5.2.1
        exact y5.mv (oth kl _ r1 (fun _ z => by cases z)) (fun n f r2 => oth ed _ r2 (fun _ z => by cases z))
      obtain ⟨mv5, hKL⟩ := id z5.2.1
      have cmv : ∀ {x nx mx : Nat} {f : Nat → Option Int64}, isCells G M2 x nx mx N f → isCells G M1 x nx mx N f := fun hx => by
        obtain ⟨n9, m9, r1, r2, r3, -⟩ := id hx
        exact hx.mv (oth _ _ r1 (fun _ z => by cases z)) (oth _ _ r2 (fun _ z => by cases z)) (oth _ _ r3 (fun _ z => by cases z))
      have hjK : j < ks.length := by omega
      obtain ⟨kj, hkj⟩ : ∃ kj, ks[j]? = some kj := ⟨ks[j], List.getElem?_eq_some_iff.mpr ⟨hjK, rfl⟩⟩
      obtain ⟨cj, hcj, hch2⟩ := y6 j kj hkj
      have hch : isChunk G M1 kj cj.1 N cj.2 := hch2.mv (fun x hx => by rcases hx with ⟨fs0, r⟩ | ⟨n, f, r⟩ <;> exact oth x _ r (fun _ z => by cases z))
      obtain ⟨pk, plk, hk1, hk2, -⟩ := id hch
      have hb1 : M1 b = some (oB 9 (u0 :: u1 :: .ref cb :: u3 :: ex2)) := (hf1 b hab).trans y4
      refine q_iload X dX9_encode_11 4 rfl ?_
      refine q_aload_n X dX9_encode_13 3 rfl ?_
      refine q_callF X (x := ⟨"java/util/List", "size", "()I"⟩) (c_list_size z5) Y_Jx4a65c_size_8abf5 tw_519 tw_474 tw_476 tn_473 tn_472 tn_477 tn_475 tn_137 (by decide +kernel) hKL rfl (by omega) rfl rfl (Nat.le_of_ble_eq_true rfl) (Nat.le_refl _) (Nat.le_refl _) dX9_encode_14 (fun v M' hp _ => ?_)
      obtain ⟨rfl, eM⟩ := hp
      rw [eM]
      clear eM
      show qJ G F _ 6 M1 _ _ 19 [(0, .ref a), (1, .ref dk), (2, .ref b), (3, .ref kl), (4, .int (nI j))] [.int (nI ks.length), .int (nI j)]
      refine q_icmp_ge X 79 dX9_encode_19 (by decide) (fun c_2 => absurd c_2 (nI_ge hjK (by omega))) (fun c_2 => ?_)
      refine q_aload_n X dX9_encode_22 3 rfl ?_
      refine q_iload X dX9_encode_23 4 rfl ?_
      refine q_callF X (x := ⟨"java/util/List", "get", "(I)Ljava/lang/Object;"⟩) (c_list_get z5 hkj) Y_Jx4a65c_get_915e3 tw_521 tw_488 tw_490 tn_487 tn_486 tn_491 tn_489 tn_137 (by decide +kernel) hKL rfl (by omega) rfl rfl (Nat.le_of_ble_eq_true rfl) (Nat.le_refl _) (Nat.le_refl _) dX9_encode_25 (fun v M' hp _ => ?_)
      obtain ⟨rfl, eM⟩ := hp
      rw [eM]
      clear eM
      show qJ G F _ 6 M1 _ _ 30 [(0, .ref a), (1, .ref dk), (2, .ref b), (3, .ref kl), (4, .int (nI j))] [.ref kj]
      refine q_castS X tw_522 hk1 rfl dX9_encode_30 ?_
      refine q_astore (lv' := [(5, .ref kj), (0, .ref a), (1, .ref dk), (2, .ref b), (3, .ref kl), (4, .int (nI j))]) X dX9_encode_33 (by decide) rfl ?_
      refine q_aload X dX9_encode_35 0 rfl ?_
      refine q_aload_n X dX9_encode_37 2 rfl ?_
      refine q_aload_n X dX9_encode_38 3 rfl ?_
      refine q_callUp X (x := ⟨"GridVault$Version", "cells", "()LGridVault$Cells;"⟩) (owner := "GridVault$Node") (ci := 9) (c_cells_raw (ci := 9) (by unfold isNC; decide) hb1) Y_X5_cells tw_507 tw_508 (by decide) rfl (g_decl X tn_509) tw_511 ⟨_, rfl, tw_510⟩ hb1 (by omega) rfl rfl (Nat.le_of_ble_eq_true rfl) dX9_encode_39 ?_
      refine q_callVp X (c_X1_isSame hch (cmv y2) (cmv y3)) Y_X1_isSame tw_523 tw_524 tw_525 hk1 rfl (by omega) rfl rfl (Nat.le_of_ble_eq_true rfl) dX9_encode_42 ?_
      refine q_if_ne X 73 dX9_encode_45 (by decide) (fun k1 => ?_) (fun k1 => ?_)
      · refine q_iinc (v := (nI (j + 1))) (lv' := [(4, .int (nI (j + 1))), (5, .ref kj), (0, .ref a), (1, .ref dk), (2, .ref b), (3, .ref kl)]) X dX9_encode_73 5 rfl (nI_1 j) (by decide) rfl ?_
        refine q_goto X 11 dX9_encode_76 (by decide) ?_
        refine q_sub [2, 3, 4, 5, 0] rfl ?_
        exact ih (j + 1) M1 y1 y2 y3 y4 y5 y6 ⟨_, y7⟩ y8 (by omega) (by rw [encS_y hcj (bI_ne k1)]; exact hA1) hf1
      · refine q_aload_n X dX9_encode_48 1 rfl ?_
        refine q_dup X dX9_encode_49 rfl ?_
        refine q_get X hA1 rfl in_RX9 5 (by decide) tw_157 rfl rfl dX9_encode_50 ?_
        refine q_iconst (v := 1) X dX9_encode_53 (by decide) ?_
        refine q_iadd X dX9_encode_54 ?_
        rw [nI_1]
        refine q_put X hA1 rfl in_RX9 tyX9 tyX9_ok nmX9 5 (by decide) tw_157 rfl rfl rfl rfl rfl (Nat.le_of_ble_eq_true rfl) (fs1 := [w0, w1, .ref cl, w3, .int p, .int (nI ((encS g h cs j).1 + 1)), .int (nI (encS g h cs j).2)]) rfl dX9_encode_55 ?_
        have m_3 : (mU M1 a (oB 9 [w0, w1, .ref cl, w3, .int p, .int (nI ((encS g h cs j).1 + 1)), .int (nI (encS g h cs j).2)])) a = some (oB 9 [w0, w1, .ref cl, w3, .int p, .int (nI ((encS g h cs j).1 + 1)), .int (nI (encS g h cs j).2)]) := mU_s
        have m_4 : (mU M1 a (oB 9 [w0, w1, .ref cl, w3, .int p, .int (nI ((encS g h cs j).1 + 1)), .int (nI (encS g h cs j).2)])) kl = some (oB 0 [.int mv5, .ref ed, .int (nI ks.length)]) := (mU_n (Ne.symm ((fun e => by rw [← e, hA1] at hKL; cases hKL)))).trans hKL
        have m_5 : (mU M1 a (oB 9 [w0, w1, .ref cl, w3, .int p, .int (nI ((encS g h cs j).1 + 1)), .int (nI (encS g h cs j).2)])) kj = some (oB 2 [.ref pk]) := (mU_n (Ne.symm ((fun e => by rw [← e, hA1] at hk1; cases hk1)))).trans hk1
        have oth2 : ∀ x e, M2 x = some e → (∀ fs0, e ≠ oB 9 fs0) → (mU M1 a (oB 9 [w0, w1, .ref cl, w3, .int p, .int (nI ((encS g h cs j).1 + 1)), .int (nI (encS g h cs j).2)])) x = M2 x := fun x e q1 q2 => (mU_n (fun z => by rw [z, y7] at q1; cases q1; exact q2 _ rfl)).trans (oth x e q1 q2)
        have hchU : isChunk G (mU M1 a (oB 9 [w0, w1, .ref cl, w3, .int p, .int (nI ((encS g h cs j).1 + 1)), .int (nI (encS g h cs j).2)])) kj cj.1 N cj.2 := hch2.mv (fun x hx => by rcases hx with ⟨fs0, r⟩ | ⟨n, f, r⟩ <;> exact oth2 x _ r (fun _ z => by cases z))
        have dkU : isCells G (mU M1 a (oB 9 [w0, w1, .ref cl, w3, .int p, .int (nI ((encS g h cs j).1 + 1)), .int (nI (encS g h cs j).2)])) dk dn dm N g := by
          obtain ⟨n9, m9, r1, r2, r3, -⟩ := id y2
          exact y2.mv (oth2 _ _ r1 (fun _ z => by cases z)) (oth2 _ _ r2 (fun _ z => by cases z)) (oth2 _ _ r3 (fun _ z => by cases z))
        refine q_aload_n X dX9_encode_58 1 rfl ?_
        refine q_dup X dX9_encode_59 rfl ?_
        refine q_get X m_3 rfl in_RX9 6 (by decide) tw_158 rfl rfl dX9_encode_60 ?_
        refine q_aload X dX9_encode_63 0 rfl ?_
        refine q_aload_n X dX9_encode_65 2 rfl ?_
        refine q_callVp X (c_X1_octets (N := N) (hchU) (dkU)) Y_X1_octets tw_539 tw_540 tw_541 m_5 rfl (by omega) rfl rfl (Nat.le_of_ble_eq_true rfl) dX9_encode_66 ?_
        refine q_iadd X dX9_encode_69 ?_
        rw [nI_add]
        refine q_put X m_3 rfl in_RX9 tyX9 tyX9_ok nmX9 6 (by decide) tw_158 rfl rfl rfl rfl rfl (Nat.le_of_ble_eq_true rfl) (fs1 := [w0, w1, .ref cl, w3, .int p, .int (nI ((encS g h cs j).1 + 1)), .int (nI ((encS g h cs j).2 + (octS g cj.2 cj.1).1))]) rfl dX9_encode_70 ?_
        have m_6 : (mU (mU M1 a (oB 9 [w0, w1, .ref cl, w3, .int p, .int (nI ((encS g h cs j).1 + 1)), .int (nI (encS g h cs j).2)])) a (oB 9 [w0, w1, .ref cl, w3, .int p, .int (nI ((encS g h cs j).1 + 1)), .int (nI ((encS g h cs j).2 + (octS g cj.2 cj.1).1))])) a = some (oB 9 [w0, w1, .ref cl, w3, .int p, .int (nI ((encS g h cs j).1 + 1)), .int (nI ((encS g h cs j).2 + (octS g cj.2 cj.1).1))]) := mU_s
        have m_7 : (mU (mU M1 a (oB 9 [w0, w1, .ref cl, w3, .int p, .int (nI ((encS g h cs j).1 + 1)), .int (nI (encS g h cs j).2)])) a (oB 9 [w0, w1, .ref cl, w3, .int p, .int (nI ((encS g h cs j).1 + 1)), .int (nI ((encS g h cs j).2 + (octS g cj.2 cj.1).1))])) kl = some (oB 0 [.int mv5, .ref ed, .int (nI ks.length)]) := (mU_n (Ne.symm ((fun e => by rw [← e, hA1] at hKL; cases hKL)))).trans m_4
        have m_8 : (mU (mU M1 a (oB 9 [w0, w1, .ref cl, w3, .int p, .int (nI ((encS g h cs j).1 + 1)), .int (nI (encS g h cs j).2)])) a (oB 9 [w0, w1, .ref cl, w3, .int p, .int (nI ((encS g h cs j).1 + 1)), .int (nI ((encS g h cs j).2 + (octS g cj.2 cj.1).1))])) kj = some (oB 2 [.ref pk]) := (mU_n (Ne.symm ((fun e => by rw [← e, hA1] at hk1; cases hk1)))).trans m_5
        refine q_iinc (v := (nI (j + 1))) (lv' := [(4, .int (nI (j + 1))), (5, .ref kj), (0, .ref a), (1, .ref dk), (2, .ref b), (3, .ref kl)]) X dX9_encode_73 5 rfl (nI_1 j) (by decide) rfl ?_
        refine q_goto X 11 dX9_encode_76 (by decide) ?_
        refine q_sub [2, 3, 4, 5, 0] rfl ?_
        exact ih (j + 1) _ y1 y2 y3 y4 y5 y6 ⟨_, y7⟩ y8 (by omega) (by rw [encS_n hcj (bI_fl k1)]; exact mU_s) (fun q q1 => (mU_n q1).trans ((mU_n q1).trans (hf1 q q1)))
  refine q_aload_n X dX9_encode_0 0 rfl ?_
  refine q_callUp X (x := ⟨"GridVault$Version", "cells", "()LGridVault$Cells;"⟩) (owner := "GridVault$Node") (ci := 9) (c_cells_raw (ci := 9) (by unfold isNC; decide) hA) Y_X5_cells tw_507 tw_508 (by decide) rfl (g_decl X tn_509) tw_511 ⟨_, rfl, tw_510⟩ hA (by omega) rfl rfl (Nat.le_of_ble_eq_true rfl) dX9_encode_1 ?_
  refine q_aload_n X dX9_encode_4 1 rfl ?_
  refine q_callV X (c_X0_copyFrom hC hD x2 x3) Y_X0_copyFrom tw_513 tw_514 tw_515 cC1 rfl (by omega) rfl rfl (Nat.le_of_ble_eq_true rfl) (rc' := 0) (rs' := 0) (Nat.le_refl _) (Nat.le_refl _) dX9_encode_5 (fun v M' hp _ => ?_)
  obtain ⟨rfl, g1, g2⟩ := hp
  generalize M' = M2 at *
  show qJ G F _ 6 M2 0 0 8 [(0, .ref a), (1, .ref dk), (2, .ref b), (3, .ref kl)] []
  have ob : ∀ x ci fs0, M x = some (oB ci fs0) → M2 x = M x := fun x ci fs0 r => g2 x (fun z => by rw [z, cC2] at r; cases r) (fun z => by rw [z, cC3] at r; cases r)
  have hA2 := (ob a _ _ hA).trans hA
  refine q_iconst (v := 0) X dX9_encode_8 (by decide) ?_
  refine q_istore (lv' := [(4, .int 0), (0, .ref a), (1, .ref dk), (2, .ref b), (3, .ref kl)]) X dX9_encode_9 (by decide) rfl ?_
  refine q_sub [1, 2, 3, 4, 0] rfl ?_
  refine loop M2 ks.length 0 M2 g1 (hD.mv (ob _ _ _ dC1) (g2 _ x1.symm x3.symm) (g2 _ x2.symm x4.symm)) (hC2.mv (ob _ _ _ bC1) (g2 _ x5.symm x7.symm) (g2 _ x6.symm x8.symm)) ((ob _ _ _ hB).trans hB) ?_ ?_ ⟨_, hA2⟩ g2 (by omega) hA2 (fun _ _ => rfl)
  · obtain ⟨mv, r1⟩ := id hL.2.1
    exact hL.mv (ob _ _ _ r1) (fun n f r2 => g2 ed (fun z => by rw [z, cC2] at r2; simp at r2) (fun z => by rw [z, cC3] at r2; simp at r2))
  · intro i k hik
    obtain ⟨c, hc1, hc2⟩ := hK i k hik
    exact ⟨c, hc1, hc2.mv (fun x hx => by rcases hx with ⟨fs0, r⟩ | ⟨n, f, r⟩; exact ob _ _ _ r; exact g2 x (fun z => by rw [z, cC2] at r; simp at r) (fun z => by rw [z, cC3] at r; simp at r))⟩
