/-! GridVault$Chunk: its reading methods -/
/-- a chunk: W cells of a row of N, by their numbers pj -/
def isChunk (G : gV) (M : gMem) (a W N : Nat) (pj : Nat → Nat) : Prop := ∃ (p : Nat) (pl : Nat → Int32), M a = some (oB 2 [.ref p]) ∧ M p = some (aI G W pl) ∧ W ≤ 64 ∧ ∀ i, i < W → pl i = nI (pj i) ∧ pj i < N
theorem isChunk.ext {G : gV} {M M' : gMem} {a W N : Nat} {pj : Nat → Nat} (h : isChunk G M a W N pj) (x : mExt M M') : isChunk G M' a W N pj := by
  obtain ⟨p, pl, h1, h2, h3⟩ := h
  exact ⟨p, pl, x _ _ h1, x _ _ h2, h3⟩
def sameB (f g : Nat → Option Int64) (pj : Nat → Nat) : Nat → Bool
  | 0 => true
  | k + 1 => sameB f g pj k && decide (f (pj k) = g (pj k))
theorem sameB_not {f g : Nat → Option Int64} {pj : Nat → Nat} {j W : Nat} (hj : j < W) (h : ¬ f (pj j) = g (pj j)) : sameB f g pj W = false := by
  induction W with
  | zero => omega
  | succ k ih =>
    unfold sameB
    by_cases e : j = k
    · subst e; rw [decide_eq_false h, Bool.and_false]
    · rw [ih (by omega), Bool.false_and]
/-- seven bits are cut off, again and again, k times at most: how often till nothing is left -/
def sh7 (r : Int64) : Int64 := (r.toUInt64 >>> ((7 : Int32).toInt64.toUInt64 &&& Int64.toUInt64 63)).toInt64
def octF : Nat → Int64 → Nat
  | 0, _ => 0
  | k + 1, r => if sh7 r = 0 then 0 else 1 + octF k (sh7 r)
theorem octF_le : ∀ (k : Nat) (r : Int64), octF k r ≤ k
  | 0, _ => Nat.le_refl 0
  | k + 1, r => by
    unfold octF
    have := octF_le k (sh7 r)
    split <;> omega
def zig (d : Int64) : Int64 := (d <<< ((1 : Int32).toInt64 &&& 63)) ^^^ (d >>> ((63 : Int32).toInt64 &&& 63))
def octOf (d : Int64) : Nat := 1 + octF 9 (zig d)
theorem octOf_le (d : Int64) : octOf d ≤ 10 := by have := octF_le 9 (zig d); unfold octOf; omega
/-- octets of a chunk's first k cells: how many, is none coded yet, the number before -/
def octS (f : Nat → Option Int64) (pj : Nat → Nat) : Nat → Nat × Bool × Int64
  | 0 => (8, true, 0)
  | k + 1 => match f (pj k) with
    | none => octS f pj k
    | some v => if (octS f pj k).2.1 = true ∨ ¬ v = (octS f pj k).2.2 then ((octS f pj k).1 + (1 + octOf (v - (octS f pj k).2.2)), false, v) else octS f pj k
theorem octS_le (f : Nat → Option Int64) (pj : Nat → Nat) (k : Nat) : (octS f pj k).1 ≤ 8 + 11 * k := by
  induction k with
  | zero => exact Nat.le_refl _
  | succ k ih =>
    unfold octS
    cases f (pj k) with
    | none => show (octS f pj k).1 ≤ _; omega
    | some v =>
      show (if _ then _ else _ : Nat × Bool × Int64).1 ≤ _
      have := octOf_le (v - (octS f pj k).2.2)
      split
      · show (octS f pj k).1 + (1 + octOf _) ≤ _; omega
      · omega
theorem octS_n {f : Nat → Option Int64} {pj : Nat → Nat} {k : Nat} (h : f (pj k) = none) : octS f pj (k + 1) = octS f pj k := by
  simp only [octS, h]
theorem octS_p {f : Nat → Option Int64} {pj : Nat → Nat} {k : Nat} {v : Int64} (h : f (pj k) = some v) (c : (octS f pj k).2.1 = true ∨ ¬ v = (octS f pj k).2.2) : octS f pj (k + 1) = ((octS f pj k).1 + (1 + octOf (v - (octS f pj k).2.2)), false, v) := by
  simp only [octS, h]
  rw [if_pos c]
theorem octS_k {f : Nat → Option Int64} {pj : Nat → Nat} {k : Nat} {v : Int64} (h : f (pj k) = some v) (c : ¬ ((octS f pj k).2.1 = true ∨ ¬ v = (octS f pj k).2.2)) : octS f pj (k + 1) = octS f pj k := by
  simp only [octS, h]
  rw [if_neg c]
theorem bI_ne {b : Bool} (h : ¬ bI b = 0) : b = true := by cases b <;> simp [bI] at h ⊢
theorem bI_fl {b : Bool} (h : bI b = 0) : b = false := bI_0.mp h

set_option maxRecDepth 20000 in
theorem c_X1_octetsOf {l : Launch} {G : gV} {M : gMem} {d : Int64} : qC l G yX1_octetsOf cX1_octetsOf 5 (some .int) 1 0 0 [.long d] M (pP (.int (nI (octOf d))) M) := by
  refine qC_of (by decide +kernel) (Nat.le_of_ble_eq_true rfl) (fun F hF X hr hn => ?_)
  subst hF
  have X : qX G F cX1_octetsOf 5 RX1 1 := X
  have loop : ∀ (k : Nat) (r : Int64), k ≤ 9 → (10 - k) + octF k r = octOf d → qJ G F (qQ G F (pP (.int (nI (octOf d))) M)) 5 M 0 0 12 [(2, .long r), (4, .int (nI (10 - k)))] [] := by
    intro k
    induction k with
    | zero =>
      intro r hk he
      refine q_iload X dX1_octetsOf_12 1 rfl ?_
      refine q_bipush (v := 10) X dX1_octetsOf_14 (by decide) ?_
      refine q_icmp_ge X 39 dX1_octetsOf_16 (by decide) (fun c_1 => ?_) (fun c_1 => absurd (by decide) c_1)
      refine q_iload X dX1_octetsOf_39 1 rfl ?_
      exact q_iret X hr dX1_octetsOf_41 (⟨by rw [← he]; rfl, rfl⟩)
    | succ k ih =>
      intro r hk he
      unfold octF at he
      refine q_iload X dX1_octetsOf_12 1 rfl ?_
      refine q_bipush (v := 10) X dX1_octetsOf_14 (by decide) ?_
      refine q_icmp_ge X 39 dX1_octetsOf_16 (by decide) (fun k1 => absurd k1 (by rw [show (10 : Int32) = nI 10 from rfl]; exact nI_ge (by omega) (by decide))) (fun k1 => ?_)
      refine q_lload_n X dX1_octetsOf_19 0 rfl ?_
      refine q_bipush (v := 7) X dX1_octetsOf_20 (by decide) ?_
      refine q_lushr X dX1_octetsOf_22 ?_
      refine q_lconst (v := 0) X dX1_octetsOf_23 (by decide) ?_
      refine q_lcmp X dX1_octetsOf_24 ?_
      refine q_if_eq X 39 dX1_octetsOf_25 (by decide) (fun k2 => ?_) (fun k2 => ?_)
      · refine q_iload X dX1_octetsOf_39 1 rfl ?_
        exact q_iret X hr dX1_octetsOf_41 (⟨by have k9 : sh7 r = 0 := (lg_cmp_eq _ _).mp k2; rw [if_pos k9] at he; rw [← he]; rfl, rfl⟩)
      · refine q_lload_n X dX1_octetsOf_28 0 rfl ?_
        refine q_bipush (v := 7) X dX1_octetsOf_29 (by decide) ?_
        refine q_lushr X dX1_octetsOf_31 ?_
        refine q_lstore_n (lv' := [(2, .long ((r.toUInt64 >>> ((7 : Int32).toInt64.toUInt64 &&& Int64.toUInt64 63)).toInt64)), (4, .int (nI (10 - (k + 1))))]) X dX1_octetsOf_32 (by decide) rfl ?_
        refine q_iinc (v := (nI (10 - (k + 1)) + 1)) (lv' := [(4, .int (nI (10 - (k + 1)) + 1)), (2, .long ((r.toUInt64 >>> ((7 : Int32).toInt64.toUInt64 &&& Int64.toUInt64 63)).toInt64))]) X dX1_octetsOf_33 1 rfl rfl (by decide) rfl ?_
        refine q_goto X 12 dX1_octetsOf_36 (by decide) ?_
        refine q_sub [1, 0] rfl ?_
        have e1 : nI (10 - (k + 1)) + 1 = nI (10 - k) := by rw [nI_1]; congr 1; omega
        rw [e1]
        refine ih (sh7 r) (by omega) ?_
        have k9 : ¬ sh7 r = 0 := fun h => k2 ((lg_cmp_eq _ _).mpr h)
        rw [if_neg k9] at he
        omega
  refine q_lload_n X dX1_octetsOf_0 0 rfl ?_
  refine q_iconst (v := 1) X dX1_octetsOf_1 (by decide) ?_
  refine q_lshl X dX1_octetsOf_2 ?_
  refine q_lload_n X dX1_octetsOf_3 0 rfl ?_
  refine q_bipush (v := 63) X dX1_octetsOf_4 (by decide) ?_
  refine q_lshr X dX1_octetsOf_6 ?_
  refine q_lxor X dX1_octetsOf_7 ?_
  refine q_lstore_n (lv' := [(2, .long ((d <<< ((1 : Int32).toInt64 &&& 63)) ^^^ (d >>> ((63 : Int32).toInt64 &&& 63)))), (0, .long d)]) X dX1_octetsOf_8 (by decide) rfl ?_
  refine q_iconst (v := 1) X dX1_octetsOf_9 (by decide) ?_
  refine q_istore (lv' := [(4, .int 1), (2, .long ((d <<< ((1 : Int32).toInt64 &&& 63)) ^^^ (d >>> ((63 : Int32).toInt64 &&& 63)))), (0, .long d)]) X dX1_octetsOf_10 (by decide) rfl ?_
  refine q_sub [1, 0] rfl ?_
  exact loop 9 (zig d) (by decide) rfl

set_option maxRecDepth 20000 in
theorem c_X1_isSame {l : Launch} {G : gV} {M : gMem} {a W N : Nat} {pj : Nat → Nat} (hK : isChunk G M a W N pj) {x nx mx y ny my : Nat} {f g : Nat → Option Int64} (hC : isCells G M x nx mx N f) (hD : isCells G M y ny my N g) : qC l G yX1_isSame cX1_isSame 4 (some .boolean) 5 0 0 [.ref a, .ref x, .ref y] M (pP (.int (bI (sameB f g pj W))) M) := by
  refine qC_of (by decide +kernel) (Nat.le_of_ble_eq_true rfl) (fun F hF X hr hn => ?_)
  subst hF
  have X : qX G F cX1_isSame 4 RX1 5 := X
  obtain ⟨p, pl, h1, h2, h3, h4⟩ := id hK
  obtain ⟨num, mk, i1, -⟩ := id hC
  obtain ⟨num2, mk2, j1, -⟩ := id hD
  have loop : ∀ (t j : Nat), j + t = W → sameB f g pj j = true → qJ G F (qQ G F (pP (.int (bI (sameB f g pj W))) M)) 4 M 0 0 2 [(0, .ref a), (1, .ref x), (2, .ref y), (3, .int (nI j))] [] := by
    intro t
    induction t with
    | zero =>
      intro j hj hs
      have hjW : j = W := by omega
      refine q_iload_n X dX1_isSame_2 3 rfl ?_
      refine q_aload_n X dX1_isSame_3 0 rfl ?_
      refine q_get X h1 rfl in_RX1 0 (by decide) tw_273 rfl rfl dX1_isSame_4 ?_
      refine q_alen X 0 h2 rfl dX1_isSame_7 ?_
      refine q_icmp_ge X 33 dX1_isSame_8 (by decide) (fun c_1 => ?_) (fun c_1 => absurd (nI_le (by omega) (by omega)) c_1)
      refine q_iconst (v := 1) X dX1_isSame_33 (by decide) ?_
      exact q_zret X hr (by decide) dX1_isSame_34 (⟨by rw [← hjW, hs]; rfl, rfl⟩)
    | succ t ih =>
      intro j hj hs
      have hjW : j < W := by omega
      obtain ⟨e1, e2⟩ := h4 j hjW
      refine q_iload_n X dX1_isSame_2 3 rfl ?_
      refine q_aload_n X dX1_isSame_3 0 rfl ?_
      refine q_get X h1 rfl in_RX1 0 (by decide) tw_273 rfl rfl dX1_isSame_4 ?_
      refine q_alen X 0 h2 rfl dX1_isSame_7 ?_
      refine q_icmp_ge X 33 dX1_isSame_8 (by decide) (fun c_2 => absurd c_2 (nI_ge hjW (by omega))) (fun c_2 => ?_)
      refine q_aload_n X dX1_isSame_11 1 rfl ?_
      refine q_aload_n X dX1_isSame_12 2 rfl ?_
      refine q_aload_n X dX1_isSame_13 0 rfl ?_
      refine q_get X h1 rfl in_RX1 0 (by decide) tw_273 rfl rfl dX1_isSame_14 ?_
      refine q_iload_n X dX1_isSame_17 3 rfl ?_
      refine q_ialdN X j h2 (rfl) (hjW) (by omega) dX1_isSame_18 ?_
      rw [e1]
      refine q_callVp X (c_X0_isSame hC hD e2) Y_X0_isSame tw_527 tw_528 tw_529 i1 rfl (by decide) rfl rfl (Nat.le_of_ble_eq_true rfl) dX1_isSame_19 ?_
      refine q_if_ne X 27 dX1_isSame_22 (by decide) (fun k2 => ?_) (fun k2 => ?_)
      · refine q_iinc (v := (nI (j + 1))) (lv' := [(3, .int (nI (j + 1))), (0, .ref a), (1, .ref x), (2, .ref y)]) X dX1_isSame_27 3 rfl (nI_1 j) (by decide) rfl ?_
        refine q_goto X 2 dX1_isSame_30 (by decide) ?_
        refine q_sub [1, 2, 3, 0] rfl ?_
        refine ih (j + 1) (by omega) ?_
        unfold sameB
        rw [hs, Bool.true_and]
        cases h9 : decide (f (pj j) = g (pj j)) with
        | true => rfl
        | false => exact absurd (by rw [h9]; rfl) k2
      · refine q_iconst (v := 0) X dX1_isSame_25 (by decide) ?_
        exact q_zret X hr (by decide) dX1_isSame_26 (⟨by rw [sameB_not hjW (fun h => by rw [decide_eq_true h] at k2; exact absurd k2 (by decide))]; rfl, rfl⟩)
  refine q_iconst (v := 0) X dX1_isSame_0 (by decide) ?_
  refine q_istore_n (lv' := [(3, .int 0), (0, .ref a), (1, .ref x), (2, .ref y)]) X dX1_isSame_1 (by decide) rfl ?_
  refine q_sub [1, 2, 3, 0] rfl ?_
  exact loop W 0 (by omega) rfl

set_option maxRecDepth 20000 in
theorem c_X1_octets {l : Launch} {G : gV} {M : gMem} {a W N : Nat} {pj : Nat → Nat} (hK : isChunk G M a W N pj) {x nx mx : Nat} {f : Nat → Option Int64} (hC : isCells G M x nx mx N f) : qC l G yX1_octets cX1_octets 9 (some .int) 5 0 0 [.ref a, .ref x] M (pP (.int (nI (octS f pj W).1)) M) := by
  refine qC_of (by decide +kernel) (Nat.le_of_ble_eq_true rfl) (fun F hF X hr hn => ?_)
  subst hF
  have X : qX G F cX1_octets 9 RX1 5 := X
  obtain ⟨p, pl, h1, h2, h3, h4⟩ := id hK
  obtain ⟨num, mk, i1, -⟩ := id hC
  have loop : ∀ (t j : Nat), j + t = W → qJ G F (qQ G F (pP (.int (nI (octS f pj W).1)) M)) 9 M 0 0 11 [(0, .ref a), (1, .ref x), (2, .int (nI (octS f pj j).1)), (3, .int (bI (octS f pj j).2.1)), (4, .long ((octS f pj j).2.2)), (6, .int (nI j))] [] := by
    intro t
    induction t with
    | zero =>
      intro j hj
      have hjW : j = W := by omega
      refine q_iload X dX1_octets_11 5 rfl ?_
      refine q_aload_n X dX1_octets_13 0 rfl ?_
      refine q_get X h1 rfl in_RX1 0 (by decide) tw_273 rfl rfl dX1_octets_14 ?_
      refine q_alen X 0 h2 rfl dX1_octets_17 ?_
      refine q_icmp_ge X 85 dX1_octets_18 (by decide) (fun c_1 => ?_) (fun c_1 => absurd (nI_le (by omega) (by omega)) c_1)
      refine q_iload_n X dX1_octets_85 2 rfl ?_
      exact q_iret X hr dX1_octets_86 (⟨by rw [← hjW], rfl⟩)
    | succ t ih =>
      intro j hj
      have hjW : j < W := by omega
      obtain ⟨e1, e2⟩ := h4 j hjW
      have ih := ih (j + 1) (by omega)
      refine q_iload X dX1_octets_11 5 rfl ?_
      refine q_aload_n X dX1_octets_13 0 rfl ?_
      refine q_get X h1 rfl in_RX1 0 (by decide) tw_273 rfl rfl dX1_octets_14 ?_
      refine q_alen X 0 h2 rfl dX1_octets_17 ?_
      refine q_icmp_ge X 85 dX1_octets_18 (by decide) (fun c_2 => absurd c_2 (nI_ge hjW (by omega))) (fun c_2 => ?_)
      refine q_aload_n X dX1_octets_21 1 rfl ?_
      refine q_aload_n X dX1_octets_22 0 rfl ?_
      refine q_get X h1 rfl in_RX1 0 (by decide) tw_273 rfl rfl dX1_octets_23 ?_
      refine q_iload X dX1_octets_26 5 rfl ?_
      refine q_ialdN X j h2 (rfl) (hjW) (by omega) dX1_octets_28 ?_
      rw [e1]
      refine q_callVp X (c_X0_has hC e2) Y_X0_has tw_543 tw_532 tw_533 i1 rfl (by decide) rfl rfl (Nat.le_of_ble_eq_true rfl) dX1_octets_29 ?_
      refine q_if_eq X 79 dX1_octets_32 (by decide) (fun k1 => ?_) (fun k1 => ?_)
      · refine q_iinc (v := (nI (j + 1))) (lv' := [(6, .int (nI (j + 1))), (0, .ref a), (1, .ref x), (2, .int (nI (octS f pj j).1)), (3, .int (bI (octS f pj j).2.1)), (4, .long ((octS f pj j).2.2))]) X dX1_octets_79 5 rfl (nI_1 j) (by decide) rfl ?_
        refine q_goto X 11 dX1_octets_82 (by decide) ?_
        refine q_sub [1, 2, 3, 4, 5, 0] rfl ?_
        have es : octS f pj (j + 1) = octS f pj j := by first | exact octS_n (Option.isSome_eq_false_iff.mp (bI_fl k1) |> Option.isNone_iff_eq_none.mp) | exact octS_k hv (fun h => by rcases h with h | h; exact absurd (bI_fl k2) (by rw [h]; decide); exact h ((lg_cmp_eq _ _).mp k3))
        rw [es] at ih
        exact ih
      · refine q_aload_n X dX1_octets_35 1 rfl ?_
        refine q_aload_n X dX1_octets_36 0 rfl ?_
        refine q_get X h1 rfl in_RX1 0 (by decide) tw_273 rfl rfl dX1_octets_37 ?_
        refine q_iload X dX1_octets_40 5 rfl ?_
        refine q_ialdN X j h2 (rfl) (hjW) (by omega) dX1_octets_42 ?_
        rw [e1]
        refine q_callVp X (c_X0_number hC e2) Y_X0_number tw_544 tw_536 tw_537 i1 rfl (by decide) rfl rfl (Nat.le_of_ble_eq_true rfl) dX1_octets_43 ?_
        obtain ⟨v, hv⟩ : ∃ v, f (pj j) = some v := Option.isSome_iff_exists.mp (by cases h9 : (f (pj j)).isSome with | true => rfl | false => exact absurd (by rw [h9]; rfl) k1)
        rw [show (f (pj j)).getD 0 = v by rw [hv]; rfl]
        refine q_lstore (lv' := [(7, .long v), (0, .ref a), (1, .ref x), (2, .int (nI (octS f pj j).1)), (3, .int (bI (octS f pj j).2.1)), (4, .long ((octS f pj j).2.2)), (6, .int (nI j))]) X dX1_octets_46 (by decide) rfl ?_
        refine q_iload_n X dX1_octets_48 4 rfl ?_
        refine q_if_ne X 60 dX1_octets_49 (by decide) (fun k2 => ?_) (fun k2 => ?_)
        · refine q_iload_n X dX1_octets_60 3 rfl ?_
          refine q_iconst (v := 1) X dX1_octets_61 (by decide) ?_
          refine q_lload X dX1_octets_62 0 rfl ?_
          refine q_lload X dX1_octets_64 5 rfl ?_
          refine q_lsub X dX1_octets_66 ?_
          refine q_callSp X (c_X1_octetsOf) Y_X1_octetsOf tw_545 tw_546 (by decide) rfl rfl (Nat.le_of_ble_eq_true rfl) dX1_octets_67 ?_
          refine q_iadd X dX1_octets_70 ?_
          refine q_iadd X dX1_octets_71 ?_
          refine q_istore_n (lv' := [(2, .int ((nI (octS f pj j).1) + (1 + (nI (octOf (v - ((octS f pj j).2.2))))))), (7, .long v), (0, .ref a), (1, .ref x), (3, .int (bI (octS f pj j).2.1)), (4, .long ((octS f pj j).2.2)), (6, .int (nI j))]) X dX1_octets_72 (by decide) rfl ?_
          refine q_lload X dX1_octets_73 1 rfl ?_
          refine q_lstore (lv' := [(4, .long v), (2, .int ((nI (octS f pj j).1) + (1 + (nI (octOf (v - ((octS f pj j).2.2))))))), (7, .long v), (0, .ref a), (1, .ref x), (3, .int (bI (octS f pj j).2.1)), (6, .int (nI j))]) X dX1_octets_75 (by decide) rfl ?_
          refine q_iconst (v := 0) X dX1_octets_77 (by decide) ?_
          refine q_istore_n (lv' := [(3, .int 0), (4, .long v), (2, .int ((nI (octS f pj j).1) + (1 + (nI (octOf (v - ((octS f pj j).2.2))))))), (7, .long v), (0, .ref a), (1, .ref x), (6, .int (nI j))]) X dX1_octets_78 (by decide) rfl ?_
          refine q_iinc (v := (nI (j + 1))) (lv' := [(6, .int (nI (j + 1))), (3, .int 0), (4, .long v), (2, .int ((nI (octS f pj j).1) + (1 + (nI (octOf (v - ((octS f pj j).2.2))))))), (7, .long v), (0, .ref a), (1, .ref x)]) X dX1_octets_79 6 rfl (nI_1 j) (by decide) rfl ?_
          refine q_goto X 11 dX1_octets_82 (by decide) ?_
          refine q_sub [5, 6, 3, 1, 2, 0] rfl ?_
          have es := octS_p hv (by first | exact Or.inl (bI_ne k2) | exact Or.inr (fun h => k3 ((lg_cmp_eq _ _).mpr h)))
          rw [es] at ih
          have e9 : nI (octS f pj j).1 + (1 + nI (octOf (v - (octS f pj j).2.2))) = nI ((octS f pj j).1 + (1 + octOf (v - (octS f pj j).2.2))) := by rw [show (1 : Int32) = nI 1 from rfl, nI_add, nI_add]
          rw [e9]
          exact ih
        · refine q_lload X dX1_octets_52 0 rfl ?_
          refine q_lload X dX1_octets_54 5 rfl ?_
          refine q_lcmp X dX1_octets_56 ?_
          refine q_if_eq X 79 dX1_octets_57 (by decide) (fun k3 => ?_) (fun k3 => ?_)
          · refine q_iinc (v := (nI (j + 1))) (lv' := [(6, .int (nI (j + 1))), (7, .long v), (0, .ref a), (1, .ref x), (2, .int (nI (octS f pj j).1)), (3, .int (bI (octS f pj j).2.1)), (4, .long ((octS f pj j).2.2))]) X dX1_octets_79 6 rfl (nI_1 j) (by decide) rfl ?_
            refine q_goto X 11 dX1_octets_82 (by decide) ?_
            refine q_sub [2, 3, 4, 5, 6, 0] rfl ?_
            have es : octS f pj (j + 1) = octS f pj j := by first | exact octS_n (Option.isSome_eq_false_iff.mp (bI_fl k1) |> Option.isNone_iff_eq_none.mp) | exact octS_k hv (fun h => by rcases h with h | h; exact absurd (bI_fl k2) (by rw [h]; decide); exact h ((lg_cmp_eq _ _).mp k3))
            rw [es] at ih
            exact ih
          · refine q_iload_n X dX1_octets_60 3 rfl ?_
            refine q_iconst (v := 1) X dX1_octets_61 (by decide) ?_
            refine q_lload X dX1_octets_62 0 rfl ?_
            refine q_lload X dX1_octets_64 5 rfl ?_
            refine q_lsub X dX1_octets_66 ?_
            refine q_callSp X (c_X1_octetsOf) Y_X1_octetsOf tw_545 tw_546 (by decide) rfl rfl (Nat.le_of_ble_eq_true rfl) dX1_octets_67 ?_
            refine q_iadd X dX1_octets_70 ?_
            refine q_iadd X dX1_octets_71 ?_
            refine q_istore_n (lv' := [(2, .int ((nI (octS f pj j).1) + (1 + (nI (octOf (v - ((octS f pj j).2.2))))))), (7, .long v), (0, .ref a), (1, .ref x), (3, .int (bI (octS f pj j).2.1)), (4, .long ((octS f pj j).2.2)), (6, .int (nI j))]) X dX1_octets_72 (by decide) rfl ?_
            refine q_lload X dX1_octets_73 1 rfl ?_
            refine q_lstore (lv' := [(4, .long v), (2, .int ((nI (octS f pj j).1) + (1 + (nI (octOf (v - ((octS f pj j).2.2))))))), (7, .long v), (0, .ref a), (1, .ref x), (3, .int (bI (octS f pj j).2.1)), (6, .int (nI j))]) X dX1_octets_75 (by decide) rfl ?_
            refine q_iconst (v := 0) X dX1_octets_77 (by decide) ?_
            refine q_istore_n (lv' := [(3, .int 0), (4, .long v), (2, .int ((nI (octS f pj j).1) + (1 + (nI (octOf (v - ((octS f pj j).2.2))))))), (7, .long v), (0, .ref a), (1, .ref x), (6, .int (nI j))]) X dX1_octets_78 (by decide) rfl ?_
            refine q_iinc (v := (nI (j + 1))) (lv' := [(6, .int (nI (j + 1))), (3, .int 0), (4, .long v), (2, .int ((nI (octS f pj j).1) + (1 + (nI (octOf (v - ((octS f pj j).2.2))))))), (7, .long v), (0, .ref a), (1, .ref x)]) X dX1_octets_79 6 rfl (nI_1 j) (by decide) rfl ?_
            refine q_goto X 11 dX1_octets_82 (by decide) ?_
            refine q_sub [5, 6, 3, 1, 2, 0] rfl ?_
            have es := octS_p hv (by first | exact Or.inl (bI_ne k2) | exact Or.inr (fun h => k3 ((lg_cmp_eq _ _).mpr h)))
            rw [es] at ih
            have e9 : nI (octS f pj j).1 + (1 + nI (octOf (v - (octS f pj j).2.2))) = nI ((octS f pj j).1 + (1 + octOf (v - (octS f pj j).2.2))) := by rw [show (1 : Int32) = nI 1 from rfl, nI_add, nI_add]
            rw [e9]
            exact ih
  refine q_bipush (v := 8) X dX1_octets_0 (by decide) ?_
  refine q_istore_n (lv' := [(2, .int 8), (0, .ref a), (1, .ref x)]) X dX1_octets_2 (by decide) rfl ?_
  refine q_iconst (v := 1) X dX1_octets_3 (by decide) ?_
  refine q_istore_n (lv' := [(3, .int 1), (2, .int 8), (0, .ref a), (1, .ref x)]) X dX1_octets_4 (by decide) rfl ?_
  refine q_lconst (v := 0) X dX1_octets_5 (by decide) ?_
  refine q_lstore (lv' := [(4, .long 0), (3, .int 1), (2, .int 8), (0, .ref a), (1, .ref x)]) X dX1_octets_6 (by decide) rfl ?_
  refine q_iconst (v := 0) X dX1_octets_8 (by decide) ?_
  refine q_istore (lv' := [(6, .int 0), (4, .long 0), (3, .int 1), (2, .int 8), (0, .ref a), (1, .ref x)]) X dX1_octets_9 (by decide) rfl ?_
  refine q_sub [4, 5, 3, 2, 1, 0] rfl ?_
  exact loop W 0 (by omega)
