/-! View's tellers -/
def stT : Nat → Int32 := upd (upd (upd (fun _ => 0) (0 : Int32).toNatClampNeg 0) (1 : Int32).toNatClampNeg 1) (2 : Int32).toNatClampNeg 2
def skT (d i : Nat) : Int32 := if i = d then -1 else if d < i then nI (i - 1) else nI i
def exT (d e i : Nat) : Int32 := if i = e then nI d else if i = d then nI e else nI i
/-- a new row of three -/
def tlP (G : gV) (M : gMem) (g : Nat → Int32) : Option Value → gMem → Prop := fun v M' => ∃ (q : Nat) (f : Nat → Int32), v = some (.ref q) ∧ M q = none ∧ M' = mU M q (aI G 3 f) ∧ ∀ i, i < 3 → f i = g i

set_option maxRecDepth 20000 in
theorem c_X10_straight {l : Launch} {G : gV} {M : gMem} : qC l G yX10_straight cX10_straight 0 (some (.array .int)) 1 1 3 [] M (fun v M' => ∃ q : Nat, v = some (.ref q) ∧ M q = none ∧ M' = mU M q (aI G 3 stT)) := by
  refine qC_of (by decide +kernel) (Nat.le_of_ble_eq_true rfl) (fun F hF X hr hn => ?_)
  subst hF
  have X : qX G F cX10_straight 0 RX10 1 := X
  show qJ G F _ 0 M 1 3 0 [] []
  refine q_iconst (v := 3) X dX10_straight_0 (by decide) ?_
  rw [show (3 : Int32) = nI 3 from rfl]
  refine q_newI X tw_107 3 (rfl) (by decide) (rc' := 0) (rs' := 0) (by omega) (by omega) dX10_straight_1 (fun q fq => ?_)
  have m_1 : (mU M q (aI G 3 (fun _ => 0))) q = some (aI G 3 (fun _ => 0)) := mU_s
  refine q_dup X dX10_straight_3 rfl ?_
  refine q_iconst (v := 0) X dX10_straight_4 (by decide) ?_
  refine q_iconst (v := 0) X dX10_straight_5 (by decide) ?_
  refine q_iast X m_1 (by unfold vp_in; decide) dX10_straight_6 ?_
  have m_2 : (mU (mU M q (aI G 3 (fun _ => 0))) q (aI G 3 (upd (fun _ => 0) (0 : Int32).toNatClampNeg 0))) q = some (aI G 3 (upd (fun _ => 0) (0 : Int32).toNatClampNeg 0)) := mU_s
  refine q_dup X dX10_straight_7 rfl ?_
  refine q_iconst (v := 1) X dX10_straight_8 (by decide) ?_
  refine q_iconst (v := 1) X dX10_straight_9 (by decide) ?_
  refine q_iast X m_2 (by unfold vp_in; decide) dX10_straight_10 ?_
  have m_3 : (mU (mU (mU M q (aI G 3 (fun _ => 0))) q (aI G 3 (upd (fun _ => 0) (0 : Int32).toNatClampNeg 0))) q (aI G 3 (upd (upd (fun _ => 0) (0 : Int32).toNatClampNeg 0) (1 : Int32).toNatClampNeg 1))) q = some (aI G 3 (upd (upd (fun _ => 0) (0 : Int32).toNatClampNeg 0) (1 : Int32).toNatClampNeg 1)) := mU_s
  refine q_dup X dX10_straight_11 rfl ?_
  refine q_iconst (v := 2) X dX10_straight_12 (by decide) ?_
  refine q_iconst (v := 2) X dX10_straight_13 (by decide) ?_
  refine q_iast X m_3 (by unfold vp_in; decide) dX10_straight_14 ?_
  have m_4 : (mU (mU (mU (mU M q (aI G 3 (fun _ => 0))) q (aI G 3 (upd (fun _ => 0) (0 : Int32).toNatClampNeg 0))) q (aI G 3 (upd (upd (fun _ => 0) (0 : Int32).toNatClampNeg 0) (1 : Int32).toNatClampNeg 1))) q (aI G 3 (upd (upd (upd (fun _ => 0) (0 : Int32).toNatClampNeg 0) (1 : Int32).toNatClampNeg 1) (2 : Int32).toNatClampNeg 2))) q = some (aI G 3 (upd (upd (upd (fun _ => 0) (0 : Int32).toNatClampNeg 0) (1 : Int32).toNatClampNeg 1) (2 : Int32).toNatClampNeg 2)) := mU_s
  exact q_aret X hr (Or.inr ⟨_, rfl⟩) dX10_straight_15 (⟨q, rfl, fq, by simp only [mU_mU]; rfl⟩)

set_option maxRecDepth 20000 in
theorem c_X10_skip_0 {l : Launch} {G : gV} {M : gMem} : qC l G yX10_skipping cX10_skipping 3 (some (.array .int)) 2 1 3 [.int 0] M (tlP G M (skT 0)) := by
  refine qC_of (by decide +kernel) (Nat.le_of_ble_eq_true rfl) (fun F hF X hr hn => ?_)
  subst hF
  have X : qX G F cX10_skipping 3 RX10 2 := X
  show qJ G F _ 3 M 1 3 0 [(0, .int 0)] []
  refine q_callS X (c_X10_straight) Y_X10_straight tw_737 tw_694 (by decide) rfl rfl (Nat.le_of_ble_eq_true rfl) (rc' := 0) (rs' := 0) (by omega) (by omega) dX10_skipping_0 (fun v M' hp _ => ?_)
  obtain ⟨q, rfl, fq, eM⟩ := hp
  subst eM
  have hq : (mU M q (aI G 3 stT)) q = some (aI G 3 stT) := mU_s
  show qJ G F _ 3 (mU M q (aI G 3 stT)) 0 0 3 [(0, .int 0)] [.ref q]
  refine q_astore_n (lv' := [(1, .ref q), (0, .int 0)]) X dX10_skipping_3 (by decide) rfl ?_
  refine q_iconst (v := 0) X dX10_skipping_4 (by decide) ?_
  refine q_istore_n (lv' := [(2, .int 0), (1, .ref q), (0, .int 0)]) X dX10_skipping_5 (by decide) rfl ?_
  refine q_iload_n X dX10_skipping_6 0 rfl ?_
  refine q_aload_n X dX10_skipping_7 1 rfl ?_
  refine q_alen X 0 hq rfl dX10_skipping_8 ?_
  refine q_icmp_ge X 41 dX10_skipping_9 (by decide) (fun c_1 => absurd c_1 (by decide)) (fun c_1 => ?_)
  refine q_iload_n X dX10_skipping_12 0 rfl ?_
  refine q_iload_n X dX10_skipping_13 2 rfl ?_
  refine q_icmp_ne X 24 dX10_skipping_14 (by decide) (fun c_2 => absurd (by decide) c_2) (fun c_2 => ?_)
  refine q_aload_n X dX10_skipping_17 1 rfl ?_
  refine q_iload_n X dX10_skipping_18 0 rfl ?_
  refine q_iconst (v := (-1)) X dX10_skipping_19 (by decide) ?_
  refine q_iast X hq (by unfold vp_in; decide) dX10_skipping_20 ?_
  have m_3 : (mU (mU M q (aI G 3 stT)) q (aI G 3 (upd stT (0 : Int32).toNatClampNeg (-1)))) q = some (aI G 3 (upd stT (0 : Int32).toNatClampNeg (-1))) := mU_s
  refine q_goto X 35 dX10_skipping_21 (by decide) ?_
  refine q_iinc (v := 1) (lv' := [(2, .int 1), (1, .ref q), (0, .int 0)]) X dX10_skipping_35 0 rfl (by decide) (by decide) rfl ?_
  refine q_goto X 6 dX10_skipping_38 (by decide) ?_
  refine q_iload_n X dX10_skipping_6 0 rfl ?_
  refine q_aload_n X dX10_skipping_7 1 rfl ?_
  refine q_alen X 0 m_3 rfl dX10_skipping_8 ?_
  refine q_icmp_ge X 41 dX10_skipping_9 (by decide) (fun c_4 => absurd c_4 (by decide)) (fun c_4 => ?_)
  refine q_iload_n X dX10_skipping_12 0 rfl ?_
  refine q_iload_n X dX10_skipping_13 2 rfl ?_
  refine q_icmp_ne X 24 dX10_skipping_14 (by decide) (fun c_5 => ?_) (fun c_5 => absurd c_5 (by decide))
  refine q_iload_n X dX10_skipping_24 0 rfl ?_
  refine q_iload_n X dX10_skipping_25 2 rfl ?_
  refine q_icmp_le X 35 dX10_skipping_26 (by decide) (fun c_6 => absurd c_6 (by decide)) (fun c_6 => ?_)
  refine q_aload_n X dX10_skipping_29 1 rfl ?_
  refine q_iload_n X dX10_skipping_30 0 rfl ?_
  refine q_iload_n X dX10_skipping_31 0 rfl ?_
  refine q_iconst (v := 1) X dX10_skipping_32 (by decide) ?_
  refine q_isub X dX10_skipping_33 ?_
  refine q_iast X m_3 (by unfold vp_in; decide) dX10_skipping_34 ?_
  have m_7 : (mU (mU (mU M q (aI G 3 stT)) q (aI G 3 (upd stT (0 : Int32).toNatClampNeg (-1)))) q (aI G 3 (upd (upd stT (0 : Int32).toNatClampNeg (-1)) (1 : Int32).toNatClampNeg (1 - 1)))) q = some (aI G 3 (upd (upd stT (0 : Int32).toNatClampNeg (-1)) (1 : Int32).toNatClampNeg (1 - 1))) := mU_s
  refine q_iinc (v := 2) (lv' := [(2, .int 2), (1, .ref q), (0, .int 0)]) X dX10_skipping_35 0 rfl (by decide) (by decide) rfl ?_
  refine q_goto X 6 dX10_skipping_38 (by decide) ?_
  refine q_iload_n X dX10_skipping_6 0 rfl ?_
  refine q_aload_n X dX10_skipping_7 1 rfl ?_
  refine q_alen X 0 m_7 rfl dX10_skipping_8 ?_
  refine q_icmp_ge X 41 dX10_skipping_9 (by decide) (fun c_8 => absurd c_8 (by decide)) (fun c_8 => ?_)
  refine q_iload_n X dX10_skipping_12 0 rfl ?_
  refine q_iload_n X dX10_skipping_13 2 rfl ?_
  refine q_icmp_ne X 24 dX10_skipping_14 (by decide) (fun c_9 => ?_) (fun c_9 => absurd c_9 (by decide))
  refine q_iload_n X dX10_skipping_24 0 rfl ?_
  refine q_iload_n X dX10_skipping_25 2 rfl ?_
  refine q_icmp_le X 35 dX10_skipping_26 (by decide) (fun c_10 => absurd c_10 (by decide)) (fun c_10 => ?_)
  refine q_aload_n X dX10_skipping_29 1 rfl ?_
  refine q_iload_n X dX10_skipping_30 0 rfl ?_
  refine q_iload_n X dX10_skipping_31 0 rfl ?_
  refine q_iconst (v := 1) X dX10_skipping_32 (by decide) ?_
  refine q_isub X dX10_skipping_33 ?_
  refine q_iast X m_7 (by unfold vp_in; decide) dX10_skipping_34 ?_
  have m_11 : (mU (mU (mU (mU M q (aI G 3 stT)) q (aI G 3 (upd stT (0 : Int32).toNatClampNeg (-1)))) q (aI G 3 (upd (upd stT (0 : Int32).toNatClampNeg (-1)) (1 : Int32).toNatClampNeg (1 - 1)))) q (aI G 3 (upd (upd (upd stT (0 : Int32).toNatClampNeg (-1)) (1 : Int32).toNatClampNeg (1 - 1)) (2 : Int32).toNatClampNeg (2 - 1)))) q = some (aI G 3 (upd (upd (upd stT (0 : Int32).toNatClampNeg (-1)) (1 : Int32).toNatClampNeg (1 - 1)) (2 : Int32).toNatClampNeg (2 - 1))) := mU_s
  refine q_iinc (v := 3) (lv' := [(2, .int 3), (1, .ref q), (0, .int 0)]) X dX10_skipping_35 0 rfl (by decide) (by decide) rfl ?_
  refine q_goto X 6 dX10_skipping_38 (by decide) ?_
  refine q_iload_n X dX10_skipping_6 0 rfl ?_
  refine q_aload_n X dX10_skipping_7 1 rfl ?_
  refine q_alen X 0 m_11 rfl dX10_skipping_8 ?_
  refine q_icmp_ge X 41 dX10_skipping_9 (by decide) (fun c_12 => ?_) (fun c_12 => absurd (by decide) c_12)
  refine q_aload_n X dX10_skipping_41 1 rfl ?_
  exact q_aret X hr (Or.inr ⟨_, rfl⟩) dX10_skipping_42 (⟨q, _, rfl, fq, by simp only [mU_mU]; rfl, fun i hi => by rcases (show i = 0 ∨ i = 1 ∨ i = 2 by omega) with rfl | rfl | rfl <;> decide⟩)

set_option maxRecDepth 20000 in
theorem c_X10_skip_1 {l : Launch} {G : gV} {M : gMem} : qC l G yX10_skipping cX10_skipping 3 (some (.array .int)) 2 1 3 [.int 1] M (tlP G M (skT 1)) := by
  refine qC_of (by decide +kernel) (Nat.le_of_ble_eq_true rfl) (fun F hF X hr hn => ?_)
  subst hF
  have X : qX G F cX10_skipping 3 RX10 2 := X
  show qJ G F _ 3 M 1 3 0 [(0, .int 1)] []
  refine q_callS X (c_X10_straight) Y_X10_straight tw_737 tw_694 (by decide) rfl rfl (Nat.le_of_ble_eq_true rfl) (rc' := 0) (rs' := 0) (by omega) (by omega) dX10_skipping_0 (fun v M' hp _ => ?_)
  obtain ⟨q, rfl, fq, eM⟩ := hp
  subst eM
  have hq : (mU M q (aI G 3 stT)) q = some (aI G 3 stT) := mU_s
  show qJ G F _ 3 (mU M q (aI G 3 stT)) 0 0 3 [(0, .int 1)] [.ref q]
  refine q_astore_n (lv' := [(1, .ref q), (0, .int 1)]) X dX10_skipping_3 (by decide) rfl ?_
  refine q_iconst (v := 0) X dX10_skipping_4 (by decide) ?_
  refine q_istore_n (lv' := [(2, .int 0), (1, .ref q), (0, .int 1)]) X dX10_skipping_5 (by decide) rfl ?_
  refine q_iload_n X dX10_skipping_6 0 rfl ?_
  refine q_aload_n X dX10_skipping_7 1 rfl ?_
  refine q_alen X 0 hq rfl dX10_skipping_8 ?_
  refine q_icmp_ge X 41 dX10_skipping_9 (by decide) (fun c_1 => absurd c_1 (by decide)) (fun c_1 => ?_)
  refine q_iload_n X dX10_skipping_12 0 rfl ?_
  refine q_iload_n X dX10_skipping_13 2 rfl ?_
  refine q_icmp_ne X 24 dX10_skipping_14 (by decide) (fun c_2 => ?_) (fun c_2 => absurd c_2 (by decide))
  refine q_iload_n X dX10_skipping_24 0 rfl ?_
  refine q_iload_n X dX10_skipping_25 2 rfl ?_
  refine q_icmp_le X 35 dX10_skipping_26 (by decide) (fun c_3 => ?_) (fun c_3 => absurd (by decide) c_3)
  refine q_iinc (v := 1) (lv' := [(2, .int 1), (1, .ref q), (0, .int 1)]) X dX10_skipping_35 0 rfl (by decide) (by decide) rfl ?_
  refine q_goto X 6 dX10_skipping_38 (by decide) ?_
  refine q_iload_n X dX10_skipping_6 0 rfl ?_
  refine q_aload_n X dX10_skipping_7 1 rfl ?_
  refine q_alen X 0 hq rfl dX10_skipping_8 ?_
  refine q_icmp_ge X 41 dX10_skipping_9 (by decide) (fun c_4 => absurd c_4 (by decide)) (fun c_4 => ?_)
  refine q_iload_n X dX10_skipping_12 0 rfl ?_
  refine q_iload_n X dX10_skipping_13 2 rfl ?_
  refine q_icmp_ne X 24 dX10_skipping_14 (by decide) (fun c_5 => absurd (by decide) c_5) (fun c_5 => ?_)
  refine q_aload_n X dX10_skipping_17 1 rfl ?_
  refine q_iload_n X dX10_skipping_18 0 rfl ?_
  refine q_iconst (v := (-1)) X dX10_skipping_19 (by decide) ?_
  refine q_iast X hq (by unfold vp_in; decide) dX10_skipping_20 ?_
  have m_6 : (mU (mU M q (aI G 3 stT)) q (aI G 3 (upd stT (1 : Int32).toNatClampNeg (-1)))) q = some (aI G 3 (upd stT (1 : Int32).toNatClampNeg (-1))) := mU_s
  refine q_goto X 35 dX10_skipping_21 (by decide) ?_
  refine q_iinc (v := 2) (lv' := [(2, .int 2), (1, .ref q), (0, .int 1)]) X dX10_skipping_35 0 rfl (by decide) (by decide) rfl ?_
  refine q_goto X 6 dX10_skipping_38 (by decide) ?_
  refine q_iload_n X dX10_skipping_6 0 rfl ?_
  refine q_aload_n X dX10_skipping_7 1 rfl ?_
  refine q_alen X 0 m_6 rfl dX10_skipping_8 ?_
  refine q_icmp_ge X 41 dX10_skipping_9 (by decide) (fun c_7 => absurd c_7 (by decide)) (fun c_7 => ?_)
  refine q_iload_n X dX10_skipping_12 0 rfl ?_
  refine q_iload_n X dX10_skipping_13 2 rfl ?_
  refine q_icmp_ne X 24 dX10_skipping_14 (by decide) (fun c_8 => ?_) (fun c_8 => absurd c_8 (by decide))
  refine q_iload_n X dX10_skipping_24 0 rfl ?_
  refine q_iload_n X dX10_skipping_25 2 rfl ?_
  refine q_icmp_le X 35 dX10_skipping_26 (by decide) (fun c_9 => absurd c_9 (by decide)) (fun c_9 => ?_)
  refine q_aload_n X dX10_skipping_29 1 rfl ?_
  refine q_iload_n X dX10_skipping_30 0 rfl ?_
  refine q_iload_n X dX10_skipping_31 0 rfl ?_
  refine q_iconst (v := 1) X dX10_skipping_32 (by decide) ?_
  refine q_isub X dX10_skipping_33 ?_
  refine q_iast X m_6 (by unfold vp_in; decide) dX10_skipping_34 ?_
  have m_10 : (mU (mU (mU M q (aI G 3 stT)) q (aI G 3 (upd stT (1 : Int32).toNatClampNeg (-1)))) q (aI G 3 (upd (upd stT (1 : Int32).toNatClampNeg (-1)) (2 : Int32).toNatClampNeg (2 - 1)))) q = some (aI G 3 (upd (upd stT (1 : Int32).toNatClampNeg (-1)) (2 : Int32).toNatClampNeg (2 - 1))) := mU_s
  refine q_iinc (v := 3) (lv' := [(2, .int 3), (1, .ref q), (0, .int 1)]) X dX10_skipping_35 0 rfl (by decide) (by decide) rfl ?_
  refine q_goto X 6 dX10_skipping_38 (by decide) ?_
  refine q_iload_n X dX10_skipping_6 0 rfl ?_
  refine q_aload_n X dX10_skipping_7 1 rfl ?_
  refine q_alen X 0 m_10 rfl dX10_skipping_8 ?_
  refine q_icmp_ge X 41 dX10_skipping_9 (by decide) (fun c_11 => ?_) (fun c_11 => absurd (by decide) c_11)
  refine q_aload_n X dX10_skipping_41 1 rfl ?_
  exact q_aret X hr (Or.inr ⟨_, rfl⟩) dX10_skipping_42 (⟨q, _, rfl, fq, by simp only [mU_mU]; rfl, fun i hi => by rcases (show i = 0 ∨ i = 1 ∨ i = 2 by omega) with rfl | rfl | rfl <;> decide⟩)

set_option maxRecDepth 20000 in
theorem c_X10_skip_2 {l : Launch} {G : gV} {M : gMem} : qC l G yX10_skipping cX10_skipping 3 (some (.array .int)) 2 1 3 [.int 2] M (tlP G M (skT 2)) := by
  refine qC_of (by decide +kernel) (Nat.le_of_ble_eq_true rfl) (fun F hF X hr hn => ?_)
  subst hF
  have X : qX G F cX10_skipping 3 RX10 2 := X
  show qJ G F _ 3 M 1 3 0 [(0, .int 2)] []
  refine q_callS X (c_X10_straight) Y_X10_straight tw_737 tw_694 (by decide) rfl rfl (Nat.le_of_ble_eq_true rfl) (rc' := 0) (rs' := 0) (by omega) (by omega) dX10_skipping_0 (fun v M' hp _ => ?_)
  obtain ⟨q, rfl, fq, eM⟩ := hp
  subst eM
  have hq : (mU M q (aI G 3 stT)) q = some (aI G 3 stT) := mU_s
  show qJ G F _ 3 (mU M q (aI G 3 stT)) 0 0 3 [(0, .int 2)] [.ref q]
  refine q_astore_n (lv' := [(1, .ref q), (0, .int 2)]) X dX10_skipping_3 (by decide) rfl ?_
  refine q_iconst (v := 0) X dX10_skipping_4 (by decide) ?_
  refine q_istore_n (lv' := [(2, .int 0), (1, .ref q), (0, .int 2)]) X dX10_skipping_5 (by decide) rfl ?_
  refine q_iload_n X dX10_skipping_6 0 rfl ?_
  refine q_aload_n X dX10_skipping_7 1 rfl ?_
  refine q_alen X 0 hq rfl dX10_skipping_8 ?_
  refine q_icmp_ge X 41 dX10_skipping_9 (by decide) (fun c_1 => absurd c_1 (by decide)) (fun c_1 => ?_)
  refine q_iload_n X dX10_skipping_12 0 rfl ?_
  refine q_iload_n X dX10_skipping_13 2 rfl ?_
  refine q_icmp_ne X 24 dX10_skipping_14 (by decide) (fun c_2 => ?_) (fun c_2 => absurd c_2 (by decide))
  refine q_iload_n X dX10_skipping_24 0 rfl ?_
  refine q_iload_n X dX10_skipping_25 2 rfl ?_
  refine q_icmp_le X 35 dX10_skipping_26 (by decide) (fun c_3 => ?_) (fun c_3 => absurd (by decide) c_3)
  refine q_iinc (v := 1) (lv' := [(2, .int 1), (1, .ref q), (0, .int 2)]) X dX10_skipping_35 0 rfl (by decide) (by decide) rfl ?_
  refine q_goto X 6 dX10_skipping_38 (by decide) ?_
  refine q_iload_n X dX10_skipping_6 0 rfl ?_
  refine q_aload_n X dX10_skipping_7 1 rfl ?_
  refine q_alen X 0 hq rfl dX10_skipping_8 ?_
  refine q_icmp_ge X 41 dX10_skipping_9 (by decide) (fun c_4 => absurd c_4 (by decide)) (fun c_4 => ?_)
  refine q_iload_n X dX10_skipping_12 0 rfl ?_
  refine q_iload_n X dX10_skipping_13 2 rfl ?_
  refine q_icmp_ne X 24 dX10_skipping_14 (by decide) (fun c_5 => ?_) (fun c_5 => absurd c_5 (by decide))
  refine q_iload_n X dX10_skipping_24 0 rfl ?_
  refine q_iload_n X dX10_skipping_25 2 rfl ?_
  refine q_icmp_le X 35 dX10_skipping_26 (by decide) (fun c_6 => ?_) (fun c_6 => absurd (by decide) c_6)
  refine q_iinc (v := 2) (lv' := [(2, .int 2), (1, .ref q), (0, .int 2)]) X dX10_skipping_35 0 rfl (by decide) (by decide) rfl ?_
  refine q_goto X 6 dX10_skipping_38 (by decide) ?_
  refine q_iload_n X dX10_skipping_6 0 rfl ?_
  refine q_aload_n X dX10_skipping_7 1 rfl ?_
  refine q_alen X 0 hq rfl dX10_skipping_8 ?_
  refine q_icmp_ge X 41 dX10_skipping_9 (by decide) (fun c_7 => absurd c_7 (by decide)) (fun c_7 => ?_)
  refine q_iload_n X dX10_skipping_12 0 rfl ?_
  refine q_iload_n X dX10_skipping_13 2 rfl ?_
  refine q_icmp_ne X 24 dX10_skipping_14 (by decide) (fun c_8 => absurd (by decide) c_8) (fun c_8 => ?_)
  refine q_aload_n X dX10_skipping_17 1 rfl ?_
  refine q_iload_n X dX10_skipping_18 0 rfl ?_
  refine q_iconst (v := (-1)) X dX10_skipping_19 (by decide) ?_
  refine q_iast X hq (by unfold vp_in; decide) dX10_skipping_20 ?_
  have m_9 : (mU (mU M q (aI G 3 stT)) q (aI G 3 (upd stT (2 : Int32).toNatClampNeg (-1)))) q = some (aI G 3 (upd stT (2 : Int32).toNatClampNeg (-1))) := mU_s
  refine q_goto X 35 dX10_skipping_21 (by decide) ?_
  refine q_iinc (v := 3) (lv' := [(2, .int 3), (1, .ref q), (0, .int 2)]) X dX10_skipping_35 0 rfl (by decide) (by decide) rfl ?_
  refine q_goto X 6 dX10_skipping_38 (by decide) ?_
  refine q_iload_n X dX10_skipping_6 0 rfl ?_
  refine q_aload_n X dX10_skipping_7 1 rfl ?_
  refine q_alen X 0 m_9 rfl dX10_skipping_8 ?_
  refine q_icmp_ge X 41 dX10_skipping_9 (by decide) (fun c_10 => ?_) (fun c_10 => absurd (by decide) c_10)
  refine q_aload_n X dX10_skipping_41 1 rfl ?_
  exact q_aret X hr (Or.inr ⟨_, rfl⟩) dX10_skipping_42 (⟨q, _, rfl, fq, by simp only [mU_mU]; rfl, fun i hi => by rcases (show i = 0 ∨ i = 1 ∨ i = 2 by omega) with rfl | rfl | rfl <;> decide⟩)

theorem c_X10_skipping {l : Launch} {G : gV} {M : gMem} {d : Nat} (hd : d < 3) : qC l G yX10_skipping cX10_skipping 3 (some (.array .int)) 2 1 3 [.int (nI d)] M (tlP G M (skT d)) := by
  rcases (show d = 0 ∨ d = 1 ∨ d = 2 by omega) with rfl | rfl | rfl
  · exact c_X10_skip_0
  · exact c_X10_skip_1
  · exact c_X10_skip_2

set_option maxRecDepth 20000 in
theorem c_X10_exch_00 {l : Launch} {G : gV} {M : gMem} : qC l G yX10_exchanging cX10_exchanging 3 (some (.array .int)) 2 1 3 [.int 0, .int 0] M (tlP G M (exT 0 0)) := by
  refine qC_of (by decide +kernel) (Nat.le_of_ble_eq_true rfl) (fun F hF X hr hn => ?_)
  subst hF
  have X : qX G F cX10_exchanging 3 RX10 2 := X
  show qJ G F _ 3 M 1 3 0 [(0, .int 0), (1, .int 0)] []
  refine q_callS X (c_X10_straight) Y_X10_straight tw_737 tw_694 (by decide) rfl rfl (Nat.le_of_ble_eq_true rfl) (rc' := 0) (rs' := 0) (by omega) (by omega) dX10_exchanging_0 (fun v M' hp _ => ?_)
  obtain ⟨q, rfl, fq, eM⟩ := hp
  subst eM
  have hq : (mU M q (aI G 3 stT)) q = some (aI G 3 stT) := mU_s
  show qJ G F _ 3 (mU M q (aI G 3 stT)) 0 0 3 [(0, .int 0), (1, .int 0)] [.ref q]
  refine q_astore_n (lv' := [(2, .ref q), (0, .int 0), (1, .int 0)]) X dX10_exchanging_3 (by decide) rfl ?_
  refine q_iload_n X dX10_exchanging_4 1 rfl ?_
  refine q_if_lt X 32 dX10_exchanging_5 (by decide) (fun c_1 => absurd c_1 (by decide)) (fun c_1 => ?_)
  refine q_iload_n X dX10_exchanging_8 1 rfl ?_
  refine q_aload_n X dX10_exchanging_9 0 rfl ?_
  refine q_alen X 0 hq rfl dX10_exchanging_10 ?_
  refine q_icmp_ge X 32 dX10_exchanging_11 (by decide) (fun c_2 => absurd c_2 (by decide)) (fun c_2 => ?_)
  refine q_iload_n X dX10_exchanging_14 2 rfl ?_
  refine q_if_lt X 32 dX10_exchanging_15 (by decide) (fun c_3 => absurd c_3 (by decide)) (fun c_3 => ?_)
  refine q_iload_n X dX10_exchanging_18 2 rfl ?_
  refine q_aload_n X dX10_exchanging_19 0 rfl ?_
  refine q_alen X 0 hq rfl dX10_exchanging_20 ?_
  refine q_icmp_ge X 32 dX10_exchanging_21 (by decide) (fun c_4 => absurd c_4 (by decide)) (fun c_4 => ?_)
  refine q_aload_n X dX10_exchanging_24 0 rfl ?_
  refine q_iload_n X dX10_exchanging_25 1 rfl ?_
  refine q_iload_n X dX10_exchanging_26 2 rfl ?_
  refine q_iast X hq (by unfold vp_in; decide) dX10_exchanging_27 ?_
  have m_5 : (mU (mU M q (aI G 3 stT)) q (aI G 3 (upd stT (0 : Int32).toNatClampNeg 0))) q = some (aI G 3 (upd stT (0 : Int32).toNatClampNeg 0)) := mU_s
  refine q_aload_n X dX10_exchanging_28 0 rfl ?_
  refine q_iload_n X dX10_exchanging_29 2 rfl ?_
  refine q_iload_n X dX10_exchanging_30 1 rfl ?_
  refine q_iast X m_5 (by unfold vp_in; decide) dX10_exchanging_31 ?_
  have m_6 : (mU (mU (mU M q (aI G 3 stT)) q (aI G 3 (upd stT (0 : Int32).toNatClampNeg 0))) q (aI G 3 (upd (upd stT (0 : Int32).toNatClampNeg 0) (0 : Int32).toNatClampNeg 0))) q = some (aI G 3 (upd (upd stT (0 : Int32).toNatClampNeg 0) (0 : Int32).toNatClampNeg 0)) := mU_s
  refine q_aload_n X dX10_exchanging_32 0 rfl ?_
  exact q_aret X hr (Or.inr ⟨_, rfl⟩) dX10_exchanging_33 (⟨q, _, rfl, fq, by simp only [mU_mU]; rfl, fun i hi => by rcases (show i = 0 ∨ i = 1 ∨ i = 2 by omega) with rfl | rfl | rfl <;> decide⟩)

set_option maxRecDepth 20000 in
theorem c_X10_exch_01 {l : Launch} {G : gV} {M : gMem} : qC l G yX10_exchanging cX10_exchanging 3 (some (.array .int)) 2 1 3 [.int 0, .int 1] M (tlP G M (exT 0 1)) := by
  refine qC_of (by decide +kernel) (Nat.le_of_ble_eq_true rfl) (fun F hF X hr hn => ?_)
  subst hF
  have X : qX G F cX10_exchanging 3 RX10 2 := X
  show qJ G F _ 3 M 1 3 0 [(0, .int 0), (1, .int 1)] []
  refine q_callS X (c_X10_straight) Y_X10_straight tw_737 tw_694 (by decide) rfl rfl (Nat.le_of_ble_eq_true rfl) (rc' := 0) (rs' := 0) (by omega) (by omega) dX10_exchanging_0 (fun v M' hp _ => ?_)
  obtain ⟨q, rfl, fq, eM⟩ := hp
  subst eM
  have hq : (mU M q (aI G 3 stT)) q = some (aI G 3 stT) := mU_s
  show qJ G F _ 3 (mU M q (aI G 3 stT)) 0 0 3 [(0, .int 0), (1, .int 1)] [.ref q]
  refine q_astore_n (lv' := [(2, .ref q), (0, .int 0), (1, .int 1)]) X dX10_exchanging_3 (by decide) rfl ?_
  refine q_iload_n X dX10_exchanging_4 1 rfl ?_
  refine q_if_lt X 32 dX10_exchanging_5 (by decide) (fun c_1 => absurd c_1 (by decide)) (fun c_1 => ?_)
  refine q_iload_n X dX10_exchanging_8 1 rfl ?_
  refine q_aload_n X dX10_exchanging_9 0 rfl ?_
  refine q_alen X 0 hq rfl dX10_exchanging_10 ?_
  refine q_icmp_ge X 32 dX10_exchanging_11 (by decide) (fun c_2 => absurd c_2 (by decide)) (fun c_2 => ?_)
  refine q_iload_n X dX10_exchanging_14 2 rfl ?_
  refine q_if_lt X 32 dX10_exchanging_15 (by decide) (fun c_3 => absurd c_3 (by decide)) (fun c_3 => ?_)
  refine q_iload_n X dX10_exchanging_18 2 rfl ?_
  refine q_aload_n X dX10_exchanging_19 0 rfl ?_
  refine q_alen X 0 hq rfl dX10_exchanging_20 ?_
  refine q_icmp_ge X 32 dX10_exchanging_21 (by decide) (fun c_4 => absurd c_4 (by decide)) (fun c_4 => ?_)
  refine q_aload_n X dX10_exchanging_24 0 rfl ?_
  refine q_iload_n X dX10_exchanging_25 1 rfl ?_
  refine q_iload_n X dX10_exchanging_26 2 rfl ?_
  refine q_iast X hq (by unfold vp_in; decide) dX10_exchanging_27 ?_
  have m_5 : (mU (mU M q (aI G 3 stT)) q (aI G 3 (upd stT (0 : Int32).toNatClampNeg 1))) q = some (aI G 3 (upd stT (0 : Int32).toNatClampNeg 1)) := mU_s
  refine q_aload_n X dX10_exchanging_28 0 rfl ?_
  refine q_iload_n X dX10_exchanging_29 2 rfl ?_
  refine q_iload_n X dX10_exchanging_30 1 rfl ?_
  refine q_iast X m_5 (by unfold vp_in; decide) dX10_exchanging_31 ?_
  have m_6 : (mU (mU (mU M q (aI G 3 stT)) q (aI G 3 (upd stT (0 : Int32).toNatClampNeg 1))) q (aI G 3 (upd (upd stT (0 : Int32).toNatClampNeg 1) (1 : Int32).toNatClampNeg 0))) q = some (aI G 3 (upd (upd stT (0 : Int32).toNatClampNeg 1) (1 : Int32).toNatClampNeg 0)) := mU_s
  refine q_aload_n X dX10_exchanging_32 0 rfl ?_
  exact q_aret X hr (Or.inr ⟨_, rfl⟩) dX10_exchanging_33 (⟨q, _, rfl, fq, by simp only [mU_mU]; rfl, fun i hi => by rcases (show i = 0 ∨ i = 1 ∨ i = 2 by omega) with rfl | rfl | rfl <;> decide⟩)

set_option maxRecDepth 20000 in
theorem c_X10_exch_02 {l : Launch} {G : gV} {M : gMem} : qC l G yX10_exchanging cX10_exchanging 3 (some (.array .int)) 2 1 3 [.int 0, .int 2] M (tlP G M (exT 0 2)) := by
  refine qC_of (by decide +kernel) (Nat.le_of_ble_eq_true rfl) (fun F hF X hr hn => ?_)
  subst hF
  have X : qX G F cX10_exchanging 3 RX10 2 := X
  show qJ G F _ 3 M 1 3 0 [(0, .int 0), (1, .int 2)] []
  refine q_callS X (c_X10_straight) Y_X10_straight tw_737 tw_694 (by decide) rfl rfl (Nat.le_of_ble_eq_true rfl) (rc' := 0) (rs' := 0) (by omega) (by omega) dX10_exchanging_0 (fun v M' hp _ => ?_)
  obtain ⟨q, rfl, fq, eM⟩ := hp
  subst eM
  have hq : (mU M q (aI G 3 stT)) q = some (aI G 3 stT) := mU_s
  show qJ G F _ 3 (mU M q (aI G 3 stT)) 0 0 3 [(0, .int 0), (1, .int 2)] [.ref q]
  refine q_astore_n (lv' := [(2, .ref q), (0, .int 0), (1, .int 2)]) X dX10_exchanging_3 (by decide) rfl ?_
  refine q_iload_n X dX10_exchanging_4 1 rfl ?_
  refine q_if_lt X 32 dX10_exchanging_5 (by decide) (fun c_1 => absurd c_1 (by decide)) (fun c_1 => ?_)
  refine q_iload_n X dX10_exchanging_8 1 rfl ?_
  refine q_aload_n X dX10_exchanging_9 0 rfl ?_
  refine q_alen X 0 hq rfl dX10_exchanging_10 ?_
  refine q_icmp_ge X 32 dX10_exchanging_11 (by decide) (fun c_2 => absurd c_2 (by decide)) (fun c_2 => ?_)
  refine q_iload_n X dX10_exchanging_14 2 rfl ?_
  refine q_if_lt X 32 dX10_exchanging_15 (by decide) (fun c_3 => absurd c_3 (by decide)) (fun c_3 => ?_)
  refine q_iload_n X dX10_exchanging_18 2 rfl ?_
  refine q_aload_n X dX10_exchanging_19 0 rfl ?_
  refine q_alen X 0 hq rfl dX10_exchanging_20 ?_
  refine q_icmp_ge X 32 dX10_exchanging_21 (by decide) (fun c_4 => absurd c_4 (by decide)) (fun c_4 => ?_)
  refine q_aload_n X dX10_exchanging_24 0 rfl ?_
  refine q_iload_n X dX10_exchanging_25 1 rfl ?_
  refine q_iload_n X dX10_exchanging_26 2 rfl ?_
  refine q_iast X hq (by unfold vp_in; decide) dX10_exchanging_27 ?_
  have m_5 : (mU (mU M q (aI G 3 stT)) q (aI G 3 (upd stT (0 : Int32).toNatClampNeg 2))) q = some (aI G 3 (upd stT (0 : Int32).toNatClampNeg 2)) := mU_s
  refine q_aload_n X dX10_exchanging_28 0 rfl ?_
  refine q_iload_n X dX10_exchanging_29 2 rfl ?_
  refine q_iload_n X dX10_exchanging_30 1 rfl ?_
  refine q_iast X m_5 (by unfold vp_in; decide) dX10_exchanging_31 ?_
  have m_6 : (mU (mU (mU M q (aI G 3 stT)) q (aI G 3 (upd stT (0 : Int32).toNatClampNeg 2))) q (aI G 3 (upd (upd stT (0 : Int32).toNatClampNeg 2) (2 : Int32).toNatClampNeg 0))) q = some (aI G 3 (upd (upd stT (0 : Int32).toNatClampNeg 2) (2 : Int32).toNatClampNeg 0)) := mU_s
  refine q_aload_n X dX10_exchanging_32 0 rfl ?_
  exact q_aret X hr (Or.inr ⟨_, rfl⟩) dX10_exchanging_33 (⟨q, _, rfl, fq, by simp only [mU_mU]; rfl, fun i hi => by rcases (show i = 0 ∨ i = 1 ∨ i = 2 by omega) with rfl | rfl | rfl <;> decide⟩)

set_option maxRecDepth 20000 in
theorem c_X10_exch_10 {l : Launch} {G : gV} {M : gMem} : qC l G yX10_exchanging cX10_exchanging 3 (some (.array .int)) 2 1 3 [.int 1, .int 0] M (tlP G M (exT 1 0)) := by
  refine qC_of (by decide +kernel) (Nat.le_of_ble_eq_true rfl) (fun F hF X hr hn => ?_)
  subst hF
  have X : qX G F cX10_exchanging 3 RX10 2 := X
  show qJ G F _ 3 M 1 3 0 [(0, .int 1), (1, .int 0)] []
  refine q_callS X (c_X10_straight) Y_X10_straight tw_737 tw_694 (by decide) rfl rfl (Nat.le_of_ble_eq_true rfl) (rc' := 0) (rs' := 0) (by omega) (by omega) dX10_exchanging_0 (fun v M' hp _ => ?_)
  obtain ⟨q, rfl, fq, eM⟩ := hp
  subst eM
  have hq : (mU M q (aI G 3 stT)) q = some (aI G 3 stT) := mU_s
  show qJ G F _ 3 (mU M q (aI G 3 stT)) 0 0 3 [(0, .int 1), (1, .int 0)] [.ref q]
  refine q_astore_n (lv' := [(2, .ref q), (0, .int 1), (1, .int 0)]) X dX10_exchanging_3 (by decide) rfl ?_
  refine q_iload_n X dX10_exchanging_4 1 rfl ?_
  refine q_if_lt X 32 dX10_exchanging_5 (by decide) (fun c_1 => absurd c_1 (by decide)) (fun c_1 => ?_)
  refine q_iload_n X dX10_exchanging_8 1 rfl ?_
  refine q_aload_n X dX10_exchanging_9 0 rfl ?_
  refine q_alen X 0 hq rfl dX10_exchanging_10 ?_
  refine q_icmp_ge X 32 dX10_exchanging_11 (by decide) (fun c_2 => absurd c_2 (by decide)) (fun c_2 => ?_)
  refine q_iload_n X dX10_exchanging_14 2 rfl ?_
  refine q_if_lt X 32 dX10_exchanging_15 (by decide) (fun c_3 => absurd c_3 (by decide)) (fun c_3 => ?_)
  refine q_iload_n X dX10_exchanging_18 2 rfl ?_
  refine q_aload_n X dX10_exchanging_19 0 rfl ?_
  refine q_alen X 0 hq rfl dX10_exchanging_20 ?_
  refine q_icmp_ge X 32 dX10_exchanging_21 (by decide) (fun c_4 => absurd c_4 (by decide)) (fun c_4 => ?_)
  refine q_aload_n X dX10_exchanging_24 0 rfl ?_
  refine q_iload_n X dX10_exchanging_25 1 rfl ?_
  refine q_iload_n X dX10_exchanging_26 2 rfl ?_
  refine q_iast X hq (by unfold vp_in; decide) dX10_exchanging_27 ?_
  have m_5 : (mU (mU M q (aI G 3 stT)) q (aI G 3 (upd stT (1 : Int32).toNatClampNeg 0))) q = some (aI G 3 (upd stT (1 : Int32).toNatClampNeg 0)) := mU_s
  refine q_aload_n X dX10_exchanging_28 0 rfl ?_
  refine q_iload_n X dX10_exchanging_29 2 rfl ?_
  refine q_iload_n X dX10_exchanging_30 1 rfl ?_
  refine q_iast X m_5 (by unfold vp_in; decide) dX10_exchanging_31 ?_
  have m_6 : (mU (mU (mU M q (aI G 3 stT)) q (aI G 3 (upd stT (1 : Int32).toNatClampNeg 0))) q (aI G 3 (upd (upd stT (1 : Int32).toNatClampNeg 0) (0 : Int32).toNatClampNeg 1))) q = some (aI G 3 (upd (upd stT (1 : Int32).toNatClampNeg 0) (0 : Int32).toNatClampNeg 1)) := mU_s
  refine q_aload_n X dX10_exchanging_32 0 rfl ?_
  exact q_aret X hr (Or.inr ⟨_, rfl⟩) dX10_exchanging_33 (⟨q, _, rfl, fq, by simp only [mU_mU]; rfl, fun i hi => by rcases (show i = 0 ∨ i = 1 ∨ i = 2 by omega) with rfl | rfl | rfl <;> decide⟩)

set_option maxRecDepth 20000 in
theorem c_X10_exch_11 {l : Launch} {G : gV} {M : gMem} : qC l G yX10_exchanging cX10_exchanging 3 (some (.array .int)) 2 1 3 [.int 1, .int 1] M (tlP G M (exT 1 1)) := by
  refine qC_of (by decide +kernel) (Nat.le_of_ble_eq_true rfl) (fun F hF X hr hn => ?_)
  subst hF
  have X : qX G F cX10_exchanging 3 RX10 2 := X
  show qJ G F _ 3 M 1 3 0 [(0, .int 1), (1, .int 1)] []
  refine q_callS X (c_X10_straight) Y_X10_straight tw_737 tw_694 (by decide) rfl rfl (Nat.le_of_ble_eq_true rfl) (rc' := 0) (rs' := 0) (by omega) (by omega) dX10_exchanging_0 (fun v M' hp _ => ?_)
  obtain ⟨q, rfl, fq, eM⟩ := hp
  subst eM
  have hq : (mU M q (aI G 3 stT)) q = some (aI G 3 stT) := mU_s
  show qJ G F _ 3 (mU M q (aI G 3 stT)) 0 0 3 [(0, .int 1), (1, .int 1)] [.ref q]
  refine q_astore_n (lv' := [(2, .ref q), (0, .int 1), (1, .int 1)]) X dX10_exchanging_3 (by decide) rfl ?_
  refine q_iload_n X dX10_exchanging_4 1 rfl ?_
  refine q_if_lt X 32 dX10_exchanging_5 (by decide) (fun c_1 => absurd c_1 (by decide)) (fun c_1 => ?_)
  refine q_iload_n X dX10_exchanging_8 1 rfl ?_
  refine q_aload_n X dX10_exchanging_9 0 rfl ?_
  refine q_alen X 0 hq rfl dX10_exchanging_10 ?_
  refine q_icmp_ge X 32 dX10_exchanging_11 (by decide) (fun c_2 => absurd c_2 (by decide)) (fun c_2 => ?_)
  refine q_iload_n X dX10_exchanging_14 2 rfl ?_
  refine q_if_lt X 32 dX10_exchanging_15 (by decide) (fun c_3 => absurd c_3 (by decide)) (fun c_3 => ?_)
  refine q_iload_n X dX10_exchanging_18 2 rfl ?_
  refine q_aload_n X dX10_exchanging_19 0 rfl ?_
  refine q_alen X 0 hq rfl dX10_exchanging_20 ?_
  refine q_icmp_ge X 32 dX10_exchanging_21 (by decide) (fun c_4 => absurd c_4 (by decide)) (fun c_4 => ?_)
  refine q_aload_n X dX10_exchanging_24 0 rfl ?_
  refine q_iload_n X dX10_exchanging_25 1 rfl ?_
  refine q_iload_n X dX10_exchanging_26 2 rfl ?_
  refine q_iast X hq (by unfold vp_in; decide) dX10_exchanging_27 ?_
  have m_5 : (mU (mU M q (aI G 3 stT)) q (aI G 3 (upd stT (1 : Int32).toNatClampNeg 1))) q = some (aI G 3 (upd stT (1 : Int32).toNatClampNeg 1)) := mU_s
  refine q_aload_n X dX10_exchanging_28 0 rfl ?_
  refine q_iload_n X dX10_exchanging_29 2 rfl ?_
  refine q_iload_n X dX10_exchanging_30 1 rfl ?_
  refine q_iast X m_5 (by unfold vp_in; decide) dX10_exchanging_31 ?_
  have m_6 : (mU (mU (mU M q (aI G 3 stT)) q (aI G 3 (upd stT (1 : Int32).toNatClampNeg 1))) q (aI G 3 (upd (upd stT (1 : Int32).toNatClampNeg 1) (1 : Int32).toNatClampNeg 1))) q = some (aI G 3 (upd (upd stT (1 : Int32).toNatClampNeg 1) (1 : Int32).toNatClampNeg 1)) := mU_s
  refine q_aload_n X dX10_exchanging_32 0 rfl ?_
  exact q_aret X hr (Or.inr ⟨_, rfl⟩) dX10_exchanging_33 (⟨q, _, rfl, fq, by simp only [mU_mU]; rfl, fun i hi => by rcases (show i = 0 ∨ i = 1 ∨ i = 2 by omega) with rfl | rfl | rfl <;> decide⟩)

set_option maxRecDepth 20000 in
theorem c_X10_exch_12 {l : Launch} {G : gV} {M : gMem} : qC l G yX10_exchanging cX10_exchanging 3 (some (.array .int)) 2 1 3 [.int 1, .int 2] M (tlP G M (exT 1 2)) := by
  refine qC_of (by decide +kernel) (Nat.le_of_ble_eq_true rfl) (fun F hF X hr hn => ?_)
  subst hF
  have X : qX G F cX10_exchanging 3 RX10 2 := X
  show qJ G F _ 3 M 1 3 0 [(0, .int 1), (1, .int 2)] []
  refine q_callS X (c_X10_straight) Y_X10_straight tw_737 tw_694 (by decide) rfl rfl (Nat.le_of_ble_eq_true rfl) (rc' := 0) (rs' := 0) (by omega) (by omega) dX10_exchanging_0 (fun v M' hp _ => ?_)
  obtain ⟨q, rfl, fq, eM⟩ := hp
  subst eM
  have hq : (mU M q (aI G 3 stT)) q = some (aI G 3 stT) := mU_s
  show qJ G F _ 3 (mU M q (aI G 3 stT)) 0 0 3 [(0, .int 1), (1, .int 2)] [.ref q]
  refine q_astore_n (lv' := [(2, .ref q), (0, .int 1), (1, .int 2)]) X dX10_exchanging_3 (by decide) rfl ?_
  refine q_iload_n X dX10_exchanging_4 1 rfl ?_
  refine q_if_lt X 32 dX10_exchanging_5 (by decide) (fun c_1 => absurd c_1 (by decide)) (fun c_1 => ?_)
  refine q_iload_n X dX10_exchanging_8 1 rfl ?_
  refine q_aload_n X dX10_exchanging_9 0 rfl ?_
  refine q_alen X 0 hq rfl dX10_exchanging_10 ?_
  refine q_icmp_ge X 32 dX10_exchanging_11 (by decide) (fun c_2 => absurd c_2 (by decide)) (fun c_2 => ?_)
  refine q_iload_n X dX10_exchanging_14 2 rfl ?_
  refine q_if_lt X 32 dX10_exchanging_15 (by decide) (fun c_3 => absurd c_3 (by decide)) (fun c_3 => ?_)
  refine q_iload_n X dX10_exchanging_18 2 rfl ?_
  refine q_aload_n X dX10_exchanging_19 0 rfl ?_
  refine q_alen X 0 hq rfl dX10_exchanging_20 ?_
  refine q_icmp_ge X 32 dX10_exchanging_21 (by decide) (fun c_4 => absurd c_4 (by decide)) (fun c_4 => ?_)
  refine q_aload_n X dX10_exchanging_24 0 rfl ?_
  refine q_iload_n X dX10_exchanging_25 1 rfl ?_
  refine q_iload_n X dX10_exchanging_26 2 rfl ?_
  refine q_iast X hq (by unfold vp_in; decide) dX10_exchanging_27 ?_
  have m_5 : (mU (mU M q (aI G 3 stT)) q (aI G 3 (upd stT (1 : Int32).toNatClampNeg 2))) q = some (aI G 3 (upd stT (1 : Int32).toNatClampNeg 2)) := mU_s
  refine q_aload_n X dX10_exchanging_28 0 rfl ?_
  refine q_iload_n X dX10_exchanging_29 2 rfl ?_
  refine q_iload_n X dX10_exchanging_30 1 rfl ?_
  refine q_iast X m_5 (by unfold vp_in; decide) dX10_exchanging_31 ?_
  have m_6 : (mU (mU (mU M q (aI G 3 stT)) q (aI G 3 (upd stT (1 : Int32).toNatClampNeg 2))) q (aI G 3 (upd (upd stT (1 : Int32).toNatClampNeg 2) (2 : Int32).toNatClampNeg 1))) q = some (aI G 3 (upd (upd stT (1 : Int32).toNatClampNeg 2) (2 : Int32).toNatClampNeg 1)) := mU_s
  refine q_aload_n X dX10_exchanging_32 0 rfl ?_
  exact q_aret X hr (Or.inr ⟨_, rfl⟩) dX10_exchanging_33 (⟨q, _, rfl, fq, by simp only [mU_mU]; rfl, fun i hi => by rcases (show i = 0 ∨ i = 1 ∨ i = 2 by omega) with rfl | rfl | rfl <;> decide⟩)

set_option maxRecDepth 20000 in
theorem c_X10_exch_20 {l : Launch} {G : gV} {M : gMem} : qC l G yX10_exchanging cX10_exchanging 3 (some (.array .int)) 2 1 3 [.int 2, .int 0] M (tlP G M (exT 2 0)) := by
  refine qC_of (by decide +kernel) (Nat.le_of_ble_eq_true rfl) (fun F hF X hr hn => ?_)
  subst hF
  have X : qX G F cX10_exchanging 3 RX10 2 := X
  show qJ G F _ 3 M 1 3 0 [(0, .int 2), (1, .int 0)] []
  refine q_callS X (c_X10_straight) Y_X10_straight tw_737 tw_694 (by decide) rfl rfl (Nat.le_of_ble_eq_true rfl) (rc' := 0) (rs' := 0) (by omega) (by omega) dX10_exchanging_0 (fun v M' hp _ => ?_)
  obtain ⟨q, rfl, fq, eM⟩ := hp
  subst eM
  have hq : (mU M q (aI G 3 stT)) q = some (aI G 3 stT) := mU_s
  show qJ G F _ 3 (mU M q (aI G 3 stT)) 0 0 3 [(0, .int 2), (1, .int 0)] [.ref q]
  refine q_astore_n (lv' := [(2, .ref q), (0, .int 2), (1, .int 0)]) X dX10_exchanging_3 (by decide) rfl ?_
  refine q_iload_n X dX10_exchanging_4 1 rfl ?_
  refine q_if_lt X 32 dX10_exchanging_5 (by decide) (fun c_1 => absurd c_1 (by decide)) (fun c_1 => ?_)
  refine q_iload_n X dX10_exchanging_8 1 rfl ?_
  refine q_aload_n X dX10_exchanging_9 0 rfl ?_
  refine q_alen X 0 hq rfl dX10_exchanging_10 ?_
  refine q_icmp_ge X 32 dX10_exchanging_11 (by decide) (fun c_2 => absurd c_2 (by decide)) (fun c_2 => ?_)
  refine q_iload_n X dX10_exchanging_14 2 rfl ?_
  refine q_if_lt X 32 dX10_exchanging_15 (by decide) (fun c_3 => absurd c_3 (by decide)) (fun c_3 => ?_)
  refine q_iload_n X dX10_exchanging_18 2 rfl ?_
  refine q_aload_n X dX10_exchanging_19 0 rfl ?_
  refine q_alen X 0 hq rfl dX10_exchanging_20 ?_
  refine q_icmp_ge X 32 dX10_exchanging_21 (by decide) (fun c_4 => absurd c_4 (by decide)) (fun c_4 => ?_)
  refine q_aload_n X dX10_exchanging_24 0 rfl ?_
  refine q_iload_n X dX10_exchanging_25 1 rfl ?_
  refine q_iload_n X dX10_exchanging_26 2 rfl ?_
  refine q_iast X hq (by unfold vp_in; decide) dX10_exchanging_27 ?_
  have m_5 : (mU (mU M q (aI G 3 stT)) q (aI G 3 (upd stT (2 : Int32).toNatClampNeg 0))) q = some (aI G 3 (upd stT (2 : Int32).toNatClampNeg 0)) := mU_s
  refine q_aload_n X dX10_exchanging_28 0 rfl ?_
  refine q_iload_n X dX10_exchanging_29 2 rfl ?_
  refine q_iload_n X dX10_exchanging_30 1 rfl ?_
  refine q_iast X m_5 (by unfold vp_in; decide) dX10_exchanging_31 ?_
  have m_6 : (mU (mU (mU M q (aI G 3 stT)) q (aI G 3 (upd stT (2 : Int32).toNatClampNeg 0))) q (aI G 3 (upd (upd stT (2 : Int32).toNatClampNeg 0) (0 : Int32).toNatClampNeg 2))) q = some (aI G 3 (upd (upd stT (2 : Int32).toNatClampNeg 0) (0 : Int32).toNatClampNeg 2)) := mU_s
  refine q_aload_n X dX10_exchanging_32 0 rfl ?_
  exact q_aret X hr (Or.inr ⟨_, rfl⟩) dX10_exchanging_33 (⟨q, _, rfl, fq, by simp only [mU_mU]; rfl, fun i hi => by rcases (show i = 0 ∨ i = 1 ∨ i = 2 by omega) with rfl | rfl | rfl <;> decide⟩)

set_option maxRecDepth 20000 in
theorem c_X10_exch_21 {l : Launch} {G : gV} {M : gMem} : qC l G yX10_exchanging cX10_exchanging 3 (some (.array .int)) 2 1 3 [.int 2, .int 1] M (tlP G M (exT 2 1)) := by
  refine qC_of (by decide +kernel) (Nat.le_of_ble_eq_true rfl) (fun F hF X hr hn => ?_)
  subst hF
  have X : qX G F cX10_exchanging 3 RX10 2 := X
  show qJ G F _ 3 M 1 3 0 [(0, .int 2), (1, .int 1)] []
  refine q_callS X (c_X10_straight) Y_X10_straight tw_737 tw_694 (by decide) rfl rfl (Nat.le_of_ble_eq_true rfl) (rc' := 0) (rs' := 0) (by omega) (by omega) dX10_exchanging_0 (fun v M' hp _ => ?_)
  obtain ⟨q, rfl, fq, eM⟩ := hp
  subst eM
  have hq : (mU M q (aI G 3 stT)) q = some (aI G 3 stT) := mU_s
  show qJ G F _ 3 (mU M q (aI G 3 stT)) 0 0 3 [(0, .int 2), (1, .int 1)] [.ref q]
  refine q_astore_n (lv' := [(2, .ref q), (0, .int 2), (1, .int 1)]) X dX10_exchanging_3 (by decide) rfl ?_
  refine q_iload_n X dX10_exchanging_4 1 rfl ?_
  refine q_if_lt X 32 dX10_exchanging_5 (by decide) (fun c_1 => absurd c_1 (by decide)) (fun c_1 => ?_)
  refine q_iload_n X dX10_exchanging_8 1 rfl ?_
  refine q_aload_n X dX10_exchanging_9 0 rfl ?_
  refine q_alen X 0 hq rfl dX10_exchanging_10 ?_
  refine q_icmp_ge X 32 dX10_exchanging_11 (by decide) (fun c_2 => absurd c_2 (by decide)) (fun c_2 => ?_)
  refine q_iload_n X dX10_exchanging_14 2 rfl ?_
  refine q_if_lt X 32 dX10_exchanging_15 (by decide) (fun c_3 => absurd c_3 (by decide)) (fun c_3 => ?_)
  refine q_iload_n X dX10_exchanging_18 2 rfl ?_
  refine q_aload_n X dX10_exchanging_19 0 rfl ?_
  refine q_alen X 0 hq rfl dX10_exchanging_20 ?_
  refine q_icmp_ge X 32 dX10_exchanging_21 (by decide) (fun c_4 => absurd c_4 (by decide)) (fun c_4 => ?_)
  refine q_aload_n X dX10_exchanging_24 0 rfl ?_
  refine q_iload_n X dX10_exchanging_25 1 rfl ?_
  refine q_iload_n X dX10_exchanging_26 2 rfl ?_
  refine q_iast X hq (by unfold vp_in; decide) dX10_exchanging_27 ?_
  have m_5 : (mU (mU M q (aI G 3 stT)) q (aI G 3 (upd stT (2 : Int32).toNatClampNeg 1))) q = some (aI G 3 (upd stT (2 : Int32).toNatClampNeg 1)) := mU_s
  refine q_aload_n X dX10_exchanging_28 0 rfl ?_
  refine q_iload_n X dX10_exchanging_29 2 rfl ?_
  refine q_iload_n X dX10_exchanging_30 1 rfl ?_
  refine q_iast X m_5 (by unfold vp_in; decide) dX10_exchanging_31 ?_
  have m_6 : (mU (mU (mU M q (aI G 3 stT)) q (aI G 3 (upd stT (2 : Int32).toNatClampNeg 1))) q (aI G 3 (upd (upd stT (2 : Int32).toNatClampNeg 1) (1 : Int32).toNatClampNeg 2))) q = some (aI G 3 (upd (upd stT (2 : Int32).toNatClampNeg 1) (1 : Int32).toNatClampNeg 2)) := mU_s
  refine q_aload_n X dX10_exchanging_32 0 rfl ?_
  exact q_aret X hr (Or.inr ⟨_, rfl⟩) dX10_exchanging_33 (⟨q, _, rfl, fq, by simp only [mU_mU]; rfl, fun i hi => by rcases (show i = 0 ∨ i = 1 ∨ i = 2 by omega) with rfl | rfl | rfl <;> decide⟩)

set_option maxRecDepth 20000 in
theorem c_X10_exch_22 {l : Launch} {G : gV} {M : gMem} : qC l G yX10_exchanging cX10_exchanging 3 (some (.array .int)) 2 1 3 [.int 2, .int 2] M (tlP G M (exT 2 2)) := by
  refine qC_of (by decide +kernel) (Nat.le_of_ble_eq_true rfl) (fun F hF X hr hn => ?_)
  subst hF
  have X : qX G F cX10_exchanging 3 RX10 2 := X
  show qJ G F _ 3 M 1 3 0 [(0, .int 2), (1, .int 2)] []
  refine q_callS X (c_X10_straight) Y_X10_straight tw_737 tw_694 (by decide) rfl rfl (Nat.le_of_ble_eq_true rfl) (rc' := 0) (rs' := 0) (by omega) (by omega) dX10_exchanging_0 (fun v M' hp _ => ?_)
  obtain ⟨q, rfl, fq, eM⟩ := hp
  subst eM
  have hq : (mU M q (aI G 3 stT)) q = some (aI G 3 stT) := mU_s
  show qJ G F _ 3 (mU M q (aI G 3 stT)) 0 0 3 [(0, .int 2), (1, .int 2)] [.ref q]
  refine q_astore_n (lv' := [(2, .ref q), (0, .int 2), (1, .int 2)]) X dX10_exchanging_3 (by decide) rfl ?_
  refine q_iload_n X dX10_exchanging_4 1 rfl ?_
  refine q_if_lt X 32 dX10_exchanging_5 (by decide) (fun c_1 => absurd c_1 (by decide)) (fun c_1 => ?_)
  refine q_iload_n X dX10_exchanging_8 1 rfl ?_
  refine q_aload_n X dX10_exchanging_9 0 rfl ?_
  refine q_alen X 0 hq rfl dX10_exchanging_10 ?_
  refine q_icmp_ge X 32 dX10_exchanging_11 (by decide) (fun c_2 => absurd c_2 (by decide)) (fun c_2 => ?_)
  refine q_iload_n X dX10_exchanging_14 2 rfl ?_
  refine q_if_lt X 32 dX10_exchanging_15 (by decide) (fun c_3 => absurd c_3 (by decide)) (fun c_3 => ?_)
  refine q_iload_n X dX10_exchanging_18 2 rfl ?_
  refine q_aload_n X dX10_exchanging_19 0 rfl ?_
  refine q_alen X 0 hq rfl dX10_exchanging_20 ?_
  refine q_icmp_ge X 32 dX10_exchanging_21 (by decide) (fun c_4 => absurd c_4 (by decide)) (fun c_4 => ?_)
  refine q_aload_n X dX10_exchanging_24 0 rfl ?_
  refine q_iload_n X dX10_exchanging_25 1 rfl ?_
  refine q_iload_n X dX10_exchanging_26 2 rfl ?_
  refine q_iast X hq (by unfold vp_in; decide) dX10_exchanging_27 ?_
  have m_5 : (mU (mU M q (aI G 3 stT)) q (aI G 3 (upd stT (2 : Int32).toNatClampNeg 2))) q = some (aI G 3 (upd stT (2 : Int32).toNatClampNeg 2)) := mU_s
  refine q_aload_n X dX10_exchanging_28 0 rfl ?_
  refine q_iload_n X dX10_exchanging_29 2 rfl ?_
  refine q_iload_n X dX10_exchanging_30 1 rfl ?_
  refine q_iast X m_5 (by unfold vp_in; decide) dX10_exchanging_31 ?_
  have m_6 : (mU (mU (mU M q (aI G 3 stT)) q (aI G 3 (upd stT (2 : Int32).toNatClampNeg 2))) q (aI G 3 (upd (upd stT (2 : Int32).toNatClampNeg 2) (2 : Int32).toNatClampNeg 2))) q = some (aI G 3 (upd (upd stT (2 : Int32).toNatClampNeg 2) (2 : Int32).toNatClampNeg 2)) := mU_s
  refine q_aload_n X dX10_exchanging_32 0 rfl ?_
  exact q_aret X hr (Or.inr ⟨_, rfl⟩) dX10_exchanging_33 (⟨q, _, rfl, fq, by simp only [mU_mU]; rfl, fun i hi => by rcases (show i = 0 ∨ i = 1 ∨ i = 2 by omega) with rfl | rfl | rfl <;> decide⟩)

theorem c_X10_exchanging {l : Launch} {G : gV} {M : gMem} {d e : Nat} (hd : d < 3) (he : e < 3) : qC l G yX10_exchanging cX10_exchanging 3 (some (.array .int)) 2 1 3 [.int (nI d), .int (nI e)] M (tlP G M (exT d e)) := by
  rcases (show d = 0 ∨ d = 1 ∨ d = 2 by omega) with rfl | rfl | rfl <;> rcases (show e = 0 ∨ e = 1 ∨ e = 2 by omega) with rfl | rfl | rfl
  · exact c_X10_exch_00
  · exact c_X10_exch_01
  · exact c_X10_exch_02
  · exact c_X10_exch_10
  · exact c_X10_exch_11
  · exact c_X10_exch_12
  · exact c_X10_exch_20
  · exact c_X10_exch_21
  · exact c_X10_exch_22
