/-! the reference: wider, slice -/
def wd0 (d t x : Int32) : Int32 := if d = 0 then t else x
def wd1 (d t x y : Int32) : Int32 := if d = 0 then x else if d = 1 then t else y
def wd2 (d t y : Int32) : Int32 := if d = 2 then t else y
def wdP (G : gV) (M : gMem) (plA : Nat) (d t x y : Int32) : Option Value → gMem → Prop := fun v M' => v = none ∧ ∃ f : Nat → Int32, M' = mU M plA (aI G 3 f) ∧ f 0 = wd0 d t x ∧ f 1 = wd1 d t x y ∧ f 2 = wd2 d t y

theorem mU_c3 {M : gMem} {a : Nat} {x y z : va_E} : mU (mU (mU M a x) a y) a z = mU M a z := by rw [mU_mU, mU_mU]

set_option maxRecDepth 20000 in
theorem c_wider {l : Launch} {G : gV} {M : gMem} {r plA : Nat} {w0 w1 w2 w3 w5 w6 w7 w8 w9 w10 w11 w12 w13 : Value} {p : Nat → Int32} {d t x y : Int32} (hA : M r = some (oB 13 [w0, w1, w2, w3, .ref plA, w5, w6, w7, w8, w9, w10, w11, w12, w13])) (hP : M plA = some (aI G 3 p)) : qC l G yX13_wider cX13_wider 5 none 1 0 0 [.ref r, .int d, .int t, .int x, .int y] M (wdP G M plA d t x y) := by
  refine qC_of (by decide +kernel) (Nat.le_of_ble_eq_true rfl) (fun F hF X hr hn => ?_)
  subst hF
  have X : qX G F cX13_wider 5 RX13 1 := X
  show qJ G F _ 5 M 0 0 0 [(0, .ref r), (1, .int d), (2, .int t), (3, .int x), (4, .int y)] []
  refine q_aload_n X dX13_wider_0 0 rfl ?_
  refine q_get X hA rfl in_RX13 4 (by decide) tw_1198 rfl rfl dX13_wider_1 ?_
  refine q_iconst (v := 0) X dX13_wider_4 (by decide) ?_
  refine q_iload_n X dX13_wider_5 1 rfl ?_
  refine q_if_ne X 13 dX13_wider_6 (by decide) (fun c6 => ?_) (fun c6 => ?_)
  · refine q_iload_n X dX13_wider_13 3 rfl ?_
    refine q_iastN X 0 hP (rfl) (by decide) (by decide) dX13_wider_14 ?_
    have m_1 : (mU M plA (aI G 3 (upd p 0 x))) r = some (oB 13 [w0, w1, w2, w3, .ref plA, w5, w6, w7, w8, w9, w10, w11, w12, w13]) := (mU_n (g_neoa hA hP)).trans hA
    have m_2 : (mU M plA (aI G 3 (upd p 0 x))) plA = some (aI G 3 (upd p 0 x)) := mU_s
    refine q_aload_n X dX13_wider_15 0 rfl ?_
    refine q_get X m_1 rfl in_RX13 4 (by decide) tw_1198 rfl rfl dX13_wider_16 ?_
    refine q_iconst (v := 1) X dX13_wider_19 (by decide) ?_
    refine q_iload_n X dX13_wider_20 1 rfl ?_
    refine q_if_ne X 28 dX13_wider_21 (by decide) (fun c21 => ?_) (fun c21 => ?_)
    · refine q_iload_n X dX13_wider_28 1 rfl ?_
      refine q_iconst (v := 1) X dX13_wider_29 (by decide) ?_
      refine q_icmp_ne X 37 dX13_wider_30 (by decide) (fun c30 => ?_) (fun c30 => ?_)
      · refine q_iload X dX13_wider_37 4 rfl ?_
        refine q_iastN X 1 m_2 (rfl) (by decide) (by decide) dX13_wider_39 ?_
        have m_3 : (mU (mU M plA (aI G 3 (upd p 0 x))) plA (aI G 3 (upd (upd p 0 x) 1 y))) r = some (oB 13 [w0, w1, w2, w3, .ref plA, w5, w6, w7, w8, w9, w10, w11, w12, w13]) := (mU_n (g_neoa m_1 m_2)).trans m_1
        have m_4 : (mU (mU M plA (aI G 3 (upd p 0 x))) plA (aI G 3 (upd (upd p 0 x) 1 y))) plA = some (aI G 3 (upd (upd p 0 x) 1 y)) := mU_s
        refine q_aload_n X dX13_wider_40 0 rfl ?_
        refine q_get X m_3 rfl in_RX13 4 (by decide) tw_1198 rfl rfl dX13_wider_41 ?_
        refine q_iconst (v := 2) X dX13_wider_44 (by decide) ?_
        refine q_iload_n X dX13_wider_45 1 rfl ?_
        refine q_iconst (v := 2) X dX13_wider_46 (by decide) ?_
        refine q_icmp_ne X 54 dX13_wider_47 (by decide) (fun c47 => ?_) (fun c47 => ?_)
        · refine q_iload X dX13_wider_54 4 rfl ?_
          refine q_iastN X 2 m_4 (rfl) (by decide) (by decide) dX13_wider_56 ?_
          have m_5 : (mU (mU (mU M plA (aI G 3 (upd p 0 x))) plA (aI G 3 (upd (upd p 0 x) 1 y))) plA (aI G 3 (upd (upd (upd p 0 x) 1 y) 2 y))) r = some (oB 13 [w0, w1, w2, w3, .ref plA, w5, w6, w7, w8, w9, w10, w11, w12, w13]) := (mU_n (g_neoa m_3 m_4)).trans m_3
          have m_6 : (mU (mU (mU M plA (aI G 3 (upd p 0 x))) plA (aI G 3 (upd (upd p 0 x) 1 y))) plA (aI G 3 (upd (upd (upd p 0 x) 1 y) 2 y))) plA = some (aI G 3 (upd (upd (upd p 0 x) 1 y) 2 y)) := mU_s
          exact q_vret X hr dX13_wider_57 (⟨rfl, _, mU_c3, by unfold wd0; rw [if_neg c6]; simp [upd], by unfold wd1; rw [if_neg c21, if_neg c30]; simp [upd], by unfold wd2; rw [if_neg c47]; simp [upd]⟩)
        · refine q_iload_n X dX13_wider_50 2 rfl ?_
          refine q_goto X 56 dX13_wider_51 (by decide) ?_
          refine q_iastN X 2 m_4 (rfl) (by decide) (by decide) dX13_wider_56 ?_
          have m_7 : (mU (mU (mU M plA (aI G 3 (upd p 0 x))) plA (aI G 3 (upd (upd p 0 x) 1 y))) plA (aI G 3 (upd (upd (upd p 0 x) 1 y) 2 t))) r = some (oB 13 [w0, w1, w2, w3, .ref plA, w5, w6, w7, w8, w9, w10, w11, w12, w13]) := (mU_n (g_neoa m_3 m_4)).trans m_3
          have m_8 : (mU (mU (mU M plA (aI G 3 (upd p 0 x))) plA (aI G 3 (upd (upd p 0 x) 1 y))) plA (aI G 3 (upd (upd (upd p 0 x) 1 y) 2 t))) plA = some (aI G 3 (upd (upd (upd p 0 x) 1 y) 2 t)) := mU_s
          exact q_vret X hr dX13_wider_57 (⟨rfl, _, mU_c3, by unfold wd0; rw [if_neg c6]; simp [upd], by unfold wd1; rw [if_neg c21, if_neg c30]; simp [upd], by unfold wd2; rw [if_pos c47]; simp [upd]⟩)
      · refine q_iload_n X dX13_wider_33 2 rfl ?_
        refine q_goto X 39 dX13_wider_34 (by decide) ?_
        refine q_iastN X 1 m_2 (rfl) (by decide) (by decide) dX13_wider_39 ?_
        have m_9 : (mU (mU M plA (aI G 3 (upd p 0 x))) plA (aI G 3 (upd (upd p 0 x) 1 t))) r = some (oB 13 [w0, w1, w2, w3, .ref plA, w5, w6, w7, w8, w9, w10, w11, w12, w13]) := (mU_n (g_neoa m_1 m_2)).trans m_1
        have m_10 : (mU (mU M plA (aI G 3 (upd p 0 x))) plA (aI G 3 (upd (upd p 0 x) 1 t))) plA = some (aI G 3 (upd (upd p 0 x) 1 t)) := mU_s
        refine q_aload_n X dX13_wider_40 0 rfl ?_
        refine q_get X m_9 rfl in_RX13 4 (by decide) tw_1198 rfl rfl dX13_wider_41 ?_
        refine q_iconst (v := 2) X dX13_wider_44 (by decide) ?_
        refine q_iload_n X dX13_wider_45 1 rfl ?_
        refine q_iconst (v := 2) X dX13_wider_46 (by decide) ?_
        refine q_icmp_ne X 54 dX13_wider_47 (by decide) (fun c47 => ?_) (fun c47 => ?_)
        · refine q_iload X dX13_wider_54 4 rfl ?_
          refine q_iastN X 2 m_10 (rfl) (by decide) (by decide) dX13_wider_56 ?_
          have m_11 : (mU (mU (mU M plA (aI G 3 (upd p 0 x))) plA (aI G 3 (upd (upd p 0 x) 1 t))) plA (aI G 3 (upd (upd (upd p 0 x) 1 t) 2 y))) r = some (oB 13 [w0, w1, w2, w3, .ref plA, w5, w6, w7, w8, w9, w10, w11, w12, w13]) := (mU_n (g_neoa m_9 m_10)).trans m_9
          have m_12 : (mU (mU (mU M plA (aI G 3 (upd p 0 x))) plA (aI G 3 (upd (upd p 0 x) 1 t))) plA (aI G 3 (upd (upd (upd p 0 x) 1 t) 2 y))) plA = some (aI G 3 (upd (upd (upd p 0 x) 1 t) 2 y)) := mU_s
          exact q_vret X hr dX13_wider_57 (⟨rfl, _, mU_c3, by unfold wd0; rw [if_neg c6]; simp [upd], by unfold wd1; rw [if_neg c21, if_pos c30]; simp [upd], by unfold wd2; rw [if_neg c47]; simp [upd]⟩)
        · refine q_iload_n X dX13_wider_50 2 rfl ?_
          refine q_goto X 56 dX13_wider_51 (by decide) ?_
          refine q_iastN X 2 m_10 (rfl) (by decide) (by decide) dX13_wider_56 ?_
          have m_13 : (mU (mU (mU M plA (aI G 3 (upd p 0 x))) plA (aI G 3 (upd (upd p 0 x) 1 t))) plA (aI G 3 (upd (upd (upd p 0 x) 1 t) 2 t))) r = some (oB 13 [w0, w1, w2, w3, .ref plA, w5, w6, w7, w8, w9, w10, w11, w12, w13]) := (mU_n (g_neoa m_9 m_10)).trans m_9
          have m_14 : (mU (mU (mU M plA (aI G 3 (upd p 0 x))) plA (aI G 3 (upd (upd p 0 x) 1 t))) plA (aI G 3 (upd (upd (upd p 0 x) 1 t) 2 t))) plA = some (aI G 3 (upd (upd (upd p 0 x) 1 t) 2 t)) := mU_s
          exact q_vret X hr dX13_wider_57 (⟨rfl, _, mU_c3, by unfold wd0; rw [if_neg c6]; simp [upd], by unfold wd1; rw [if_neg c21, if_pos c30]; simp [upd], by unfold wd2; rw [if_pos c47]; simp [upd]⟩)
    · refine q_iload_n X dX13_wider_24 3 rfl ?_
      refine q_goto X 39 dX13_wider_25 (by decide) ?_
      refine q_iastN X 1 m_2 (rfl) (by decide) (by decide) dX13_wider_39 ?_
      have m_15 : (mU (mU M plA (aI G 3 (upd p 0 x))) plA (aI G 3 (upd (upd p 0 x) 1 x))) r = some (oB 13 [w0, w1, w2, w3, .ref plA, w5, w6, w7, w8, w9, w10, w11, w12, w13]) := (mU_n (g_neoa m_1 m_2)).trans m_1
      have m_16 : (mU (mU M plA (aI G 3 (upd p 0 x))) plA (aI G 3 (upd (upd p 0 x) 1 x))) plA = some (aI G 3 (upd (upd p 0 x) 1 x)) := mU_s
      refine q_aload_n X dX13_wider_40 0 rfl ?_
      refine q_get X m_15 rfl in_RX13 4 (by decide) tw_1198 rfl rfl dX13_wider_41 ?_
      refine q_iconst (v := 2) X dX13_wider_44 (by decide) ?_
      refine q_iload_n X dX13_wider_45 1 rfl ?_
      refine q_iconst (v := 2) X dX13_wider_46 (by decide) ?_
      refine q_icmp_ne X 54 dX13_wider_47 (by decide) (fun c47 => ?_) (fun c47 => ?_)
      · refine q_iload X dX13_wider_54 4 rfl ?_
        refine q_iastN X 2 m_16 (rfl) (by decide) (by decide) dX13_wider_56 ?_
        have m_17 : (mU (mU (mU M plA (aI G 3 (upd p 0 x))) plA (aI G 3 (upd (upd p 0 x) 1 x))) plA (aI G 3 (upd (upd (upd p 0 x) 1 x) 2 y))) r = some (oB 13 [w0, w1, w2, w3, .ref plA, w5, w6, w7, w8, w9, w10, w11, w12, w13]) := (mU_n (g_neoa m_15 m_16)).trans m_15
        have m_18 : (mU (mU (mU M plA (aI G 3 (upd p 0 x))) plA (aI G 3 (upd (upd p 0 x) 1 x))) plA (aI G 3 (upd (upd (upd p 0 x) 1 x) 2 y))) plA = some (aI G 3 (upd (upd (upd p 0 x) 1 x) 2 y)) := mU_s
        exact q_vret X hr dX13_wider_57 (⟨rfl, _, mU_c3, by unfold wd0; rw [if_neg c6]; simp [upd], by unfold wd1; rw [if_pos c21]; simp [upd], by unfold wd2; rw [if_neg c47]; simp [upd]⟩)
      · refine q_iload_n X dX13_wider_50 2 rfl ?_
        refine q_goto X 56 dX13_wider_51 (by decide) ?_
        refine q_iastN X 2 m_16 (rfl) (by decide) (by decide) dX13_wider_56 ?_
        have m_19 : (mU (mU (mU M plA (aI G 3 (upd p 0 x))) plA (aI G 3 (upd (upd p 0 x) 1 x))) plA (aI G 3 (upd (upd (upd p 0 x) 1 x) 2 t))) r = some (oB 13 [w0, w1, w2, w3, .ref plA, w5, w6, w7, w8, w9, w10, w11, w12, w13]) := (mU_n (g_neoa m_15 m_16)).trans m_15
        have m_20 : (mU (mU (mU M plA (aI G 3 (upd p 0 x))) plA (aI G 3 (upd (upd p 0 x) 1 x))) plA (aI G 3 (upd (upd (upd p 0 x) 1 x) 2 t))) plA = some (aI G 3 (upd (upd (upd p 0 x) 1 x) 2 t)) := mU_s
        exact q_vret X hr dX13_wider_57 (⟨rfl, _, mU_c3, by unfold wd0; rw [if_neg c6]; simp [upd], by unfold wd1; rw [if_pos c21]; simp [upd], by unfold wd2; rw [if_pos c47]; simp [upd]⟩)
  · refine q_iload_n X dX13_wider_9 2 rfl ?_
    refine q_goto X 14 dX13_wider_10 (by decide) ?_
    refine q_iastN X 0 hP (rfl) (by decide) (by decide) dX13_wider_14 ?_
    have m_21 : (mU M plA (aI G 3 (upd p 0 t))) r = some (oB 13 [w0, w1, w2, w3, .ref plA, w5, w6, w7, w8, w9, w10, w11, w12, w13]) := (mU_n (g_neoa hA hP)).trans hA
    have m_22 : (mU M plA (aI G 3 (upd p 0 t))) plA = some (aI G 3 (upd p 0 t)) := mU_s
    refine q_aload_n X dX13_wider_15 0 rfl ?_
    refine q_get X m_21 rfl in_RX13 4 (by decide) tw_1198 rfl rfl dX13_wider_16 ?_
    refine q_iconst (v := 1) X dX13_wider_19 (by decide) ?_
    refine q_iload_n X dX13_wider_20 1 rfl ?_
    refine q_if_ne X 28 dX13_wider_21 (by decide) (fun c21 => ?_) (fun c21 => ?_)
    · refine q_iload_n X dX13_wider_28 1 rfl ?_
      refine q_iconst (v := 1) X dX13_wider_29 (by decide) ?_
      refine q_icmp_ne X 37 dX13_wider_30 (by decide) (fun c30 => ?_) (fun c30 => ?_)
      · refine q_iload X dX13_wider_37 4 rfl ?_
        refine q_iastN X 1 m_22 (rfl) (by decide) (by decide) dX13_wider_39 ?_
        have m_23 : (mU (mU M plA (aI G 3 (upd p 0 t))) plA (aI G 3 (upd (upd p 0 t) 1 y))) r = some (oB 13 [w0, w1, w2, w3, .ref plA, w5, w6, w7, w8, w9, w10, w11, w12, w13]) := (mU_n (g_neoa m_21 m_22)).trans m_21
        have m_24 : (mU (mU M plA (aI G 3 (upd p 0 t))) plA (aI G 3 (upd (upd p 0 t) 1 y))) plA = some (aI G 3 (upd (upd p 0 t) 1 y)) := mU_s
        refine q_aload_n X dX13_wider_40 0 rfl ?_
        refine q_get X m_23 rfl in_RX13 4 (by decide) tw_1198 rfl rfl dX13_wider_41 ?_
        refine q_iconst (v := 2) X dX13_wider_44 (by decide) ?_
        refine q_iload_n X dX13_wider_45 1 rfl ?_
        refine q_iconst (v := 2) X dX13_wider_46 (by decide) ?_
        refine q_icmp_ne X 54 dX13_wider_47 (by decide) (fun c47 => ?_) (fun c47 => ?_)
        · refine q_iload X dX13_wider_54 4 rfl ?_
          refine q_iastN X 2 m_24 (rfl) (by decide) (by decide) dX13_wider_56 ?_
          have m_25 : (mU (mU (mU M plA (aI G 3 (upd p 0 t))) plA (aI G 3 (upd (upd p 0 t) 1 y))) plA (aI G 3 (upd (upd (upd p 0 t) 1 y) 2 y))) r = some (oB 13 [w0, w1, w2, w3, .ref plA, w5, w6, w7, w8, w9, w10, w11, w12, w13]) := (mU_n (g_neoa m_23 m_24)).trans m_23
          have m_26 : (mU (mU (mU M plA (aI G 3 (upd p 0 t))) plA (aI G 3 (upd (upd p 0 t) 1 y))) plA (aI G 3 (upd (upd (upd p 0 t) 1 y) 2 y))) plA = some (aI G 3 (upd (upd (upd p 0 t) 1 y) 2 y)) := mU_s
          exact q_vret X hr dX13_wider_57 (⟨rfl, _, mU_c3, by unfold wd0; rw [if_pos c6]; simp [upd], by unfold wd1; rw [if_neg c21, if_neg c30]; simp [upd], by unfold wd2; rw [if_neg c47]; simp [upd]⟩)
        · refine q_iload_n X dX13_wider_50 2 rfl ?_
          refine q_goto X 56 dX13_wider_51 (by decide) ?_
          refine q_iastN X 2 m_24 (rfl) (by decide) (by decide) dX13_wider_56 ?_
          have m_27 : (mU (mU (mU M plA (aI G 3 (upd p 0 t))) plA (aI G 3 (upd (upd p 0 t) 1 y))) plA (aI G 3 (upd (upd (upd p 0 t) 1 y) 2 t))) r = some (oB 13 [w0, w1, w2, w3, .ref plA, w5, w6, w7, w8, w9, w10, w11, w12, w13]) := (mU_n (g_neoa m_23 m_24)).trans m_23
          have m_28 : (mU (mU (mU M plA (aI G 3 (upd p 0 t))) plA (aI G 3 (upd (upd p 0 t) 1 y))) plA (aI G 3 (upd (upd (upd p 0 t) 1 y) 2 t))) plA = some (aI G 3 (upd (upd (upd p 0 t) 1 y) 2 t)) := mU_s
          exact q_vret X hr dX13_wider_57 (⟨rfl, _, mU_c3, by unfold wd0; rw [if_pos c6]; simp [upd], by unfold wd1; rw [if_neg c21, if_neg c30]; simp [upd], by unfold wd2; rw [if_pos c47]; simp [upd]⟩)
      · refine q_iload_n X dX13_wider_33 2 rfl ?_
        refine q_goto X 39 dX13_wider_34 (by decide) ?_
        refine q_iastN X 1 m_22 (rfl) (by decide) (by decide) dX13_wider_39 ?_
        have m_29 : (mU (mU M plA (aI G 3 (upd p 0 t))) plA (aI G 3 (upd (upd p 0 t) 1 t))) r = some (oB 13 [w0, w1, w2, w3, .ref plA, w5, w6, w7, w8, w9, w10, w11, w12, w13]) := (mU_n (g_neoa m_21 m_22)).trans m_21
        have m_30 : (mU (mU M plA (aI G 3 (upd p 0 t))) plA (aI G 3 (upd (upd p 0 t) 1 t))) plA = some (aI G 3 (upd (upd p 0 t) 1 t)) := mU_s
        refine q_aload_n X dX13_wider_40 0 rfl ?_
        refine q_get X m_29 rfl in_RX13 4 (by decide) tw_1198 rfl rfl dX13_wider_41 ?_
        refine q_iconst (v := 2) X dX13_wider_44 (by decide) ?_
        refine q_iload_n X dX13_wider_45 1 rfl ?_
        refine q_iconst (v := 2) X dX13_wider_46 (by decide) ?_
        refine q_icmp_ne X 54 dX13_wider_47 (by decide) (fun c47 => ?_) (fun c47 => ?_)
        · refine q_iload X dX13_wider_54 4 rfl ?_
          refine q_iastN X 2 m_30 (rfl) (by decide) (by decide) dX13_wider_56 ?_
          have m_31 : (mU (mU (mU M plA (aI G 3 (upd p 0 t))) plA (aI G 3 (upd (upd p 0 t) 1 t))) plA (aI G 3 (upd (upd (upd p 0 t) 1 t) 2 y))) r = some (oB 13 [w0, w1, w2, w3, .ref plA, w5, w6, w7, w8, w9, w10, w11, w12, w13]) := (mU_n (g_neoa m_29 m_30)).trans m_29
          have m_32 : (mU (mU (mU M plA (aI G 3 (upd p 0 t))) plA (aI G 3 (upd (upd p 0 t) 1 t))) plA (aI G 3 (upd (upd (upd p 0 t) 1 t) 2 y))) plA = some (aI G 3 (upd (upd (upd p 0 t) 1 t) 2 y)) := mU_s
          exact q_vret X hr dX13_wider_57 (⟨rfl, _, mU_c3, by unfold wd0; rw [if_pos c6]; simp [upd], by unfold wd1; rw [if_neg c21, if_pos c30]; simp [upd], by unfold wd2; rw [if_neg c47]; simp [upd]⟩)
        · refine q_iload_n X dX13_wider_50 2 rfl ?_
          refine q_goto X 56 dX13_wider_51 (by decide) ?_
          refine q_iastN X 2 m_30 (rfl) (by decide) (by decide) dX13_wider_56 ?_
          have m_33 : (mU (mU (mU M plA (aI G 3 (upd p 0 t))) plA (aI G 3 (upd (upd p 0 t) 1 t))) plA (aI G 3 (upd (upd (upd p 0 t) 1 t) 2 t))) r = some (oB 13 [w0, w1, w2, w3, .ref plA, w5, w6, w7, w8, w9, w10, w11, w12, w13]) := (mU_n (g_neoa m_29 m_30)).trans m_29
          have m_34 : (mU (mU (mU M plA (aI G 3 (upd p 0 t))) plA (aI G 3 (upd (upd p 0 t) 1 t))) plA (aI G 3 (upd (upd (upd p 0 t) 1 t) 2 t))) plA = some (aI G 3 (upd (upd (upd p 0 t) 1 t) 2 t)) := mU_s
          exact q_vret X hr dX13_wider_57 (⟨rfl, _, mU_c3, by unfold wd0; rw [if_pos c6]; simp [upd], by unfold wd1; rw [if_neg c21, if_pos c30]; simp [upd], by unfold wd2; rw [if_pos c47]; simp [upd]⟩)
    · refine q_iload_n X dX13_wider_24 3 rfl ?_
      refine q_goto X 39 dX13_wider_25 (by decide) ?_
      refine q_iastN X 1 m_22 (rfl) (by decide) (by decide) dX13_wider_39 ?_
      have m_35 : (mU (mU M plA (aI G 3 (upd p 0 t))) plA (aI G 3 (upd (upd p 0 t) 1 x))) r = some (oB 13 [w0, w1, w2, w3, .ref plA, w5, w6, w7, w8, w9, w10, w11, w12, w13]) := (mU_n (g_neoa m_21 m_22)).trans m_21
      have m_36 : (mU (mU M plA (aI G 3 (upd p 0 t))) plA (aI G 3 (upd (upd p 0 t) 1 x))) plA = some (aI G 3 (upd (upd p 0 t) 1 x)) := mU_s
      refine q_aload_n X dX13_wider_40 0 rfl ?_
      refine q_get X m_35 rfl in_RX13 4 (by decide) tw_1198 rfl rfl dX13_wider_41 ?_
      refine q_iconst (v := 2) X dX13_wider_44 (by decide) ?_
      refine q_iload_n X dX13_wider_45 1 rfl ?_
      refine q_iconst (v := 2) X dX13_wider_46 (by decide) ?_
      refine q_icmp_ne X 54 dX13_wider_47 (by decide) (fun c47 => ?_) (fun c47 => ?_)
      · refine q_iload X dX13_wider_54 4 rfl ?_
        refine q_iastN X 2 m_36 (rfl) (by decide) (by decide) dX13_wider_56 ?_
        have m_37 : (mU (mU (mU M plA (aI G 3 (upd p 0 t))) plA (aI G 3 (upd (upd p 0 t) 1 x))) plA (aI G 3 (upd (upd (upd p 0 t) 1 x) 2 y))) r = some (oB 13 [w0, w1, w2, w3, .ref plA, w5, w6, w7, w8, w9, w10, w11, w12, w13]) := (mU_n (g_neoa m_35 m_36)).trans m_35
        have m_38 : (mU (mU (mU M plA (aI G 3 (upd p 0 t))) plA (aI G 3 (upd (upd p 0 t) 1 x))) plA (aI G 3 (upd (upd (upd p 0 t) 1 x) 2 y))) plA = some (aI G 3 (upd (upd (upd p 0 t) 1 x) 2 y)) := mU_s
        exact q_vret X hr dX13_wider_57 (⟨rfl, _, mU_c3, by unfold wd0; rw [if_pos c6]; simp [upd], by unfold wd1; rw [if_pos c21]; simp [upd], by unfold wd2; rw [if_neg c47]; simp [upd]⟩)
      · refine q_iload_n X dX13_wider_50 2 rfl ?_
        refine q_goto X 56 dX13_wider_51 (by decide) ?_
        refine q_iastN X 2 m_36 (rfl) (by decide) (by decide) dX13_wider_56 ?_
        have m_39 : (mU (mU (mU M plA (aI G 3 (upd p 0 t))) plA (aI G 3 (upd (upd p 0 t) 1 x))) plA (aI G 3 (upd (upd (upd p 0 t) 1 x) 2 t))) r = some (oB 13 [w0, w1, w2, w3, .ref plA, w5, w6, w7, w8, w9, w10, w11, w12, w13]) := (mU_n (g_neoa m_35 m_36)).trans m_35
        have m_40 : (mU (mU (mU M plA (aI G 3 (upd p 0 t))) plA (aI G 3 (upd (upd p 0 t) 1 x))) plA (aI G 3 (upd (upd (upd p 0 t) 1 x) 2 t))) plA = some (aI G 3 (upd (upd (upd p 0 t) 1 x) 2 t)) := mU_s
        exact q_vret X hr dX13_wider_57 (⟨rfl, _, mU_c3, by unfold wd0; rw [if_pos c6]; simp [upd], by unfold wd1; rw [if_pos c21]; simp [upd], by unfold wd2; rw [if_pos c47]; simp [upd]⟩)

theorem wd_vP {lo hi : Nat → Int32} {m : Nat} (h : okS m lo hi) (hz : sz3 lo hi ≤ 4096) {jd : Nat} (hjd : jd < 3) {t : Int32} {e j k : Nat} (he : e < sN lo hi 0) (hj : j < sN lo hi 1) (hk : k < sN lo hi 2) : vP lo hi (skT jd) t (c3 (sN lo hi 1) (sN lo hi 2) e j k) 0 = wd0 (nI jd) t (lo 0 + nI e) ∧ vP lo hi (skT jd) t (c3 (sN lo hi 1) (sN lo hi 2) e j k) 1 = wd1 (nI jd) t (lo 0 + nI e) (lo 1 + nI j) ∧ vP lo hi (skT jd) t (c3 (sN lo hi 1) (sN lo hi 2) e j k) 2 = wd2 (nI jd) t (lo 1 + nI j) := by
  obtain ⟨p0, p1, p2⟩ := pl3_c3 h hz he hj hk
  rcases (show jd = 0 ∨ jd = 1 ∨ jd = 2 by omega) with rfl | rfl | rfl
  · refine ⟨?_, ?_, ?_⟩
    · unfold wd0; rw [if_pos (by decide)]; unfold vP; rw [if_pos (show skT 0 0 = -1 from by decide)]
    · unfold wd1; rw [if_pos (by decide)]; unfold vP; rw [show skT 0 1 = 0 from by decide, if_neg (by decide)]; exact p0
    · unfold wd2; rw [if_neg (by decide)]; unfold vP; rw [show skT 0 2 = 1 from by decide, if_neg (by decide)]; exact p1
  · refine ⟨?_, ?_, ?_⟩
    · unfold wd0; rw [if_neg (by decide)]; unfold vP; rw [show skT 1 0 = 0 from by decide, if_neg (by decide)]; exact p0
    · unfold wd1; rw [if_neg (by decide), if_pos (by decide)]; unfold vP; rw [if_pos (show skT 1 1 = -1 from by decide)]
    · unfold wd2; rw [if_neg (by decide)]; unfold vP; rw [show skT 1 2 = 1 from by decide, if_neg (by decide)]; exact p1
  · refine ⟨?_, ?_, ?_⟩
    · unfold wd0; rw [if_neg (by decide)]; unfold vP; rw [show skT 2 0 = 0 from by decide, if_neg (by decide)]; exact p0
    · unfold wd1; rw [if_neg (by decide), if_neg (by decide)]; unfold vP; rw [show skT 2 1 = 1 from by decide, if_neg (by decide)]; exact p1
    · unfold wd2; rw [if_pos (by decide)]; unfold vP; rw [if_pos (show skT 2 2 = -1 from by decide)]
/-- wider places: idle where the source is -/
theorem wd_idle {m jd : Nat} (hjd : jd < m) (hm3 : m ≤ 3) {lo hi : Nat → Int32} (h : okS (m - 1) lo hi) (hm : 2 ≤ m) {t x : Int32} {j : Nat} (hj : j < sN lo hi 1) : c1n m (wd1 (nI jd) t x (lo 1 + nI j)) = wd1 (nI jd) t x (lo 1 + nI j) ∧ c2n m (wd2 (nI jd) t (lo 1 + nI j)) = wd2 (nI jd) t (lo 1 + nI j) := by
  refine ⟨c1n_0 (Or.inl (by omega)), c2n_0 ?_⟩
  by_cases c : 2 < m
  · exact Or.inl c
  · right
    have : m = 2 := by omega
    subst this
    have h0 : lo 1 + nI j = 0 := lo_idle h (by decide) (by decide) hj
    unfold wd2
    rw [if_neg (fun z => by have := nI_inj (by omega) (by decide) (show nI jd = nI 2 from z); omega)]
    exact h0
theorem sl_fr {w : vN} (hw : vOk w) {jd : Nat} (hjd : jd < vm w) {lo hi : Nat → Int32} (h : okS (vm w - 1) lo hi) (hm : 2 ≤ vm w) (hz : sz3 lo hi ≤ 4096) {t : Int32} {e j : Nat} (he : e < sN lo hi 0) (hj : j < sN lo hi 1) : frV w (wd0 (nI jd) t (lo 0 + nI e)) (wd1 (nI jd) t (lo 0 + nI e) (lo 1 + nI j)) (wd2 (nI jd) t (lo 1 + nI j)) = vwD w lo hi (skT jd) t (c3 (sN lo hi 1) (sN lo hi 2) e j 0) := by
  have h3 := hw.1.2.1
  have n2 := h.N (d := 2) (by decide)
  obtain ⟨v0, v1, v2⟩ := wd_vP h hz (show jd < 3 by omega) (t := t) he hj (show 0 < sN lo hi 2 by omega)
  obtain ⟨i1, i2⟩ := wd_idle hjd h3 h hm (t := t) (x := lo 0 + nI e) hj
  have q := frV_w hw (x := wd0 (nI jd) t (lo 0 + nI e)) (y := wd1 (nI jd) t (lo 0 + nI e) (lo 1 + nI j)) (z := wd2 (nI jd) t (lo 1 + nI j))
  rw [i1, i2] at q
  rw [q]
  unfold vwD
  rw [v0, v1, v2]
theorem c3_j1 {S1 S2 e j : Nat} (h : S2 = 1) : c3 S1 S2 e (j + 1) 0 = c3 S1 S2 e j 0 + 1 := by subst h; unfold c3; omega
theorem mU_y {M : gMem} {pl va za : Nat} {p0 p1 a z a' z' : va_E} : mU (mU (mU (mU (mU (mU M pl p0) va a) za z) pl p1) va a') za z' = mU (mU (mU M pl p1) va a') za z' := by
  funext q; unfold mU
  by_cases h1 : q = za <;> by_cases h2 : q = va <;> by_cases h3 : q = pl <;> simp [h1, h2, h3]

set_option maxRecDepth 20000 in
theorem r_slice {l : Launch} {G : gV} {M : gMem} {r : Nat} {e : Int32} {σ : sA} (hW : gvW σ) (hR : isRF G M r e σ) {a d tt : Int32} : qC l G yX13_slice cX13_slice 8 (some .int) 6 5 4108 [.ref r, .int a, .int d, .int tt] M (rfP G r cOp (some (.int 0)) (sp_slice σ a d tt)) := by
  refine qC_of (by decide +kernel) (Nat.le_of_ble_eq_true rfl) (fun F hF X hr hn => ?_)
  subst hF
  have X : qX G F cX13_slice 8 RX13 6 := X
  obtain ⟨vA, nA, pA, plA, dg, dla, dha, dva, dza, dvf, dzf, vf, nf, pf, tk, su, le, gr, hB⟩ := hR
  have hl150 := hW.1.2.2.2.2.1
  have hl41 := hW.1.2.2.2.1
  have tail : ∀ (M : gMem) (i : Nat) (w : vN) (hB : rfB G M r 0 σ vA nA pA plA dg dla dha dva dza dvf dzf vf nf pf tk su le gr) (hi : (aN σ)[i]? = some w) (hw : vOk w) (h150 : (aN σ).length < 150) (jd : Nat) (hjd : jd < vm w) (hm2 : 2 ≤ vm w) (specE : sp_slice σ (nI i) (nI jd) tt = gLim σ (dr3 (vlo w) jd 3) (dr3 (vhi w) jd 3) (nI (vdp w)) (oN σ (vm w - 1, dr3 (vlo w) jd 3, dr3 (vhi w) jd 3, vdp w + 1, vwD w (dr3 (vlo w) jd 3) (dr3 (vhi w) jd 3) (skT jd) tt))), qJ G F (qQ G F (rfP G r cOp (some (.int 0)) (sp_slice σ (nI i) (nI jd) tt))) 8 M 5 4108 76 [(0, .ref r), (1, .int (nI i)), (2, .int (nI jd)), (3, .int tt)] [] := by
    intro M i w hB hi hw h150 jd hjd hm2 specE
    obtain ⟨o, hnfo, ola, oha, ova, oza, ovf, ozf, hO, bo1, bo2, bo3, bo4⟩ := hB.2.2.2.2.2.2.2.2.1 i w hi
    have hi150 : i < 150 := Nat.lt_of_lt_of_le (List.getElem?_eq_some_iff.mp hi).1 (by omega)
    obtain ⟨pl0, hpl0⟩ := hB.2.2.2.2.1
    have hd40 := hw.2.2
    have hm3 := hw.1.2.1
    have hj3 : jd < 3 := by omega
    obtain ⟨LO, eLO⟩ : ∃ LO, LO = dr3 (vlo w) jd 3 := ⟨_, rfl⟩
    obtain ⟨HI, eHI⟩ : ∃ HI, HI = dr3 (vhi w) jd 3 := ⟨_, rfl⟩
    have hok := okS_dr hw.1 hjd hm2
    rw [← eLO, ← eHI] at hok
    rw [← eLO, ← eHI] at specE
    refine q_aload_n X dX13_slice_76 0 rfl ?_
    refine q_get X hB.1 rfl in_RX13 2 (by decide) tw_1196 rfl rfl dX13_slice_77 ?_
    refine q_iload_n X dX13_slice_80 1 rfl ?_
    refine q_gald X i hB.2.2.1 (rfl) (hi150) (by decide) hnfo dX13_slice_81 ?_
    refine q_astore (lv' := [(4, .ref o), (0, .ref r), (1, .int (nI i)), (2, .int (nI jd)), (3, .int tt)]) X dX13_slice_82 (by decide) rfl ?_
    refine q_aload X dX13_slice_84 0 rfl ?_
    refine q_iload_n X dX13_slice_86 3 rfl ?_
    refine q_callS X (c_less hw.1 hm2 hjd hO.1 hO.2.1 hO.2.2.1) Y_X13_less tw_1375 tw_1376 (by omega) rfl rfl (Nat.le_of_ble_eq_true rfl) (rc' := 2) (rs' := 4096) (by omega) (by omega) dX13_slice_87 (fun v M' hp _ => ?_)
    obtain ⟨q, la, ha, rfl, fq, fla, fha, llh, llq, lhq, hq1, hla1, hha1, ev1⟩ := hp
    generalize M' = M1 at *
    have m_1 : M1 r = some (oB 13 [.int 0, .ref vA, .ref nA, .ref pA, .ref plA, .ref dg, .int (nI (aV σ).length), .int (nI (aN σ).length), .int (nI (aOf σ)), .int (nI (aBg σ)), .int tk, .long su, .long le, .long gr]) := ev1.keep hB.1 id
    have m_2 : M1 nA = some (aG G 150 nf) := ev1.keep hB.2.2.1 id
    have m_3 : M1 o = some (oB 12 [.int (nI (vm w)), .int (nI (vdp w)), .ref ola, .ref oha, .ref ova, .ref oza]) := ev1.keep hO.1 id
    have m_4 : M1 ola = some (aI G 3 (vlo w)) := ev1.keep hO.2.1 id
    have m_5 : M1 oha = some (aI G 3 (vhi w)) := ev1.keep hO.2.2.1 id
    have m_6 : M1 ova = some (aJ G (wsz w) ovf) := ev1.keep hO.2.2.2.1 id
    have m_7 : M1 oza = some (aZ G (wsz w) ozf) := ev1.keep hO.2.2.2.2.1 id
    have m_8 : M1 plA = some (aI G 3 pl0) := ev1.keep hpl0 id
    have evK1 : mEv (fun x => x = r ∨ x = plA) M M1 := ev1.mono (fun _ _ z => z.elim)
    show qJ G F _ 8 M1 2 4096 90 [(4, .ref o), (0, .ref r), (1, .int (nI i)), (2, .int (nI jd)), (3, .int tt)] [.ref q]
    rw [← eLO] at hla1
    rw [← eHI] at hha1
    refine q_astore (lv' := [(5, .ref q), (4, .ref o), (0, .ref r), (1, .int (nI i)), (2, .int (nI jd)), (3, .int tt)]) X dX13_slice_90 (by decide) rfl ?_
    refine q_aload_n X dX13_slice_92 2 rfl ?_
    refine q_aload X dX13_slice_93 0 rfl ?_
    have hB2 : rfB G M1 r 0 σ vA nA pA plA dg dla dha dva dza dvf dzf vf nf pf tk su le gr := hB.ev2 evK1 m_1 ⟨_, m_8⟩
    by_cases hlim : ¬ sWithin (LO) (HI) = 0 ∧ nI (vdp w) < 40
    · refine q_callV X (c_large_y hB2 hok hd40 hq1 hla1 hha1 hlim) Y_X13_large tw_1359 tw_1361 sel_32 m_1 rfl (by omega) rfl rfl (Nat.le_of_ble_eq_true rfl) (rc' := 2) (rs' := 4096) (by omega) (by omega) dX13_slice_95 (fun v M' hp _ => ?_)
      obtain ⟨rfl, eM⟩ := hp
      have m_9 : M' r = some (oB 13 [.int 0, .ref vA, .ref nA, .ref pA, .ref plA, .ref dg, .int (nI (aV σ).length), .int (nI (aN σ).length), .int (nI (aOf σ)), .int (nI (aBg σ)), .int tk, .long su, .long le, .long gr]) := by rw [eM]; exact mU_s
      have m_10 : M' nA = some (aG G 150 nf) := by rw [eM]; exact (mU_n (Ne.symm (g_neoa m_1 m_2))).trans m_2
      have m_11 : M' o = some (oB 12 [.int (nI (vm w)), .int (nI (vdp w)), .ref ola, .ref oha, .ref ova, .ref oza]) := by rw [eM]; exact (mU_n (g_neoo m_3 m_1 (by decide))).trans m_3
      have m_12 : M' ola = some (aI G 3 (vlo w)) := by rw [eM]; exact (mU_n (Ne.symm (g_neoa m_1 m_4))).trans m_4
      have m_13 : M' oha = some (aI G 3 (vhi w)) := by rw [eM]; exact (mU_n (Ne.symm (g_neoa m_1 m_5))).trans m_5
      have m_14 : M' ova = some (aJ G (wsz w) ovf) := by rw [eM]; exact (mU_n (Ne.symm (g_neoa m_1 m_6))).trans m_6
      have m_15 : M' oza = some (aZ G (wsz w) ozf) := by rw [eM]; exact (mU_n (Ne.symm (g_neoa m_1 m_7))).trans m_7
      have m_16 : M' plA = some (aI G 3 pl0) := by rw [eM]; exact (mU_n (Ne.symm (g_neoa m_1 m_8))).trans m_8
      have m_17 : M' q = some (oB 12 [.int (nI (vm w - 1)), .int (nI (vdp w + 1)), .ref la, .ref ha, .null, .null]) := by rw [eM]; exact (mU_n (Ne.symm (g_nef hB.1 fq))).trans hq1
      have m_18 : M' la = some (aI G 3 LO) := by rw [eM]; exact (mU_n (Ne.symm (g_nef hB.1 fla))).trans hla1
      have m_19 : M' ha = some (aI G 3 HI) := by rw [eM]; exact (mU_n (Ne.symm (g_nef hB.1 fha))).trans hha1
      have evK3 : mEv (fun x => x = r ∨ x = plA) M M' := by rw [eM]; exact evK1.trans (mEv_upd (K := (fun x => x = r ∨ x = plA)) (Or.inl rfl))
      have hB3 : rfB G M' r 0 σ vA nA pA plA dg dla dha dva dza dvf dzf vf nf pf tk su le gr := by rw [eM]; exact hB2.ro
      clear eM
      generalize M' = M3 at *
      show qJ G F _ 8 M3 2 4096 98 [(5, .ref q), (4, .ref o), (0, .ref r), (1, .int (nI i)), (2, .int (nI jd)), (3, .int tt)] [.int 0]
      refine q_if_eq X 103 dX13_slice_98 (by decide) (fun c_20 => ?_) (fun c_20 => absurd (by decide) c_20)
      have hw2 := (within_ok hok hlim.1).2
      refine q_aload X dX13_slice_103 0 rfl ?_
      refine q_callV X (c_X12_make (n := sz3 LO HI) m_17 m_18 m_19 hok.size (by omega)) Y_X12_make tw_1179 tw_1180 tw_1181 m_17 rfl (by omega) rfl rfl (Nat.le_of_ble_eq_true rfl) (rc' := 0) (rs' := 0) (by omega) (by omega) dX13_slice_105 (fun v M' hp _ => ?_)
      obtain ⟨rfl, va, za, fva3, fza3, lvz, hq4, hva4, hza4, ev4⟩ := hp
      generalize M' = M4 at *
      have fva : M va = none := evK3.none fva3
      have fza : M za = none := evK3.none fza3
      have m_21 : M4 r = some (oB 13 [.int 0, .ref vA, .ref nA, .ref pA, .ref plA, .ref dg, .int (nI (aV σ).length), .int (nI (aN σ).length), .int (nI (aOf σ)), .int (nI (aBg σ)), .int tk, .long su, .long le, .long gr]) := ev4.keep m_9 (g_nef hB.1 fq)
      have m_22 : M4 nA = some (aG G 150 nf) := ev4.keep m_10 (g_nef hB.2.2.1 fq)
      have m_23 : M4 o = some (oB 12 [.int (nI (vm w)), .int (nI (vdp w)), .ref ola, .ref oha, .ref ova, .ref oza]) := ev4.keep m_11 (g_nef hO.1 fq)
      have m_24 : M4 ola = some (aI G 3 (vlo w)) := ev4.keep m_12 (g_nef hO.2.1 fq)
      have m_25 : M4 oha = some (aI G 3 (vhi w)) := ev4.keep m_13 (g_nef hO.2.2.1 fq)
      have m_26 : M4 ova = some (aJ G (wsz w) ovf) := ev4.keep m_14 (g_nef hO.2.2.2.1 fq)
      have m_27 : M4 oza = some (aZ G (wsz w) ozf) := ev4.keep m_15 (g_nef hO.2.2.2.2.1 fq)
      have m_28 : M4 plA = some (aI G 3 pl0) := ev4.keep m_16 (g_nef hpl0 fq)
      have m_29 : M4 la = some (aI G 3 LO) := ev4.keep m_18 (llq)
      have m_30 : M4 ha = some (aI G 3 HI) := ev4.keep m_19 (lhq)
      have evK4 : mEv (fun x => x = r ∨ x = plA) M M4 := fun x hx => by
        have wq : x ≠ q := fun z => hx (z ▸ fq)
        have e1 := evK3 x hx
        have e2 := ev4 x e1.1
        exact ⟨e2.1, fun k => (e2.2 wq).trans (e1.2 k)⟩
      have hB4 : rfB G M4 r 0 σ vA nA pA plA dg dla dha dva dza dvf dzf vf nf pf tk su le gr := hB.ev2 evK4 m_21 ⟨_, m_28⟩
      show qJ G F _ 8 M4 0 0 108 [(5, .ref q), (4, .ref o), (0, .ref r), (1, .int (nI i)), (2, .int (nI jd)), (3, .int tt)] []
      have hzz : sz3 LO HI ≤ 4096 := by omega
      have hS2 : sN LO HI 2 = 1 := hok.one (by decide) (by omega)
      have hl2 : LO 2 = 0 := (hok.2.2.2 2 (by omega) (by decide)).1
      have nr : ∀ {x : Nat} {e : va_E}, M4 x = some e → (∀ fs, e ≠ oB 13 fs) → x ≠ r := fun h h1 z => by rw [z, m_21] at h; cases h; exact h1 _ rfl
      have kv : ∀ {x : Nat} {e : va_E}, M4 x = some e → x ≠ va → x ≠ za → x ≠ plA → ∀ (p9 : Nat → Int32) (c : Nat), (mU (mU (mU M4 plA (aI G 3 p9)) va (aJ G (sz3 LO HI) (vF (vwD w LO HI (skT jd) tt) (c)))) za (aZ G (sz3 LO HI) (zF (vwD w LO HI (skT jd) tt) (c)))) x = some e := fun h h1 h2 h3 p9 c => (mU_n h2).trans ((mU_n h1).trans ((mU_n h3).trans h))
      have kq : ∀ (p9 : Nat → Int32) (c : Nat), (mU (mU (mU M4 plA (aI G 3 p9)) va (aJ G (sz3 LO HI) (vF (vwD w LO HI (skT jd) tt) (c)))) za (aZ G (sz3 LO HI) (zF (vwD w LO HI (skT jd) tt) (c)))) q = some (oB 12 [.int (nI (vm w - 1)), .int (nI (vdp w + 1)), .ref la, .ref ha, .ref va, .ref za]) := kv hq4 (g_nef m_17 fva3) (g_nef m_17 fza3) (g_neoa hq4 m_28)
      have kla : ∀ (p9 : Nat → Int32) (c : Nat), (mU (mU (mU M4 plA (aI G 3 p9)) va (aJ G (sz3 LO HI) (vF (vwD w LO HI (skT jd) tt) (c)))) za (aZ G (sz3 LO HI) (zF (vwD w LO HI (skT jd) tt) (c)))) la = some (aI G 3 LO) := kv m_29 (g_nef m_18 fva3) (g_nef m_18 fza3) (fun z => by rw [z, hpl0] at fla; cases fla)
      have kha : ∀ (p9 : Nat → Int32) (c : Nat), (mU (mU (mU M4 plA (aI G 3 p9)) va (aJ G (sz3 LO HI) (vF (vwD w LO HI (skT jd) tt) (c)))) za (aZ G (sz3 LO HI) (zF (vwD w LO HI (skT jd) tt) (c)))) ha = some (aI G 3 HI) := kv m_30 (g_nef m_19 fva3) (g_nef m_19 fza3) (fun z => by rw [z, hpl0] at fha; cases fha)
      have kr : ∀ (p9 : Nat → Int32) (c : Nat), (mU (mU (mU M4 plA (aI G 3 p9)) va (aJ G (sz3 LO HI) (vF (vwD w LO HI (skT jd) tt) (c)))) za (aZ G (sz3 LO HI) (zF (vwD w LO HI (skT jd) tt) (c)))) r = some (oB 13 [.int 0, .ref vA, .ref nA, .ref pA, .ref plA, .ref dg, .int (nI (aV σ).length), .int (nI (aN σ).length), .int (nI (aOf σ)), .int (nI (aBg σ)), .int tk, .long su, .long le, .long gr]) := kv m_21 (g_nef m_9 fva3) (g_nef m_9 fza3) (g_neoa m_21 m_28)
      have ko : ∀ (p9 : Nat → Int32) (c : Nat), (mU (mU (mU M4 plA (aI G 3 p9)) va (aJ G (sz3 LO HI) (vF (vwD w LO HI (skT jd) tt) (c)))) za (aZ G (sz3 LO HI) (zF (vwD w LO HI (skT jd) tt) (c)))) o = some (oB 12 [.int (nI (vm w)), .int (nI (vdp w)), .ref ola, .ref oha, .ref ova, .ref oza]) := kv m_23 (g_nef m_11 fva3) (g_nef m_11 fza3) (g_neoa m_23 m_28)
      have kola : ∀ (p9 : Nat → Int32) (c : Nat), (mU (mU (mU M4 plA (aI G 3 p9)) va (aJ G (sz3 LO HI) (vF (vwD w LO HI (skT jd) tt) (c)))) za (aZ G (sz3 LO HI) (zF (vwD w LO HI (skT jd) tt) (c)))) ola = some (aI G 3 (vlo w)) := kv m_24 (g_nef m_12 fva3) (g_nef m_12 fza3) (fun z => bo1 (Or.inl z))
      have koha : ∀ (p9 : Nat → Int32) (c : Nat), (mU (mU (mU M4 plA (aI G 3 p9)) va (aJ G (sz3 LO HI) (vF (vwD w LO HI (skT jd) tt) (c)))) za (aZ G (sz3 LO HI) (zF (vwD w LO HI (skT jd) tt) (c)))) oha = some (aI G 3 (vhi w)) := kv m_25 (g_nef m_13 fva3) (g_nef m_13 fza3) (fun z => bo2 (Or.inl z))
      have kova : ∀ (p9 : Nat → Int32) (c : Nat), (mU (mU (mU M4 plA (aI G 3 p9)) va (aJ G (sz3 LO HI) (vF (vwD w LO HI (skT jd) tt) (c)))) za (aZ G (sz3 LO HI) (zF (vwD w LO HI (skT jd) tt) (c)))) ova = some (aJ G (wsz w) ovf) := kv m_26 (g_nef m_14 fva3) (g_nef m_14 fza3) (fun z => bo3 (Or.inl z))
      have koza : ∀ (p9 : Nat → Int32) (c : Nat), (mU (mU (mU M4 plA (aI G 3 p9)) va (aJ G (sz3 LO HI) (vF (vwD w LO HI (skT jd) tt) (c)))) za (aZ G (sz3 LO HI) (zF (vwD w LO HI (skT jd) tt) (c)))) oza = some (aZ G (wsz w) ozf) := kv m_27 (g_nef m_15 fva3) (g_nef m_15 fza3) (fun z => bo4 (Or.inl z))
      have plva : plA ≠ va := fun z => by rw [← z, hpl0] at fva; cases fva
      have plza : plA ≠ za := fun z => by rw [← z, hpl0] at fza; cases fza
      have rva : r ≠ va := fun z => by rw [← z, hB.1] at fva; cases fva
      have rza : r ≠ za := fun z => by rw [← z, hB.1] at fza; cases fza
      have rpl : r ≠ plA := fun z => by have h9 := hB.1; rw [z, hpl0] at h9; cases h9
      have kplA : ∀ (p9 : Nat → Int32) (c : Nat), (mU (mU (mU M4 plA (aI G 3 p9)) va (aJ G (sz3 LO HI) (vF (vwD w LO HI (skT jd) tt) (c)))) za (aZ G (sz3 LO HI) (zF (vwD w LO HI (skT jd) tt) (c)))) plA = some (aI G 3 p9) := fun p9 c => (mU_n plza).trans ((mU_n plva).trans mU_s)
      have kva : ∀ (p9 : Nat → Int32) (c : Nat), (mU (mU (mU M4 plA (aI G 3 p9)) va (aJ G (sz3 LO HI) (vF (vwD w LO HI (skT jd) tt) (c)))) za (aZ G (sz3 LO HI) (zF (vwD w LO HI (skT jd) tt) (c)))) va = some (aJ G (sz3 LO HI) (vF (vwD w LO HI (skT jd) tt) (c))) := fun p9 c => (mU_n lvz).trans mU_s
      have kza : ∀ (p9 : Nat → Int32) (c : Nat), (mU (mU (mU M4 plA (aI G 3 p9)) va (aJ G (sz3 LO HI) (vF (vwD w LO HI (skT jd) tt) (c)))) za (aZ G (sz3 LO HI) (zF (vwD w LO HI (skT jd) tt) (c)))) za = some (aZ G (sz3 LO HI) (zF (vwD w LO HI (skT jd) tt) c)) := fun p9 c => mU_s
      have koX : ∀ (p9 : Nat → Int32) (c : Nat), isGrX G (mU (mU (mU M4 plA (aI G 3 p9)) va (aJ G (sz3 LO HI) (vF (vwD w LO HI (skT jd) tt) (c)))) za (aZ G (sz3 LO HI) (zF (vwD w LO HI (skT jd) tt) (c)))) o ola oha ova oza ovf ozf w := fun p9 c => ⟨ko p9 c, kola p9 c, koha p9 c, kova p9 c, koza p9 c, hO.2.2.2.2.2⟩
      have l0 := hok.lo (d := 0) (by decide)
      have N0 := hok.N (d := 0) (by decide)
      have y0 := hok.hi (d := 0) (by decide)
      have l1 := hok.lo (d := 1) (by decide)
      have N1 := hok.N (d := 1) (by decide)
      have y1 := hok.hi (d := 1) (by decide)
      have l2 := hok.lo (d := 2) (by decide)
      have N2 := hok.N (d := 2) (by decide)
      have y2 := hok.hi (d := 2) (by decide)
      have hfin : ∀ M2 : gMem, (∃ (p9 : Nat → Int32), M2 = mU (mU (mU M4 plA (aI G 3 p9)) va (aJ G (sz3 LO HI) (vF (vwD w LO HI (skT jd) tt) (c3 (sN LO HI 1) (sN LO HI 2) (sN LO HI 0) 0 0)))) za (aZ G (sz3 LO HI) (zF (vwD w LO HI (skT jd) tt) (c3 (sN LO HI 1) (sN LO HI 2) (sN LO HI 0) 0 0)))) → qJ G F (qQ G F (rfP G r cOp (some (.int 0)) (sp_slice σ (nI i) (nI jd) tt))) 8 M2 0 0 207 [(0, .ref r), (1, .int (nI i)), (2, .int (nI jd)), (3, .int tt), (4, .ref o), (5, .ref q)] [] := by
        intro M2 hI
        obtain ⟨p9, rfl⟩ := hI
        rw [c3_A, show sN LO HI 0 * sN LO HI 1 * sN LO HI 2 = sz3 LO HI from rfl]
        have evz : mEv (fun x => x = r ∨ x = plA) M (mU (mU (mU M4 plA (aI G 3 p9)) va (aJ G (sz3 LO HI) (vF (vwD w LO HI (skT jd) tt) (sz3 LO HI)))) za (aZ G (sz3 LO HI) (zF (vwD w LO HI (skT jd) tt) (sz3 LO HI)))) := fun x hx => by
          have w1 : x ≠ va := fun z => hx (z ▸ fva)
          have w2 : x ≠ za := fun z => hx (z ▸ fza)
          have e1 := evK4 x hx
          by_cases w3 : x = plA
          · rw [w3]; exact ⟨g_so (kplA p9 (sz3 LO HI)), fun k => absurd (Or.inr rfl) k⟩
          have e : (mU (mU (mU M4 plA (aI G 3 p9)) va (aJ G (sz3 LO HI) (vF (vwD w LO HI (skT jd) tt) (sz3 LO HI)))) za (aZ G (sz3 LO HI) (zF (vwD w LO HI (skT jd) tt) (sz3 LO HI)))) x = M4 x := (mU_n w2).trans ((mU_n w1).trans (mU_n w3))
          exact ⟨by rw [e]; exact e1.1, fun k => e.trans (e1.2 k)⟩
        have hBz : rfB G (mU (mU (mU M4 plA (aI G 3 p9)) va (aJ G (sz3 LO HI) (vF (vwD w LO HI (skT jd) tt) (sz3 LO HI)))) za (aZ G (sz3 LO HI) (zF (vwD w LO HI (skT jd) tt) (sz3 LO HI)))) r 0 σ vA nA pA plA dg dla dha dva dza dvf dzf vf nf pf tk su le gr := hB.ev2 evz (kr p9 (sz3 LO HI)) ⟨_, kplA p9 (sz3 LO HI)⟩
        have nb : ∀ {x : Nat}, M x = none → ¬ rBad plA pA dva dza x := fun h z => by
          rcases z with z | z | z | z
          · rw [z, hpl0] at h; cases h
          · rw [z, hB.2.2.2.1] at h; cases h
          · rw [z, hB.2.2.2.2.2.1.2.2.2.1] at h; cases h
          · rw [z, hB.2.2.2.2.2.1.2.2.2.2.1] at h; cases h
        have hg : isGrd G (mU (mU (mU M4 plA (aI G 3 p9)) va (aJ G (sz3 LO HI) (vF (vwD w LO HI (skT jd) tt) (sz3 LO HI)))) za (aZ G (sz3 LO HI) (zF (vwD w LO HI (skT jd) tt) (sz3 LO HI)))) (rBad plA pA dva dza) q (vm w - 1, LO, HI, vdp w + 1, (vwD w LO HI (skT jd) tt)) := grd_mk (kq p9 (sz3 LO HI)) (kla p9 (sz3 LO HI)) (kha p9 (sz3 LO HI)) (kva p9 (sz3 LO HI)) (kza p9 (sz3 LO HI)) (gCt_F (vwD w LO HI (skT jd) tt) (sz3 LO HI)) (nb fla) (nb fha) (nb fva) (nb fza)
        refine q_aload_n X dX13_slice_207 0 rfl ?_
        refine q_aload X dX13_slice_208 5 rfl ?_
        refine q_callV X (c_made hBz hg h150) Y_X13_made tw_1339 tw_1341 sel_28 (kr p9 (sz3 LO HI)) rfl (by omega) rfl rfl (Nat.le_of_ble_eq_true rfl) (rc' := 0) (rs' := 0) (Nat.le_refl _) (Nat.le_refl _) dX13_slice_210 (fun v M' hp _ => ?_)
        obtain ⟨rfl, hz9⟩ := hp
        generalize M' = M9 at *
        show qJ G F _ 8 M9 0 0 213 [(0, .ref r), (1, .int (nI i)), (2, .int (nI jd)), (3, .int tt), (4, .ref o), (5, .ref q)] [.int (nI (aN σ).length)]
        exact q_iret X hr dX13_slice_213 (rfP_K (by rw [specE]; exact gLim_y hlim) hz9)
      have L1 : ∀ (e : Nat) (he : e < sN LO HI 0) (kk : ∀ M2 : gMem, (∃ (p9 : Nat → Int32), M2 = mU (mU (mU M4 plA (aI G 3 p9)) va (aJ G (sz3 LO HI) (vF (vwD w LO HI (skT jd) tt) (c3 (sN LO HI 1) (sN LO HI 2) e (sN LO HI 1) 0)))) za (aZ G (sz3 LO HI) (zF (vwD w LO HI (skT jd) tt) (c3 (sN LO HI 1) (sN LO HI 2) e (sN LO HI 1) 0)))) → qJ G F (qQ G F (rfP G r cOp (some (.int 0)) (sp_slice σ (nI i) (nI jd) tt))) 8 M2 0 0 201 [(0, .ref r), (1, .int (nI i)), (2, .int (nI jd)), (3, .int tt), (4, .ref o), (5, .ref q), (6, .int (LO 0 + nI (e)))] []) (t j : Nat) (M1 : gMem), j + t = sN LO HI 1 → (∃ (p9 : Nat → Int32), M1 = mU (mU (mU M4 plA (aI G 3 p9)) va (aJ G (sz3 LO HI) (vF (vwD w LO HI (skT jd) tt) (c3 (sN LO HI 1) (sN LO HI 2) e j 0)))) za (aZ G (sz3 LO HI) (zF (vwD w LO HI (skT jd) tt) (c3 (sN LO HI 1) (sN LO HI 2) e j 0)))) → qJ G F (qQ G F (rfP G r cOp (some (.int 0)) (sp_slice σ (nI i) (nI jd) tt))) 8 M1 0 0 138 [(0, .ref r), (1, .int (nI i)), (2, .int (nI jd)), (3, .int tt), (4, .ref o), (5, .ref q), (6, .int (LO 0 + nI (e))), (7, .int (LO 1 + nI (j)))] [] := by
        intro e he kk t
        induction t with
        | zero =>
          intro j M1 hj0 hI
          obtain rfl : j = sN LO HI 1 := by omega
          have hI0 := hI
          obtain ⟨p9, rfl⟩ := hI
          refine q_iload X dX13_slice_138 7 rfl ?_
          refine q_aload X dX13_slice_140 5 rfl ?_
          refine q_get X (kq p9 (c3 (sN LO HI 1) (sN LO HI 2) e (sN LO HI 1) 0)) rfl in_RX12 3 (by decide) tw_1161 rfl rfl dX13_slice_142 ?_
          refine q_iconst (v := 1) X dX13_slice_145 (by decide) ?_
          refine q_ialdN X 1 (kha p9 (c3 (sN LO HI 1) (sN LO HI 2) e (sN LO HI 1) 0)) (rfl) (by decide) (by decide) dX13_slice_146 ?_
          refine q_icmp_gt X 201 dX13_slice_147 (by decide) (fun c_31 => ?_) (fun c_31 => absurd (by rw [y1]; exact (lo_lt l1.1 l1.2 (by omega) (by omega)).mpr (by omega)) c_31)
          refine q_sub [0, 1, 2, 3, 4, 5, 6] rfl ?_
          exact kk _ hI0
        | succ t ih =>
          intro j M1 hj0 hI
          have hj : j < sN LO HI 1 := by omega
          have hI0 := hI
          obtain ⟨p9, rfl⟩ := hI
          have hc9 : c3 (sN LO HI 1) (sN LO HI 2) e j 0 < sz3 LO HI := c3_lt he hj (show 0 < sN LO HI 2 by omega)
          have fr9 := sl_fr hw hjd hok hm2 hzz (t := tt) he hj
          refine q_iload X dX13_slice_138 7 rfl ?_
          refine q_aload X dX13_slice_140 5 rfl ?_
          refine q_get X (kq p9 (c3 (sN LO HI 1) (sN LO HI 2) e j 0)) rfl in_RX12 3 (by decide) tw_1161 rfl rfl dX13_slice_142 ?_
          refine q_iconst (v := 1) X dX13_slice_145 (by decide) ?_
          refine q_ialdN X 1 (kha p9 (c3 (sN LO HI 1) (sN LO HI 2) e j 0)) (rfl) (by decide) (by decide) dX13_slice_146 ?_
          refine q_icmp_gt X 201 dX13_slice_147 (by decide) (fun c_32 => absurd ((lo_lt l1.1 l1.2 (by omega) (by omega)).mp (y1 ▸ c_32)) (by omega)) (fun c_32 => ?_)
          refine q_aload_n X dX13_slice_150 0 rfl ?_
          refine q_iload_n X dX13_slice_151 2 rfl ?_
          refine q_iload_n X dX13_slice_152 3 rfl ?_
          refine q_iload X dX13_slice_153 6 rfl ?_
          refine q_iload X dX13_slice_155 7 rfl ?_
          refine q_callV X (c_wider (t := tt) (kr p9 (c3 (sN LO HI 1) (sN LO HI 2) e j 0)) (kplA p9 (c3 (sN LO HI 1) (sN LO HI 2) e j 0))) Y_X13_wider tw_1378 tw_1380 sel_33 (kr p9 (c3 (sN LO HI 1) (sN LO HI 2) e j 0)) rfl (by omega) rfl rfl (Nat.le_of_ble_eq_true rfl) (rc' := 0) (rs' := 0) (Nat.le_refl _) (Nat.le_refl _) dX13_slice_157 (fun v M' hp _ => ?_)
          obtain ⟨rfl, pf9, eM, w9a, w9b, w9c⟩ := hp
          rw [eM]
          clear eM
          have m_33 : (mU (mU (mU (mU M4 plA (aI G 3 p9)) va (aJ G (sz3 LO HI) (vF (vwD w LO HI (skT jd) tt) (c3 (sN LO HI 1) (sN LO HI 2) e j 0)))) za (aZ G (sz3 LO HI) (zF (vwD w LO HI (skT jd) tt) (c3 (sN LO HI 1) (sN LO HI 2) e j 0)))) plA (aI G 3 pf9)) r = some (oB 13 [.int 0, .ref vA, .ref nA, .ref pA, .ref plA, .ref dg, .int (nI (aV σ).length), .int (nI (aN σ).length), .int (nI (aOf σ)), .int (nI (aBg σ)), .int tk, .long su, .long le, .long gr]) := (mU_n (g_neoa (kr p9 (c3 (sN LO HI 1) (sN LO HI 2) e j 0)) (kplA p9 (c3 (sN LO HI 1) (sN LO HI 2) e j 0)))).trans (kr p9 (c3 (sN LO HI 1) (sN LO HI 2) e j 0))
          have m_34 : (mU (mU (mU (mU M4 plA (aI G 3 p9)) va (aJ G (sz3 LO HI) (vF (vwD w LO HI (skT jd) tt) (c3 (sN LO HI 1) (sN LO HI 2) e j 0)))) za (aZ G (sz3 LO HI) (zF (vwD w LO HI (skT jd) tt) (c3 (sN LO HI 1) (sN LO HI 2) e j 0)))) plA (aI G 3 pf9)) plA = some (aI G 3 pf9) := mU_s
          have m_35 : (mU (mU (mU (mU M4 plA (aI G 3 p9)) va (aJ G (sz3 LO HI) (vF (vwD w LO HI (skT jd) tt) (c3 (sN LO HI 1) (sN LO HI 2) e j 0)))) za (aZ G (sz3 LO HI) (zF (vwD w LO HI (skT jd) tt) (c3 (sN LO HI 1) (sN LO HI 2) e j 0)))) plA (aI G 3 pf9)) q = some (oB 12 [.int (nI (vm w - 1)), .int (nI (vdp w + 1)), .ref la, .ref ha, .ref va, .ref za]) := (mU_n (g_neoa (kq p9 (c3 (sN LO HI 1) (sN LO HI 2) e j 0)) (kplA p9 (c3 (sN LO HI 1) (sN LO HI 2) e j 0)))).trans (kq p9 (c3 (sN LO HI 1) (sN LO HI 2) e j 0))
          have m_36 : (mU (mU (mU (mU M4 plA (aI G 3 p9)) va (aJ G (sz3 LO HI) (vF (vwD w LO HI (skT jd) tt) (c3 (sN LO HI 1) (sN LO HI 2) e j 0)))) za (aZ G (sz3 LO HI) (zF (vwD w LO HI (skT jd) tt) (c3 (sN LO HI 1) (sN LO HI 2) e j 0)))) plA (aI G 3 pf9)) la = some (aI G 3 LO) := (mU_n ((fun z => by rw [z, hpl0] at fla; cases fla))).trans (kla p9 (c3 (sN LO HI 1) (sN LO HI 2) e j 0))
          have m_37 : (mU (mU (mU (mU M4 plA (aI G 3 p9)) va (aJ G (sz3 LO HI) (vF (vwD w LO HI (skT jd) tt) (c3 (sN LO HI 1) (sN LO HI 2) e j 0)))) za (aZ G (sz3 LO HI) (zF (vwD w LO HI (skT jd) tt) (c3 (sN LO HI 1) (sN LO HI 2) e j 0)))) plA (aI G 3 pf9)) ha = some (aI G 3 HI) := (mU_n ((fun z => by rw [z, hpl0] at fha; cases fha))).trans (kha p9 (c3 (sN LO HI 1) (sN LO HI 2) e j 0))
          have m_38 : (mU (mU (mU (mU M4 plA (aI G 3 p9)) va (aJ G (sz3 LO HI) (vF (vwD w LO HI (skT jd) tt) (c3 (sN LO HI 1) (sN LO HI 2) e j 0)))) za (aZ G (sz3 LO HI) (zF (vwD w LO HI (skT jd) tt) (c3 (sN LO HI 1) (sN LO HI 2) e j 0)))) plA (aI G 3 pf9)) va = some (aJ G (sz3 LO HI) (vF (vwD w LO HI (skT jd) tt) (c3 (sN LO HI 1) (sN LO HI 2) e j 0))) := (mU_n (Ne.symm plva)).trans (kva p9 (c3 (sN LO HI 1) (sN LO HI 2) e j 0))
          have m_39 : (mU (mU (mU (mU M4 plA (aI G 3 p9)) va (aJ G (sz3 LO HI) (vF (vwD w LO HI (skT jd) tt) (c3 (sN LO HI 1) (sN LO HI 2) e j 0)))) za (aZ G (sz3 LO HI) (zF (vwD w LO HI (skT jd) tt) (c3 (sN LO HI 1) (sN LO HI 2) e j 0)))) plA (aI G 3 pf9)) za = some (aZ G (sz3 LO HI) (zF (vwD w LO HI (skT jd) tt) (c3 (sN LO HI 1) (sN LO HI 2) e j 0))) := (mU_n (Ne.symm plza)).trans (kza p9 (c3 (sN LO HI 1) (sN LO HI 2) e j 0))
          have m_40 : (mU (mU (mU (mU M4 plA (aI G 3 p9)) va (aJ G (sz3 LO HI) (vF (vwD w LO HI (skT jd) tt) (c3 (sN LO HI 1) (sN LO HI 2) e j 0)))) za (aZ G (sz3 LO HI) (zF (vwD w LO HI (skT jd) tt) (c3 (sN LO HI 1) (sN LO HI 2) e j 0)))) plA (aI G 3 pf9)) o = some (oB 12 [.int (nI (vm w)), .int (nI (vdp w)), .ref ola, .ref oha, .ref ova, .ref oza]) := (mU_n (g_neoa (ko p9 (c3 (sN LO HI 1) (sN LO HI 2) e j 0)) (kplA p9 (c3 (sN LO HI 1) (sN LO HI 2) e j 0)))).trans (ko p9 (c3 (sN LO HI 1) (sN LO HI 2) e j 0))
          have m_41 : (mU (mU (mU (mU M4 plA (aI G 3 p9)) va (aJ G (sz3 LO HI) (vF (vwD w LO HI (skT jd) tt) (c3 (sN LO HI 1) (sN LO HI 2) e j 0)))) za (aZ G (sz3 LO HI) (zF (vwD w LO HI (skT jd) tt) (c3 (sN LO HI 1) (sN LO HI 2) e j 0)))) plA (aI G 3 pf9)) ola = some (aI G 3 (vlo w)) := (mU_n ((fun z => bo1 (Or.inl z)))).trans (kola p9 (c3 (sN LO HI 1) (sN LO HI 2) e j 0))
          have m_42 : (mU (mU (mU (mU M4 plA (aI G 3 p9)) va (aJ G (sz3 LO HI) (vF (vwD w LO HI (skT jd) tt) (c3 (sN LO HI 1) (sN LO HI 2) e j 0)))) za (aZ G (sz3 LO HI) (zF (vwD w LO HI (skT jd) tt) (c3 (sN LO HI 1) (sN LO HI 2) e j 0)))) plA (aI G 3 pf9)) oha = some (aI G 3 (vhi w)) := (mU_n ((fun z => bo2 (Or.inl z)))).trans (koha p9 (c3 (sN LO HI 1) (sN LO HI 2) e j 0))
          have m_43 : (mU (mU (mU (mU M4 plA (aI G 3 p9)) va (aJ G (sz3 LO HI) (vF (vwD w LO HI (skT jd) tt) (c3 (sN LO HI 1) (sN LO HI 2) e j 0)))) za (aZ G (sz3 LO HI) (zF (vwD w LO HI (skT jd) tt) (c3 (sN LO HI 1) (sN LO HI 2) e j 0)))) plA (aI G 3 pf9)) ova = some (aJ G (wsz w) ovf) := (mU_n ((fun z => bo3 (Or.inl z)))).trans (kova p9 (c3 (sN LO HI 1) (sN LO HI 2) e j 0))
          have m_44 : (mU (mU (mU (mU M4 plA (aI G 3 p9)) va (aJ G (sz3 LO HI) (vF (vwD w LO HI (skT jd) tt) (c3 (sN LO HI 1) (sN LO HI 2) e j 0)))) za (aZ G (sz3 LO HI) (zF (vwD w LO HI (skT jd) tt) (c3 (sN LO HI 1) (sN LO HI 2) e j 0)))) plA (aI G 3 pf9)) oza = some (aZ G (wsz w) ozf) := (mU_n ((fun z => bo4 (Or.inl z)))).trans (koza p9 (c3 (sN LO HI 1) (sN LO HI 2) e j 0))
          show qJ G F _ 8 (mU (mU (mU (mU M4 plA (aI G 3 p9)) va (aJ G (sz3 LO HI) (vF (vwD w LO HI (skT jd) tt) (c3 (sN LO HI 1) (sN LO HI 2) e j 0)))) za (aZ G (sz3 LO HI) (zF (vwD w LO HI (skT jd) tt) (c3 (sN LO HI 1) (sN LO HI 2) e j 0)))) plA (aI G 3 pf9)) 0 0 160 [(0, .ref r), (1, .int (nI i)), (2, .int (nI jd)), (3, .int tt), (4, .ref o), (5, .ref q), (6, .int (LO 0 + nI (e))), (7, .int (LO 1 + nI (j)))] []
          refine q_aload X dX13_slice_160 5 rfl ?_
          refine q_aload X dX13_slice_162 5 rfl ?_
          refine q_iload X dX13_slice_164 6 rfl ?_
          refine q_iload X dX13_slice_166 7 rfl ?_
          refine q_iconst (v := 0) X dX13_slice_168 (by decide) ?_
          refine q_callVp X (c_X12_at m_35 m_36 m_37) Y_X12_at tw_1269 tw_1270 tw_1271 m_35 rfl (by omega) rfl rfl (Nat.le_of_ble_eq_true rfl) dX13_slice_169 ?_
          rw [show gAt LO HI (LO 0 + nI (e)) (LO 1 + nI (j)) 0 = nI (c3 (sN LO HI 1) (sN LO HI 2) e j 0) from by have g9 := gAt_lo hok (e := e) (j := j) (k := 0); rw [hl2, lo_0] at g9; exact g9]
          refine q_aload X dX13_slice_172 4 rfl ?_
          refine q_aload_n X dX13_slice_174 0 rfl ?_
          refine q_get X m_33 rfl in_RX13 4 (by decide) tw_1198 rfl rfl dX13_slice_175 ?_
          refine q_iconst (v := 0) X dX13_slice_178 (by decide) ?_
          refine q_ialdN X 0 m_34 (rfl) (by decide) (by decide) dX13_slice_179 ?_
          rw [w9a]
          refine q_aload_n X dX13_slice_180 0 rfl ?_
          refine q_get X m_33 rfl in_RX13 4 (by decide) tw_1198 rfl rfl dX13_slice_181 ?_
          refine q_iconst (v := 1) X dX13_slice_184 (by decide) ?_
          refine q_ialdN X 1 m_34 (rfl) (by decide) (by decide) dX13_slice_185 ?_
          rw [w9b]
          refine q_aload_n X dX13_slice_186 0 rfl ?_
          refine q_get X m_33 rfl in_RX13 4 (by decide) tw_1198 rfl rfl dX13_slice_187 ?_
          refine q_iconst (v := 2) X dX13_slice_190 (by decide) ?_
          refine q_ialdN X 2 m_34 (rfl) (by decide) (by decide) dX13_slice_191 ?_
          rw [w9c]
          refine q_callS X (c_from hw ⟨m_40, m_41, m_42, m_43, m_44, hO.2.2.2.2.2⟩ m_35 m_38 m_39 hc9 (by omega)) Y_X13_from tw_1364 tw_1365 (by omega) rfl rfl (Nat.le_of_ble_eq_true rfl) (rc' := 0) (rs' := 0) (Nat.le_refl _) (Nat.le_refl _) dX13_slice_192 (fun v M' hp _ => ?_)
          obtain ⟨rfl, eM⟩ := hp
          rw [eM]
          clear eM
          refine q_memE (M' := mU (mU (mU M4 plA (aI G 3 pf9)) va (aJ G (sz3 LO HI) (vF (vwD w LO HI (skT jd) tt) (c3 (sN LO HI 1) (sN LO HI 2) e (j + 1) 0)))) za (aZ G (sz3 LO HI) (zF (vwD w LO HI (skT jd) tt) (c3 (sN LO HI 1) (sN LO HI 2) e (j + 1) 0)))) (by rw [c3_j1 hS2, ← vF_s fr9, ← zF_s fr9]; exact mU_y) ?_
          show qJ G F _ 8 (mU (mU (mU M4 plA (aI G 3 pf9)) va (aJ G (sz3 LO HI) (vF (vwD w LO HI (skT jd) tt) (c3 (sN LO HI 1) (sN LO HI 2) e (j + 1) 0)))) za (aZ G (sz3 LO HI) (zF (vwD w LO HI (skT jd) tt) (c3 (sN LO HI 1) (sN LO HI 2) e (j + 1) 0)))) 0 0 195 [(0, .ref r), (1, .int (nI i)), (2, .int (nI jd)), (3, .int tt), (4, .ref o), (5, .ref q), (6, .int (LO 0 + nI (e))), (7, .int (LO 1 + nI (j)))] []
          refine q_iinc (v := (LO 1 + nI (j + 1))) (lv' := [(7, .int (LO 1 + nI (j + 1))), (0, .ref r), (1, .int (nI i)), (2, .int (nI jd)), (3, .int tt), (4, .ref o), (5, .ref q), (6, .int (LO 0 + nI (e)))]) X dX13_slice_195 7 rfl (lo_s) (by decide) rfl ?_
          refine q_goto X 138 dX13_slice_198 (by decide) ?_
          refine q_sub [1, 2, 3, 4, 5, 6, 7, 0] rfl ?_
          exact ih (j + 1) _ (by omega) ⟨_, rfl⟩
      have L0 : ∀ (kk : ∀ M2 : gMem, (∃ (p9 : Nat → Int32), M2 = mU (mU (mU M4 plA (aI G 3 p9)) va (aJ G (sz3 LO HI) (vF (vwD w LO HI (skT jd) tt) (c3 (sN LO HI 1) (sN LO HI 2) (sN LO HI 0) 0 0)))) za (aZ G (sz3 LO HI) (zF (vwD w LO HI (skT jd) tt) (c3 (sN LO HI 1) (sN LO HI 2) (sN LO HI 0) 0 0)))) → qJ G F (qQ G F (rfP G r cOp (some (.int 0)) (sp_slice σ (nI i) (nI jd) tt))) 8 M2 0 0 207 [(0, .ref r), (1, .int (nI i)), (2, .int (nI jd)), (3, .int tt), (4, .ref o), (5, .ref q)] []) (t e : Nat) (M1 : gMem), e + t = sN LO HI 0 → (∃ (p9 : Nat → Int32), M1 = mU (mU (mU M4 plA (aI G 3 p9)) va (aJ G (sz3 LO HI) (vF (vwD w LO HI (skT jd) tt) (c3 (sN LO HI 1) (sN LO HI 2) e 0 0)))) za (aZ G (sz3 LO HI) (zF (vwD w LO HI (skT jd) tt) (c3 (sN LO HI 1) (sN LO HI 2) e 0 0)))) → qJ G F (qQ G F (rfP G r cOp (some (.int 0)) (sp_slice σ (nI i) (nI jd) tt))) 8 M1 0 0 117 [(0, .ref r), (1, .int (nI i)), (2, .int (nI jd)), (3, .int tt), (4, .ref o), (5, .ref q), (6, .int (LO 0 + nI (e)))] [] := by
        intro  kk t
        induction t with
        | zero =>
          intro e M1 he0 hI
          obtain rfl : e = sN LO HI 0 := by omega
          have hI0 := hI
          obtain ⟨p9, rfl⟩ := hI
          refine q_iload X dX13_slice_117 6 rfl ?_
          refine q_aload X dX13_slice_119 5 rfl ?_
          refine q_get X (kq p9 (c3 (sN LO HI 1) (sN LO HI 2) (sN LO HI 0) 0 0)) rfl in_RX12 3 (by decide) tw_1161 rfl rfl dX13_slice_121 ?_
          refine q_iconst (v := 0) X dX13_slice_124 (by decide) ?_
          refine q_ialdN X 0 (kha p9 (c3 (sN LO HI 1) (sN LO HI 2) (sN LO HI 0) 0 0)) (rfl) (by decide) (by decide) dX13_slice_125 ?_
          refine q_icmp_gt X 207 dX13_slice_126 (by decide) (fun c_45 => ?_) (fun c_45 => absurd (by rw [y0]; exact (lo_lt l0.1 l0.2 (by omega) (by omega)).mpr (by omega)) c_45)
          refine q_sub [0, 1, 2, 3, 4, 5] rfl ?_
          exact kk _ hI0
        | succ t ih =>
          intro e M1 he0 hI
          have he : e < sN LO HI 0 := by omega
          have hI0 := hI
          obtain ⟨p9, rfl⟩ := hI
          refine q_iload X dX13_slice_117 6 rfl ?_
          refine q_aload X dX13_slice_119 5 rfl ?_
          refine q_get X (kq p9 (c3 (sN LO HI 1) (sN LO HI 2) e 0 0)) rfl in_RX12 3 (by decide) tw_1161 rfl rfl dX13_slice_121 ?_
          refine q_iconst (v := 0) X dX13_slice_124 (by decide) ?_
          refine q_ialdN X 0 (kha p9 (c3 (sN LO HI 1) (sN LO HI 2) e 0 0)) (rfl) (by decide) (by decide) dX13_slice_125 ?_
          refine q_icmp_gt X 207 dX13_slice_126 (by decide) (fun c_46 => absurd ((lo_lt l0.1 l0.2 (by omega) (by omega)).mp (y0 ▸ c_46)) (by omega)) (fun c_46 => ?_)
          refine q_aload X dX13_slice_129 5 rfl ?_
          refine q_get X (kq p9 (c3 (sN LO HI 1) (sN LO HI 2) e 0 0)) rfl in_RX12 2 (by decide) tw_1159 rfl rfl dX13_slice_131 ?_
          refine q_iconst (v := 1) X dX13_slice_134 (by decide) ?_
          refine q_ialdN X 1 (kla p9 (c3 (sN LO HI 1) (sN LO HI 2) e 0 0)) (rfl) (by decide) (by decide) dX13_slice_135 ?_
          rw [show LO 1 = LO 1 + nI 0 from lo_0.symm]
          refine q_istore (lv' := [(7, .int (LO 1 + nI (0))), (0, .ref r), (1, .int (nI i)), (2, .int (nI jd)), (3, .int tt), (4, .ref o), (5, .ref q), (6, .int (LO 0 + nI (e)))]) X dX13_slice_136 (by decide) rfl ?_
          refine q_sub [1, 2, 3, 4, 5, 6, 7, 0] rfl ?_
          refine L1 e he (fun M2 hI2 => ?_) (sN LO HI 1) 0 _ (Nat.zero_add _) hI0
          rw [c3_j] at hI2
          refine q_iinc (v := (LO 0 + nI (e + 1))) (lv' := [(6, .int (LO 0 + nI (e + 1))), (0, .ref r), (1, .int (nI i)), (2, .int (nI jd)), (3, .int tt), (4, .ref o), (5, .ref q)]) X dX13_slice_201 6 rfl (lo_s) (by decide) rfl ?_
          refine q_goto X 117 dX13_slice_204 (by decide) ?_
          refine q_sub [1, 2, 3, 4, 5, 6, 0] rfl ?_
          exact ih (e + 1) M2 (by omega) hI2
      refine q_aload X dX13_slice_108 0 rfl ?_
      refine q_get X hq4 rfl in_RX12 2 (by decide) tw_1159 rfl rfl dX13_slice_110 ?_
      refine q_iconst (v := 0) X dX13_slice_113 (by decide) ?_
      refine q_ialdN X 0 m_29 (rfl) (by decide) (by decide) dX13_slice_114 ?_
      rw [show LO 0 = LO 0 + nI 0 from lo_0.symm]
      refine q_istore (lv' := [(6, .int (LO 0 + nI (0))), (5, .ref q), (4, .ref o), (0, .ref r), (1, .int (nI i)), (2, .int (nI jd)), (3, .int tt)]) X dX13_slice_115 (by decide) rfl ?_
      refine q_sub [3, 4, 5, 6, 2, 1, 0] rfl ?_
      refine L0 hfin (sN LO HI 0) 0 M4 (Nat.zero_add _) ⟨pl0, ?_⟩
      rw [c3_0, vF_0, zF_0, mU_id m_28, mU_id hva4, mU_id hza4]
    · refine q_callV X (c_large_n hB2 hok hd40 hq1 hla1 hha1 hlim) Y_X13_large tw_1359 tw_1361 sel_32 m_1 rfl (by omega) rfl rfl (Nat.le_of_ble_eq_true rfl) (rc' := 2) (rs' := 4096) (by omega) (by omega) dX13_slice_95 (fun v M' hp _ => ?_)
      obtain ⟨rfl, eM⟩ := hp
      have m_47 : M' r = some (oB 13 [.int 3, .ref vA, .ref nA, .ref pA, .ref plA, .ref dg, .int (nI (aV σ).length), .int (nI (aN σ).length), .int (nI (aOf σ)), .int (nI (aBg σ)), .int tk, .long su, .long le, .long gr]) := by rw [eM]; exact mU_s
      have m_48 : M' nA = some (aG G 150 nf) := by rw [eM]; exact (mU_n (Ne.symm (g_neoa m_1 m_2))).trans m_2
      have m_49 : M' o = some (oB 12 [.int (nI (vm w)), .int (nI (vdp w)), .ref ola, .ref oha, .ref ova, .ref oza]) := by rw [eM]; exact (mU_n (g_neoo m_3 m_1 (by decide))).trans m_3
      have m_50 : M' ola = some (aI G 3 (vlo w)) := by rw [eM]; exact (mU_n (Ne.symm (g_neoa m_1 m_4))).trans m_4
      have m_51 : M' oha = some (aI G 3 (vhi w)) := by rw [eM]; exact (mU_n (Ne.symm (g_neoa m_1 m_5))).trans m_5
      have m_52 : M' ova = some (aJ G (wsz w) ovf) := by rw [eM]; exact (mU_n (Ne.symm (g_neoa m_1 m_6))).trans m_6
      have m_53 : M' oza = some (aZ G (wsz w) ozf) := by rw [eM]; exact (mU_n (Ne.symm (g_neoa m_1 m_7))).trans m_7
      have m_54 : M' plA = some (aI G 3 pl0) := by rw [eM]; exact (mU_n (Ne.symm (g_neoa m_1 m_8))).trans m_8
      have m_55 : M' q = some (oB 12 [.int (nI (vm w - 1)), .int (nI (vdp w + 1)), .ref la, .ref ha, .null, .null]) := by rw [eM]; exact (mU_n (Ne.symm (g_nef hB.1 fq))).trans hq1
      have m_56 : M' la = some (aI G 3 LO) := by rw [eM]; exact (mU_n (Ne.symm (g_nef hB.1 fla))).trans hla1
      have m_57 : M' ha = some (aI G 3 HI) := by rw [eM]; exact (mU_n (Ne.symm (g_nef hB.1 fha))).trans hha1
      have evK3 : mEv (fun x => x = r ∨ x = plA) M M' := by rw [eM]; exact evK1.trans (mEv_upd (K := (fun x => x = r ∨ x = plA)) (Or.inl rfl))
      have hB3 : rfB G M' r 3 σ vA nA pA plA dg dla dha dva dza dvf dzf vf nf pf tk su le gr := by rw [eM]; exact hB2.ro
      clear eM
      generalize M' = M3 at *
      show qJ G F _ 8 M3 2 4096 98 [(5, .ref q), (4, .ref o), (0, .ref r), (1, .int (nI i)), (2, .int (nI jd)), (3, .int tt)] [.int 1]
      refine q_if_eq X 103 dX13_slice_98 (by decide) (fun c_58 => absurd c_58 (by decide)) (fun c_58 => ?_)
      refine q_iconst (v := 0) X dX13_slice_101 (by decide) ?_
      exact q_iret X hr dX13_slice_102 (rfP_T (by rw [specE]; exact gLim_n hlim) cOp_UO ⟨vA, nA, pA, plA, dg, dla, dha, dva, dza, dvf, dzf, vf, nf, pf, tk, su, le, gr, hB3⟩)
  show qJ G F _ 8 M 5 4108 0 [(0, .ref r), (1, .int a), (2, .int d), (3, .int tt)] []
  refine q_aload_n X dX13_slice_0 0 rfl ?_
  rcases Nat.lt_or_ge (aN σ).length 150 with q150 | q150
  · refine q_callV X (c_full_y hB q150) Y_X13_full tw_1332 tw_1334 sel_27 hB.1 rfl (by omega) rfl rfl (Nat.le_of_ble_eq_true rfl) (rc' := 5) (rs' := 4108) (by omega) (by omega) dX13_slice_1 (fun v M' hp _ => ?_)
    obtain ⟨rfl, eM⟩ := hp
    have hB159 : rfB G M' r 0 σ vA nA pA plA dg dla dha dva dza dvf dzf vf nf pf tk su le gr := by rw [eM]; exact hB.ro
    clear eM
    generalize M' = M159 at *
    show qJ G F _ 8 M159 5 4108 4 [(0, .ref r), (1, .int a), (2, .int d), (3, .int tt)] [.int 0]
    obtain ⟨z_60r, z_601, z_602, z_603, ⟨z_60x, z_604⟩, z_605, z_606, z_607, z_608, z_609, z_6010⟩ := id hB159
    refine q_if_eq X 9 dX13_slice_4 (by decide) (fun c_61 => ?_) (fun c_61 => absurd (by decide) c_61)
    refine q_aload_n X dX13_slice_9 0 rfl ?_
    refine q_aload_n X dX13_slice_10 0 rfl ?_
    refine q_iload_n X dX13_slice_11 1 rfl ?_
    refine q_iload_n X dX13_slice_12 2 rfl ?_
    rcases hnd : ndAt σ a with _ | w
    · refine q_callVp X (c_noDim_n hB159 (by omega) hnd) Y_X13_noDim tw_1347 tw_1349 sel_29 z_60r rfl (by omega) rfl rfl (Nat.le_of_ble_eq_true rfl) dX13_slice_13 ?_
      refine q_if_ne X 62 dX13_slice_16 (by decide) (fun c16 => ?_) (fun c16 => absurd c16 (by decide))
      refine q_iconst (v := 1) X dX13_slice_62 (by decide) ?_
      refine q_goto X 67 dX13_slice_63 (by decide) ?_
      refine q_iconst (v := 1) X dX13_slice_67 (by decide) ?_
      refine q_callV X (c_fails1 (why := 1) hB159.1) Y_X13_fails tw_1246 tw_1248 sel_23 z_60r rfl (by omega) rfl rfl (Nat.le_of_ble_eq_true rfl) (rc' := 5) (rs' := 4108) (by omega) (by omega) dX13_slice_68 (fun v M' hp _ => ?_)
      obtain ⟨rfl, eM⟩ := hp
      have hB162 : rfB G M' r 1 σ vA nA pA plA dg dla dha dva dza dvf dzf vf nf pf tk su le gr := by rw [eM]; exact hB159.ro
      clear eM
      generalize M' = M162 at *
      show qJ G F _ 8 M162 5 4108 71 [(0, .ref r), (1, .int a), (2, .int d), (3, .int tt)] [.int 1]
      obtain ⟨z_63r, z_631, z_632, z_633, ⟨z_63x, z_634⟩, z_635, z_636, z_637, z_638, z_639, z_6310⟩ := id hB162
      refine q_if_eq X 76 dX13_slice_71 (by decide) (fun c_64 => absurd c_64 (by decide)) (fun c_64 => ?_)
      refine q_iconst (v := 0) X dX13_slice_74 (by decide) ?_
      exact q_iret X hr dX13_slice_75 (rfP_T ((gRoom_y q150).trans (gNode_n hnd)) cOp_IA ⟨vA, nA, pA, plA, dg, dla, dha, dva, dza, dvf, dzf, vf, nf, pf, tk, su, le, gr, hB162⟩)
    · obtain ⟨i, hi9, rfl, hi⟩ := ndAt_some hnd
      have hw := hW.2 i w hi
      have hi150 : i < 150 := by omega
      obtain ⟨o, hnfo, ola, oha, ova, oza, ovf, ozf, hO, bo1, bo2, bo3, bo4⟩ := hB159.2.2.2.2.2.2.2.2.1 i w hi
      refine q_callVp X (c_noDim_y hB159 hl150 hi) Y_X13_noDim tw_1347 tw_1349 sel_29 z_60r rfl (by omega) rfl rfl (Nat.le_of_ble_eq_true rfl) dX13_slice_13 ?_
      refine q_if_ne X 62 dX13_slice_16 (by decide) (fun c16 => ?_) (fun c16 => ?_)
      · refine q_iconst (v := 1) X dX13_slice_62 (by decide) ?_
        refine q_goto X 67 dX13_slice_63 (by decide) ?_
        refine q_iconst (v := 1) X dX13_slice_67 (by decide) ?_
        refine q_callV X (c_fails1 (why := 1) hB159.1) Y_X13_fails tw_1246 tw_1248 sel_23 z_60r rfl (by omega) rfl rfl (Nat.le_of_ble_eq_true rfl) (rc' := 5) (rs' := 4108) (by omega) (by omega) dX13_slice_68 (fun v M' hp _ => ?_)
        obtain ⟨rfl, eM⟩ := hp
        have hB165 : rfB G M' r 1 σ vA nA pA plA dg dla dha dva dza dvf dzf vf nf pf tk su le gr := by rw [eM]; exact hB159.ro
        clear eM
        generalize M' = M165 at *
        show qJ G F _ 8 M165 5 4108 71 [(0, .ref r), (1, .int (nI i)), (2, .int d), (3, .int tt)] [.int 1]
        obtain ⟨z_66r, z_661, z_662, z_663, ⟨z_66x, z_664⟩, z_665, z_666, z_667, z_668, z_669, z_6610⟩ := id hB165
        refine q_if_eq X 76 dX13_slice_71 (by decide) (fun c_67 => absurd c_67 (by decide)) (fun c_67 => ?_)
        refine q_iconst (v := 0) X dX13_slice_74 (by decide) ?_
        exact q_iret X hr dX13_slice_75 (rfP_T ((gRoom_y q150).trans ((gNode_y hnd).trans (gNeed_n (fun z => z.2 (sR_no (Or.inl (Classical.not_not.mp (mt nHas_0.mpr c16)))))))) cOp_IA ⟨vA, nA, pA, plA, dg, dla, dha, dva, dza, dvf, dzf, vf, nf, pf, tk, su, le, gr, hB165⟩)
      · obtain ⟨jd, hjd, rfl⟩ := sHas_in hw.1.2.1 (nHas_0.mp c16)
        have hj3 : jd < 3 := Nat.lt_of_lt_of_le hjd hw.1.2.1
        refine q_aload_n X dX13_slice_19 0 rfl ?_
        refine q_get X z_60r rfl in_RX13 2 (by decide) tw_1196 rfl rfl dX13_slice_20 ?_
        refine q_iload_n X dX13_slice_23 1 rfl ?_
        refine q_gald X i z_602 (rfl) (hi150) (by decide) hnfo dX13_slice_24 ?_
        refine q_get X hO.1 rfl in_RX12 0 (by decide) tw_1156 rfl rfl dX13_slice_25 ?_
        refine q_iconst (v := 1) X dX13_slice_28 (by decide) ?_
        refine q_icmp_eq X 62 dX13_slice_29 (by decide) (fun c29 => ?_) (fun c29 => ?_)
        · refine q_iconst (v := 1) X dX13_slice_62 (by decide) ?_
          refine q_goto X 67 dX13_slice_63 (by decide) ?_
          refine q_iconst (v := 1) X dX13_slice_67 (by decide) ?_
          refine q_callV X (c_fails1 (why := 1) hB159.1) Y_X13_fails tw_1246 tw_1248 sel_23 z_60r rfl (by omega) rfl rfl (Nat.le_of_ble_eq_true rfl) (rc' := 5) (rs' := 4108) (by omega) (by omega) dX13_slice_68 (fun v M' hp _ => ?_)
          obtain ⟨rfl, eM⟩ := hp
          have hB168 : rfB G M' r 1 σ vA nA pA plA dg dla dha dva dza dvf dzf vf nf pf tk su le gr := by rw [eM]; exact hB159.ro
          clear eM
          generalize M' = M168 at *
          show qJ G F _ 8 M168 5 4108 71 [(0, .ref r), (1, .int (nI i)), (2, .int (nI jd)), (3, .int tt)] [.int 1]
          obtain ⟨z_69r, z_691, z_692, z_693, ⟨z_69x, z_694⟩, z_695, z_696, z_697, z_698, z_699, z_6910⟩ := id hB168
          refine q_if_eq X 76 dX13_slice_71 (by decide) (fun c_70 => absurd c_70 (by decide)) (fun c_70 => ?_)
          refine q_iconst (v := 0) X dX13_slice_74 (by decide) ?_
          exact q_iret X hr dX13_slice_75 (rfP_T ((gRoom_y q150).trans ((gNode_y hnd).trans (gNeed_n (fun z => z.1 (by rw [c29]; decide))))) cOp_IA ⟨vA, nA, pA, plA, dg, dla, dha, dva, dza, dvf, dzf, vf, nf, pf, tk, su, le, gr, hB168⟩)
        · refine q_iload_n X dX13_slice_32 3 rfl ?_
          refine q_aload_n X dX13_slice_33 0 rfl ?_
          refine q_get X z_60r rfl in_RX13 2 (by decide) tw_1196 rfl rfl dX13_slice_34 ?_
          refine q_iload_n X dX13_slice_37 1 rfl ?_
          refine q_gald X i z_602 (rfl) (hi150) (by decide) hnfo dX13_slice_38 ?_
          refine q_get X hO.1 rfl in_RX12 2 (by decide) tw_1159 rfl rfl dX13_slice_39 ?_
          refine q_iload_n X dX13_slice_42 2 rfl ?_
          refine q_ialdN X jd hO.2.1 (rfl) (hj3) (by decide) dX13_slice_43 ?_
          refine q_icmp_lt X 62 dX13_slice_44 (by decide) (fun c44 => ?_) (fun c44 => ?_)
          · refine q_iconst (v := 1) X dX13_slice_62 (by decide) ?_
            refine q_goto X 67 dX13_slice_63 (by decide) ?_
            refine q_iconst (v := 1) X dX13_slice_67 (by decide) ?_
            refine q_callV X (c_fails1 (why := 1) hB159.1) Y_X13_fails tw_1246 tw_1248 sel_23 z_60r rfl (by omega) rfl rfl (Nat.le_of_ble_eq_true rfl) (rc' := 5) (rs' := 4108) (by omega) (by omega) dX13_slice_68 (fun v M' hp _ => ?_)
            obtain ⟨rfl, eM⟩ := hp
            have hB171 : rfB G M' r 1 σ vA nA pA plA dg dla dha dva dza dvf dzf vf nf pf tk su le gr := by rw [eM]; exact hB159.ro
            clear eM
            generalize M' = M171 at *
            show qJ G F _ 8 M171 5 4108 71 [(0, .ref r), (1, .int (nI i)), (2, .int (nI jd)), (3, .int tt)] [.int 1]
            obtain ⟨z_72r, z_721, z_722, z_723, ⟨z_72x, z_724⟩, z_725, z_726, z_727, z_728, z_729, z_7210⟩ := id hB171
            refine q_if_eq X 76 dX13_slice_71 (by decide) (fun c_73 => absurd c_73 (by decide)) (fun c_73 => ?_)
            refine q_iconst (v := 0) X dX13_slice_74 (by decide) ?_
            exact q_iret X hr dX13_slice_75 (rfP_T ((gRoom_y q150).trans ((gNode_y hnd).trans (gNeed_n (fun z => z.2 (sR_no (Or.inr (Or.inr (Or.inl (by rw [s3_N jd hj3 rfl]; exact c44))))))))) cOp_IA ⟨vA, nA, pA, plA, dg, dla, dha, dva, dza, dvf, dzf, vf, nf, pf, tk, su, le, gr, hB171⟩)
          · refine q_iload_n X dX13_slice_47 3 rfl ?_
            refine q_aload_n X dX13_slice_48 0 rfl ?_
            refine q_get X z_60r rfl in_RX13 2 (by decide) tw_1196 rfl rfl dX13_slice_49 ?_
            refine q_iload_n X dX13_slice_52 1 rfl ?_
            refine q_gald X i z_602 (rfl) (hi150) (by decide) hnfo dX13_slice_53 ?_
            refine q_get X hO.1 rfl in_RX12 3 (by decide) tw_1161 rfl rfl dX13_slice_54 ?_
            refine q_iload_n X dX13_slice_57 2 rfl ?_
            refine q_ialdN X jd hO.2.2.1 (rfl) (hj3) (by decide) dX13_slice_58 ?_
            refine q_icmp_le X 66 dX13_slice_59 (by decide) (fun c59 => ?_) (fun c59 => ?_)
            · refine q_iconst (v := 0) X dX13_slice_66 (by decide) ?_
              refine q_iconst (v := 1) X dX13_slice_67 (by decide) ?_
              refine q_callV X (c_fails0 (why := 1) hB159.1) Y_X13_fails tw_1246 tw_1248 sel_23 z_60r rfl (by omega) rfl rfl (Nat.le_of_ble_eq_true rfl) (rc' := 5) (rs' := 4108) (by omega) (by omega) dX13_slice_68 (fun v M' hp _ => ?_)
              obtain ⟨rfl, eM⟩ := hp
              have hB174 : rfB G M' r 0 σ vA nA pA plA dg dla dha dva dza dvf dzf vf nf pf tk su le gr := by rw [eM]; exact hB159.ro
              clear eM
              generalize M' = M174 at *
              show qJ G F _ 8 M174 5 4108 71 [(0, .ref r), (1, .int (nI i)), (2, .int (nI jd)), (3, .int tt)] [.int 0]
              obtain ⟨z_75r, z_751, z_752, z_753, ⟨z_75x, z_754⟩, z_755, z_756, z_757, z_758, z_759, z_7510⟩ := id hB174
              refine q_if_eq X 76 dX13_slice_71 (by decide) (fun c_76 => ?_) (fun c_76 => absurd (by decide) c_76)
              have hm2 : 2 ≤ vm w := by have a1 := hw.1.1; have a3 := hw.1.2.1; by_cases q : vm w = 1; exact absurd (show nI (vm w) = 1 by rw [q]; rfl) c29; omega
              have hm29 : ¬ nI (vm w) ≤ 1 := fun z => by have := (m_le (k := 1) hw.1.2.1 (by decide)).mp z; omega
              refine q_sub [0, 1, 2, 3] rfl ?_
              exact tail _ i w hB174 hi hw q150 jd hjd hm2 (by unfold sp_slice; rw [nI_nn (show jd < 2 ^ 31 by omega)]; exact (gRoom_y q150).trans ((gNode_y hnd).trans (gNeed_y ⟨hm29, sR_ok (nHas_0.mp c16) (fun z => absurd (Int32.le_refl _) (Int32.not_le.mpr z)) (by rw [s3_N jd hj3 rfl]; exact c44) (by rw [s3_N jd hj3 rfl]; exact Int32.not_lt.mpr c59)⟩)))
            · refine q_iconst (v := 1) X dX13_slice_62 (by decide) ?_
              refine q_goto X 67 dX13_slice_63 (by decide) ?_
              refine q_iconst (v := 1) X dX13_slice_67 (by decide) ?_
              refine q_callV X (c_fails1 (why := 1) hB159.1) Y_X13_fails tw_1246 tw_1248 sel_23 z_60r rfl (by omega) rfl rfl (Nat.le_of_ble_eq_true rfl) (rc' := 5) (rs' := 4108) (by omega) (by omega) dX13_slice_68 (fun v M' hp _ => ?_)
              obtain ⟨rfl, eM⟩ := hp
              have hB177 : rfB G M' r 1 σ vA nA pA plA dg dla dha dva dza dvf dzf vf nf pf tk su le gr := by rw [eM]; exact hB159.ro
              clear eM
              generalize M' = M177 at *
              show qJ G F _ 8 M177 5 4108 71 [(0, .ref r), (1, .int (nI i)), (2, .int (nI jd)), (3, .int tt)] [.int 1]
              obtain ⟨z_78r, z_781, z_782, z_783, ⟨z_78x, z_784⟩, z_785, z_786, z_787, z_788, z_789, z_7810⟩ := id hB177
              refine q_if_eq X 76 dX13_slice_71 (by decide) (fun c_79 => absurd c_79 (by decide)) (fun c_79 => ?_)
              refine q_iconst (v := 0) X dX13_slice_74 (by decide) ?_
              exact q_iret X hr dX13_slice_75 (rfP_T ((gRoom_y q150).trans ((gNode_y hnd).trans (gNeed_n (fun z => z.2 (sR_no (Or.inr (Or.inr (Or.inr (by rw [s3_N jd hj3 rfl]; exact Int32.not_le.mp c59))))))))) cOp_IA ⟨vA, nA, pA, plA, dg, dla, dha, dva, dza, dvf, dzf, vf, nf, pf, tk, su, le, gr, hB177⟩)
  · refine q_callV X (c_full_n hB q150 hl150) Y_X13_full tw_1332 tw_1334 sel_27 hB.1 rfl (by omega) rfl rfl (Nat.le_of_ble_eq_true rfl) (rc' := 5) (rs' := 4108) (by omega) (by omega) dX13_slice_1 (fun v M' hp _ => ?_)
    obtain ⟨rfl, eM⟩ := hp
    have hB180 : rfB G M' r 2 σ vA nA pA plA dg dla dha dva dza dvf dzf vf nf pf tk su le gr := by rw [eM]; exact hB.ro
    clear eM
    generalize M' = M180 at *
    show qJ G F _ 8 M180 5 4108 4 [(0, .ref r), (1, .int a), (2, .int d), (3, .int tt)] [.int 1]
    obtain ⟨z_81r, z_811, z_812, z_813, ⟨z_81x, z_814⟩, z_815, z_816, z_817, z_818, z_819, z_8110⟩ := id hB180
    refine q_if_eq X 9 dX13_slice_4 (by decide) (fun c_82 => absurd c_82 (by decide)) (fun c_82 => ?_)
    refine q_iconst (v := 0) X dX13_slice_7 (by decide) ?_
    exact q_iret X hr dX13_slice_8 (rfP_T (gRoom_n (Nat.not_lt.mpr q150)) cOp_IO ⟨vA, nA, pA, plA, dg, dla, dha, dva, dza, dvf, dzf, vf, nf, pf, tk, su, le, gr, hB180⟩)
