/-! apply and filter: GridVault$Each -/
/-- holds, at every node that is less deep than d -/
def HoldsC (l : Launch) (G : gV) (N : gN) (d : Nat) : Prop := ∀ (a : Nat) (M : gMem) (P : Nat → Nat → Prop) (i : Int32), nS N a → ndp N a < d → nInv G M N P → (∀ b j, P b j → ndp N a < ndp N b) → qC l G yX5_holds cX5_holds 5 (some .boolean) (10 + 4 * ndp N a) 0 0 [.ref a, .int i] M (hP G N M P a i)
theorem nAt_in {N : gN} {a : Nat} {i : Int32} (h5 : nsz N a ≤ 4096) (h : ¬ bI (nAt N a i).isSome = 0) : ∃ (j : Nat) (v : Int64), j < nsz N a ∧ i = nI j ∧ nden N a j = some v ∧ nAt N a i = some v := by
  have h1 := bI_ne h
  by_cases c : cIn (nsz N a) i = 0
  · unfold nAt at h1; rw [if_pos c] at h1; cases h1
  · obtain ⟨j, hj, rfl⟩ := cIn_of h5 c
    rw [nAt_N hj h5] at h1 ⊢
    obtain ⟨v, hv⟩ := Option.isSome_iff_exists.mp h1
    exact ⟨j, v, hj, rfl, hv, hv⟩
theorem nAt_no {N : gN} {a : Nat} {i : Int32} (h : bI (nAt N a i).isSome = 0) : nAt N a i = none := by
  have h1 := bI_fl h
  cases h2 : nAt N a i with
  | none => rfl
  | some v => rw [h2] at h1; cases h1
theorem pA_dp {N : gN} {P : Nat → Nat → Prop} {a s j : Nat} (hP0 : ∀ b i, P b i → ndp N a < ndp N b) (hd : ndp N s < ndp N a) : ∀ b i, pA P a j b i → ndp N s < ndp N b := fun b i p => by
  rcases p with p | ⟨rfl, -⟩
  · exact Nat.lt_trans hd (hP0 b i p)
  · exact hd
theorem pA_no {N : gN} {P : Nat → Nat → Prop} {a s j i : Nat} (hP0 : ∀ b i, P b i → ndp N a < ndp N b) (hd : ndp N s < ndp N a) : ¬ pA P a j s i := fun p => absurd (pA_dp hP0 hd s i p) (Nat.lt_irrefl _)

set_option maxRecDepth 20000 in
theorem c_X2_isKept {l : Launch} {G : gV} {M : gMem} {N : gN} {a s : Nat} {rule : Int32} {c v : Int64} (hA : M a = some (oB 3 [.ref (nsh N a), .int (nI (ndp N a)), .ref (nca N a), .ref (naa N a), .ref s, .int rule, .long c])) (hru : rule = 6 ∨ rule = 7 ∨ rule = 8 ∨ rule = 9) : qC l G yX2_isKept cX2_isKept 3 (some .boolean) 1 0 0 [.ref a, .long v] M (pP (.int (bI (eachD rule c v).isSome)) M) := by
  refine qC_of (by decide +kernel) (Nat.le_of_ble_eq_true rfl) (fun F hF X hr hn => ?_)
  subst hF
  have X : qX G F cX2_isKept 3 RX2 1 := X
  show qJ G F _ 3 M 0 0 0 [(0, .ref a), (1, .long v)] []
  refine q_aload_n X dX2_isKept_0 0 rfl ?_
  refine q_get X hA rfl in_RX2 5 (by decide) tw_759 rfl rfl dX2_isKept_1 ?_
  refine q_bipush (v := 6) X dX2_isKept_4 (by decide) ?_
  refine q_isub X dX2_isKept_6 ?_
  rcases hru with rfl | rfl | rfl | rfl
  · refine q_tableIn X 32 dX2_isKept_7 (by decide) (by decide) (by decide) (by decide) ?_
    refine q_lload_n X dX2_isKept_32 1 rfl ?_
    refine q_aload_n X dX2_isKept_33 0 rfl ?_
    refine q_get X hA rfl in_RX2 6 (by decide) tw_760 rfl rfl dX2_isKept_34 ?_
    refine q_lcmp X dX2_isKept_37 ?_
    refine q_if_ne X 45 dX2_isKept_38 (by decide) (fun k1 => ?_) (fun k1 => ?_)
    · refine q_iconst (v := 0) X dX2_isKept_45 (by decide) ?_
      exact q_zret X hr (by decide) dX2_isKept_46 (⟨congrArg (fun z => some (Value.int z)) (by simp only [lg_cmp_eq, lg_cmp_ge, lg_cmp_lt] at k1; simp [eachD, bI, k1, Int64.not_lt, Int64.not_le] <;> first | done | exact Int64.not_lt.mp k1 | exact Int64.not_le.mp k1), rfl⟩)
    · refine q_iconst (v := 1) X dX2_isKept_41 (by decide) ?_
      refine q_goto X 46 dX2_isKept_42 (by decide) ?_
      exact q_zret X hr (by decide) dX2_isKept_46 (⟨congrArg (fun z => some (Value.int z)) (by simp only [lg_cmp_eq, lg_cmp_ge, lg_cmp_lt] at k1; simp [eachD, bI, k1, Int64.not_lt, Int64.not_le] <;> first | done | exact Int64.not_lt.mp k1 | exact Int64.not_le.mp k1), rfl⟩)
  · refine q_tableIn X 47 dX2_isKept_7 (by decide) (by decide) (by decide) (by decide) ?_
    refine q_lload_n X dX2_isKept_47 1 rfl ?_
    refine q_aload_n X dX2_isKept_48 0 rfl ?_
    refine q_get X hA rfl in_RX2 6 (by decide) tw_760 rfl rfl dX2_isKept_49 ?_
    refine q_lcmp X dX2_isKept_52 ?_
    refine q_if_eq X 60 dX2_isKept_53 (by decide) (fun k1 => ?_) (fun k1 => ?_)
    · refine q_iconst (v := 0) X dX2_isKept_60 (by decide) ?_
      exact q_zret X hr (by decide) dX2_isKept_61 (⟨congrArg (fun z => some (Value.int z)) (by simp only [lg_cmp_eq, lg_cmp_ge, lg_cmp_lt] at k1; simp [eachD, bI, k1, Int64.not_lt, Int64.not_le] <;> first | done | exact Int64.not_lt.mp k1 | exact Int64.not_le.mp k1), rfl⟩)
    · refine q_iconst (v := 1) X dX2_isKept_56 (by decide) ?_
      refine q_goto X 61 dX2_isKept_57 (by decide) ?_
      exact q_zret X hr (by decide) dX2_isKept_61 (⟨congrArg (fun z => some (Value.int z)) (by simp only [lg_cmp_eq, lg_cmp_ge, lg_cmp_lt] at k1; simp [eachD, bI, k1, Int64.not_lt, Int64.not_le] <;> first | done | exact Int64.not_lt.mp k1 | exact Int64.not_le.mp k1), rfl⟩)
  · refine q_tableIn X 62 dX2_isKept_7 (by decide) (by decide) (by decide) (by decide) ?_
    refine q_lload_n X dX2_isKept_62 1 rfl ?_
    refine q_aload_n X dX2_isKept_63 0 rfl ?_
    refine q_get X hA rfl in_RX2 6 (by decide) tw_760 rfl rfl dX2_isKept_64 ?_
    refine q_lcmp X dX2_isKept_67 ?_
    refine q_if_ge X 75 dX2_isKept_68 (by decide) (fun k1 => ?_) (fun k1 => ?_)
    · refine q_iconst (v := 0) X dX2_isKept_75 (by decide) ?_
      exact q_zret X hr (by decide) dX2_isKept_76 (⟨congrArg (fun z => some (Value.int z)) (by simp only [lg_cmp_eq, lg_cmp_ge, lg_cmp_lt] at k1; simp [eachD, bI, k1, Int64.not_lt, Int64.not_le] <;> first | done | exact Int64.not_lt.mp k1 | exact Int64.not_le.mp k1), rfl⟩)
    · refine q_iconst (v := 1) X dX2_isKept_71 (by decide) ?_
      refine q_goto X 76 dX2_isKept_72 (by decide) ?_
      exact q_zret X hr (by decide) dX2_isKept_76 (⟨congrArg (fun z => some (Value.int z)) (by simp only [lg_cmp_eq, lg_cmp_ge, lg_cmp_lt] at k1; simp [eachD, bI, k1, Int64.not_lt, Int64.not_le] <;> first | done | exact Int64.not_lt.mp k1 | exact Int64.not_le.mp k1), rfl⟩)
  · refine q_tableOut X 77 dX2_isKept_7 (by decide) (by decide) ?_
    refine q_lload_n X dX2_isKept_77 1 rfl ?_
    refine q_aload_n X dX2_isKept_78 0 rfl ?_
    refine q_get X hA rfl in_RX2 6 (by decide) tw_760 rfl rfl dX2_isKept_79 ?_
    refine q_lcmp X dX2_isKept_82 ?_
    refine q_if_lt X 90 dX2_isKept_83 (by decide) (fun k1 => ?_) (fun k1 => ?_)
    · refine q_iconst (v := 0) X dX2_isKept_90 (by decide) ?_
      exact q_zret X hr (by decide) dX2_isKept_91 (⟨congrArg (fun z => some (Value.int z)) (by simp only [lg_cmp_eq, lg_cmp_ge, lg_cmp_lt] at k1; simp [eachD, bI, k1, Int64.not_lt, Int64.not_le] <;> first | done | exact Int64.not_lt.mp k1 | exact Int64.not_le.mp k1), rfl⟩)
    · refine q_iconst (v := 1) X dX2_isKept_86 (by decide) ?_
      refine q_goto X 91 dX2_isKept_87 (by decide) ?_
      exact q_zret X hr (by decide) dX2_isKept_91 (⟨congrArg (fun z => some (Value.int z)) (by simp only [lg_cmp_eq, lg_cmp_ge, lg_cmp_lt] at k1; simp [eachD, bI, k1, Int64.not_lt, Int64.not_le] <;> first | done | exact Int64.not_lt.mp k1 | exact Int64.not_le.mp k1), rfl⟩)

set_option maxRecDepth 20000 in
theorem c_X2_change {l : Launch} {G : gV} {M : gMem} {N : gN} {P : Nat → Nat → Prop} {a s j k : Nat} {rule : Int32} {c v : Int64} (h : nInv G M N (pA P a j)) (ha : nS N a) (hj : j < nsz N a) (hask : nAsk G M N a j) (hP0 : ∀ b i, P b i → ndp N a < ndp N b) (h9 : nci N a ≠ 9) (hA : M a = some (oB 3 [.ref (nsh N a), .int (nI (ndp N a)), .ref (nca N a), .ref (naa N a), .ref s, .int rule, .long c])) (hru : rule = 0 ∨ rule = 1 ∨ rule = 2 ∨ rule = 3 ∨ rule = 4 ∨ rule = 5) (hd : nden N a j = eachD rule c v) : qC l G yX2_change cX2_change 4 none (k + 5) 0 0 [.ref a, .int (nI j), .long v] M (wP G N M P) := by
  refine qC_of (by decide +kernel) (Nat.le_of_ble_eq_true rfl) (fun F hF X hr hn => ?_)
  subst hF
  have X : qX G F cX2_change 4 RX2 (k + 5) := X
  have hPa : ∀ i, ¬ P a i := fun i p => absurd (hP0 a i p) (Nat.lt_irrefl _)
  obtain ⟨hs, -, cf, ak, hc, -⟩ := h.1 a ha
  show qJ G F _ 4 M 0 0 0 [(0, .ref a), (1, .int (nI j)), (2, .long v)] []
  refine q_aload_n X dX2_change_0 0 rfl ?_
  refine q_get X hA rfl in_RX2 5 (by decide) tw_759 rfl rfl dX2_change_1 ?_
  rcases hru with rfl | rfl | rfl | rfl | rfl | rfl
  · refine q_tableIn X 44 dX2_change_4 (by decide) (by decide) (by decide) (by decide) ?_
    refine q_aload_n X dX2_change_44 0 rfl ?_
    refine q_iload_n X dX2_change_45 1 rfl ?_
    refine q_lload_n X dX2_change_46 2 rfl ?_
    refine q_aload_n X dX2_change_47 0 rfl ?_
    refine q_get X hA rfl in_RX2 6 (by decide) tw_760 rfl rfl dX2_change_48 ?_
    refine q_ladd X dX2_change_51 ?_
    refine q_callU X (x := ⟨"GridVault$Each", "settle", "(IJ)V"⟩) (owner := "GridVault$Node") (ci := 3) (c_X5_settle (v := v + c) hs hc hj) Y_X5_settle tw_983 tw_984 (by decide) rfl (g_decl X tn_985) tw_987 ⟨_, rfl, tw_986⟩ hA (by omega) rfl rfl (Nat.le_of_ble_eq_true rfl) (rc' := 0) (rs' := 0) (Nat.le_refl _) (Nat.le_refl _) dX2_change_52 (fun v M' hp _ => ?_)
    obtain ⟨rfl, hC9, hm9⟩ := hp
    have G9 := nInv_set h ha h9 hj (by rw [hd]; simp [eachD]) hPa hc hC9 hm9 hask
    show qJ G F _ 4 M' 0 0 55 [(0, .ref a), (1, .int (nI j)), (2, .long v)] []
    refine q_goto X 152 dX2_change_55 (by decide) ?_
    exact q_vret X hr dX2_change_152 (⟨rfl, G9.1, G9.2⟩)
  · refine q_tableIn X 58 dX2_change_4 (by decide) (by decide) (by decide) (by decide) ?_
    refine q_aload_n X dX2_change_58 0 rfl ?_
    refine q_iload_n X dX2_change_59 1 rfl ?_
    refine q_lload_n X dX2_change_60 2 rfl ?_
    refine q_aload_n X dX2_change_61 0 rfl ?_
    refine q_get X hA rfl in_RX2 6 (by decide) tw_760 rfl rfl dX2_change_62 ?_
    refine q_lmul X dX2_change_65 ?_
    refine q_callU X (x := ⟨"GridVault$Each", "settle", "(IJ)V"⟩) (owner := "GridVault$Node") (ci := 3) (c_X5_settle (v := v * c) hs hc hj) Y_X5_settle tw_983 tw_984 (by decide) rfl (g_decl X tn_985) tw_987 ⟨_, rfl, tw_986⟩ hA (by omega) rfl rfl (Nat.le_of_ble_eq_true rfl) (rc' := 0) (rs' := 0) (Nat.le_refl _) (Nat.le_refl _) dX2_change_66 (fun v M' hp _ => ?_)
    obtain ⟨rfl, hC9, hm9⟩ := hp
    have G9 := nInv_set h ha h9 hj (by rw [hd]; simp [eachD]) hPa hc hC9 hm9 hask
    show qJ G F _ 4 M' 0 0 69 [(0, .ref a), (1, .int (nI j)), (2, .long v)] []
    refine q_goto X 152 dX2_change_69 (by decide) ?_
    exact q_vret X hr dX2_change_152 (⟨rfl, G9.1, G9.2⟩)
  · refine q_tableIn X 72 dX2_change_4 (by decide) (by decide) (by decide) (by decide) ?_
    refine q_aload_n X dX2_change_72 0 rfl ?_
    refine q_get X hA rfl in_RX2 6 (by decide) tw_760 rfl rfl dX2_change_73 ?_
    refine q_lconst (v := 0) X dX2_change_76 (by decide) ?_
    refine q_lcmp X dX2_change_77 ?_
    refine q_if_eq X 152 dX2_change_78 (by decide) (fun k0 => ?_) (fun k0 => ?_)
    · rw [lg_cmp_eq] at k0
      have k1 := k0
      exact q_vret X hr dX2_change_152 (⟨rfl, nInv_done h ha h9 (by rw [hd]; simp [eachD, k1]) hPa, nFr.rf G N M⟩)
    · have k1 : ¬ c = 0 := fun q => k0 ((lg_cmp_eq _ _).mpr q)
      refine q_aload_n X dX2_change_81 0 rfl ?_
      refine q_iload_n X dX2_change_82 1 rfl ?_
      refine q_lload_n X dX2_change_83 2 rfl ?_
      refine q_aload_n X dX2_change_84 0 rfl ?_
      refine q_get X hA rfl in_RX2 6 (by decide) tw_760 rfl rfl dX2_change_85 ?_
      refine q_ldiv X dX2_change_88 (k1) ?_
      refine q_callU X (x := ⟨"GridVault$Each", "settle", "(IJ)V"⟩) (owner := "GridVault$Node") (ci := 3) (c_X5_settle (v := v / c) hs hc hj) Y_X5_settle tw_983 tw_984 (by decide) rfl (g_decl X tn_985) tw_987 ⟨_, rfl, tw_986⟩ hA (by omega) rfl rfl (Nat.le_of_ble_eq_true rfl) (rc' := 0) (rs' := 0) (Nat.le_refl _) (Nat.le_refl _) dX2_change_89 (fun v M' hp _ => ?_)
      obtain ⟨rfl, hC9, hm9⟩ := hp
      have G9 := nInv_set h ha h9 hj (by rw [hd]; simp [eachD, k1]) hPa hc hC9 hm9 hask
      show qJ G F _ 4 M' 0 0 92 [(0, .ref a), (1, .int (nI j)), (2, .long v)] []
      refine q_goto X 152 dX2_change_92 (by decide) ?_
      exact q_vret X hr dX2_change_152 (⟨rfl, G9.1, G9.2⟩)
  · refine q_tableIn X 95 dX2_change_4 (by decide) (by decide) (by decide) (by decide) ?_
    refine q_aload_n X dX2_change_95 0 rfl ?_
    refine q_get X hA rfl in_RX2 6 (by decide) tw_760 rfl rfl dX2_change_96 ?_
    refine q_lconst (v := 0) X dX2_change_99 (by decide) ?_
    refine q_lcmp X dX2_change_100 ?_
    refine q_if_eq X 152 dX2_change_101 (by decide) (fun k0 => ?_) (fun k0 => ?_)
    · rw [lg_cmp_eq] at k0
      have k1 := k0
      exact q_vret X hr dX2_change_152 (⟨rfl, nInv_done h ha h9 (by rw [hd]; simp [eachD, k1]) hPa, nFr.rf G N M⟩)
    · have k1 : ¬ c = 0 := fun q => k0 ((lg_cmp_eq _ _).mpr q)
      refine q_aload_n X dX2_change_104 0 rfl ?_
      refine q_iload_n X dX2_change_105 1 rfl ?_
      refine q_lload_n X dX2_change_106 2 rfl ?_
      refine q_aload_n X dX2_change_107 0 rfl ?_
      refine q_get X hA rfl in_RX2 6 (by decide) tw_760 rfl rfl dX2_change_108 ?_
      refine q_lrem X dX2_change_111 (k1) ?_
      refine q_callU X (x := ⟨"GridVault$Each", "settle", "(IJ)V"⟩) (owner := "GridVault$Node") (ci := 3) (c_X5_settle (v := v - v / c * c) hs hc hj) Y_X5_settle tw_983 tw_984 (by decide) rfl (g_decl X tn_985) tw_987 ⟨_, rfl, tw_986⟩ hA (by omega) rfl rfl (Nat.le_of_ble_eq_true rfl) (rc' := 0) (rs' := 0) (Nat.le_refl _) (Nat.le_refl _) dX2_change_112 (fun v M' hp _ => ?_)
      obtain ⟨rfl, hC9, hm9⟩ := hp
      have G9 := nInv_set h ha h9 hj (by rw [hd]; simp [eachD, k1]) hPa hc hC9 hm9 hask
      show qJ G F _ 4 M' 0 0 115 [(0, .ref a), (1, .int (nI j)), (2, .long v)] []
      refine q_goto X 152 dX2_change_115 (by decide) ?_
      exact q_vret X hr dX2_change_152 (⟨rfl, G9.1, G9.2⟩)
  · refine q_tableIn X 118 dX2_change_4 (by decide) (by decide) (by decide) (by decide) ?_
    refine q_aload_n X dX2_change_118 0 rfl ?_
    refine q_iload_n X dX2_change_119 1 rfl ?_
    refine q_aload_n X dX2_change_120 0 rfl ?_
    refine q_get X hA rfl in_RX2 6 (by decide) tw_760 rfl rfl dX2_change_121 ?_
    refine q_lload_n X dX2_change_124 2 rfl ?_
    refine q_lsub X dX2_change_125 ?_
    refine q_callU X (x := ⟨"GridVault$Each", "settle", "(IJ)V"⟩) (owner := "GridVault$Node") (ci := 3) (c_X5_settle (v := c - v) hs hc hj) Y_X5_settle tw_983 tw_984 (by decide) rfl (g_decl X tn_985) tw_987 ⟨_, rfl, tw_986⟩ hA (by omega) rfl rfl (Nat.le_of_ble_eq_true rfl) (rc' := 0) (rs' := 0) (Nat.le_refl _) (Nat.le_refl _) dX2_change_126 (fun v M' hp _ => ?_)
    obtain ⟨rfl, hC9, hm9⟩ := hp
    have G9 := nInv_set h ha h9 hj (by rw [hd]; simp [eachD]) hPa hc hC9 hm9 hask
    show qJ G F _ 4 M' 0 0 129 [(0, .ref a), (1, .int (nI j)), (2, .long v)] []
    refine q_goto X 152 dX2_change_129 (by decide) ?_
    exact q_vret X hr dX2_change_152 (⟨rfl, G9.1, G9.2⟩)
  · refine q_tableIn X 132 dX2_change_4 (by decide) (by decide) (by decide) (by decide) ?_
    refine q_lload_n X dX2_change_132 2 rfl ?_
    refine q_lconst (v := 0) X dX2_change_133 (by decide) ?_
    refine q_lcmp X dX2_change_134 ?_
    refine q_if_eq X 152 dX2_change_135 (by decide) (fun k0 => ?_) (fun k0 => ?_)
    · rw [lg_cmp_eq] at k0
      have k1 := k0
      exact q_vret X hr dX2_change_152 (⟨rfl, nInv_done h ha h9 (by rw [hd]; simp [eachD, k1]) hPa, nFr.rf G N M⟩)
    · have k1 : ¬ v = 0 := fun q => k0 ((lg_cmp_eq _ _).mpr q)
      refine q_aload_n X dX2_change_138 0 rfl ?_
      refine q_iload_n X dX2_change_139 1 rfl ?_
      refine q_aload_n X dX2_change_140 0 rfl ?_
      refine q_get X hA rfl in_RX2 6 (by decide) tw_760 rfl rfl dX2_change_141 ?_
      refine q_lload_n X dX2_change_144 2 rfl ?_
      refine q_ldiv X dX2_change_145 (k1) ?_
      refine q_callU X (x := ⟨"GridVault$Each", "settle", "(IJ)V"⟩) (owner := "GridVault$Node") (ci := 3) (c_X5_settle (v := c / v) hs hc hj) Y_X5_settle tw_983 tw_984 (by decide) rfl (g_decl X tn_985) tw_987 ⟨_, rfl, tw_986⟩ hA (by omega) rfl rfl (Nat.le_of_ble_eq_true rfl) (rc' := 0) (rs' := 0) (Nat.le_refl _) (Nat.le_refl _) dX2_change_146 (fun v M' hp _ => ?_)
      obtain ⟨rfl, hC9, hm9⟩ := hp
      have G9 := nInv_set h ha h9 hj (by rw [hd]; simp [eachD, k1]) hPa hc hC9 hm9 hask
      show qJ G F _ 4 M' 0 0 149 [(0, .ref a), (1, .int (nI j)), (2, .long v)] []
      refine q_goto X 152 dX2_change_149 (by decide) ?_
      exact q_vret X hr dX2_change_152 (⟨rfl, G9.1, G9.2⟩)
