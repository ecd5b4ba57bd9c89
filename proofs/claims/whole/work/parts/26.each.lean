/-! apply and filter: GridVault$Each -/
/-- holds, at every node that is less deep than d -/
def HoldsC (l : Launch) (G : gV) (N : gN) (d : Nat) : Prop := ∀ (a : Nat) (M : gMem) (P : Nat → Nat → Prop) (i : Int32), nS N a → ndp N a < d → nInv G M N P → (∀ b j, P b j → ndp N a < ndp N b) → qC l G yX5_holds cX5_holds 5 (some .boolean) (10 + 4 * ndp N a) 0 0 [.ref a, .int i] M (hP G N M P a i)
theorem nAt_in {N : gN} {a : Nat} {i : Int32} (h5 : nsz N a ≤ 4096) (h : ¬ bI (nAt N a i).isSome = 0) : ∃ (j : Nat) (v : Int64), j < nsz N a ∧ i = nI j ∧ nden N a j = some v ∧ nAt N a i = some v := by
  have h1 := bI_ne h
  by_cases c : cIn (nsz N a) i = 0
  · unfold nAt at h1; rw [if_pos c] at h1; cases h1
  · obtain ⟨j, hj, rfl⟩ := cIn_of h5 c
    rw [nAt_N hj h5] at h1 ⊢
    obtain ⟨v, hv⟩ := Option.isSome_iff_exists.mp h1
    exact ⟨j, v, hj, rfl, hv, hv⟩
theorem nAt_no {N : gN} {a : Nat} {i : Int32} (h : bI (nAt N a i).isSome = 0) : nAt N a i = none := by
  have h1 := bI_fl h
  cases h2 : nAt N a i with
  | none => rfl
  | some v => rw [h2] at h1; cases h1
theorem pA_dp {N : gN} {P : Nat → Nat → Prop} {a s j : Nat} (hP0 : ∀ b i, P b i → ndp N a < ndp N b) (hd : ndp N s < ndp N a) : ∀ b i, pA P a j b i → ndp N s < ndp N b := fun b i p => by
  rcases p with p | ⟨rfl, -⟩
  · exact Nat.lt_trans hd (hP0 b i p)
  · exact hd
theorem pA_no {N : gN} {P : Nat → Nat → Prop} {a s j i : Nat} (hP0 : ∀ b i, P b i → ndp N a < ndp N b) (hd : ndp N s < ndp N a) : ¬ pA P a j s i := fun p => absurd (pA_dp hP0 hd s i p) (Nat.lt_irrefl _)

set_option maxRecDepth 20000 in
theorem c_X2_isKept {l : Launch} {G : gV} {M : gMem} {N : gN} {a s : Nat} {rule : Int32} {c v : Int64} (hA : M a = some (oB 3 [.ref (nsh N a), .int (nI (ndp N a)), .ref (nca N a), .ref (naa N a), .ref s, .int rule, .long c])) (hru : rule = 6 ∨ rule = 7 ∨ rule = 8 ∨ rule = 9) : qC l G yX2_isKept cX2_isKept 3 (some .boolean) 1 0 0 [.ref a, .long v] M (pP (.int (bI (eachD rule c v).isSome)) M) := by
  refine qC_of (by decide +kernel) (Nat.le_of_ble_eq_true rfl) (fun F hF X hr hn => ?_)
  subst hF
  have X : qX G F cX2_isKept 3 RX2 1 := X
  show qJ G F _ 3 M 0 0 0 [(0, .ref a), (1, .long v)] []
  refine q_aload_n X dX2_isKept_0 0 rfl ?_
  refine q_get X hA rfl in_RX2 5 (by decide) tw_762 rfl rfl dX2_isKept_1 ?_
  refine q_bipush (v := 6) X dX2_isKept_4 (by decide) ?_
  refine q_isub X dX2_isKept_6 ?_
  rcases hru with rfl | rfl | rfl | rfl
  · refine q_tableIn (off := 25) X 32 dX2_isKept_7 (by decide) (by decide) (by decide) (by decide) ?_
    refine q_lload_n X dX2_isKept_32 1 rfl ?_
    refine q_aload_n X dX2_isKept_33 0 rfl ?_
    refine q_get X hA rfl in_RX2 6 (by decide) tw_763 rfl rfl dX2_isKept_34 ?_
    refine q_lcmp X dX2_isKept_37 ?_
    refine q_if_ne X 45 dX2_isKept_38 (by decide) (fun k1 => ?_) (fun k1 => ?_)
    · refine q_iconst (v := 0) X dX2_isKept_45 (by decide) ?_
      exact q_zret X hr (by decide) dX2_isKept_46 (⟨congrArg (fun z => some (Value.int z)) (by simp only [lg_cmp_eq, lg_cmp_ge, lg_cmp_lt] at k1; simp [eachD, bI, k1, Int64.not_lt, Int64.not_le] <;> first | done | exact Int64.not_lt.mp k1 | exact Int64.not_le.mp k1), rfl⟩)
    · refine q_iconst (v := 1) X dX2_isKept_41 (by decide) ?_
      refine q_goto X 46 dX2_isKept_42 (by decide) ?_
      exact q_zret X hr (by decide) dX2_isKept_46 (⟨congrArg (fun z => some (Value.int z)) (by simp only [lg_cmp_eq, lg_cmp_ge, lg_cmp_lt] at k1; simp [eachD, bI, k1, Int64.not_lt, Int64.not_le] <;> first | done | exact Int64.not_lt.mp k1 | exact Int64.not_le.mp k1), rfl⟩)
  · refine q_tableIn (off := 40) X 47 dX2_isKept_7 (by decide) (by decide) (by decide) (by decide) ?_
    refine q_lload_n X dX2_isKept_47 1 rfl ?_
    refine q_aload_n X dX2_isKept_48 0 rfl ?_
    refine q_get X hA rfl in_RX2 6 (by decide) tw_763 rfl rfl dX2_isKept_49 ?_
    refine q_lcmp X dX2_isKept_52 ?_
    refine q_if_eq X 60 dX2_isKept_53 (by decide) (fun k1 => ?_) (fun k1 => ?_)
    · refine q_iconst (v := 0) X dX2_isKept_60 (by decide) ?_
      exact q_zret X hr (by decide) dX2_isKept_61 (⟨congrArg (fun z => some (Value.int z)) (by simp only [lg_cmp_eq, lg_cmp_ge, lg_cmp_lt] at k1; simp [eachD, bI, k1, Int64.not_lt, Int64.not_le] <;> first | done | exact Int64.not_lt.mp k1 | exact Int64.not_le.mp k1), rfl⟩)
    · refine q_iconst (v := 1) X dX2_isKept_56 (by decide) ?_
      refine q_goto X 61 dX2_isKept_57 (by decide) ?_
      exact q_zret X hr (by decide) dX2_isKept_61 (⟨congrArg (fun z => some (Value.int z)) (by simp only [lg_cmp_eq, lg_cmp_ge, lg_cmp_lt] at k1; simp [eachD, bI, k1, Int64.not_lt, Int64.not_le] <;> first | done | exact Int64.not_lt.mp k1 | exact Int64.not_le.mp k1), rfl⟩)
  · refine q_tableIn (off := 55) X 62 dX2_isKept_7 (by decide) (by decide) (by decide) (by decide) ?_
    refine q_lload_n X dX2_isKept_62 1 rfl ?_
    refine q_aload_n X dX2_isKept_63 0 rfl ?_
    refine q_get X hA rfl in_RX2 6 (by decide) tw_763 rfl rfl dX2_isKept_64 ?_
    refine q_lcmp X dX2_isKept_67 ?_
    refine q_if_ge X 75 dX2_isKept_68 (by decide) (fun k1 => ?_) (fun k1 => ?_)
    · refine q_iconst (v := 0) X dX2_isKept_75 (by decide) ?_
      exact q_zret X hr (by decide) dX2_isKept_76 (⟨congrArg (fun z => some (Value.int z)) (by simp only [lg_cmp_eq, lg_cmp_ge, lg_cmp_lt] at k1; simp [eachD, bI, k1, Int64.not_lt, Int64.not_le] <;> first | done | exact Int64.not_lt.mp k1 | exact Int64.not_le.mp k1), rfl⟩)
    · refine q_iconst (v := 1) X dX2_isKept_71 (by decide) ?_
      refine q_goto X 76 dX2_isKept_72 (by decide) ?_
      exact q_zret X hr (by decide) dX2_isKept_76 (⟨congrArg (fun z => some (Value.int z)) (by simp only [lg_cmp_eq, lg_cmp_ge, lg_cmp_lt] at k1; simp [eachD, bI, k1, Int64.not_lt, Int64.not_le] <;> first | done | exact Int64.not_lt.mp k1 | exact Int64.not_le.mp k1), rfl⟩)
  · refine q_tableOut X 77 dX2_isKept_7 (by decide) (by decide) ?_
    refine q_lload_n X dX2_isKept_77 1 rfl ?_
    refine q_aload_n X dX2_isKept_78 0 rfl ?_
    refine q_get X hA rfl in_RX2 6 (by decide) tw_763 rfl rfl dX2_isKept_79 ?_
    refine q_lcmp X dX2_isKept_82 ?_
    refine q_if_lt X 90 dX2_isKept_83 (by decide) (fun k1 => ?_) (fun k1 => ?_)
    · refine q_iconst (v := 0) X dX2_isKept_90 (by decide) ?_
      exact q_zret X hr (by decide) dX2_isKept_91 (⟨congrArg (fun z => some (Value.int z)) (by simp only [lg_cmp_eq, lg_cmp_ge, lg_cmp_lt] at k1; simp [eachD, bI, k1, Int64.not_lt, Int64.not_le] <;> first | done | exact Int64.not_lt.mp k1 | exact Int64.not_le.mp k1), rfl⟩)
    · refine q_iconst (v := 1) X dX2_isKept_86 (by decide) ?_
      refine q_goto X 91 dX2_isKept_87 (by decide) ?_
      exact q_zret X hr (by decide) dX2_isKept_91 (⟨congrArg (fun z => some (Value.int z)) (by simp only [lg_cmp_eq, lg_cmp_ge, lg_cmp_lt] at k1; simp [eachD, bI, k1, Int64.not_lt, Int64.not_le] <;> first | done | exact Int64.not_lt.mp k1 | exact Int64.not_le.mp k1), rfl⟩)

set_option maxRecDepth 20000 in
theorem c_X2_change {l : Launch} {G : gV} {M : gMem} {N : gN} {P : Nat → Nat → Prop} {a s j k : Nat} {rule : Int32} {c v : Int64} (h : nInv G M N (pA P a j)) (ha : nS N a) (hj : j < nsz N a) (hask : nAsk G M N a j) (hP0 : ∀ b i, P b i → ndp N a < ndp N b) (h9 : nci N a ≠ 9) (hA : M a = some (oB 3 [.ref (nsh N a), .int (nI (ndp N a)), .ref (nca N a), .ref (naa N a), .ref s, .int rule, .long c])) (hru : rule = 0 ∨ rule = 1 ∨ rule = 2 ∨ rule = 3 ∨ rule = 4 ∨ rule = 5) (hd : nden N a j = eachD rule c v) : qC l G yX2_change cX2_change 4 none (k + 5) 0 0 [.ref a, .int (nI j), .long v] M (wP G N a M P) := by
  refine qC_of (by decide +kernel) (Nat.le_of_ble_eq_true rfl) (fun F hF X hr hn => ?_)
  subst hF
  have X : qX G F cX2_change 4 RX2 (k + 5) := X
  have hPa : ∀ i, ¬ P a i := fun i p => absurd (hP0 a i p) (Nat.lt_irrefl _)
  obtain ⟨hs, -, cf, ak, hc, -⟩ := h.1 a ha
  show qJ G F _ 4 M 0 0 0 [(0, .ref a), (1, .int (nI j)), (2, .long v)] []
  refine q_aload_n X dX2_change_0 0 rfl ?_
  refine q_get X hA rfl in_RX2 5 (by decide) tw_762 rfl rfl dX2_change_1 ?_
  rcases hru with rfl | rfl | rfl | rfl | rfl | rfl
  · refine q_tableIn (off := 40) X 44 dX2_change_4 (by decide) (by decide) (by decide) (by decide) ?_
    refine q_aload_n X dX2_change_44 0 rfl ?_
    refine q_iload_n X dX2_change_45 1 rfl ?_
    refine q_lload_n X dX2_change_46 2 rfl ?_
    refine q_aload_n X dX2_change_47 0 rfl ?_
    refine q_get X hA rfl in_RX2 6 (by decide) tw_763 rfl rfl dX2_change_48 ?_
    refine q_ladd X dX2_change_51 ?_
    refine q_callU X (x := ⟨"GridVault$Each", "settle", "(IJ)V"⟩) (owner := "GridVault$Node") (ci := 3) (c_X5_settle (v := v + c) hs hc hj) Y_X5_settle tw_986 tw_987 (by decide) rfl (g_decl X tn_988) tw_990 ⟨_, rfl, tw_989⟩ hA (by omega) rfl rfl (Nat.le_of_ble_eq_true rfl) (rc' := 0) (rs' := 0) (Nat.le_refl _) (Nat.le_refl _) dX2_change_52 (fun v M' hp _ => ?_)
    obtain ⟨rfl, hC9, hm9⟩ := hp
    have G9 := nInv_set h ha h9 hj (by rw [hd]; simp [eachD]) hPa hc hC9 hm9 hask
    show qJ G F _ 4 M' 0 0 55 [(0, .ref a), (1, .int (nI j)), (2, .long v)] []
    refine q_goto X 152 dX2_change_55 (by decide) ?_
    exact q_vret X hr dX2_change_152 (⟨rfl, G9.1, G9.2⟩)
  · refine q_tableIn (off := 54) X 58 dX2_change_4 (by decide) (by decide) (by decide) (by decide) ?_
    refine q_aload_n X dX2_change_58 0 rfl ?_
    refine q_iload_n X dX2_change_59 1 rfl ?_
    refine q_lload_n X dX2_change_60 2 rfl ?_
    refine q_aload_n X dX2_change_61 0 rfl ?_
    refine q_get X hA rfl in_RX2 6 (by decide) tw_763 rfl rfl dX2_change_62 ?_
    refine q_lmul X dX2_change_65 ?_
    refine q_callU X (x := ⟨"GridVault$Each", "settle", "(IJ)V"⟩) (owner := "GridVault$Node") (ci := 3) (c_X5_settle (v := v * c) hs hc hj) Y_X5_settle tw_986 tw_987 (by decide) rfl (g_decl X tn_988) tw_990 ⟨_, rfl, tw_989⟩ hA (by omega) rfl rfl (Nat.le_of_ble_eq_true rfl) (rc' := 0) (rs' := 0) (Nat.le_refl _) (Nat.le_refl _) dX2_change_66 (fun v M' hp _ => ?_)
    obtain ⟨rfl, hC9, hm9⟩ := hp
    have G9 := nInv_set h ha h9 hj (by rw [hd]; simp [eachD]) hPa hc hC9 hm9 hask
    show qJ G F _ 4 M' 0 0 69 [(0, .ref a), (1, .int (nI j)), (2, .long v)] []
    refine q_goto X 152 dX2_change_69 (by decide) ?_
    exact q_vret X hr dX2_change_152 (⟨rfl, G9.1, G9.2⟩)
  · refine q_tableIn (off := 68) X 72 dX2_change_4 (by decide) (by decide) (by decide) (by decide) ?_
    refine q_aload_n X dX2_change_72 0 rfl ?_
    refine q_get X hA rfl in_RX2 6 (by decide) tw_763 rfl rfl dX2_change_73 ?_
    refine q_lconst (v := 0) X dX2_change_76 (by decide) ?_
    refine q_lcmp X dX2_change_77 ?_
    refine q_if_eq X 152 dX2_change_78 (by decide) (fun k0 => ?_) (fun k0 => ?_)
    · rw [lg_cmp_eq] at k0
      have k1 := k0
      exact q_vret X hr dX2_change_152 (⟨rfl, nInv_done h ha h9 (by rw [hd]; simp [eachD, k1]) hPa, nFr.rf G N _ M⟩)
    · have k1 : ¬ c = 0 := fun q => k0 ((lg_cmp_eq _ _).mpr q)
      refine q_aload_n X dX2_change_81 0 rfl ?_
      refine q_iload_n X dX2_change_82 1 rfl ?_
      refine q_lload_n X dX2_change_83 2 rfl ?_
      refine q_aload_n X dX2_change_84 0 rfl ?_
      refine q_get X hA rfl in_RX2 6 (by decide) tw_763 rfl rfl dX2_change_85 ?_
      refine q_ldiv X dX2_change_88 (k1) ?_
      refine q_callU X (x := ⟨"GridVault$Each", "settle", "(IJ)V"⟩) (owner := "GridVault$Node") (ci := 3) (c_X5_settle (v := v / c) hs hc hj) Y_X5_settle tw_986 tw_987 (by decide) rfl (g_decl X tn_988) tw_990 ⟨_, rfl, tw_989⟩ hA (by omega) rfl rfl (Nat.le_of_ble_eq_true rfl) (rc' := 0) (rs' := 0) (Nat.le_refl _) (Nat.le_refl _) dX2_change_89 (fun v M' hp _ => ?_)
      obtain ⟨rfl, hC9, hm9⟩ := hp
      have G9 := nInv_set h ha h9 hj (by rw [hd]; simp [eachD, k1]) hPa hc hC9 hm9 hask
      show qJ G F _ 4 M' 0 0 92 [(0, .ref a), (1, .int (nI j)), (2, .long v)] []
      refine q_goto X 152 dX2_change_92 (by decide) ?_
      exact q_vret X hr dX2_change_152 (⟨rfl, G9.1, G9.2⟩)
  · refine q_tableIn (off := 91) X 95 dX2_change_4 (by decide) (by decide) (by decide) (by decide) ?_
    refine q_aload_n X dX2_change_95 0 rfl ?_
    refine q_get X hA rfl in_RX2 6 (by decide) tw_763 rfl rfl dX2_change_96 ?_
    refine q_lconst (v := 0) X dX2_change_99 (by decide) ?_
    refine q_lcmp X dX2_change_100 ?_
    refine q_if_eq X 152 dX2_change_101 (by decide) (fun k0 => ?_) (fun k0 => ?_)
    · rw [lg_cmp_eq] at k0
      have k1 := k0
      exact q_vret X hr dX2_change_152 (⟨rfl, nInv_done h ha h9 (by rw [hd]; simp [eachD, k1]) hPa, nFr.rf G N _ M⟩)
    · have k1 : ¬ c = 0 := fun q => k0 ((lg_cmp_eq _ _).mpr q)
      refine q_aload_n X dX2_change_104 0 rfl ?_
      refine q_iload_n X dX2_change_105 1 rfl ?_
      refine q_lload_n X dX2_change_106 2 rfl ?_
      refine q_aload_n X dX2_change_107 0 rfl ?_
      refine q_get X hA rfl in_RX2 6 (by decide) tw_763 rfl rfl dX2_change_108 ?_
      refine q_lrem X dX2_change_111 (k1) ?_
      refine q_callU X (x := ⟨"GridVault$Each", "settle", "(IJ)V"⟩) (owner := "GridVault$Node") (ci := 3) (c_X5_settle (v := v - v / c * c) hs hc hj) Y_X5_settle tw_986 tw_987 (by decide) rfl (g_decl X tn_988) tw_990 ⟨_, rfl, tw_989⟩ hA (by omega) rfl rfl (Nat.le_of_ble_eq_true rfl) (rc' := 0) (rs' := 0) (Nat.le_refl _) (Nat.le_refl _) dX2_change_112 (fun v M' hp _ => ?_)
      obtain ⟨rfl, hC9, hm9⟩ := hp
      have G9 := nInv_set h ha h9 hj (by rw [hd]; simp [eachD, k1]) hPa hc hC9 hm9 hask
      show qJ G F _ 4 M' 0 0 115 [(0, .ref a), (1, .int (nI j)), (2, .long v)] []
      refine q_goto X 152 dX2_change_115 (by decide) ?_
      exact q_vret X hr dX2_change_152 (⟨rfl, G9.1, G9.2⟩)
  · refine q_tableIn (off := 114) X 118 dX2_change_4 (by decide) (by decide) (by decide) (by decide) ?_
    refine q_aload_n X dX2_change_118 0 rfl ?_
    refine q_iload_n X dX2_change_119 1 rfl ?_
    refine q_aload_n X dX2_change_120 0 rfl ?_
    refine q_get X hA rfl in_RX2 6 (by decide) tw_763 rfl rfl dX2_change_121 ?_
    refine q_lload_n X dX2_change_124 2 rfl ?_
    refine q_lsub X dX2_change_125 ?_
    refine q_callU X (x := ⟨"GridVault$Each", "settle", "(IJ)V"⟩) (owner := "GridVault$Node") (ci := 3) (c_X5_settle (v := c - v) hs hc hj) Y_X5_settle tw_986 tw_987 (by decide) rfl (g_decl X tn_988) tw_990 ⟨_, rfl, tw_989⟩ hA (by omega) rfl rfl (Nat.le_of_ble_eq_true rfl) (rc' := 0) (rs' := 0) (Nat.le_refl _) (Nat.le_refl _) dX2_change_126 (fun v M' hp _ => ?_)
    obtain ⟨rfl, hC9, hm9⟩ := hp
    have G9 := nInv_set h ha h9 hj (by rw [hd]; simp [eachD]) hPa hc hC9 hm9 hask
    show qJ G F _ 4 M' 0 0 129 [(0, .ref a), (1, .int (nI j)), (2, .long v)] []
    refine q_goto X 152 dX2_change_129 (by decide) ?_
    exact q_vret X hr dX2_change_152 (⟨rfl, G9.1, G9.2⟩)
  · refine q_tableIn (off := 128) X 132 dX2_change_4 (by decide) (by decide) (by decide) (by decide) ?_
    refine q_lload_n X dX2_change_132 2 rfl ?_
    refine q_lconst (v := 0) X dX2_change_133 (by decide) ?_
    refine q_lcmp X dX2_change_134 ?_
    refine q_if_eq X 152 dX2_change_135 (by decide) (fun k0 => ?_) (fun k0 => ?_)
    · rw [lg_cmp_eq] at k0
      have k1 := k0
      exact q_vret X hr dX2_change_152 (⟨rfl, nInv_done h ha h9 (by rw [hd]; simp [eachD, k1]) hPa, nFr.rf G N _ M⟩)
    · have k1 : ¬ v = 0 := fun q => k0 ((lg_cmp_eq _ _).mpr q)
      refine q_aload_n X dX2_change_138 0 rfl ?_
      refine q_iload_n X dX2_change_139 1 rfl ?_
      refine q_aload_n X dX2_change_140 0 rfl ?_
      refine q_get X hA rfl in_RX2 6 (by decide) tw_763 rfl rfl dX2_change_141 ?_
      refine q_lload_n X dX2_change_144 2 rfl ?_
      refine q_ldiv X dX2_change_145 (k1) ?_
      refine q_callU X (x := ⟨"GridVault$Each", "settle", "(IJ)V"⟩) (owner := "GridVault$Node") (ci := 3) (c_X5_settle (v := c / v) hs hc hj) Y_X5_settle tw_986 tw_987 (by decide) rfl (g_decl X tn_988) tw_990 ⟨_, rfl, tw_989⟩ hA (by omega) rfl rfl (Nat.le_of_ble_eq_true rfl) (rc' := 0) (rs' := 0) (Nat.le_refl _) (Nat.le_refl _) dX2_change_146 (fun v M' hp _ => ?_)
      obtain ⟨rfl, hC9, hm9⟩ := hp
      have G9 := nInv_set h ha h9 hj (by rw [hd]; simp [eachD, k1]) hPa hc hC9 hm9 hask
      show qJ G F _ 4 M' 0 0 149 [(0, .ref a), (1, .int (nI j)), (2, .long v)] []
      refine q_goto X 152 dX2_change_149 (by decide) ?_
      exact q_vret X hr dX2_change_152 (⟨rfl, G9.1, G9.2⟩)

theorem ru_lt {rule : Int32} (h : ∃ r : Nat, r ≤ 9 ∧ rule = nI r) (k : ¬ 6 ≤ rule) : rule = 0 ∨ rule = 1 ∨ rule = 2 ∨ rule = 3 ∨ rule = 4 ∨ rule = 5 := by
  obtain ⟨r, hr, rfl⟩ := h
  have h1 : r < 6 := Nat.lt_of_not_le (fun q => k (by rw [show (6 : Int32) = nI 6 from rfl]; exact nI_le q (by omega)))
  rcases (show r = 0 ∨ r = 1 ∨ r = 2 ∨ r = 3 ∨ r = 4 ∨ r = 5 by omega) with rfl | rfl | rfl | rfl | rfl | rfl <;> decide
theorem ru_ge {rule : Int32} (h : ∃ r : Nat, r ≤ 9 ∧ rule = nI r) (k : 6 ≤ rule) : rule = 6 ∨ rule = 7 ∨ rule = 8 ∨ rule = 9 := by
  obtain ⟨r, hr, rfl⟩ := h
  have h1 : 6 ≤ r := Nat.le_of_not_lt (fun q => absurd k (by rw [show (6 : Int32) = nI 6 from rfl]; exact nI_ge q (by omega)))
  rcases (show r = 6 ∨ r = 7 ∨ r = 8 ∨ r = 9 by omega) with rfl | rfl | rfl | rfl <;> decide
theorem each_some {rule : Int32} {c v w : Int64} (h : rule = 6 ∨ rule = 7 ∨ rule = 8 ∨ rule = 9) (he : eachD rule c v = some w) : w = v := by
  rcases h with rfl | rfl | rfl | rfl <;> simp only [eachD] at he
  · simp at he; exact he.2.symm
  · simp at he; exact he.2.symm
  · simp at he; exact he.2.symm
  · simp at he; exact he.2.symm

set_option maxRecDepth 20000 in
theorem c_X2_work {l : Launch} {G : gV} {M : gMem} {N : gN} {P : Nat → Nat → Prop} {a s j : Nat} {rule : Int32} {c : Int64} (H : HoldsC l G N (ndp N a)) (h : nInv G M N (pA P a j)) (ha : nS N a) (hj : j < nsz N a) (hask : nAsk G M N a j) (hP0 : ∀ b i, P b i → ndp N a < ndp N b) (e0 : nci N a = 3) (ex : nex N a = [.ref s, .int rule, .long c]) (hs1 : nS N s) (hd1 : ndp N s < ndp N a) (hr0 : ∃ r : Nat, r ≤ 9 ∧ rule = nI r) (hden : nden N a j = (nAt N s (nI j)).bind (eachD rule c)) : qC l G yX2_work cX2_work 4 none (9 + 4 * ndp N a) 0 0 [.ref a, .int (nI j)] M (wP G N a M P) := by
  refine qC_of (by decide +kernel) (Nat.le_of_ble_eq_true rfl) (fun F hF X hr hn => ?_)
  subst hF
  have X : qX G F cX2_work 4 RX2 (9 + 4 * ndp N a) := X
  have hPa : ∀ i, ¬ P a i := fun i p => absurd (hP0 a i p) (Nat.lt_irrefl _)
  have h9 : nci N a ≠ 9 := by rw [e0]; decide
  have hsa := (h.1 a ha).1
  have hss := (h.1 s hs1).1
  have hA : M a = some (oB 3 [.ref (nsh N a), .int (nI (ndp N a)), .ref (nca N a), .ref (naa N a), .ref s, .int rule, .long c]) := by rw [hsa.2.1, e0, ex]
  have z1 : nsz N s ≤ 4096 := hss.2.2.2.2.1
  have z2 : nsz N a ≤ 4096 := hsa.2.2.2.2.1
  show qJ G F _ 4 M 0 0 0 [(0, .ref a), (1, .int (nI j))] []
  refine q_aload_n X dX2_work_0 0 rfl ?_
  refine q_get X hA rfl in_RX2 4 (by decide) tw_761 rfl rfl dX2_work_1 ?_
  refine q_iload_n X dX2_work_4 1 rfl ?_
  refine q_callU X (x := ⟨"GridVault$Node", "holds", "(I)Z"⟩) (owner := "GridVault$Node") (ci := nci N s) (H s M _ (nI j) hs1 hd1 h (pA_dp hP0 hd1)) Y_X5_holds tw_970 tw_955 (by decide) rfl (g_declC X tw_954 tw_962) tw_954 (se_X5_holds hss.1) hss.2.1 (by omega) rfl rfl (Nat.le_of_ble_eq_true rfl) (rc' := 0) (rs' := 0) (Nat.le_refl _) (Nat.le_refl _) dX2_work_5 (fun v M' hp _ => ?_)
  obtain ⟨rfl, h1, hf1, hq1⟩ := hp
  have hf1 := hf1.mono (Nat.le_of_lt hd1)
  generalize M' = M1 at *
  have hA1 : M1 a = some (oB 3 [.ref (nsh N a), .int (nI (ndp N a)), .ref (nca N a), .ref (naa N a), .ref s, .int rule, .long c]) := (hf1.1 a (nAdr_obj h hA (by decide))).trans hA
  have hss1 := (h1.1 s hs1).1
  have hsa1 := (h1.1 a ha).1
  show qJ G F _ 4 M1 0 0 8 [(0, .ref a), (1, .int (nI j))] [.int (bI (nAt N s (nI j)).isSome)]
  refine q_if_ne X 12 dX2_work_8 (by decide) (fun k1 => ?_) (fun k1 => ?_)
  · obtain ⟨j2, v, hj2, e2, hv, hat⟩ := nAt_in z1 k1
    obtain rfl : j = j2 := (nI_eq (by omega) (by omega)).mp e2
    have hd : nden N a j = eachD rule c v := by rw [hden, hat]; rfl
    have hk1 := hf1.2 a ha j hask
    refine q_aload_n X dX2_work_12 0 rfl ?_
    refine q_get X hA1 rfl in_RX2 4 (by decide) tw_761 rfl rfl dX2_work_13 ?_
    refine q_iload_n X dX2_work_16 1 rfl ?_
    refine q_callUp X (x := ⟨"GridVault$Node", "number", "(I)J"⟩) (owner := "GridVault$Node") (ci := nci N s) (nNum h1 hs1 hj2 (hq1 j hj2 rfl) (pA_no hP0 hd1)) Y_X5_number tw_971 tw_973 (by decide) rfl (g_declC X tw_972 tw_980) tw_972 (se_X5_number hss1.1) hss1.2.1 (by omega) rfl rfl (Nat.le_of_ble_eq_true rfl) dX2_work_17 ?_
    rw [show (nden N s j).getD 0 = v by rw [hv]; rfl]
    refine q_lstore_n (lv' := [(2, .long v), (0, .ref a), (1, .int (nI j))]) X dX2_work_20 (by decide) rfl ?_
    refine q_aload_n X dX2_work_21 1 rfl ?_
    refine q_get X hA1 rfl in_RX2 5 (by decide) tw_762 rfl rfl dX2_work_22 ?_
    refine q_bipush (v := 6) X dX2_work_25 (by decide) ?_
    refine q_icmp_ge X 39 dX2_work_27 (by decide) (fun k2 => ?_) (fun k2 => ?_)
    · refine q_aload_n X dX2_work_39 1 rfl ?_
      refine q_lload_n X dX2_work_40 0 rfl ?_
      refine q_callVp X (c_X2_isKept hA1 (ru_ge hr0 k2)) Y_X2_isKept tw_993 tw_995 sel_15 hA1 rfl (by omega) rfl rfl (Nat.le_of_ble_eq_true rfl) dX2_work_41 ?_
      refine q_if_eq X 53 dX2_work_44 (by decide) (fun k3 => ?_) (fun k3 => ?_)
      · exact q_vret X hr dX2_work_53 (⟨rfl, nInv_done h1 ha h9 (by first | (rw [hden, nAt_no k1]; rfl) | (rw [hd]; exact Option.isSome_eq_false_iff.mp (bI_fl k3) |> Option.isNone_iff_eq_none.mp)) hPa, hf1⟩)
      · refine q_aload_n X dX2_work_47 1 rfl ?_
        refine q_iload_n X dX2_work_48 2 rfl ?_
        refine q_lload_n X dX2_work_49 0 rfl ?_
        obtain ⟨-, -, cf9, ak9, hc9, -⟩ := h1.1 a ha
        refine q_callU X (x := ⟨"GridVault$Each", "settle", "(IJ)V"⟩) (owner := "GridVault$Node") (ci := 3) (c_X5_settle (v := v) hsa1 hc9 hj) Y_X5_settle tw_986 tw_987 (by decide) rfl (g_decl X tn_988) tw_990 ⟨_, rfl, tw_989⟩ hA1 (by omega) rfl rfl (Nat.le_of_ble_eq_true rfl) (rc' := 0) (rs' := 0) (Nat.le_refl _) (Nat.le_refl _) dX2_work_50 (fun v M' hp _ => ?_)
        obtain ⟨rfl, hC9, hm9⟩ := hp
        have hvv : nden N a j = some v := by obtain ⟨w, hw⟩ := Option.isSome_iff_exists.mp (bI_ne k3); rw [hd, hw, each_some (ru_ge hr0 k2) hw]
        have G9 := nInv_set h1 ha h9 hj hvv hPa hc9 hC9 hm9 hk1
        have g1 := G9.1
        have g2 := G9.2
        show qJ G F _ 4 M' 0 0 53 [(2, .long v), (0, .ref a), (1, .int (nI j))] []
        exact q_vret X hr dX2_work_53 (⟨rfl, g1, hf1.trans g2⟩)
    · refine q_aload_n X dX2_work_30 1 rfl ?_
      refine q_iload_n X dX2_work_31 2 rfl ?_
      refine q_lload_n X dX2_work_32 0 rfl ?_
      refine q_callV X (c_X2_change (k := 4 * ndp N a + 3) h1 ha hj hk1 hP0 h9 hA1 (ru_lt hr0 k2) hd) Y_X2_change tw_982 tw_984 sel_14 hA1 rfl (by omega) rfl rfl (Nat.le_of_ble_eq_true rfl) (rc' := 0) (rs' := 0) (Nat.le_refl _) (Nat.le_refl _) dX2_work_33 (fun v M' hp _ => ?_)
      obtain ⟨rfl, g1, g2⟩ := hp
      show qJ G F _ 4 M' 0 0 36 [(2, .long v), (0, .ref a), (1, .int (nI j))] []
      refine q_goto X 53 dX2_work_36 (by decide) ?_
      exact q_vret X hr dX2_work_53 (⟨rfl, g1, hf1.trans g2⟩)
  · exact q_vret X hr dX2_work_11 (⟨rfl, nInv_done h1 ha h9 (by first | (rw [hden, nAt_no k1]; rfl) | (rw [hd]; exact Option.isSome_eq_false_iff.mp (bI_fl k3) |> Option.isNone_iff_eq_none.mp)) hPa, hf1⟩)
