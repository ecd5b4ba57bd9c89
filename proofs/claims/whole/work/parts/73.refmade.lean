/-! large, copied, made -/

set_option maxRecDepth 20000 in
theorem c_large_n {l : Launch} {G : gV} {M : gMem} {r : Nat} {e : Int32} {σ : sA} {vA nA pA plA dg dla dha dva dza : Nat} {dvf : Nat → Int64} {dzf : Nat → Int32} {vf nf : Nat → Option Nat} {pf : Nat → Int32} {tk : Int32} {su le gr : Int64} (hB : rfB G M r e σ vA nA pA plA dg dla dha dva dza dvf dzf vf nf pf tk su le gr) {q la ha m dp : Nat} {w4 w5 : Value} {lo hi : Nat → Int32} (hO : okS m lo hi) (hd : dp ≤ 40) (hA : M q = some (oB 12 [.int (nI m), .int (nI (dp + 1)), .ref la, .ref ha, w4, w5])) (h1 : M la = some (aI G 3 lo)) (h2 : M ha = some (aI G 3 hi)) (hq : ¬ (¬ sWithin lo hi = 0 ∧ nI dp < 40)) : qC l G yX13_large cX13_large 6 (some .boolean) 3 0 0 [.ref r, .ref q] M (fun v M' => v = some (.int 1) ∧ M' = mU M r (rfO 3 vA nA pA plA dg σ tk su le gr)) := by
  refine qC_of (by decide +kernel) (Nat.le_of_ble_eq_true rfl) (fun F hF X hr hn => ?_)
  subst hF
  have X : qX G F cX13_large 6 RX13 3 := X
  show qJ G F _ 6 M 0 0 0 [(0, .ref r), (1, .ref q)] []
  refine q_lconst (v := 1) X dX13_large_0 (by decide) ?_
  refine q_lstore_n (lv' := [(2, .long 1), (0, .ref r), (1, .ref q)]) X dX13_large_1 (by decide) rfl ?_
  refine q_aload_n X dX13_large_2 2 rfl ?_
  refine q_get X hA rfl in_RX12 1 (by decide) tw_1157 rfl rfl dX13_large_3 ?_
  refine q_bipush (v := 40) X dX13_large_6 (by decide) ?_
  refine q_icmp_le X 15 dX13_large_8 (by decide) (fun c_1 => ?_) (fun c_1 => ?_)
  · refine q_iconst (v := 0) X dX13_large_15 (by decide) ?_
    refine q_istore (lv' := [(4, .int 0), (2, .long 1), (0, .ref r), (1, .ref q)]) X dX13_large_16 (by decide) rfl ?_
    refine q_iconst (v := 0) X dX13_large_18 (by decide) ?_
    refine q_istore (lv' := [(5, .int 0), (4, .int 0), (2, .long 1), (0, .ref r), (1, .ref q)]) X dX13_large_19 (by decide) rfl ?_
    refine q_iload X dX13_large_21 0 rfl ?_
    refine q_iconst (v := 3) X dX13_large_23 (by decide) ?_
    refine q_icmp_ge X 57 dX13_large_24 (by decide) (fun c_2 => absurd c_2 (by decide)) (fun c_2 => ?_)
    refine q_aload_n X dX13_large_27 4 rfl ?_
    refine q_iload X dX13_large_28 0 rfl ?_
    refine q_callVp X (c_X12_size hA h1 h2 0 (by decide) (by decide)) Y_X12_size tw_1314 tw_1188 tw_1189 hA rfl (by omega) rfl rfl (Nat.le_of_ble_eq_true rfl) dX13_large_30 ?_
    refine q_bipush (v := 40) X dX13_large_33 (by decide) ?_
    refine q_icmp_le X 41 dX13_large_35 (by decide) (fun c_3 => ?_) (fun c_3 => ?_)
    · refine q_lload_n X dX13_large_41 2 rfl ?_
      refine q_aload_n X dX13_large_42 4 rfl ?_
      refine q_iload X dX13_large_43 0 rfl ?_
      refine q_callVp X (c_X12_size hA h1 h2 0 (by decide) (by decide)) Y_X12_size tw_1314 tw_1188 tw_1189 hA rfl (by omega) rfl rfl (Nat.le_of_ble_eq_true rfl) dX13_large_45 ?_
      refine q_i2l X dX13_large_48 ?_
      refine q_lmul X dX13_large_49 ?_
      refine q_lstore_n (lv' := [(2, .long (1 * ((sL lo hi 0).toInt64))), (5, .int 0), (4, .int 0), (0, .ref r), (1, .ref q)]) X dX13_large_50 (by decide) rfl ?_
      refine q_iinc (v := 1) (lv' := [(5, .int 1), (2, .long (1 * ((sL lo hi 0).toInt64))), (4, .int 0), (0, .ref r), (1, .ref q)]) X dX13_large_51 1 rfl (by decide) (by decide) rfl ?_
      refine q_goto X 21 dX13_large_54 (by decide) ?_
      refine q_iload X dX13_large_21 0 rfl ?_
      refine q_iconst (v := 3) X dX13_large_23 (by decide) ?_
      refine q_icmp_ge X 57 dX13_large_24 (by decide) (fun c_4 => absurd c_4 (by decide)) (fun c_4 => ?_)
      refine q_aload_n X dX13_large_27 4 rfl ?_
      refine q_iload X dX13_large_28 0 rfl ?_
      refine q_callVp X (c_X12_size hA h1 h2 1 (by decide) (by decide)) Y_X12_size tw_1314 tw_1188 tw_1189 hA rfl (by omega) rfl rfl (Nat.le_of_ble_eq_true rfl) dX13_large_30 ?_
      refine q_bipush (v := 40) X dX13_large_33 (by decide) ?_
      refine q_icmp_le X 41 dX13_large_35 (by decide) (fun c_5 => ?_) (fun c_5 => ?_)
      · refine q_lload_n X dX13_large_41 1 rfl ?_
        refine q_aload_n X dX13_large_42 4 rfl ?_
        refine q_iload X dX13_large_43 0 rfl ?_
        refine q_callVp X (c_X12_size hA h1 h2 1 (by decide) (by decide)) Y_X12_size tw_1314 tw_1188 tw_1189 hA rfl (by omega) rfl rfl (Nat.le_of_ble_eq_true rfl) dX13_large_45 ?_
        refine q_i2l X dX13_large_48 ?_
        refine q_lmul X dX13_large_49 ?_
        refine q_lstore_n (lv' := [(2, .long ((1 * ((sL lo hi 0).toInt64)) * ((sL lo hi 1).toInt64))), (5, .int 1), (4, .int 0), (0, .ref r), (1, .ref q)]) X dX13_large_50 (by decide) rfl ?_
        refine q_iinc (v := 2) (lv' := [(5, .int 2), (2, .long ((1 * ((sL lo hi 0).toInt64)) * ((sL lo hi 1).toInt64))), (4, .int 0), (0, .ref r), (1, .ref q)]) X dX13_large_51 1 rfl (by decide) (by decide) rfl ?_
        refine q_goto X 21 dX13_large_54 (by decide) ?_
        refine q_iload X dX13_large_21 0 rfl ?_
        refine q_iconst (v := 3) X dX13_large_23 (by decide) ?_
        refine q_icmp_ge X 57 dX13_large_24 (by decide) (fun c_6 => absurd c_6 (by decide)) (fun c_6 => ?_)
        refine q_aload_n X dX13_large_27 4 rfl ?_
        refine q_iload X dX13_large_28 0 rfl ?_
        refine q_callVp X (c_X12_size hA h1 h2 2 (by decide) (by decide)) Y_X12_size tw_1314 tw_1188 tw_1189 hA rfl (by omega) rfl rfl (Nat.le_of_ble_eq_true rfl) dX13_large_30 ?_
        refine q_bipush (v := 40) X dX13_large_33 (by decide) ?_
        refine q_icmp_le X 41 dX13_large_35 (by decide) (fun c_7 => ?_) (fun c_7 => ?_)
        · refine q_lload_n X dX13_large_41 1 rfl ?_
          refine q_aload_n X dX13_large_42 4 rfl ?_
          refine q_iload X dX13_large_43 0 rfl ?_
          refine q_callVp X (c_X12_size hA h1 h2 2 (by decide) (by decide)) Y_X12_size tw_1314 tw_1188 tw_1189 hA rfl (by omega) rfl rfl (Nat.le_of_ble_eq_true rfl) dX13_large_45 ?_
          refine q_i2l X dX13_large_48 ?_
          refine q_lmul X dX13_large_49 ?_
          refine q_lstore_n (lv' := [(2, .long (((1 * ((sL lo hi 0).toInt64)) * ((sL lo hi 1).toInt64)) * ((sL lo hi 2).toInt64))), (5, .int 2), (4, .int 0), (0, .ref r), (1, .ref q)]) X dX13_large_50 (by decide) rfl ?_
          refine q_iinc (v := 3) (lv' := [(5, .int 3), (2, .long (((1 * ((sL lo hi 0).toInt64)) * ((sL lo hi 1).toInt64)) * ((sL lo hi 2).toInt64))), (4, .int 0), (0, .ref r), (1, .ref q)]) X dX13_large_51 1 rfl (by decide) (by decide) rfl ?_
          refine q_goto X 21 dX13_large_54 (by decide) ?_
          refine q_iload X dX13_large_21 0 rfl ?_
          refine q_iconst (v := 3) X dX13_large_23 (by decide) ?_
          refine q_icmp_ge X 57 dX13_large_24 (by decide) (fun c_8 => ?_) (fun c_8 => absurd (by decide) c_8)
          refine q_aload_n X dX13_large_57 3 rfl ?_
          refine q_iload X dX13_large_58 2 rfl ?_
          refine q_if_ne X 71 dX13_large_60 (by decide) (fun c_9 => absurd (by decide) c_9) (fun c_9 => ?_)
          refine q_lload_n X dX13_large_63 1 rfl ?_
          refine q_ldc2 (v := 2048) X dX13_large_64 tw_1363 ?_
          refine q_lcmp X dX13_large_67 ?_
          refine q_if_le X 75 dX13_large_68 (by decide) (fun c_10 => ?_) (fun c_10 => ?_)
          · exact (hq ⟨sW_all (Int32.not_lt.mpr c_3) (Int32.not_lt.mpr c_5) (Int32.not_lt.mpr c_7) ((lg_big hO (Int32.not_lt.mpr c_3) (Int32.not_lt.mpr c_5) (Int32.not_lt.mpr c_7)).mp (by rw [lg_cmp_le] at c_10; exact c_10)), (dp_le hd).mp c_1⟩).elim
          · refine q_iconst (v := 1) X dX13_large_71 (by decide) ?_
            refine q_goto X 76 dX13_large_72 (by decide) ?_
            refine q_iconst (v := 3) X dX13_large_76 (by decide) ?_
            refine q_callV X (c_fails1 (why := 3) hB.1) Y_X13_fails tw_1246 tw_1248 sel_23 hB.1 rfl (by omega) rfl rfl (Nat.le_of_ble_eq_true rfl) (rc' := 0) (rs' := 0) (by omega) (by omega) dX13_large_77 (fun v M' hp _ => ?_)
            obtain ⟨rfl, eM⟩ := hp
            rw [eM]
            clear eM
            show qJ G F _ 6 (mU M r (rfO 3 vA nA pA plA dg σ tk su le gr)) 0 0 80 [(5, .int 3), (2, .long (((1 * ((sL lo hi 0).toInt64)) * ((sL lo hi 1).toInt64)) * ((sL lo hi 2).toInt64))), (4, .int 0), (0, .ref r), (1, .ref q)] [.int 1]
            exact q_zret X hr (by decide) dX13_large_80 (⟨rfl, rfl⟩)
        · refine q_iconst (v := 1) X dX13_large_38 (by decide) ?_
          refine q_istore (lv' := [(4, .int 1), (5, .int 2), (2, .long ((1 * ((sL lo hi 0).toInt64)) * ((sL lo hi 1).toInt64))), (0, .ref r), (1, .ref q)]) X dX13_large_39 (by decide) rfl ?_
          refine q_lload_n X dX13_large_41 2 rfl ?_
          refine q_aload_n X dX13_large_42 4 rfl ?_
          refine q_iload X dX13_large_43 1 rfl ?_
          refine q_callVp X (c_X12_size hA h1 h2 2 (by decide) (by decide)) Y_X12_size tw_1314 tw_1188 tw_1189 hA rfl (by omega) rfl rfl (Nat.le_of_ble_eq_true rfl) dX13_large_45 ?_
          refine q_i2l X dX13_large_48 ?_
          refine q_lmul X dX13_large_49 ?_
          refine q_lstore_n (lv' := [(2, .long (((1 * ((sL lo hi 0).toInt64)) * ((sL lo hi 1).toInt64)) * ((sL lo hi 2).toInt64))), (4, .int 1), (5, .int 2), (0, .ref r), (1, .ref q)]) X dX13_large_50 (by decide) rfl ?_
          refine q_iinc (v := 3) (lv' := [(5, .int 3), (2, .long (((1 * ((sL lo hi 0).toInt64)) * ((sL lo hi 1).toInt64)) * ((sL lo hi 2).toInt64))), (4, .int 1), (0, .ref r), (1, .ref q)]) X dX13_large_51 2 rfl (by decide) (by decide) rfl ?_
          refine q_goto X 21 dX13_large_54 (by decide) ?_
          refine q_iload X dX13_large_21 0 rfl ?_
          refine q_iconst (v := 3) X dX13_large_23 (by decide) ?_
          refine q_icmp_ge X 57 dX13_large_24 (by decide) (fun c_11 => ?_) (fun c_11 => absurd (by decide) c_11)
          refine q_aload_n X dX13_large_57 3 rfl ?_
          refine q_iload X dX13_large_58 2 rfl ?_
          refine q_if_ne X 71 dX13_large_60 (by decide) (fun c_12 => ?_) (fun c_12 => absurd c_12 (by decide))
          refine q_iconst (v := 1) X dX13_large_71 (by decide) ?_
          refine q_goto X 76 dX13_large_72 (by decide) ?_
          refine q_iconst (v := 3) X dX13_large_76 (by decide) ?_
          refine q_callV X (c_fails1 (why := 3) hB.1) Y_X13_fails tw_1246 tw_1248 sel_23 hB.1 rfl (by omega) rfl rfl (Nat.le_of_ble_eq_true rfl) (rc' := 0) (rs' := 0) (by omega) (by omega) dX13_large_77 (fun v M' hp _ => ?_)
          obtain ⟨rfl, eM⟩ := hp
          rw [eM]
          clear eM
          show qJ G F _ 6 (mU M r (rfO 3 vA nA pA plA dg σ tk su le gr)) 0 0 80 [(5, .int 3), (2, .long (((1 * ((sL lo hi 0).toInt64)) * ((sL lo hi 1).toInt64)) * ((sL lo hi 2).toInt64))), (4, .int 1), (0, .ref r), (1, .ref q)] [.int 1]
          exact q_zret X hr (by decide) dX13_large_80 (⟨rfl, rfl⟩)
      · refine q_iconst (v := 1) X dX13_large_38 (by decide) ?_
        refine q_istore (lv' := [(4, .int 1), (5, .int 1), (2, .long (1 * ((sL lo hi 0).toInt64))), (0, .ref r), (1, .ref q)]) X dX13_large_39 (by decide) rfl ?_
        refine q_lload_n X dX13_large_41 2 rfl ?_
        refine q_aload_n X dX13_large_42 4 rfl ?_
        refine q_iload X dX13_large_43 1 rfl ?_
        refine q_callVp X (c_X12_size hA h1 h2 1 (by decide) (by decide)) Y_X12_size tw_1314 tw_1188 tw_1189 hA rfl (by omega) rfl rfl (Nat.le_of_ble_eq_true rfl) dX13_large_45 ?_
        refine q_i2l X dX13_large_48 ?_
        refine q_lmul X dX13_large_49 ?_
        refine q_lstore_n (lv' := [(2, .long ((1 * ((sL lo hi 0).toInt64)) * ((sL lo hi 1).toInt64))), (4, .int 1), (5, .int 1), (0, .ref r), (1, .ref q)]) X dX13_large_50 (by decide) rfl ?_
        refine q_iinc (v := 2) (lv' := [(5, .int 2), (2, .long ((1 * ((sL lo hi 0).toInt64)) * ((sL lo hi 1).toInt64))), (4, .int 1), (0, .ref r), (1, .ref q)]) X dX13_large_51 2 rfl (by decide) (by decide) rfl ?_
        refine q_goto X 21 dX13_large_54 (by decide) ?_
        refine q_iload X dX13_large_21 0 rfl ?_
        refine q_iconst (v := 3) X dX13_large_23 (by decide) ?_
        refine q_icmp_ge X 57 dX13_large_24 (by decide) (fun c_13 => absurd c_13 (by decide)) (fun c_13 => ?_)
        refine q_aload_n X dX13_large_27 4 rfl ?_
        refine q_iload X dX13_large_28 0 rfl ?_
        refine q_callVp X (c_X12_size hA h1 h2 2 (by decide) (by decide)) Y_X12_size tw_1314 tw_1188 tw_1189 hA rfl (by omega) rfl rfl (Nat.le_of_ble_eq_true rfl) dX13_large_30 ?_
        refine q_bipush (v := 40) X dX13_large_33 (by decide) ?_
        refine q_icmp_le X 41 dX13_large_35 (by decide) (fun c_14 => ?_) (fun c_14 => ?_)
        · refine q_lload_n X dX13_large_41 1 rfl ?_
          refine q_aload_n X dX13_large_42 4 rfl ?_
          refine q_iload X dX13_large_43 0 rfl ?_
          refine q_callVp X (c_X12_size hA h1 h2 2 (by decide) (by decide)) Y_X12_size tw_1314 tw_1188 tw_1189 hA rfl (by omega) rfl rfl (Nat.le_of_ble_eq_true rfl) dX13_large_45 ?_
          refine q_i2l X dX13_large_48 ?_
          refine q_lmul X dX13_large_49 ?_
          refine q_lstore_n (lv' := [(2, .long (((1 * ((sL lo hi 0).toInt64)) * ((sL lo hi 1).toInt64)) * ((sL lo hi 2).toInt64))), (5, .int 2), (4, .int 1), (0, .ref r), (1, .ref q)]) X dX13_large_50 (by decide) rfl ?_
          refine q_iinc (v := 3) (lv' := [(5, .int 3), (2, .long (((1 * ((sL lo hi 0).toInt64)) * ((sL lo hi 1).toInt64)) * ((sL lo hi 2).toInt64))), (4, .int 1), (0, .ref r), (1, .ref q)]) X dX13_large_51 1 rfl (by decide) (by decide) rfl ?_
          refine q_goto X 21 dX13_large_54 (by decide) ?_
          refine q_iload X dX13_large_21 0 rfl ?_
          refine q_iconst (v := 3) X dX13_large_23 (by decide) ?_
          refine q_icmp_ge X 57 dX13_large_24 (by decide) (fun c_15 => ?_) (fun c_15 => absurd (by decide) c_15)
          refine q_aload_n X dX13_large_57 3 rfl ?_
          refine q_iload X dX13_large_58 2 rfl ?_
          refine q_if_ne X 71 dX13_large_60 (by decide) (fun c_16 => ?_) (fun c_16 => absurd c_16 (by decide))
          refine q_iconst (v := 1) X dX13_large_71 (by decide) ?_
          refine q_goto X 76 dX13_large_72 (by decide) ?_
          refine q_iconst (v := 3) X dX13_large_76 (by decide) ?_
          refine q_callV X (c_fails1 (why := 3) hB.1) Y_X13_fails tw_1246 tw_1248 sel_23 hB.1 rfl (by omega) rfl rfl (Nat.le_of_ble_eq_true rfl) (rc' := 0) (rs' := 0) (by omega) (by omega) dX13_large_77 (fun v M' hp _ => ?_)
          obtain ⟨rfl, eM⟩ := hp
          rw [eM]
          clear eM
          show qJ G F _ 6 (mU M r (rfO 3 vA nA pA plA dg σ tk su le gr)) 0 0 80 [(5, .int 3), (2, .long (((1 * ((sL lo hi 0).toInt64)) * ((sL lo hi 1).toInt64)) * ((sL lo hi 2).toInt64))), (4, .int 1), (0, .ref r), (1, .ref q)] [.int 1]
          exact q_zret X hr (by decide) dX13_large_80 (⟨rfl, rfl⟩)
        · refine q_iconst (v := 1) X dX13_large_38 (by decide) ?_
          refine q_istore (lv' := [(4, .int 1), (5, .int 2), (2, .long ((1 * ((sL lo hi 0).toInt64)) * ((sL lo hi 1).toInt64))), (0, .ref r), (1, .ref q)]) X dX13_large_39 (by decide) rfl ?_
          refine q_lload_n X dX13_large_41 2 rfl ?_
          refine q_aload_n X dX13_large_42 4 rfl ?_
          refine q_iload X dX13_large_43 1 rfl ?_
          refine q_callVp X (c_X12_size hA h1 h2 2 (by decide) (by decide)) Y_X12_size tw_1314 tw_1188 tw_1189 hA rfl (by omega) rfl rfl (Nat.le_of_ble_eq_true rfl) dX13_large_45 ?_
          refine q_i2l X dX13_large_48 ?_
          refine q_lmul X dX13_large_49 ?_
          refine q_lstore_n (lv' := [(2, .long (((1 * ((sL lo hi 0).toInt64)) * ((sL lo hi 1).toInt64)) * ((sL lo hi 2).toInt64))), (4, .int 1), (5, .int 2), (0, .ref r), (1, .ref q)]) X dX13_large_50 (by decide) rfl ?_
          refine q_iinc (v := 3) (lv' := [(5, .int 3), (2, .long (((1 * ((sL lo hi 0).toInt64)) * ((sL lo hi 1).toInt64)) * ((sL lo hi 2).toInt64))), (4, .int 1), (0, .ref r), (1, .ref q)]) X dX13_large_51 2 rfl (by decide) (by decide) rfl ?_
          refine q_goto X 21 dX13_large_54 (by decide) ?_
          refine q_iload X dX13_large_21 0 rfl ?_
          refine q_iconst (v := 3) X dX13_large_23 (by decide) ?_
          refine q_icmp_ge X 57 dX13_large_24 (by decide) (fun c_17 => ?_) (fun c_17 => absurd (by decide) c_17)
          refine q_aload_n X dX13_large_57 3 rfl ?_
          refine q_iload X dX13_large_58 2 rfl ?_
          refine q_if_ne X 71 dX13_large_60 (by decide) (fun c_18 => ?_) (fun c_18 => absurd c_18 (by decide))
          refine q_iconst (v := 1) X dX13_large_71 (by decide) ?_
          refine q_goto X 76 dX13_large_72 (by decide) ?_
          refine q_iconst (v := 3) X dX13_large_76 (by decide) ?_
          refine q_callV X (c_fails1 (why := 3) hB.1) Y_X13_fails tw_1246 tw_1248 sel_23 hB.1 rfl (by omega) rfl rfl (Nat.le_of_ble_eq_true rfl) (rc' := 0) (rs' := 0) (by omega) (by omega) dX13_large_77 (fun v M' hp _ => ?_)
          obtain ⟨rfl, eM⟩ := hp
          rw [eM]
          clear eM
          show qJ G F _ 6 (mU M r (rfO 3 vA nA pA plA dg σ tk su le gr)) 0 0 80 [(5, .int 3), (2, .long (((1 * ((sL lo hi 0).toInt64)) * ((sL lo hi 1).toInt64)) * ((sL lo hi 2).toInt64))), (4, .int 1), (0, .ref r), (1, .ref q)] [.int 1]
          exact q_zret X hr (by decide) dX13_large_80 (⟨rfl, rfl⟩)
    · refine q_iconst (v := 1) X dX13_large_38 (by decide) ?_
      refine q_istore (lv' := [(4, .int 1), (5, .int 0), (2, .long 1), (0, .ref r), (1, .ref q)]) X dX13_large_39 (by decide) rfl ?_
      refine q_lload_n X dX13_large_41 2 rfl ?_
      refine q_aload_n X dX13_large_42 4 rfl ?_
      refine q_iload X dX13_large_43 1 rfl ?_
      refine q_callVp X (c_X12_size hA h1 h2 0 (by decide) (by decide)) Y_X12_size tw_1314 tw_1188 tw_1189 hA rfl (by omega) rfl rfl (Nat.le_of_ble_eq_true rfl) dX13_large_45 ?_
      refine q_i2l X dX13_large_48 ?_
      refine q_lmul X dX13_large_49 ?_
      refine q_lstore_n (lv' := [(2, .long (1 * ((sL lo hi 0).toInt64))), (4, .int 1), (5, .int 0), (0, .ref r), (1, .ref q)]) X dX13_large_50 (by decide) rfl ?_
      refine q_iinc (v := 1) (lv' := [(5, .int 1), (2, .long (1 * ((sL lo hi 0).toInt64))), (4, .int 1), (0, .ref r), (1, .ref q)]) X dX13_large_51 2 rfl (by decide) (by decide) rfl ?_
      refine q_goto X 21 dX13_large_54 (by decide) ?_
      refine q_iload X dX13_large_21 0 rfl ?_
      refine q_iconst (v := 3) X dX13_large_23 (by decide) ?_
      refine q_icmp_ge X 57 dX13_large_24 (by decide) (fun c_19 => absurd c_19 (by decide)) (fun c_19 => ?_)
      refine q_aload_n X dX13_large_27 4 rfl ?_
      refine q_iload X dX13_large_28 0 rfl ?_
      refine q_callVp X (c_X12_size hA h1 h2 1 (by decide) (by decide)) Y_X12_size tw_1314 tw_1188 tw_1189 hA rfl (by omega) rfl rfl (Nat.le_of_ble_eq_true rfl) dX13_large_30 ?_
      refine q_bipush (v := 40) X dX13_large_33 (by decide) ?_
      refine q_icmp_le X 41 dX13_large_35 (by decide) (fun c_20 => ?_) (fun c_20 => ?_)
      · refine q_lload_n X dX13_large_41 1 rfl ?_
        refine q_aload_n X dX13_large_42 4 rfl ?_
        refine q_iload X dX13_large_43 0 rfl ?_
        refine q_callVp X (c_X12_size hA h1 h2 1 (by decide) (by decide)) Y_X12_size tw_1314 tw_1188 tw_1189 hA rfl (by omega) rfl rfl (Nat.le_of_ble_eq_true rfl) dX13_large_45 ?_
        refine q_i2l X dX13_large_48 ?_
        refine q_lmul X dX13_large_49 ?_
        refine q_lstore_n (lv' := [(2, .long ((1 * ((sL lo hi 0).toInt64)) * ((sL lo hi 1).toInt64))), (5, .int 1), (4, .int 1), (0, .ref r), (1, .ref q)]) X dX13_large_50 (by decide) rfl ?_
        refine q_iinc (v := 2) (lv' := [(5, .int 2), (2, .long ((1 * ((sL lo hi 0).toInt64)) * ((sL lo hi 1).toInt64))), (4, .int 1), (0, .ref r), (1, .ref q)]) X dX13_large_51 1 rfl (by decide) (by decide) rfl ?_
        refine q_goto X 21 dX13_large_54 (by decide) ?_
        refine q_iload X dX13_large_21 0 rfl ?_
        refine q_iconst (v := 3) X dX13_large_23 (by decide) ?_
        refine q_icmp_ge X 57 dX13_large_24 (by decide) (fun c_21 => absurd c_21 (by decide)) (fun c_21 => ?_)
        refine q_aload_n X dX13_large_27 4 rfl ?_
        refine q_iload X dX13_large_28 0 rfl ?_
        refine q_callVp X (c_X12_size hA h1 h2 2 (by decide) (by decide)) Y_X12_size tw_1314 tw_1188 tw_1189 hA rfl (by omega) rfl rfl (Nat.le_of_ble_eq_true rfl) dX13_large_30 ?_
        refine q_bipush (v := 40) X dX13_large_33 (by decide) ?_
        refine q_icmp_le X 41 dX13_large_35 (by decide) (fun c_22 => ?_) (fun c_22 => ?_)
        · refine q_lload_n X dX13_large_41 1 rfl ?_
          refine q_aload_n X dX13_large_42 4 rfl ?_
          refine q_iload X dX13_large_43 0 rfl ?_
          refine q_callVp X (c_X12_size hA h1 h2 2 (by decide) (by decide)) Y_X12_size tw_1314 tw_1188 tw_1189 hA rfl (by omega) rfl rfl (Nat.le_of_ble_eq_true rfl) dX13_large_45 ?_
          refine q_i2l X dX13_large_48 ?_
          refine q_lmul X dX13_large_49 ?_
          refine q_lstore_n (lv' := [(2, .long (((1 * ((sL lo hi 0).toInt64)) * ((sL lo hi 1).toInt64)) * ((sL lo hi 2).toInt64))), (5, .int 2), (4, .int 1), (0, .ref r), (1, .ref q)]) X dX13_large_50 (by decide) rfl ?_
          refine q_iinc (v := 3) (lv' := [(5, .int 3), (2, .long (((1 * ((sL lo hi 0).toInt64)) * ((sL lo hi 1).toInt64)) * ((sL lo hi 2).toInt64))), (4, .int 1), (0, .ref r), (1, .ref q)]) X dX13_large_51 1 rfl (by decide) (by decide) rfl ?_
          refine q_goto X 21 dX13_large_54 (by decide) ?_
          refine q_iload X dX13_large_21 0 rfl ?_
          refine q_iconst (v := 3) X dX13_large_23 (by decide) ?_
          refine q_icmp_ge X 57 dX13_large_24 (by decide) (fun c_23 => ?_) (fun c_23 => absurd (by decide) c_23)
          refine q_aload_n X dX13_large_57 3 rfl ?_
          refine q_iload X dX13_large_58 2 rfl ?_
          refine q_if_ne X 71 dX13_large_60 (by decide) (fun c_24 => ?_) (fun c_24 => absurd c_24 (by decide))
          refine q_iconst (v := 1) X dX13_large_71 (by decide) ?_
          refine q_goto X 76 dX13_large_72 (by decide) ?_
          refine q_iconst (v := 3) X dX13_large_76 (by decide) ?_
          refine q_callV X (c_fails1 (why := 3) hB.1) Y_X13_fails tw_1246 tw_1248 sel_23 hB.1 rfl (by omega) rfl rfl (Nat.le_of_ble_eq_true rfl) (rc' := 0) (rs' := 0) (by omega) (by omega) dX13_large_77 (fun v M' hp _ => ?_)
          obtain ⟨rfl, eM⟩ := hp
          rw [eM]
          clear eM
          show qJ G F _ 6 (mU M r (rfO 3 vA nA pA plA dg σ tk su le gr)) 0 0 80 [(5, .int 3), (2, .long (((1 * ((sL lo hi 0).toInt64)) * ((sL lo hi 1).toInt64)) * ((sL lo hi 2).toInt64))), (4, .int 1), (0, .ref r), (1, .ref q)] [.int 1]
          exact q_zret X hr (by decide) dX13_large_80 (⟨rfl, rfl⟩)
        · refine q_iconst (v := 1) X dX13_large_38 (by decide) ?_
          refine q_istore (lv' := [(4, .int 1), (5, .int 2), (2, .long ((1 * ((sL lo hi 0).toInt64)) * ((sL lo hi 1).toInt64))), (0, .ref r), (1, .ref q)]) X dX13_large_39 (by decide) rfl ?_
          refine q_lload_n X dX13_large_41 2 rfl ?_
          refine q_aload_n X dX13_large_42 4 rfl ?_
          refine q_iload X dX13_large_43 1 rfl ?_
          refine q_callVp X (c_X12_size hA h1 h2 2 (by decide) (by decide)) Y_X12_size tw_1314 tw_1188 tw_1189 hA rfl (by omega) rfl rfl (Nat.le_of_ble_eq_true rfl) dX13_large_45 ?_
          refine q_i2l X dX13_large_48 ?_
          refine q_lmul X dX13_large_49 ?_
          refine q_lstore_n (lv' := [(2, .long (((1 * ((sL lo hi 0).toInt64)) * ((sL lo hi 1).toInt64)) * ((sL lo hi 2).toInt64))), (4, .int 1), (5, .int 2), (0, .ref r), (1, .ref q)]) X dX13_large_50 (by decide) rfl ?_
          refine q_iinc (v := 3) (lv' := [(5, .int 3), (2, .long (((1 * ((sL lo hi 0).toInt64)) * ((sL lo hi 1).toInt64)) * ((sL lo hi 2).toInt64))), (4, .int 1), (0, .ref r), (1, .ref q)]) X dX13_large_51 2 rfl (by decide) (by decide) rfl ?_
          refine q_goto X 21 dX13_large_54 (by decide) ?_
          refine q_iload X dX13_large_21 0 rfl ?_
          refine q_iconst (v := 3) X dX13_large_23 (by decide) ?_
          refine q_icmp_ge X 57 dX13_large_24 (by decide) (fun c_25 => ?_) (fun c_25 => absurd (by decide) c_25)
          refine q_aload_n X dX13_large_57 3 rfl ?_
          refine q_iload X dX13_large_58 2 rfl ?_
          refine q_if_ne X 71 dX13_large_60 (by decide) (fun c_26 => ?_) (fun c_26 => absurd c_26 (by decide))
          refine q_iconst (v := 1) X dX13_large_71 (by decide) ?_
          refine q_goto X 76 dX13_large_72 (by decide) ?_
          refine q_iconst (v := 3) X dX13_large_76 (by decide) ?_
          refine q_callV X (c_fails1 (why := 3) hB.1) Y_X13_fails tw_1246 tw_1248 sel_23 hB.1 rfl (by omega) rfl rfl (Nat.le_of_ble_eq_true rfl) (rc' := 0) (rs' := 0) (by omega) (by omega) dX13_large_77 (fun v M' hp _ => ?_)
          obtain ⟨rfl, eM⟩ := hp
          rw [eM]
          clear eM
          show qJ G F _ 6 (mU M r (rfO 3 vA nA pA plA dg σ tk su le gr)) 0 0 80 [(5, .int 3), (2, .long (((1 * ((sL lo hi 0).toInt64)) * ((sL lo hi 1).toInt64)) * ((sL lo hi 2).toInt64))), (4, .int 1), (0, .ref r), (1, .ref q)] [.int 1]
          exact q_zret X hr (by decide) dX13_large_80 (⟨rfl, rfl⟩)
      · refine q_iconst (v := 1) X dX13_large_38 (by decide) ?_
        refine q_istore (lv' := [(4, .int 1), (5, .int 1), (2, .long (1 * ((sL lo hi 0).toInt64))), (0, .ref r), (1, .ref q)]) X dX13_large_39 (by decide) rfl ?_
        refine q_lload_n X dX13_large_41 2 rfl ?_
        refine q_aload_n X dX13_large_42 4 rfl ?_
        refine q_iload X dX13_large_43 1 rfl ?_
        refine q_callVp X (c_X12_size hA h1 h2 1 (by decide) (by decide)) Y_X12_size tw_1314 tw_1188 tw_1189 hA rfl (by omega) rfl rfl (Nat.le_of_ble_eq_true rfl) dX13_large_45 ?_
        refine q_i2l X dX13_large_48 ?_
        refine q_lmul X dX13_large_49 ?_
        refine q_lstore_n (lv' := [(2, .long ((1 * ((sL lo hi 0).toInt64)) * ((sL lo hi 1).toInt64))), (4, .int 1), (5, .int 1), (0, .ref r), (1, .ref q)]) X dX13_large_50 (by decide) rfl ?_
        refine q_iinc (v := 2) (lv' := [(5, .int 2), (2, .long ((1 * ((sL lo hi 0).toInt64)) * ((sL lo hi 1).toInt64))), (4, .int 1), (0, .ref r), (1, .ref q)]) X dX13_large_51 2 rfl (by decide) (by decide) rfl ?_
        refine q_goto X 21 dX13_large_54 (by decide) ?_
        refine q_iload X dX13_large_21 0 rfl ?_
        refine q_iconst (v := 3) X dX13_large_23 (by decide) ?_
        refine q_icmp_ge X 57 dX13_large_24 (by decide) (fun c_27 => absurd c_27 (by decide)) (fun c_27 => ?_)
        refine q_aload_n X dX13_large_27 4 rfl ?_
        refine q_iload X dX13_large_28 0 rfl ?_
        refine q_callVp X (c_X12_size hA h1 h2 2 (by decide) (by decide)) Y_X12_size tw_1314 tw_1188 tw_1189 hA rfl (by omega) rfl rfl (Nat.le_of_ble_eq_true rfl) dX13_large_30 ?_
        refine q_bipush (v := 40) X dX13_large_33 (by decide) ?_
        refine q_icmp_le X 41 dX13_large_35 (by decide) (fun c_28 => ?_) (fun c_28 => ?_)
        · refine q_lload_n X dX13_large_41 1 rfl ?_
          refine q_aload_n X dX13_large_42 4 rfl ?_
          refine q_iload X dX13_large_43 0 rfl ?_
          refine q_callVp X (c_X12_size hA h1 h2 2 (by decide) (by decide)) Y_X12_size tw_1314 tw_1188 tw_1189 hA rfl (by omega) rfl rfl (Nat.le_of_ble_eq_true rfl) dX13_large_45 ?_
          refine q_i2l X dX13_large_48 ?_
          refine q_lmul X dX13_large_49 ?_
          refine q_lstore_n (lv' := [(2, .long (((1 * ((sL lo hi 0).toInt64)) * ((sL lo hi 1).toInt64)) * ((sL lo hi 2).toInt64))), (5, .int 2), (4, .int 1), (0, .ref r), (1, .ref q)]) X dX13_large_50 (by decide) rfl ?_
          refine q_iinc (v := 3) (lv' := [(5, .int 3), (2, .long (((1 * ((sL lo hi 0).toInt64)) * ((sL lo hi 1).toInt64)) * ((sL lo hi 2).toInt64))), (4, .int 1), (0, .ref r), (1, .ref q)]) X dX13_large_51 1 rfl (by decide) (by decide) rfl ?_
          refine q_goto X 21 dX13_large_54 (by decide) ?_
          refine q_iload X dX13_large_21 0 rfl ?_
          refine q_iconst (v := 3) X dX13_large_23 (by decide) ?_
          refine q_icmp_ge X 57 dX13_large_24 (by decide) (fun c_29 => ?_) (fun c_29 => absurd (by decide) c_29)
          refine q_aload_n X dX13_large_57 3 rfl ?_
          refine q_iload X dX13_large_58 2 rfl ?_
          refine q_if_ne X 71 dX13_large_60 (by decide) (fun c_30 => ?_) (fun c_30 => absurd c_30 (by decide))
          refine q_iconst (v := 1) X dX13_large_71 (by decide) ?_
          refine q_goto X 76 dX13_large_72 (by decide) ?_
          refine q_iconst (v := 3) X dX13_large_76 (by decide) ?_
          refine q_callV X (c_fails1 (why := 3) hB.1) Y_X13_fails tw_1246 tw_1248 sel_23 hB.1 rfl (by omega) rfl rfl (Nat.le_of_ble_eq_true rfl) (rc' := 0) (rs' := 0) (by omega) (by omega) dX13_large_77 (fun v M' hp _ => ?_)
          obtain ⟨rfl, eM⟩ := hp
          rw [eM]
          clear eM
          show qJ G F _ 6 (mU M r (rfO 3 vA nA pA plA dg σ tk su le gr)) 0 0 80 [(5, .int 3), (2, .long (((1 * ((sL lo hi 0).toInt64)) * ((sL lo hi 1).toInt64)) * ((sL lo hi 2).toInt64))), (4, .int 1), (0, .ref r), (1, .ref q)] [.int 1]
          exact q_zret X hr (by decide) dX13_large_80 (⟨rfl, rfl⟩)
        · refine q_iconst (v := 1) X dX13_large_38 (by decide) ?_
          refine q_istore (lv' := [(4, .int 1), (5, .int 2), (2, .long ((1 * ((sL lo hi 0).toInt64)) * ((sL lo hi 1).toInt64))), (0, .ref r), (1, .ref q)]) X dX13_large_39 (by decide) rfl ?_
          refine q_lload_n X dX13_large_41 2 rfl ?_
          refine q_aload_n X dX13_large_42 4 rfl ?_
          refine q_iload X dX13_large_43 1 rfl ?_
          refine q_callVp X (c_X12_size hA h1 h2 2 (by decide) (by decide)) Y_X12_size tw_1314 tw_1188 tw_1189 hA rfl (by omega) rfl rfl (Nat.le_of_ble_eq_true rfl) dX13_large_45 ?_
          refine q_i2l X dX13_large_48 ?_
          refine q_lmul X dX13_large_49 ?_
          refine q_lstore_n (lv' := [(2, .long (((1 * ((sL lo hi 0).toInt64)) * ((sL lo hi 1).toInt64)) * ((sL lo hi 2).toInt64))), (4, .int 1), (5, .int 2), (0, .ref r), (1, .ref q)]) X dX13_large_50 (by decide) rfl ?_
          refine q_iinc (v := 3) (lv' := [(5, .int 3), (2, .long (((1 * ((sL lo hi 0).toInt64)) * ((sL lo hi 1).toInt64)) * ((sL lo hi 2).toInt64))), (4, .int 1), (0, .ref r), (1, .ref q)]) X dX13_large_51 2 rfl (by decide) (by decide) rfl ?_
          refine q_goto X 21 dX13_large_54 (by decide) ?_
          refine q_iload X dX13_large_21 0 rfl ?_
          refine q_iconst (v := 3) X dX13_large_23 (by decide) ?_
          refine q_icmp_ge X 57 dX13_large_24 (by decide) (fun c_31 => ?_) (fun c_31 => absurd (by decide) c_31)
          refine q_aload_n X dX13_large_57 3 rfl ?_
          refine q_iload X dX13_large_58 2 rfl ?_
          refine q_if_ne X 71 dX13_large_60 (by decide) (fun c_32 => ?_) (fun c_32 => absurd c_32 (by decide))
          refine q_iconst (v := 1) X dX13_large_71 (by decide) ?_
          refine q_goto X 76 dX13_large_72 (by decide) ?_
          refine q_iconst (v := 3) X dX13_large_76 (by decide) ?_
          refine q_callV X (c_fails1 (why := 3) hB.1) Y_X13_fails tw_1246 tw_1248 sel_23 hB.1 rfl (by omega) rfl rfl (Nat.le_of_ble_eq_true rfl) (rc' := 0) (rs' := 0) (by omega) (by omega) dX13_large_77 (fun v M' hp _ => ?_)
          obtain ⟨rfl, eM⟩ := hp
          rw [eM]
          clear eM
          show qJ G F _ 6 (mU M r (rfO 3 vA nA pA plA dg σ tk su le gr)) 0 0 80 [(5, .int 3), (2, .long (((1 * ((sL lo hi 0).toInt64)) * ((sL lo hi 1).toInt64)) * ((sL lo hi 2).toInt64))), (4, .int 1), (0, .ref r), (1, .ref q)] [.int 1]
          exact q_zret X hr (by decide) dX13_large_80 (⟨rfl, rfl⟩)
  · refine q_iconst (v := 1) X dX13_large_11 (by decide) ?_
    refine q_goto X 16 dX13_large_12 (by decide) ?_
    refine q_istore (lv' := [(4, .int 1), (2, .long 1), (0, .ref r), (1, .ref q)]) X dX13_large_16 (by decide) rfl ?_
    refine q_iconst (v := 0) X dX13_large_18 (by decide) ?_
    refine q_istore (lv' := [(5, .int 0), (4, .int 1), (2, .long 1), (0, .ref r), (1, .ref q)]) X dX13_large_19 (by decide) rfl ?_
    refine q_iload X dX13_large_21 0 rfl ?_
    refine q_iconst (v := 3) X dX13_large_23 (by decide) ?_
    refine q_icmp_ge X 57 dX13_large_24 (by decide) (fun c_33 => absurd c_33 (by decide)) (fun c_33 => ?_)
    refine q_aload_n X dX13_large_27 4 rfl ?_
    refine q_iload X dX13_large_28 0 rfl ?_
    refine q_callVp X (c_X12_size hA h1 h2 0 (by decide) (by decide)) Y_X12_size tw_1314 tw_1188 tw_1189 hA rfl (by omega) rfl rfl (Nat.le_of_ble_eq_true rfl) dX13_large_30 ?_
    refine q_bipush (v := 40) X dX13_large_33 (by decide) ?_
    refine q_icmp_le X 41 dX13_large_35 (by decide) (fun c_34 => ?_) (fun c_34 => ?_)
    · refine q_lload_n X dX13_large_41 2 rfl ?_
      refine q_aload_n X dX13_large_42 4 rfl ?_
      refine q_iload X dX13_large_43 0 rfl ?_
      refine q_callVp X (c_X12_size hA h1 h2 0 (by decide) (by decide)) Y_X12_size tw_1314 tw_1188 tw_1189 hA rfl (by omega) rfl rfl (Nat.le_of_ble_eq_true rfl) dX13_large_45 ?_
      refine q_i2l X dX13_large_48 ?_
      refine q_lmul X dX13_large_49 ?_
      refine q_lstore_n (lv' := [(2, .long (1 * ((sL lo hi 0).toInt64))), (5, .int 0), (4, .int 1), (0, .ref r), (1, .ref q)]) X dX13_large_50 (by decide) rfl ?_
      refine q_iinc (v := 1) (lv' := [(5, .int 1), (2, .long (1 * ((sL lo hi 0).toInt64))), (4, .int 1), (0, .ref r), (1, .ref q)]) X dX13_large_51 1 rfl (by decide) (by decide) rfl ?_
      refine q_goto X 21 dX13_large_54 (by decide) ?_
      refine q_iload X dX13_large_21 0 rfl ?_
      refine q_iconst (v := 3) X dX13_large_23 (by decide) ?_
      refine q_icmp_ge X 57 dX13_large_24 (by decide) (fun c_35 => absurd c_35 (by decide)) (fun c_35 => ?_)
      refine q_aload_n X dX13_large_27 4 rfl ?_
      refine q_iload X dX13_large_28 0 rfl ?_
      refine q_callVp X (c_X12_size hA h1 h2 1 (by decide) (by decide)) Y_X12_size tw_1314 tw_1188 tw_1189 hA rfl (by omega) rfl rfl (Nat.le_of_ble_eq_true rfl) dX13_large_30 ?_
      refine q_bipush (v := 40) X dX13_large_33 (by decide) ?_
      refine q_icmp_le X 41 dX13_large_35 (by decide) (fun c_36 => ?_) (fun c_36 => ?_)
      · refine q_lload_n X dX13_large_41 1 rfl ?_
        refine q_aload_n X dX13_large_42 4 rfl ?_
        refine q_iload X dX13_large_43 0 rfl ?_
        refine q_callVp X (c_X12_size hA h1 h2 1 (by decide) (by decide)) Y_X12_size tw_1314 tw_1188 tw_1189 hA rfl (by omega) rfl rfl (Nat.le_of_ble_eq_true rfl) dX13_large_45 ?_
        refine q_i2l X dX13_large_48 ?_
        refine q_lmul X dX13_large_49 ?_
        refine q_lstore_n (lv' := [(2, .long ((1 * ((sL lo hi 0).toInt64)) * ((sL lo hi 1).toInt64))), (5, .int 1), (4, .int 1), (0, .ref r), (1, .ref q)]) X dX13_large_50 (by decide) rfl ?_
        refine q_iinc (v := 2) (lv' := [(5, .int 2), (2, .long ((1 * ((sL lo hi 0).toInt64)) * ((sL lo hi 1).toInt64))), (4, .int 1), (0, .ref r), (1, .ref q)]) X dX13_large_51 1 rfl (by decide) (by decide) rfl ?_
        refine q_goto X 21 dX13_large_54 (by decide) ?_
        refine q_iload X dX13_large_21 0 rfl ?_
        refine q_iconst (v := 3) X dX13_large_23 (by decide) ?_
        refine q_icmp_ge X 57 dX13_large_24 (by decide) (fun c_37 => absurd c_37 (by decide)) (fun c_37 => ?_)
        refine q_aload_n X dX13_large_27 4 rfl ?_
        refine q_iload X dX13_large_28 0 rfl ?_
        refine q_callVp X (c_X12_size hA h1 h2 2 (by decide) (by decide)) Y_X12_size tw_1314 tw_1188 tw_1189 hA rfl (by omega) rfl rfl (Nat.le_of_ble_eq_true rfl) dX13_large_30 ?_
        refine q_bipush (v := 40) X dX13_large_33 (by decide) ?_
        refine q_icmp_le X 41 dX13_large_35 (by decide) (fun c_38 => ?_) (fun c_38 => ?_)
        · refine q_lload_n X dX13_large_41 1 rfl ?_
          refine q_aload_n X dX13_large_42 4 rfl ?_
          refine q_iload X dX13_large_43 0 rfl ?_
          refine q_callVp X (c_X12_size hA h1 h2 2 (by decide) (by decide)) Y_X12_size tw_1314 tw_1188 tw_1189 hA rfl (by omega) rfl rfl (Nat.le_of_ble_eq_true rfl) dX13_large_45 ?_
          refine q_i2l X dX13_large_48 ?_
          refine q_lmul X dX13_large_49 ?_
          refine q_lstore_n (lv' := [(2, .long (((1 * ((sL lo hi 0).toInt64)) * ((sL lo hi 1).toInt64)) * ((sL lo hi 2).toInt64))), (5, .int 2), (4, .int 1), (0, .ref r), (1, .ref q)]) X dX13_large_50 (by decide) rfl ?_
          refine q_iinc (v := 3) (lv' := [(5, .int 3), (2, .long (((1 * ((sL lo hi 0).toInt64)) * ((sL lo hi 1).toInt64)) * ((sL lo hi 2).toInt64))), (4, .int 1), (0, .ref r), (1, .ref q)]) X dX13_large_51 1 rfl (by decide) (by decide) rfl ?_
          refine q_goto X 21 dX13_large_54 (by decide) ?_
          refine q_iload X dX13_large_21 0 rfl ?_
          refine q_iconst (v := 3) X dX13_large_23 (by decide) ?_
          refine q_icmp_ge X 57 dX13_large_24 (by decide) (fun c_39 => ?_) (fun c_39 => absurd (by decide) c_39)
          refine q_aload_n X dX13_large_57 3 rfl ?_
          refine q_iload X dX13_large_58 2 rfl ?_
          refine q_if_ne X 71 dX13_large_60 (by decide) (fun c_40 => ?_) (fun c_40 => absurd c_40 (by decide))
          refine q_iconst (v := 1) X dX13_large_71 (by decide) ?_
          refine q_goto X 76 dX13_large_72 (by decide) ?_
          refine q_iconst (v := 3) X dX13_large_76 (by decide) ?_
          refine q_callV X (c_fails1 (why := 3) hB.1) Y_X13_fails tw_1246 tw_1248 sel_23 hB.1 rfl (by omega) rfl rfl (Nat.le_of_ble_eq_true rfl) (rc' := 0) (rs' := 0) (by omega) (by omega) dX13_large_77 (fun v M' hp _ => ?_)
          obtain ⟨rfl, eM⟩ := hp
          rw [eM]
          clear eM
          show qJ G F _ 6 (mU M r (rfO 3 vA nA pA plA dg σ tk su le gr)) 0 0 80 [(5, .int 3), (2, .long (((1 * ((sL lo hi 0).toInt64)) * ((sL lo hi 1).toInt64)) * ((sL lo hi 2).toInt64))), (4, .int 1), (0, .ref r), (1, .ref q)] [.int 1]
          exact q_zret X hr (by decide) dX13_large_80 (⟨rfl, rfl⟩)
        · refine q_iconst (v := 1) X dX13_large_38 (by decide) ?_
          refine q_istore (lv' := [(4, .int 1), (5, .int 2), (2, .long ((1 * ((sL lo hi 0).toInt64)) * ((sL lo hi 1).toInt64))), (0, .ref r), (1, .ref q)]) X dX13_large_39 (by decide) rfl ?_
          refine q_lload_n X dX13_large_41 2 rfl ?_
          refine q_aload_n X dX13_large_42 4 rfl ?_
          refine q_iload X dX13_large_43 1 rfl ?_
          refine q_callVp X (c_X12_size hA h1 h2 2 (by decide) (by decide)) Y_X12_size tw_1314 tw_1188 tw_1189 hA rfl (by omega) rfl rfl (Nat.le_of_ble_eq_true rfl) dX13_large_45 ?_
          refine q_i2l X dX13_large_48 ?_
          refine q_lmul X dX13_large_49 ?_
          refine q_lstore_n (lv' := [(2, .long (((1 * ((sL lo hi 0).toInt64)) * ((sL lo hi 1).toInt64)) * ((sL lo hi 2).toInt64))), (4, .int 1), (5, .int 2), (0, .ref r), (1, .ref q)]) X dX13_large_50 (by decide) rfl ?_
          refine q_iinc (v := 3) (lv' := [(5, .int 3), (2, .long (((1 * ((sL lo hi 0).toInt64)) * ((sL lo hi 1).toInt64)) * ((sL lo hi 2).toInt64))), (4, .int 1), (0, .ref r), (1, .ref q)]) X dX13_large_51 2 rfl (by decide) (by decide) rfl ?_
          refine q_goto X 21 dX13_large_54 (by decide) ?_
          refine q_iload X dX13_large_21 0 rfl ?_
          refine q_iconst (v := 3) X dX13_large_23 (by decide) ?_
          refine q_icmp_ge X 57 dX13_large_24 (by decide) (fun c_41 => ?_) (fun c_41 => absurd (by decide) c_41)
          refine q_aload_n X dX13_large_57 3 rfl ?_
          refine q_iload X dX13_large_58 2 rfl ?_
          refine q_if_ne X 71 dX13_large_60 (by decide) (fun c_42 => ?_) (fun c_42 => absurd c_42 (by decide))
          refine q_iconst (v := 1) X dX13_large_71 (by decide) ?_
          refine q_goto X 76 dX13_large_72 (by decide) ?_
          refine q_iconst (v := 3) X dX13_large_76 (by decide) ?_
          refine q_callV X (c_fails1 (why := 3) hB.1) Y_X13_fails tw_1246 tw_1248 sel_23 hB.1 rfl (by omega) rfl rfl (Nat.le_of_ble_eq_true rfl) (rc' := 0) (rs' := 0) (by omega) (by omega) dX13_large_77 (fun v M' hp _ => ?_)
          obtain ⟨rfl, eM⟩ := hp
          rw [eM]
          clear eM
          show qJ G F _ 6 (mU M r (rfO 3 vA nA pA plA dg σ tk su le gr)) 0 0 80 [(5, .int 3), (2, .long (((1 * ((sL lo hi 0).toInt64)) * ((sL lo hi 1).toInt64)) * ((sL lo hi 2).toInt64))), (4, .int 1), (0, .ref r), (1, .ref q)] [.int 1]
          exact q_zret X hr (by decide) dX13_large_80 (⟨rfl, rfl⟩)
      · refine q_iconst (v := 1) X dX13_large_38 (by decide) ?_
        refine q_istore (lv' := [(4, .int 1), (5, .int 1), (2, .long (1 * ((sL lo hi 0).toInt64))), (0, .ref r), (1, .ref q)]) X dX13_large_39 (by decide) rfl ?_
        refine q_lload_n X dX13_large_41 2 rfl ?_
        refine q_aload_n X dX13_large_42 4 rfl ?_
        refine q_iload X dX13_large_43 1 rfl ?_
        refine q_callVp X (c_X12_size hA h1 h2 1 (by decide) (by decide)) Y_X12_size tw_1314 tw_1188 tw_1189 hA rfl (by omega) rfl rfl (Nat.le_of_ble_eq_true rfl) dX13_large_45 ?_
        refine q_i2l X dX13_large_48 ?_
        refine q_lmul X dX13_large_49 ?_
        refine q_lstore_n (lv' := [(2, .long ((1 * ((sL lo hi 0).toInt64)) * ((sL lo hi 1).toInt64))), (4, .int 1), (5, .int 1), (0, .ref r), (1, .ref q)]) X dX13_large_50 (by decide) rfl ?_
        refine q_iinc (v := 2) (lv' := [(5, .int 2), (2, .long ((1 * ((sL lo hi 0).toInt64)) * ((sL lo hi 1).toInt64))), (4, .int 1), (0, .ref r), (1, .ref q)]) X dX13_large_51 2 rfl (by decide) (by decide) rfl ?_
        refine q_goto X 21 dX13_large_54 (by decide) ?_
        refine q_iload X dX13_large_21 0 rfl ?_
        refine q_iconst (v := 3) X dX13_large_23 (by decide) ?_
        refine q_icmp_ge X 57 dX13_large_24 (by decide) (fun c_43 => absurd c_43 (by decide)) (fun c_43 => ?_)
        refine q_aload_n X dX13_large_27 4 rfl ?_
        refine q_iload X dX13_large_28 0 rfl ?_
        refine q_callVp X (c_X12_size hA h1 h2 2 (by decide) (by decide)) Y_X12_size tw_1314 tw_1188 tw_1189 hA rfl (by omega) rfl rfl (Nat.le_of_ble_eq_true rfl) dX13_large_30 ?_
        refine q_bipush (v := 40) X dX13_large_33 (by decide) ?_
        refine q_icmp_le X 41 dX13_large_35 (by decide) (fun c_44 => ?_) (fun c_44 => ?_)
        · refine q_lload_n X dX13_large_41 1 rfl ?_
          refine q_aload_n X dX13_large_42 4 rfl ?_
          refine q_iload X dX13_large_43 0 rfl ?_
          refine q_callVp X (c_X12_size hA h1 h2 2 (by decide) (by decide)) Y_X12_size tw_1314 tw_1188 tw_1189 hA rfl (by omega) rfl rfl (Nat.le_of_ble_eq_true rfl) dX13_large_45 ?_
          refine q_i2l X dX13_large_48 ?_
          refine q_lmul X dX13_large_49 ?_
          refine q_lstore_n (lv' := [(2, .long (((1 * ((sL lo hi 0).toInt64)) * ((sL lo hi 1).toInt64)) * ((sL lo hi 2).toInt64))), (5, .int 2), (4, .int 1), (0, .ref r), (1, .ref q)]) X dX13_large_50 (by decide) rfl ?_
          refine q_iinc (v := 3) (lv' := [(5, .int 3), (2, .long (((1 * ((sL lo hi 0).toInt64)) * ((sL lo hi 1).toInt64)) * ((sL lo hi 2).toInt64))), (4, .int 1), (0, .ref r), (1, .ref q)]) X dX13_large_51 1 rfl (by decide) (by decide) rfl ?_
          refine q_goto X 21 dX13_large_54 (by decide) ?_
          refine q_iload X dX13_large_21 0 rfl ?_
          refine q_iconst (v := 3) X dX13_large_23 (by decide) ?_
          refine q_icmp_ge X 57 dX13_large_24 (by decide) (fun c_45 => ?_) (fun c_45 => absurd (by decide) c_45)
          refine q_aload_n X dX13_large_57 3 rfl ?_
          refine q_iload X dX13_large_58 2 rfl ?_
          refine q_if_ne X 71 dX13_large_60 (by decide) (fun c_46 => ?_) (fun c_46 => absurd c_46 (by decide))
          refine q_iconst (v := 1) X dX13_large_71 (by decide) ?_
          refine q_goto X 76 dX13_large_72 (by decide) ?_
          refine q_iconst (v := 3) X dX13_large_76 (by decide) ?_
          refine q_callV X (c_fails1 (why := 3) hB.1) Y_X13_fails tw_1246 tw_1248 sel_23 hB.1 rfl (by omega) rfl rfl (Nat.le_of_ble_eq_true rfl) (rc' := 0) (rs' := 0) (by omega) (by omega) dX13_large_77 (fun v M' hp _ => ?_)
          obtain ⟨rfl, eM⟩ := hp
          rw [eM]
          clear eM
          show qJ G F _ 6 (mU M r (rfO 3 vA nA pA plA dg σ tk su le gr)) 0 0 80 [(5, .int 3), (2, .long (((1 * ((sL lo hi 0).toInt64)) * ((sL lo hi 1).toInt64)) * ((sL lo hi 2).toInt64))), (4, .int 1), (0, .ref r), (1, .ref q)] [.int 1]
          exact q_zret X hr (by decide) dX13_large_80 (⟨rfl, rfl⟩)
        · refine q_iconst (v := 1) X dX13_large_38 (by decide) ?_
          refine q_istore (lv' := [(4, .int 1), (5, .int 2), (2, .long ((1 * ((sL lo hi 0).toInt64)) * ((sL lo hi 1).toInt64))), (0, .ref r), (1, .ref q)]) X dX13_large_39 (by decide) rfl ?_
          refine q_lload_n X dX13_large_41 2 rfl ?_
          refine q_aload_n X dX13_large_42 4 rfl ?_
          refine q_iload X dX13_large_43 1 rfl ?_
          refine q_callVp X (c_X12_size hA h1 h2 2 (by decide) (by decide)) Y_X12_size tw_1314 tw_1188 tw_1189 hA rfl (by omega) rfl rfl (Nat.le_of_ble_eq_true rfl) dX13_large_45 ?_
          refine q_i2l X dX13_large_48 ?_
          refine q_lmul X dX13_large_49 ?_
          refine q_lstore_n (lv' := [(2, .long (((1 * ((sL lo hi 0).toInt64)) * ((sL lo hi 1).toInt64)) * ((sL lo hi 2).toInt64))), (4, .int 1), (5, .int 2), (0, .ref r), (1, .ref q)]) X dX13_large_50 (by decide) rfl ?_
          refine q_iinc (v := 3) (lv' := [(5, .int 3), (2, .long (((1 * ((sL lo hi 0).toInt64)) * ((sL lo hi 1).toInt64)) * ((sL lo hi 2).toInt64))), (4, .int 1), (0, .ref r), (1, .ref q)]) X dX13_large_51 2 rfl (by decide) (by decide) rfl ?_
          refine q_goto X 21 dX13_large_54 (by decide) ?_
          refine q_iload X dX13_large_21 0 rfl ?_
          refine q_iconst (v := 3) X dX13_large_23 (by decide) ?_
          refine q_icmp_ge X 57 dX13_large_24 (by decide) (fun c_47 => ?_) (fun c_47 => absurd (by decide) c_47)
          refine q_aload_n X dX13_large_57 3 rfl ?_
          refine q_iload X dX13_large_58 2 rfl ?_
          refine q_if_ne X 71 dX13_large_60 (by decide) (fun c_48 => ?_) (fun c_48 => absurd c_48 (by decide))
          refine q_iconst (v := 1) X dX13_large_71 (by decide) ?_
          refine q_goto X 76 dX13_large_72 (by decide) ?_
          refine q_iconst (v := 3) X dX13_large_76 (by decide) ?_
          refine q_callV X (c_fails1 (why := 3) hB.1) Y_X13_fails tw_1246 tw_1248 sel_23 hB.1 rfl (by omega) rfl rfl (Nat.le_of_ble_eq_true rfl) (rc' := 0) (rs' := 0) (by omega) (by omega) dX13_large_77 (fun v M' hp _ => ?_)
          obtain ⟨rfl, eM⟩ := hp
          rw [eM]
          clear eM
          show qJ G F _ 6 (mU M r (rfO 3 vA nA pA plA dg σ tk su le gr)) 0 0 80 [(5, .int 3), (2, .long (((1 * ((sL lo hi 0).toInt64)) * ((sL lo hi 1).toInt64)) * ((sL lo hi 2).toInt64))), (4, .int 1), (0, .ref r), (1, .ref q)] [.int 1]
          exact q_zret X hr (by decide) dX13_large_80 (⟨rfl, rfl⟩)
    · refine q_iconst (v := 1) X dX13_large_38 (by decide) ?_
      refine q_istore (lv' := [(4, .int 1), (5, .int 0), (2, .long 1), (0, .ref r), (1, .ref q)]) X dX13_large_39 (by decide) rfl ?_
      refine q_lload_n X dX13_large_41 2 rfl ?_
      refine q_aload_n X dX13_large_42 4 rfl ?_
      refine q_iload X dX13_large_43 1 rfl ?_
      refine q_callVp X (c_X12_size hA h1 h2 0 (by decide) (by decide)) Y_X12_size tw_1314 tw_1188 tw_1189 hA rfl (by omega) rfl rfl (Nat.le_of_ble_eq_true rfl) dX13_large_45 ?_
      refine q_i2l X dX13_large_48 ?_
      refine q_lmul X dX13_large_49 ?_
      refine q_lstore_n (lv' := [(2, .long (1 * ((sL lo hi 0).toInt64))), (4, .int 1), (5, .int 0), (0, .ref r), (1, .ref q)]) X dX13_large_50 (by decide) rfl ?_
      refine q_iinc (v := 1) (lv' := [(5, .int 1), (2, .long (1 * ((sL lo hi 0).toInt64))), (4, .int 1), (0, .ref r), (1, .ref q)]) X dX13_large_51 2 rfl (by decide) (by decide) rfl ?_
      refine q_goto X 21 dX13_large_54 (by decide) ?_
      refine q_iload X dX13_large_21 0 rfl ?_
      refine q_iconst (v := 3) X dX13_large_23 (by decide) ?_
      refine q_icmp_ge X 57 dX13_large_24 (by decide) (fun c_49 => absurd c_49 (by decide)) (fun c_49 => ?_)
      refine q_aload_n X dX13_large_27 4 rfl ?_
      refine q_iload X dX13_large_28 0 rfl ?_
      refine q_callVp X (c_X12_size hA h1 h2 1 (by decide) (by decide)) Y_X12_size tw_1314 tw_1188 tw_1189 hA rfl (by omega) rfl rfl (Nat.le_of_ble_eq_true rfl) dX13_large_30 ?_
      refine q_bipush (v := 40) X dX13_large_33 (by decide) ?_
      refine q_icmp_le X 41 dX13_large_35 (by decide) (fun c_50 => ?_) (fun c_50 => ?_)
      · refine q_lload_n X dX13_large_41 1 rfl ?_
        refine q_aload_n X dX13_large_42 4 rfl ?_
        refine q_iload X dX13_large_43 0 rfl ?_
        refine q_callVp X (c_X12_size hA h1 h2 1 (by decide) (by decide)) Y_X12_size tw_1314 tw_1188 tw_1189 hA rfl (by omega) rfl rfl (Nat.le_of_ble_eq_true rfl) dX13_large_45 ?_
        refine q_i2l X dX13_large_48 ?_
        refine q_lmul X dX13_large_49 ?_
        refine q_lstore_n (lv' := [(2, .long ((1 * ((sL lo hi 0).toInt64)) * ((sL lo hi 1).toInt64))), (5, .int 1), (4, .int 1), (0, .ref r), (1, .ref q)]) X dX13_large_50 (by decide) rfl ?_
        refine q_iinc (v := 2) (lv' := [(5, .int 2), (2, .long ((1 * ((sL lo hi 0).toInt64)) * ((sL lo hi 1).toInt64))), (4, .int 1), (0, .ref r), (1, .ref q)]) X dX13_large_51 1 rfl (by decide) (by decide) rfl ?_
        refine q_goto X 21 dX13_large_54 (by decide) ?_
        refine q_iload X dX13_large_21 0 rfl ?_
        refine q_iconst (v := 3) X dX13_large_23 (by decide) ?_
        refine q_icmp_ge X 57 dX13_large_24 (by decide) (fun c_51 => absurd c_51 (by decide)) (fun c_51 => ?_)
        refine q_aload_n X dX13_large_27 4 rfl ?_
        refine q_iload X dX13_large_28 0 rfl ?_
        refine q_callVp X (c_X12_size hA h1 h2 2 (by decide) (by decide)) Y_X12_size tw_1314 tw_1188 tw_1189 hA rfl (by omega) rfl rfl (Nat.le_of_ble_eq_true rfl) dX13_large_30 ?_
        refine q_bipush (v := 40) X dX13_large_33 (by decide) ?_
        refine q_icmp_le X 41 dX13_large_35 (by decide) (fun c_52 => ?_) (fun c_52 => ?_)
        · refine q_lload_n X dX13_large_41 1 rfl ?_
          refine q_aload_n X dX13_large_42 4 rfl ?_
          refine q_iload X dX13_large_43 0 rfl ?_
          refine q_callVp X (c_X12_size hA h1 h2 2 (by decide) (by decide)) Y_X12_size tw_1314 tw_1188 tw_1189 hA rfl (by omega) rfl rfl (Nat.le_of_ble_eq_true rfl) dX13_large_45 ?_
          refine q_i2l X dX13_large_48 ?_
          refine q_lmul X dX13_large_49 ?_
          refine q_lstore_n (lv' := [(2, .long (((1 * ((sL lo hi 0).toInt64)) * ((sL lo hi 1).toInt64)) * ((sL lo hi 2).toInt64))), (5, .int 2), (4, .int 1), (0, .ref r), (1, .ref q)]) X dX13_large_50 (by decide) rfl ?_
          refine q_iinc (v := 3) (lv' := [(5, .int 3), (2, .long (((1 * ((sL lo hi 0).toInt64)) * ((sL lo hi 1).toInt64)) * ((sL lo hi 2).toInt64))), (4, .int 1), (0, .ref r), (1, .ref q)]) X dX13_large_51 1 rfl (by decide) (by decide) rfl ?_
          refine q_goto X 21 dX13_large_54 (by decide) ?_
          refine q_iload X dX13_large_21 0 rfl ?_
          refine q_iconst (v := 3) X dX13_large_23 (by decide) ?_
          refine q_icmp_ge X 57 dX13_large_24 (by decide) (fun c_53 => ?_) (fun c_53 => absurd (by decide) c_53)
          refine q_aload_n X dX13_large_57 3 rfl ?_
          refine q_iload X dX13_large_58 2 rfl ?_
          refine q_if_ne X 71 dX13_large_60 (by decide) (fun c_54 => ?_) (fun c_54 => absurd c_54 (by decide))
          refine q_iconst (v := 1) X dX13_large_71 (by decide) ?_
          refine q_goto X 76 dX13_large_72 (by decide) ?_
          refine q_iconst (v := 3) X dX13_large_76 (by decide) ?_
          refine q_callV X (c_fails1 (why := 3) hB.1) Y_X13_fails tw_1246 tw_1248 sel_23 hB.1 rfl (by omega) rfl rfl (Nat.le_of_ble_eq_true rfl) (rc' := 0) (rs' := 0) (by omega) (by omega) dX13_large_77 (fun v M' hp _ => ?_)
          obtain ⟨rfl, eM⟩ := hp
          rw [eM]
          clear eM
          show qJ G F _ 6 (mU M r (rfO 3 vA nA pA plA dg σ tk su le gr)) 0 0 80 [(5, .int 3), (2, .long (((1 * ((sL lo hi 0).toInt64)) * ((sL lo hi 1).toInt64)) * ((sL lo hi 2).toInt64))), (4, .int 1), (0, .ref r), (1, .ref q)] [.int 1]
          exact q_zret X hr (by decide) dX13_large_80 (⟨rfl, rfl⟩)
        · refine q_iconst (v := 1) X dX13_large_38 (by decide) ?_
          refine q_istore (lv' := [(4, .int 1), (5, .int 2), (2, .long ((1 * ((sL lo hi 0).toInt64)) * ((sL lo hi 1).toInt64))), (0, .ref r), (1, .ref q)]) X dX13_large_39 (by decide) rfl ?_
          refine q_lload_n X dX13_large_41 2 rfl ?_
          refine q_aload_n X dX13_large_42 4 rfl ?_
          refine q_iload X dX13_large_43 1 rfl ?_
          refine q_callVp X (c_X12_size hA h1 h2 2 (by decide) (by decide)) Y_X12_size tw_1314 tw_1188 tw_1189 hA rfl (by omega) rfl rfl (Nat.le_of_ble_eq_true rfl) dX13_large_45 ?_
          refine q_i2l X dX13_large_48 ?_
          refine q_lmul X dX13_large_49 ?_
          refine q_lstore_n (lv' := [(2, .long (((1 * ((sL lo hi 0).toInt64)) * ((sL lo hi 1).toInt64)) * ((sL lo hi 2).toInt64))), (4, .int 1), (5, .int 2), (0, .ref r), (1, .ref q)]) X dX13_large_50 (by decide) rfl ?_
          refine q_iinc (v := 3) (lv' := [(5, .int 3), (2, .long (((1 * ((sL lo hi 0).toInt64)) * ((sL lo hi 1).toInt64)) * ((sL lo hi 2).toInt64))), (4, .int 1), (0, .ref r), (1, .ref q)]) X dX13_large_51 2 rfl (by decide) (by decide) rfl ?_
          refine q_goto X 21 dX13_large_54 (by decide) ?_
          refine q_iload X dX13_large_21 0 rfl ?_
          refine q_iconst (v := 3) X dX13_large_23 (by decide) ?_
          refine q_icmp_ge X 57 dX13_large_24 (by decide) (fun c_55 => ?_) (fun c_55 => absurd (by decide) c_55)
          refine q_aload_n X dX13_large_57 3 rfl ?_
          refine q_iload X dX13_large_58 2 rfl ?_
          refine q_if_ne X 71 dX13_large_60 (by decide) (fun c_56 => ?_) (fun c_56 => absurd c_56 (by decide))
          refine q_iconst (v := 1) X dX13_large_71 (by decide) ?_
          refine q_goto X 76 dX13_large_72 (by decide) ?_
          refine q_iconst (v := 3) X dX13_large_76 (by decide) ?_
          refine q_callV X (c_fails1 (why := 3) hB.1) Y_X13_fails tw_1246 tw_1248 sel_23 hB.1 rfl (by omega) rfl rfl (Nat.le_of_ble_eq_true rfl) (rc' := 0) (rs' := 0) (by omega) (by omega) dX13_large_77 (fun v M' hp _ => ?_)
          obtain ⟨rfl, eM⟩ := hp
          rw [eM]
          clear eM
          show qJ G F _ 6 (mU M r (rfO 3 vA nA pA plA dg σ tk su le gr)) 0 0 80 [(5, .int 3), (2, .long (((1 * ((sL lo hi 0).toInt64)) * ((sL lo hi 1).toInt64)) * ((sL lo hi 2).toInt64))), (4, .int 1), (0, .ref r), (1, .ref q)] [.int 1]
          exact q_zret X hr (by decide) dX13_large_80 (⟨rfl, rfl⟩)
      · refine q_iconst (v := 1) X dX13_large_38 (by decide) ?_
        refine q_istore (lv' := [(4, .int 1), (5, .int 1), (2, .long (1 * ((sL lo hi 0).toInt64))), (0, .ref r), (1, .ref q)]) X dX13_large_39 (by decide) rfl ?_
        refine q_lload_n X dX13_large_41 2 rfl ?_
        refine q_aload_n X dX13_large_42 4 rfl ?_
        refine q_iload X dX13_large_43 1 rfl ?_
        refine q_callVp X (c_X12_size hA h1 h2 1 (by decide) (by decide)) Y_X12_size tw_1314 tw_1188 tw_1189 hA rfl (by omega) rfl rfl (Nat.le_of_ble_eq_true rfl) dX13_large_45 ?_
        refine q_i2l X dX13_large_48 ?_
        refine q_lmul X dX13_large_49 ?_
        refine q_lstore_n (lv' := [(2, .long ((1 * ((sL lo hi 0).toInt64)) * ((sL lo hi 1).toInt64))), (4, .int 1), (5, .int 1), (0, .ref r), (1, .ref q)]) X dX13_large_50 (by decide) rfl ?_
        refine q_iinc (v := 2) (lv' := [(5, .int 2), (2, .long ((1 * ((sL lo hi 0).toInt64)) * ((sL lo hi 1).toInt64))), (4, .int 1), (0, .ref r), (1, .ref q)]) X dX13_large_51 2 rfl (by decide) (by decide) rfl ?_
        refine q_goto X 21 dX13_large_54 (by decide) ?_
        refine q_iload X dX13_large_21 0 rfl ?_
        refine q_iconst (v := 3) X dX13_large_23 (by decide) ?_
        refine q_icmp_ge X 57 dX13_large_24 (by decide) (fun c_57 => absurd c_57 (by decide)) (fun c_57 => ?_)
        refine q_aload_n X dX13_large_27 4 rfl ?_
        refine q_iload X dX13_large_28 0 rfl ?_
        refine q_callVp X (c_X12_size hA h1 h2 2 (by decide) (by decide)) Y_X12_size tw_1314 tw_1188 tw_1189 hA rfl (by omega) rfl rfl (Nat.le_of_ble_eq_true rfl) dX13_large_30 ?_
        refine q_bipush (v := 40) X dX13_large_33 (by decide) ?_
        refine q_icmp_le X 41 dX13_large_35 (by decide) (fun c_58 => ?_) (fun c_58 => ?_)
        · refine q_lload_n X dX13_large_41 1 rfl ?_
          refine q_aload_n X dX13_large_42 4 rfl ?_
          refine q_iload X dX13_large_43 0 rfl ?_
          refine q_callVp X (c_X12_size hA h1 h2 2 (by decide) (by decide)) Y_X12_size tw_1314 tw_1188 tw_1189 hA rfl (by omega) rfl rfl (Nat.le_of_ble_eq_true rfl) dX13_large_45 ?_
          refine q_i2l X dX13_large_48 ?_
          refine q_lmul X dX13_large_49 ?_
          refine q_lstore_n (lv' := [(2, .long (((1 * ((sL lo hi 0).toInt64)) * ((sL lo hi 1).toInt64)) * ((sL lo hi 2).toInt64))), (5, .int 2), (4, .int 1), (0, .ref r), (1, .ref q)]) X dX13_large_50 (by decide) rfl ?_
          refine q_iinc (v := 3) (lv' := [(5, .int 3), (2, .long (((1 * ((sL lo hi 0).toInt64)) * ((sL lo hi 1).toInt64)) * ((sL lo hi 2).toInt64))), (4, .int 1), (0, .ref r), (1, .ref q)]) X dX13_large_51 1 rfl (by decide) (by decide) rfl ?_
          refine q_goto X 21 dX13_large_54 (by decide) ?_
          refine q_iload X dX13_large_21 0 rfl ?_
          refine q_iconst (v := 3) X dX13_large_23 (by decide) ?_
          refine q_icmp_ge X 57 dX13_large_24 (by decide) (fun c_59 => ?_) (fun c_59 => absurd (by decide) c_59)
          refine q_aload_n X dX13_large_57 3 rfl ?_
          refine q_iload X dX13_large_58 2 rfl ?_
          refine q_if_ne X 71 dX13_large_60 (by decide) (fun c_60 => ?_) (fun c_60 => absurd c_60 (by decide))
          refine q_iconst (v := 1) X dX13_large_71 (by decide) ?_
          refine q_goto X 76 dX13_large_72 (by decide) ?_
          refine q_iconst (v := 3) X dX13_large_76 (by decide) ?_
          refine q_callV X (c_fails1 (why := 3) hB.1) Y_X13_fails tw_1246 tw_1248 sel_23 hB.1 rfl (by omega) rfl rfl (Nat.le_of_ble_eq_true rfl) (rc' := 0) (rs' := 0) (by omega) (by omega) dX13_large_77 (fun v M' hp _ => ?_)
          obtain ⟨rfl, eM⟩ := hp
          rw [eM]
          clear eM
          show qJ G F _ 6 (mU M r (rfO 3 vA nA pA plA dg σ tk su le gr)) 0 0 80 [(5, .int 3), (2, .long (((1 * ((sL lo hi 0).toInt64)) * ((sL lo hi 1).toInt64)) * ((sL lo hi 2).toInt64))), (4, .int 1), (0, .ref r), (1, .ref q)] [.int 1]
          exact q_zret X hr (by decide) dX13_large_80 (⟨rfl, rfl⟩)
        · refine q_iconst (v := 1) X dX13_large_38 (by decide) ?_
          refine q_istore (lv' := [(4, .int 1), (5, .int 2), (2, .long ((1 * ((sL lo hi 0).toInt64)) * ((sL lo hi 1).toInt64))), (0, .ref r), (1, .ref q)]) X dX13_large_39 (by decide) rfl ?_
          refine q_lload_n X dX13_large_41 2 rfl ?_
          refine q_aload_n X dX13_large_42 4 rfl ?_
          refine q_iload X dX13_large_43 1 rfl ?_
          refine q_callVp X (c_X12_size hA h1 h2 2 (by decide) (by decide)) Y_X12_size tw_1314 tw_1188 tw_1189 hA rfl (by omega) rfl rfl (Nat.le_of_ble_eq_true rfl) dX13_large_45 ?_
          refine q_i2l X dX13_large_48 ?_
          refine q_lmul X dX13_large_49 ?_
          refine q_lstore_n (lv' := [(2, .long (((1 * ((sL lo hi 0).toInt64)) * ((sL lo hi 1).toInt64)) * ((sL lo hi 2).toInt64))), (4, .int 1), (5, .int 2), (0, .ref r), (1, .ref q)]) X dX13_large_50 (by decide) rfl ?_
          refine q_iinc (v := 3) (lv' := [(5, .int 3), (2, .long (((1 * ((sL lo hi 0).toInt64)) * ((sL lo hi 1).toInt64)) * ((sL lo hi 2).toInt64))), (4, .int 1), (0, .ref r), (1, .ref q)]) X dX13_large_51 2 rfl (by decide) (by decide) rfl ?_
          refine q_goto X 21 dX13_large_54 (by decide) ?_
          refine q_iload X dX13_large_21 0 rfl ?_
          refine q_iconst (v := 3) X dX13_large_23 (by decide) ?_
          refine q_icmp_ge X 57 dX13_large_24 (by decide) (fun c_61 => ?_) (fun c_61 => absurd (by decide) c_61)
          refine q_aload_n X dX13_large_57 3 rfl ?_
          refine q_iload X dX13_large_58 2 rfl ?_
          refine q_if_ne X 71 dX13_large_60 (by decide) (fun c_62 => ?_) (fun c_62 => absurd c_62 (by decide))
          refine q_iconst (v := 1) X dX13_large_71 (by decide) ?_
          refine q_goto X 76 dX13_large_72 (by decide) ?_
          refine q_iconst (v := 3) X dX13_large_76 (by decide) ?_
          refine q_callV X (c_fails1 (why := 3) hB.1) Y_X13_fails tw_1246 tw_1248 sel_23 hB.1 rfl (by omega) rfl rfl (Nat.le_of_ble_eq_true rfl) (rc' := 0) (rs' := 0) (by omega) (by omega) dX13_large_77 (fun v M' hp _ => ?_)
          obtain ⟨rfl, eM⟩ := hp
          rw [eM]
          clear eM
          show qJ G F _ 6 (mU M r (rfO 3 vA nA pA plA dg σ tk su le gr)) 0 0 80 [(5, .int 3), (2, .long (((1 * ((sL lo hi 0).toInt64)) * ((sL lo hi 1).toInt64)) * ((sL lo hi 2).toInt64))), (4, .int 1), (0, .ref r), (1, .ref q)] [.int 1]
          exact q_zret X hr (by decide) dX13_large_80 (⟨rfl, rfl⟩)

section
variable {G : gV} {M M' : gMem} {r : Nat} {e : Int32} {σ : sA} {vA nA pA plA dg dla dha dva dza : Nat} {dvf : Nat → Int64} {dzf : Nat → Int32} {vf nf : Nat → Option Nat} {pf : Nat → Int32} {tk : Int32} {su le gr : Int64}
theorem gUp_s {f : Nat → Option Nat} {j x : Nat} : gUp f j x j = some x := if_pos rfl
theorem gUp_n {f : Nat → Option Nat} {j x i : Nat} (h : i ≠ j) : gUp f j x i = f i := if_neg h
/-- a node is pushed -/
theorem rfB.push (h : rfB G M r e σ vA nA pA plA dg dla dha dva dza dvf dzf vf nf pf tk su le gr) {q : Nat} {w : vN} (hg : isGrd G M (rBad plA pA dva dza) q w) {M' : gMem} (hM : M' = mU (mU (mU M r (rfO 0 vA nA pA plA dg σ tk su le gr)) nA (aG G 150 (gUp nf (aN σ).length q))) r (rfO 0 vA nA pA plA dg (aPushN σ w) tk su le gr)) : isRF G M' r 0 (aPushN σ w) := by
  subst hM
  obtain ⟨h0, h1⟩ := h
  have hb := h1.nb
  obtain ⟨c1, c2, c3, ⟨xx, c4⟩, c5, c6, c7, c8, c9, c10⟩ := h1
  generalize hM' : mU (mU (mU M r (rfO 0 vA nA pA plA dg σ tk su le gr)) nA (aG G 150 (gUp nf (aN σ).length q))) r (rfO 0 vA nA pA plA dg (aPushN σ w) tk su le gr) = M'
  have rn : nA ≠ r := fun z => by rw [z, h0] at c2; cases c2
  have kp : ∀ x y, M x = some y → (∀ fs, y ≠ oB 13 fs) → x ≠ nA → M' x = some y := fun x y hx hy hn => by
    have xr : x ≠ r := fun z => by rw [z, h0] at hx; cases hx; exact hy _ rfl
    rw [← hM', mU_n xr, mU_n hn, mU_n xr]; exact hx
  have nn : ∀ x y, M x = some y → (∀ n f, y ≠ aG G n f) → x ≠ nA := fun x y hx hy z => by rw [z, c2] at hx; cases hx; exact hy _ _ rfl
  have gm : ∀ {a w}, isGrd G M (rBad plA pA dva dza) a w → isGrd G M' (rBad plA pA dva dza) a w := fun hg => by
    obtain ⟨la, ha, va, za, f1, f2, ⟨g0, g1, g2, g3, g4, g5⟩, b1, b2, b3, b4⟩ := hg
    exact ⟨la, ha, va, za, f1, f2, ⟨kp _ _ g0 (fun _ z => by cases z) (nn _ _ g0 (fun _ _ z => by cases z)), kp _ _ g1 (fun _ z => by cases z) (nn _ _ g1 (fun _ _ z => by simp at z)), kp _ _ g2 (fun _ z => by cases z) (nn _ _ g2 (fun _ _ z => by simp at z)), kp _ _ g3 (fun _ z => by cases z) (nn _ _ g3 (fun _ _ z => by simp at z)), kp _ _ g4 (fun _ z => by cases z) (nn _ _ g4 (fun _ _ z => by simp at z)), g5⟩, b1, b2, b3, b4⟩
  obtain ⟨d0, d1, d2, d3, d4, d5⟩ := c5
  refine ⟨vA, nA, pA, plA, dg, dla, dha, dva, dza, dvf, dzf, vf, gUp nf (aN σ).length q, pf, tk, su, le, gr, by rw [← hM']; exact mU_s, kp _ _ c1 (fun _ z => by cases z) c10, by rw [← hM', mU_n rn]; exact mU_s, kp _ _ c3 (fun _ z => by cases z) (nn _ _ c3 (fun _ _ z => by simp at z)), ⟨xx, kp _ _ c4 (fun _ z => by cases z) (nn _ _ c4 (fun _ _ z => by simp at z))⟩, ⟨kp _ _ d0 (fun _ z => by cases z) (nn _ _ d0 (fun _ _ z => by cases z)), kp _ _ d1 (fun _ z => by cases z) (nn _ _ d1 (fun _ _ z => by simp at z)), kp _ _ d2 (fun _ z => by cases z) (nn _ _ d2 (fun _ _ z => by simp at z)), kp _ _ d3 (fun _ z => by cases z) (nn _ _ d3 (fun _ _ z => by simp at z)), kp _ _ d4 (fun _ z => by cases z) (nn _ _ d4 (fun _ _ z => by simp at z)), d5⟩, c6, fun i c hc => ?_, fun i u hu => ?_, c9, c10⟩
  · obtain ⟨a, q1, q2, q3⟩ := c7 i c hc
    exact ⟨a, q1, gm q2, q3⟩
  · have hu2 : (aN σ ++ [w])[i]? = some u := hu
    rcases lst_end hu2 with h3 | ⟨rfl, rfl⟩
    · obtain ⟨a, q1, q2⟩ := c8 i u h3
      have hi := (List.getElem?_eq_some_iff.mp h3).1
      exact ⟨a, (gUp_n (by omega)).trans q1, gm q2⟩
    · exact ⟨q, gUp_s, gm hg⟩
end

set_option maxRecDepth 20000 in
theorem c_made {l : Launch} {G : gV} {M : gMem} {r : Nat} {e : Int32} {σ : sA} {vA nA pA plA dg dla dha dva dza : Nat} {dvf : Nat → Int64} {dzf : Nat → Int32} {vf nf : Nat → Option Nat} {pf : Nat → Int32} {tk : Int32} {su le gr : Int64} (hB : rfB G M r e σ vA nA pA plA dg dla dha dva dza dvf dzf vf nf pf tk su le gr) {q : Nat} {w : vN} (hg : isGrd G M (rBad plA pA dva dza) q w) (h150 : (aN σ).length < 150) : qC l G yX13_made cX13_made 2 (some .int) 1 0 0 [.ref r, .ref q] M (fun v M' => v = some (.int (nI (aN σ).length)) ∧ isRF G M' r 0 (aPushN σ w)) := by
  refine qC_of (by decide +kernel) (Nat.le_of_ble_eq_true rfl) (fun F hF X hr hn => ?_)
  subst hF
  have X : qX G F cX13_made 2 RX13 1 := X
  obtain ⟨gla, gha, gva, gza, gvf, gzf, ⟨hq, -⟩, -⟩ := id hg
  show qJ G F _ 2 M 0 0 0 [(0, .ref r), (1, .ref q)] []
  refine q_aload_n X dX13_made_0 0 rfl ?_
  refine q_iconst (v := 0) X dX13_made_1 (by decide) ?_
  refine q_put X hB.1 rfl in_RX13 tyX13 tyX13_ok nmX13 0 (by decide) tw_1194 rfl rfl rfl rfl rfl (Nat.le_of_ble_eq_true rfl) (fs1 := [.int 0, .ref vA, .ref nA, .ref pA, .ref plA, .ref dg, .int (nI (aV σ).length), .int (nI (aN σ).length), .int (nI (aOf σ)), .int (nI (aBg σ)), .int tk, .long su, .long le, .long gr]) rfl dX13_made_2 ?_
  have m_1 : (mU M r (oB 13 [.int 0, .ref vA, .ref nA, .ref pA, .ref plA, .ref dg, .int (nI (aV σ).length), .int (nI (aN σ).length), .int (nI (aOf σ)), .int (nI (aBg σ)), .int tk, .long su, .long le, .long gr])) r = some (oB 13 [.int 0, .ref vA, .ref nA, .ref pA, .ref plA, .ref dg, .int (nI (aV σ).length), .int (nI (aN σ).length), .int (nI (aOf σ)), .int (nI (aBg σ)), .int tk, .long su, .long le, .long gr]) := mU_s
  have m_2 : (mU M r (oB 13 [.int 0, .ref vA, .ref nA, .ref pA, .ref plA, .ref dg, .int (nI (aV σ).length), .int (nI (aN σ).length), .int (nI (aOf σ)), .int (nI (aBg σ)), .int tk, .long su, .long le, .long gr])) nA = some (aG G 150 nf) := (mU_n (Ne.symm (g_neoa hB.1 hB.2.2.1))).trans hB.2.2.1
  have m_3 : (mU M r (oB 13 [.int 0, .ref vA, .ref nA, .ref pA, .ref plA, .ref dg, .int (nI (aV σ).length), .int (nI (aN σ).length), .int (nI (aOf σ)), .int (nI (aBg σ)), .int tk, .long su, .long le, .long gr])) q = some (oB 12 [.int (nI (vm w)), .int (nI (vdp w)), .ref gla, .ref gha, .ref gva, .ref gza]) := (mU_n (g_neoo hq hB.1 (by decide))).trans hq
  refine q_aload_n X dX13_made_5 0 rfl ?_
  refine q_get X m_1 rfl in_RX13 2 (by decide) tw_1196 rfl rfl dX13_made_6 ?_
  refine q_aload_n X dX13_made_9 0 rfl ?_
  refine q_get X m_1 rfl in_RX13 7 (by decide) tw_1201 rfl rfl dX13_made_10 ?_
  refine q_aload_n X dX13_made_13 1 rfl ?_
  refine q_gast X ((aN σ).length) m_2 (rfl) (h150) (by decide) m_3 dX13_made_14 ?_
  have m_4 : (mU (mU M r (oB 13 [.int 0, .ref vA, .ref nA, .ref pA, .ref plA, .ref dg, .int (nI (aV σ).length), .int (nI (aN σ).length), .int (nI (aOf σ)), .int (nI (aBg σ)), .int tk, .long su, .long le, .long gr])) nA (aG G 150 (gUp nf ((aN σ).length) q))) r = some (oB 13 [.int 0, .ref vA, .ref nA, .ref pA, .ref plA, .ref dg, .int (nI (aV σ).length), .int (nI (aN σ).length), .int (nI (aOf σ)), .int (nI (aBg σ)), .int tk, .long su, .long le, .long gr]) := (mU_n (g_neoa m_1 m_2)).trans m_1
  have m_5 : (mU (mU M r (oB 13 [.int 0, .ref vA, .ref nA, .ref pA, .ref plA, .ref dg, .int (nI (aV σ).length), .int (nI (aN σ).length), .int (nI (aOf σ)), .int (nI (aBg σ)), .int tk, .long su, .long le, .long gr])) nA (aG G 150 (gUp nf ((aN σ).length) q))) nA = some (aG G 150 (gUp nf ((aN σ).length) q)) := mU_s
  have m_6 : (mU (mU M r (oB 13 [.int 0, .ref vA, .ref nA, .ref pA, .ref plA, .ref dg, .int (nI (aV σ).length), .int (nI (aN σ).length), .int (nI (aOf σ)), .int (nI (aBg σ)), .int tk, .long su, .long le, .long gr])) nA (aG G 150 (gUp nf ((aN σ).length) q))) q = some (oB 12 [.int (nI (vm w)), .int (nI (vdp w)), .ref gla, .ref gha, .ref gva, .ref gza]) := (mU_n (g_neoa m_3 m_2)).trans m_3
  refine q_aload_n X dX13_made_15 0 rfl ?_
  refine q_dup X dX13_made_16 rfl ?_
  refine q_get X m_4 rfl in_RX13 7 (by decide) tw_1201 rfl rfl dX13_made_17 ?_
  refine q_dup_x1 X dX13_made_20 rfl rfl ?_
  refine q_iconst (v := 1) X dX13_made_21 (by decide) ?_
  refine q_iadd X dX13_made_22 ?_
  rw [nI_1, show (aN σ).length + 1 = (aN (aPushN σ w)).length from by show _ = (aN σ ++ [w]).length; simp]
  refine q_put X m_4 rfl in_RX13 tyX13 tyX13_ok nmX13 7 (by decide) tw_1201 rfl rfl rfl rfl rfl (Nat.le_of_ble_eq_true rfl) (fs1 := [.int 0, .ref vA, .ref nA, .ref pA, .ref plA, .ref dg, .int (nI (aV σ).length), .int (nI (aN (aPushN σ w)).length), .int (nI (aOf σ)), .int (nI (aBg σ)), .int tk, .long su, .long le, .long gr]) rfl dX13_made_23 ?_
  have m_7 : (mU (mU (mU M r (oB 13 [.int 0, .ref vA, .ref nA, .ref pA, .ref plA, .ref dg, .int (nI (aV σ).length), .int (nI (aN σ).length), .int (nI (aOf σ)), .int (nI (aBg σ)), .int tk, .long su, .long le, .long gr])) nA (aG G 150 (gUp nf ((aN σ).length) q))) r (oB 13 [.int 0, .ref vA, .ref nA, .ref pA, .ref plA, .ref dg, .int (nI (aV σ).length), .int (nI (aN (aPushN σ w)).length), .int (nI (aOf σ)), .int (nI (aBg σ)), .int tk, .long su, .long le, .long gr])) r = some (oB 13 [.int 0, .ref vA, .ref nA, .ref pA, .ref plA, .ref dg, .int (nI (aV σ).length), .int (nI (aN (aPushN σ w)).length), .int (nI (aOf σ)), .int (nI (aBg σ)), .int tk, .long su, .long le, .long gr]) := mU_s
  have m_8 : (mU (mU (mU M r (oB 13 [.int 0, .ref vA, .ref nA, .ref pA, .ref plA, .ref dg, .int (nI (aV σ).length), .int (nI (aN σ).length), .int (nI (aOf σ)), .int (nI (aBg σ)), .int tk, .long su, .long le, .long gr])) nA (aG G 150 (gUp nf ((aN σ).length) q))) r (oB 13 [.int 0, .ref vA, .ref nA, .ref pA, .ref plA, .ref dg, .int (nI (aV σ).length), .int (nI (aN (aPushN σ w)).length), .int (nI (aOf σ)), .int (nI (aBg σ)), .int tk, .long su, .long le, .long gr])) nA = some (aG G 150 (gUp nf ((aN σ).length) q)) := (mU_n (Ne.symm (g_neoa m_4 m_5))).trans m_5
  exact q_iret X hr dX13_made_26 (⟨rfl, hB.push hg rfl⟩)
