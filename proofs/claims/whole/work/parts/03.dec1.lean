theorem dX0_init_0 : decode cX0_init 0 = .ok (.aload_n 0, 1) := by decide +kernel
theorem dX0_init_1 : decode cX0_init 1 = .ok (.invokespecial 1, 3) := by decide +kernel
theorem dX0_init_4 : decode cX0_init 4 = .ok (.iload_n 1, 1) := by decide +kernel
theorem dX0_init_5 : decode cX0_init 5 = .ok (.iconst 0, 1) := by decide +kernel
theorem dX0_init_6 : decode cX0_init 6 = .ok (.invokestatic 7, 3) := by decide +kernel
theorem dX0_init_9 : decode cX0_init 9 = .ok (.istore_n 2, 1) := by decide +kernel
theorem dX0_init_10 : decode cX0_init 10 = .ok (.aload_n 0, 1) := by decide +kernel
theorem dX0_init_11 : decode cX0_init 11 = .ok (.iload_n 2, 1) := by decide +kernel
theorem dX0_init_12 : decode cX0_init 12 = .ok (.newarray .long, 2) := by decide +kernel
theorem dX0_init_14 : decode cX0_init 14 = .ok (.putfield 13, 3) := by decide +kernel
theorem dX0_init_17 : decode cX0_init 17 = .ok (.aload_n 0, 1) := by decide +kernel
theorem dX0_init_18 : decode cX0_init 18 = .ok (.iload_n 2, 1) := by decide +kernel
theorem dX0_init_19 : decode cX0_init 19 = .ok (.bipush 63, 2) := by decide +kernel
theorem dX0_init_21 : decode cX0_init 21 = .ok (.iadd, 1) := by decide +kernel
theorem dX0_init_22 : decode cX0_init 22 = .ok (.bipush 64, 2) := by decide +kernel
theorem dX0_init_24 : decode cX0_init 24 = .ok (.idiv, 1) := by decide +kernel
theorem dX0_init_25 : decode cX0_init 25 = .ok (.newarray .long, 2) := by decide +kernel
theorem dX0_init_27 : decode cX0_init 27 = .ok (.putfield 19, 3) := by decide +kernel
theorem dX0_init_30 : decode cX0_init 30 = .ok (.return_, 1) := by decide +kernel
theorem dX0_has_0 : decode cX0_has 0 = .ok (.aload_n 0, 1) := by decide +kernel
theorem dX0_has_1 : decode cX0_has 1 = .ok (.iload_n 1, 1) := by decide +kernel
theorem dX0_has_2 : decode cX0_has 2 = .ok (.invokevirtual 22, 3) := by decide +kernel
theorem dX0_has_5 : decode cX0_has 5 = .ok (.ifCond .eq 28, 3) := by decide +kernel
theorem dX0_has_8 : decode cX0_has 8 = .ok (.aload_n 0, 1) := by decide +kernel
theorem dX0_has_9 : decode cX0_has 9 = .ok (.getfield 19, 3) := by decide +kernel
theorem dX0_has_12 : decode cX0_has 12 = .ok (.iload_n 1, 1) := by decide +kernel
theorem dX0_has_13 : decode cX0_has 13 = .ok (.bipush 6, 2) := by decide +kernel
theorem dX0_has_15 : decode cX0_has 15 = .ok (.ishr, 1) := by decide +kernel
theorem dX0_has_16 : decode cX0_has 16 = .ok (.laload, 1) := by decide +kernel
theorem dX0_has_17 : decode cX0_has 17 = .ok (.iload_n 1, 1) := by decide +kernel
theorem dX0_has_18 : decode cX0_has 18 = .ok (.bipush 63, 2) := by decide +kernel
theorem dX0_has_20 : decode cX0_has 20 = .ok (.iand, 1) := by decide +kernel
theorem dX0_has_21 : decode cX0_has 21 = .ok (.lushr, 1) := by decide +kernel
theorem dX0_has_22 : decode cX0_has 22 = .ok (.lconst 1, 1) := by decide +kernel
theorem dX0_has_23 : decode cX0_has 23 = .ok (.land, 1) := by decide +kernel
theorem dX0_has_24 : decode cX0_has 24 = .ok (.lconst 0, 1) := by decide +kernel
theorem dX0_has_25 : decode cX0_has 25 = .ok (.lcmp, 1) := by decide +kernel
theorem dX0_has_26 : decode cX0_has 26 = .ok (.ifCond .eq 7, 3) := by decide +kernel
theorem dX0_has_29 : decode cX0_has 29 = .ok (.iconst 1, 1) := by decide +kernel
theorem dX0_has_30 : decode cX0_has 30 = .ok (.goto 4, 3) := by decide +kernel
theorem dX0_has_33 : decode cX0_has 33 = .ok (.iconst 0, 1) := by decide +kernel
theorem dX0_has_34 : decode cX0_has 34 = .ok (.ireturn, 1) := by decide +kernel
theorem dX0_number_0 : decode cX0_number 0 = .ok (.aload_n 0, 1) := by decide +kernel
theorem dX0_number_1 : decode cX0_number 1 = .ok (.iload_n 1, 1) := by decide +kernel
theorem dX0_number_2 : decode cX0_number 2 = .ok (.invokevirtual 26, 3) := by decide +kernel
theorem dX0_number_5 : decode cX0_number 5 = .ok (.ifCond .eq 12, 3) := by decide +kernel
theorem dX0_number_8 : decode cX0_number 8 = .ok (.aload_n 0, 1) := by decide +kernel
theorem dX0_number_9 : decode cX0_number 9 = .ok (.getfield 13, 3) := by decide +kernel
theorem dX0_number_12 : decode cX0_number 12 = .ok (.iload_n 1, 1) := by decide +kernel
theorem dX0_number_13 : decode cX0_number 13 = .ok (.laload, 1) := by decide +kernel
theorem dX0_number_14 : decode cX0_number 14 = .ok (.goto 4, 3) := by decide +kernel
theorem dX0_number_17 : decode cX0_number 17 = .ok (.lconst 0, 1) := by decide +kernel
theorem dX0_number_18 : decode cX0_number 18 = .ok (.lreturn, 1) := by decide +kernel
theorem dX0_set_0 : decode cX0_set 0 = .ok (.aload_n 0, 1) := by decide +kernel
theorem dX0_set_1 : decode cX0_set 1 = .ok (.iload_n 1, 1) := by decide +kernel
theorem dX0_set_2 : decode cX0_set 2 = .ok (.invokevirtual 22, 3) := by decide +kernel
theorem dX0_set_5 : decode cX0_set 5 = .ok (.ifCond .eq 28, 3) := by decide +kernel
theorem dX0_set_8 : decode cX0_set 8 = .ok (.aload_n 0, 1) := by decide +kernel
theorem dX0_set_9 : decode cX0_set 9 = .ok (.getfield 13, 3) := by decide +kernel
theorem dX0_set_12 : decode cX0_set 12 = .ok (.iload_n 1, 1) := by decide +kernel
theorem dX0_set_13 : decode cX0_set 13 = .ok (.lload_n 2, 1) := by decide +kernel
theorem dX0_set_14 : decode cX0_set 14 = .ok (.lastore, 1) := by decide +kernel
theorem dX0_set_15 : decode cX0_set 15 = .ok (.aload_n 0, 1) := by decide +kernel
theorem dX0_set_16 : decode cX0_set 16 = .ok (.getfield 19, 3) := by decide +kernel
theorem dX0_set_19 : decode cX0_set 19 = .ok (.iload_n 1, 1) := by decide +kernel
theorem dX0_set_20 : decode cX0_set 20 = .ok (.bipush 6, 2) := by decide +kernel
theorem dX0_set_22 : decode cX0_set 22 = .ok (.ishr, 1) := by decide +kernel
theorem dX0_set_23 : decode cX0_set 23 = .ok (.dup2, 1) := by decide +kernel
theorem dX0_set_24 : decode cX0_set 24 = .ok (.laload, 1) := by decide +kernel
theorem dX0_set_25 : decode cX0_set 25 = .ok (.lconst 1, 1) := by decide +kernel
theorem dX0_set_26 : decode cX0_set 26 = .ok (.iload_n 1, 1) := by decide +kernel
theorem dX0_set_27 : decode cX0_set 27 = .ok (.bipush 63, 2) := by decide +kernel
theorem dX0_set_29 : decode cX0_set 29 = .ok (.iand, 1) := by decide +kernel
theorem dX0_set_30 : decode cX0_set 30 = .ok (.lshl, 1) := by decide +kernel
theorem dX0_set_31 : decode cX0_set 31 = .ok (.lor, 1) := by decide +kernel
theorem dX0_set_32 : decode cX0_set 32 = .ok (.lastore, 1) := by decide +kernel
theorem dX0_set_33 : decode cX0_set 33 = .ok (.return_, 1) := by decide +kernel
theorem dX0_empty_0 : decode cX0_empty 0 = .ok (.aload_n 0, 1) := by decide +kernel
theorem dX0_empty_1 : decode cX0_empty 1 = .ok (.iload_n 1, 1) := by decide +kernel
theorem dX0_empty_2 : decode cX0_empty 2 = .ok (.invokevirtual 22, 3) := by decide +kernel
theorem dX0_empty_5 : decode cX0_empty 5 = .ok (.ifCond .eq 25, 3) := by decide +kernel
theorem dX0_empty_8 : decode cX0_empty 8 = .ok (.aload_n 0, 1) := by decide +kernel
theorem dX0_empty_9 : decode cX0_empty 9 = .ok (.getfield 19, 3) := by decide +kernel
theorem dX0_empty_12 : decode cX0_empty 12 = .ok (.iload_n 1, 1) := by decide +kernel
theorem dX0_empty_13 : decode cX0_empty 13 = .ok (.bipush 6, 2) := by decide +kernel
theorem dX0_empty_15 : decode cX0_empty 15 = .ok (.ishr, 1) := by decide +kernel
theorem dX0_empty_16 : decode cX0_empty 16 = .ok (.dup2, 1) := by decide +kernel
theorem dX0_empty_17 : decode cX0_empty 17 = .ok (.laload, 1) := by decide +kernel
theorem dX0_empty_18 : decode cX0_empty 18 = .ok (.lconst 1, 1) := by decide +kernel
theorem dX0_empty_19 : decode cX0_empty 19 = .ok (.iload_n 1, 1) := by decide +kernel
theorem dX0_empty_20 : decode cX0_empty 20 = .ok (.bipush 63, 2) := by decide +kernel
theorem dX0_empty_22 : decode cX0_empty 22 = .ok (.iand, 1) := by decide +kernel
theorem dX0_empty_23 : decode cX0_empty 23 = .ok (.lshl, 1) := by decide +kernel
theorem dX0_empty_24 : decode cX0_empty 24 = .ok (.ldc2_w 29, 3) := by decide +kernel
theorem dX0_empty_27 : decode cX0_empty 27 = .ok (.lxor, 1) := by decide +kernel
theorem dX0_empty_28 : decode cX0_empty 28 = .ok (.land, 1) := by decide +kernel
theorem dX0_empty_29 : decode cX0_empty 29 = .ok (.lastore, 1) := by decide +kernel
theorem dX0_empty_30 : decode cX0_empty 30 = .ok (.return_, 1) := by decide +kernel
theorem dX0_isInside_0 : decode cX0_isInside 0 = .ok (.iload_n 1, 1) := by decide +kernel
theorem dX0_isInside_1 : decode cX0_isInside 1 = .ok (.ifCond .lt 16, 3) := by decide +kernel
theorem dX0_isInside_4 : decode cX0_isInside 4 = .ok (.iload_n 1, 1) := by decide +kernel
theorem dX0_isInside_5 : decode cX0_isInside 5 = .ok (.aload_n 0, 1) := by decide +kernel
theorem dX0_isInside_6 : decode cX0_isInside 6 = .ok (.getfield 13, 3) := by decide +kernel
theorem dX0_isInside_9 : decode cX0_isInside 9 = .ok (.arraylength, 1) := by decide +kernel
theorem dX0_isInside_10 : decode cX0_isInside 10 = .ok (.if_icmp .ge 7, 3) := by decide +kernel
theorem dX0_isInside_13 : decode cX0_isInside 13 = .ok (.iconst 1, 1) := by decide +kernel
theorem dX0_isInside_14 : decode cX0_isInside 14 = .ok (.goto 4, 3) := by decide +kernel
theorem dX0_isInside_17 : decode cX0_isInside 17 = .ok (.iconst 0, 1) := by decide +kernel
theorem dX0_isInside_18 : decode cX0_isInside 18 = .ok (.ireturn, 1) := by decide +kernel
theorem dX0_copyFrom_0 : decode cX0_copyFrom 0 = .ok (.aload_n 0, 1) := by decide +kernel
theorem dX0_copyFrom_1 : decode cX0_copyFrom 1 = .ok (.getfield 13, 3) := by decide +kernel
theorem dX0_copyFrom_4 : decode cX0_copyFrom 4 = .ok (.arraylength, 1) := by decide +kernel
theorem dX0_copyFrom_5 : decode cX0_copyFrom 5 = .ok (.aload_n 1, 1) := by decide +kernel
theorem dX0_copyFrom_6 : decode cX0_copyFrom 6 = .ok (.getfield 13, 3) := by decide +kernel
theorem dX0_copyFrom_9 : decode cX0_copyFrom 9 = .ok (.arraylength, 1) := by decide +kernel
theorem dX0_copyFrom_10 : decode cX0_copyFrom 10 = .ok (.if_icmp .ne 39, 3) := by decide +kernel
theorem dX0_copyFrom_13 : decode cX0_copyFrom 13 = .ok (.aload_n 1, 1) := by decide +kernel
theorem dX0_copyFrom_14 : decode cX0_copyFrom 14 = .ok (.getfield 13, 3) := by decide +kernel
theorem dX0_copyFrom_17 : decode cX0_copyFrom 17 = .ok (.iconst 0, 1) := by decide +kernel
theorem dX0_copyFrom_18 : decode cX0_copyFrom 18 = .ok (.aload_n 0, 1) := by decide +kernel
theorem dX0_copyFrom_19 : decode cX0_copyFrom 19 = .ok (.getfield 13, 3) := by decide +kernel
theorem dX0_copyFrom_22 : decode cX0_copyFrom 22 = .ok (.iconst 0, 1) := by decide +kernel
theorem dX0_copyFrom_23 : decode cX0_copyFrom 23 = .ok (.aload_n 0, 1) := by decide +kernel
theorem dX0_copyFrom_24 : decode cX0_copyFrom 24 = .ok (.getfield 13, 3) := by decide +kernel
theorem dX0_copyFrom_27 : decode cX0_copyFrom 27 = .ok (.arraylength, 1) := by decide +kernel
theorem dX0_copyFrom_28 : decode cX0_copyFrom 28 = .ok (.invokestatic 31, 3) := by decide +kernel
theorem dX0_copyFrom_31 : decode cX0_copyFrom 31 = .ok (.aload_n 1, 1) := by decide +kernel
theorem dX0_copyFrom_32 : decode cX0_copyFrom 32 = .ok (.getfield 19, 3) := by decide +kernel
theorem dX0_copyFrom_35 : decode cX0_copyFrom 35 = .ok (.iconst 0, 1) := by decide +kernel
theorem dX0_copyFrom_36 : decode cX0_copyFrom 36 = .ok (.aload_n 0, 1) := by decide +kernel
theorem dX0_copyFrom_37 : decode cX0_copyFrom 37 = .ok (.getfield 19, 3) := by decide +kernel
theorem dX0_copyFrom_40 : decode cX0_copyFrom 40 = .ok (.iconst 0, 1) := by decide +kernel
theorem dX0_copyFrom_41 : decode cX0_copyFrom 41 = .ok (.aload_n 0, 1) := by decide +kernel
theorem dX0_copyFrom_42 : decode cX0_copyFrom 42 = .ok (.getfield 19, 3) := by decide +kernel
theorem dX0_copyFrom_45 : decode cX0_copyFrom 45 = .ok (.arraylength, 1) := by decide +kernel
theorem dX0_copyFrom_46 : decode cX0_copyFrom 46 = .ok (.invokestatic 31, 3) := by decide +kernel
theorem dX0_copyFrom_49 : decode cX0_copyFrom 49 = .ok (.return_, 1) := by decide +kernel
theorem dX0_filled_0 : decode cX0_filled 0 = .ok (.iconst 0, 1) := by decide +kernel
theorem dX0_filled_1 : decode cX0_filled 1 = .ok (.istore_n 1, 1) := by decide +kernel
theorem dX0_filled_2 : decode cX0_filled 2 = .ok (.iconst 0, 1) := by decide +kernel
theorem dX0_filled_3 : decode cX0_filled 3 = .ok (.istore_n 2, 1) := by decide +kernel
theorem dX0_filled_4 : decode cX0_filled 4 = .ok (.iload_n 2, 1) := by decide +kernel
theorem dX0_filled_5 : decode cX0_filled 5 = .ok (.aload_n 0, 1) := by decide +kernel
theorem dX0_filled_6 : decode cX0_filled 6 = .ok (.getfield 19, 3) := by decide +kernel
theorem dX0_filled_9 : decode cX0_filled 9 = .ok (.arraylength, 1) := by decide +kernel
theorem dX0_filled_10 : decode cX0_filled 10 = .ok (.if_icmp .ge 21, 3) := by decide +kernel
theorem dX0_filled_13 : decode cX0_filled 13 = .ok (.iload_n 1, 1) := by decide +kernel
theorem dX0_filled_14 : decode cX0_filled 14 = .ok (.aload_n 0, 1) := by decide +kernel
theorem dX0_filled_15 : decode cX0_filled 15 = .ok (.getfield 19, 3) := by decide +kernel
theorem dX0_filled_18 : decode cX0_filled 18 = .ok (.iload_n 2, 1) := by decide +kernel
theorem dX0_filled_19 : decode cX0_filled 19 = .ok (.laload, 1) := by decide +kernel
theorem dX0_filled_20 : decode cX0_filled 20 = .ok (.invokestatic 37, 3) := by decide +kernel
theorem dX0_filled_23 : decode cX0_filled 23 = .ok (.iadd, 1) := by decide +kernel
theorem dX0_filled_24 : decode cX0_filled 24 = .ok (.istore_n 1, 1) := by decide +kernel
theorem dX0_filled_25 : decode cX0_filled 25 = .ok (.iinc 2 1, 3) := by decide +kernel
theorem dX0_filled_28 : decode cX0_filled 28 = .ok (.goto (-24), 3) := by decide +kernel
theorem dX0_filled_31 : decode cX0_filled 31 = .ok (.iload_n 1, 1) := by decide +kernel
theorem dX0_filled_32 : decode cX0_filled 32 = .ok (.ireturn, 1) := by decide +kernel
theorem dX0_isSame_0 : decode cX0_isSame 0 = .ok (.aload_n 0, 1) := by decide +kernel
theorem dX0_isSame_1 : decode cX0_isSame 1 = .ok (.iload_n 2, 1) := by decide +kernel
theorem dX0_isSame_2 : decode cX0_isSame 2 = .ok (.invokevirtual 26, 3) := by decide +kernel
theorem dX0_isSame_5 : decode cX0_isSame 5 = .ok (.aload_n 1, 1) := by decide +kernel
theorem dX0_isSame_6 : decode cX0_isSame 6 = .ok (.iload_n 2, 1) := by decide +kernel
theorem dX0_isSame_7 : decode cX0_isSame 7 = .ok (.invokevirtual 26, 3) := by decide +kernel
theorem dX0_isSame_10 : decode cX0_isSame 10 = .ok (.if_icmp .ne 21, 3) := by decide +kernel
theorem dX0_isSame_13 : decode cX0_isSame 13 = .ok (.aload_n 0, 1) := by decide +kernel
theorem dX0_isSame_14 : decode cX0_isSame 14 = .ok (.iload_n 2, 1) := by decide +kernel
theorem dX0_isSame_15 : decode cX0_isSame 15 = .ok (.invokevirtual 43, 3) := by decide +kernel
theorem dX0_isSame_18 : decode cX0_isSame 18 = .ok (.aload_n 1, 1) := by decide +kernel
theorem dX0_isSame_19 : decode cX0_isSame 19 = .ok (.iload_n 2, 1) := by decide +kernel
theorem dX0_isSame_20 : decode cX0_isSame 20 = .ok (.invokevirtual 43, 3) := by decide +kernel
theorem dX0_isSame_23 : decode cX0_isSame 23 = .ok (.lcmp, 1) := by decide +kernel
theorem dX0_isSame_24 : decode cX0_isSame 24 = .ok (.ifCond .ne 7, 3) := by decide +kernel
theorem dX0_isSame_27 : decode cX0_isSame 27 = .ok (.iconst 1, 1) := by decide +kernel
theorem dX0_isSame_28 : decode cX0_isSame 28 = .ok (.goto 4, 3) := by decide +kernel
theorem dX0_isSame_31 : decode cX0_isSame 31 = .ok (.iconst 0, 1) := by decide +kernel
theorem dX0_isSame_32 : decode cX0_isSame 32 = .ok (.ireturn, 1) := by decide +kernel
theorem dX0_differing_0 : decode cX0_differing 0 = .ok (.iconst 0, 1) := by decide +kernel
theorem dX0_differing_1 : decode cX0_differing 1 = .ok (.istore_n 2, 1) := by decide +kernel
theorem dX0_differing_2 : decode cX0_differing 2 = .ok (.iconst 0, 1) := by decide +kernel
theorem dX0_differing_3 : decode cX0_differing 3 = .ok (.istore_n 3, 1) := by decide +kernel
theorem dX0_differing_4 : decode cX0_differing 4 = .ok (.iload_n 3, 1) := by decide +kernel
theorem dX0_differing_5 : decode cX0_differing 5 = .ok (.aload_n 0, 1) := by decide +kernel
theorem dX0_differing_6 : decode cX0_differing 6 = .ok (.getfield 13, 3) := by decide +kernel
theorem dX0_differing_9 : decode cX0_differing 9 = .ok (.arraylength, 1) := by decide +kernel
theorem dX0_differing_10 : decode cX0_differing 10 = .ok (.if_icmp .ge 21, 3) := by decide +kernel
theorem dX0_differing_13 : decode cX0_differing 13 = .ok (.aload_n 0, 1) := by decide +kernel
theorem dX0_differing_14 : decode cX0_differing 14 = .ok (.aload_n 1, 1) := by decide +kernel
theorem dX0_differing_15 : decode cX0_differing 15 = .ok (.iload_n 3, 1) := by decide +kernel
theorem dX0_differing_16 : decode cX0_differing 16 = .ok (.invokevirtual 47, 3) := by decide +kernel
theorem dX0_differing_19 : decode cX0_differing 19 = .ok (.ifCond .ne 6, 3) := by decide +kernel
theorem dX0_differing_22 : decode cX0_differing 22 = .ok (.iinc 2 1, 3) := by decide +kernel
theorem dX0_differing_25 : decode cX0_differing 25 = .ok (.iinc 3 1, 3) := by decide +kernel
theorem dX0_differing_28 : decode cX0_differing 28 = .ok (.goto (-24), 3) := by decide +kernel
theorem dX0_differing_31 : decode cX0_differing 31 = .ok (.iload_n 2, 1) := by decide +kernel
theorem dX0_differing_32 : decode cX0_differing 32 = .ok (.ireturn, 1) := by decide +kernel
theorem dX1_init_0 : decode cX1_init 0 = .ok (.aload_n 0, 1) := by decide +kernel
theorem dX1_init_1 : decode cX1_init 1 = .ok (.invokespecial 1, 3) := by decide +kernel
theorem dX1_init_4 : decode cX1_init 4 = .ok (.iload_n 2, 1) := by decide +kernel
theorem dX1_init_5 : decode cX1_init 5 = .ok (.iconst 4, 1) := by decide +kernel
theorem dX1_init_6 : decode cX1_init 6 = .ok (.iadd, 1) := by decide +kernel
theorem dX1_init_7 : decode cX1_init 7 = .ok (.iconst 1, 1) := by decide +kernel
theorem dX1_init_8 : decode cX1_init 8 = .ok (.isub, 1) := by decide +kernel
theorem dX1_init_9 : decode cX1_init 9 = .ok (.aload_n 1, 1) := by decide +kernel
theorem dX1_init_10 : decode cX1_init 10 = .ok (.iconst 0, 1) := by decide +kernel
theorem dX1_init_11 : decode cX1_init 11 = .ok (.invokevirtual 9, 3) := by decide +kernel
theorem dX1_init_14 : decode cX1_init 14 = .ok (.invokestatic 15, 3) := by decide +kernel
theorem dX1_init_17 : decode cX1_init 17 = .ok (.istore 5, 2) := by decide +kernel
theorem dX1_init_19 : decode cX1_init 19 = .ok (.iload_n 3, 1) := by decide +kernel
theorem dX1_init_20 : decode cX1_init 20 = .ok (.iconst 4, 1) := by decide +kernel
theorem dX1_init_21 : decode cX1_init 21 = .ok (.iadd, 1) := by decide +kernel
theorem dX1_init_22 : decode cX1_init 22 = .ok (.iconst 1, 1) := by decide +kernel
theorem dX1_init_23 : decode cX1_init 23 = .ok (.isub, 1) := by decide +kernel
theorem dX1_init_24 : decode cX1_init 24 = .ok (.aload_n 1, 1) := by decide +kernel
theorem dX1_init_25 : decode cX1_init 25 = .ok (.iconst 1, 1) := by decide +kernel
theorem dX1_init_26 : decode cX1_init 26 = .ok (.invokevirtual 9, 3) := by decide +kernel
theorem dX1_init_29 : decode cX1_init 29 = .ok (.invokestatic 15, 3) := by decide +kernel
theorem dX1_init_32 : decode cX1_init 32 = .ok (.istore 6, 2) := by decide +kernel
theorem dX1_init_34 : decode cX1_init 34 = .ok (.iload 4, 2) := by decide +kernel
theorem dX1_init_36 : decode cX1_init 36 = .ok (.iconst 4, 1) := by decide +kernel
theorem dX1_init_37 : decode cX1_init 37 = .ok (.iadd, 1) := by decide +kernel
theorem dX1_init_38 : decode cX1_init 38 = .ok (.iconst 1, 1) := by decide +kernel
theorem dX1_init_39 : decode cX1_init 39 = .ok (.isub, 1) := by decide +kernel
theorem dX1_init_40 : decode cX1_init 40 = .ok (.aload_n 1, 1) := by decide +kernel
theorem dX1_init_41 : decode cX1_init 41 = .ok (.iconst 2, 1) := by decide +kernel
theorem dX1_init_42 : decode cX1_init 42 = .ok (.invokevirtual 9, 3) := by decide +kernel
theorem dX1_init_45 : decode cX1_init 45 = .ok (.invokestatic 15, 3) := by decide +kernel
theorem dX1_init_48 : decode cX1_init 48 = .ok (.istore 7, 2) := by decide +kernel
theorem dX1_init_50 : decode cX1_init 50 = .ok (.iload 5, 2) := by decide +kernel
theorem dX1_init_52 : decode cX1_init 52 = .ok (.iload_n 2, 1) := by decide +kernel
theorem dX1_init_53 : decode cX1_init 53 = .ok (.isub, 1) := by decide +kernel
theorem dX1_init_54 : decode cX1_init 54 = .ok (.iconst 1, 1) := by decide +kernel
theorem dX1_init_55 : decode cX1_init 55 = .ok (.iadd, 1) := by decide +kernel
theorem dX1_init_56 : decode cX1_init 56 = .ok (.iload 6, 2) := by decide +kernel
theorem dX1_init_58 : decode cX1_init 58 = .ok (.iload_n 3, 1) := by decide +kernel
theorem dX1_init_59 : decode cX1_init 59 = .ok (.isub, 1) := by decide +kernel
theorem dX1_init_60 : decode cX1_init 60 = .ok (.iconst 1, 1) := by decide +kernel
theorem dX1_init_61 : decode cX1_init 61 = .ok (.iadd, 1) := by decide +kernel
theorem dX1_init_62 : decode cX1_init 62 = .ok (.imul, 1) := by decide +kernel
theorem dX1_init_63 : decode cX1_init 63 = .ok (.iload 7, 2) := by decide +kernel
theorem dX1_init_65 : decode cX1_init 65 = .ok (.iload 4, 2) := by decide +kernel
theorem dX1_init_67 : decode cX1_init 67 = .ok (.isub, 1) := by decide +kernel
theorem dX1_init_68 : decode cX1_init 68 = .ok (.iconst 1, 1) := by decide +kernel
theorem dX1_init_69 : decode cX1_init 69 = .ok (.iadd, 1) := by decide +kernel
theorem dX1_init_70 : decode cX1_init 70 = .ok (.imul, 1) := by decide +kernel
theorem dX1_init_71 : decode cX1_init 71 = .ok (.istore 8, 2) := by decide +kernel
theorem dX1_init_73 : decode cX1_init 73 = .ok (.aload_n 0, 1) := by decide +kernel
theorem dX1_init_74 : decode cX1_init 74 = .ok (.iload 8, 2) := by decide +kernel
theorem dX1_init_76 : decode cX1_init 76 = .ok (.iconst 0, 1) := by decide +kernel
theorem dX1_init_77 : decode cX1_init 77 = .ok (.invokestatic 21, 3) := by decide +kernel
theorem dX1_init_80 : decode cX1_init 80 = .ok (.newarray .int, 2) := by decide +kernel
theorem dX1_init_82 : decode cX1_init 82 = .ok (.putfield 24, 3) := by decide +kernel
theorem dX1_init_85 : decode cX1_init 85 = .ok (.iconst 0, 1) := by decide +kernel
theorem dX1_init_86 : decode cX1_init 86 = .ok (.istore 9, 2) := by decide +kernel
theorem dX1_init_88 : decode cX1_init 88 = .ok (.iload_n 2, 1) := by decide +kernel
theorem dX1_init_89 : decode cX1_init 89 = .ok (.istore 10, 2) := by decide +kernel
theorem dX1_init_91 : decode cX1_init 91 = .ok (.iload 10, 2) := by decide +kernel
theorem dX1_init_93 : decode cX1_init 93 = .ok (.iload 5, 2) := by decide +kernel
theorem dX1_init_95 : decode cX1_init 95 = .ok (.if_icmp .gt 72, 3) := by decide +kernel
theorem dX1_init_98 : decode cX1_init 98 = .ok (.iload_n 3, 1) := by decide +kernel
theorem dX1_init_99 : decode cX1_init 99 = .ok (.istore 11, 2) := by decide +kernel
theorem dX1_init_101 : decode cX1_init 101 = .ok (.iload 11, 2) := by decide +kernel
theorem dX1_init_103 : decode cX1_init 103 = .ok (.iload 6, 2) := by decide +kernel
theorem dX1_init_105 : decode cX1_init 105 = .ok (.if_icmp .gt 56, 3) := by decide +kernel
theorem dX1_init_108 : decode cX1_init 108 = .ok (.iload 4, 2) := by decide +kernel
theorem dX1_init_110 : decode cX1_init 110 = .ok (.istore 12, 2) := by decide +kernel
theorem dX1_init_112 : decode cX1_init 112 = .ok (.iload 12, 2) := by decide +kernel
theorem dX1_init_114 : decode cX1_init 114 = .ok (.iload 7, 2) := by decide +kernel
theorem dX1_init_116 : decode cX1_init 116 = .ok (.if_icmp .gt 39, 3) := by decide +kernel
theorem dX1_init_119 : decode cX1_init 119 = .ok (.iload 9, 2) := by decide +kernel
theorem dX1_init_121 : decode cX1_init 121 = .ok (.aload_n 0, 1) := by decide +kernel
theorem dX1_init_122 : decode cX1_init 122 = .ok (.getfield 24, 3) := by decide +kernel
theorem dX1_init_125 : decode cX1_init 125 = .ok (.arraylength, 1) := by decide +kernel
theorem dX1_init_126 : decode cX1_init 126 = .ok (.if_icmp .ge 29, 3) := by decide +kernel
theorem dX1_init_129 : decode cX1_init 129 = .ok (.aload_n 0, 1) := by decide +kernel
theorem dX1_init_130 : decode cX1_init 130 = .ok (.getfield 24, 3) := by decide +kernel
theorem dX1_init_133 : decode cX1_init 133 = .ok (.iload 9, 2) := by decide +kernel
theorem dX1_init_135 : decode cX1_init 135 = .ok (.aload_n 1, 1) := by decide +kernel
theorem dX1_init_136 : decode cX1_init 136 = .ok (.iload 10, 2) := by decide +kernel
theorem dX1_init_138 : decode cX1_init 138 = .ok (.iload 11, 2) := by decide +kernel
theorem dX1_init_140 : decode cX1_init 140 = .ok (.iload 12, 2) := by decide +kernel
theorem dX1_init_142 : decode cX1_init 142 = .ok (.invokevirtual 28, 3) := by decide +kernel
theorem dX1_init_145 : decode cX1_init 145 = .ok (.iastore, 1) := by decide +kernel
theorem dX1_init_146 : decode cX1_init 146 = .ok (.iinc 9 1, 3) := by decide +kernel
theorem dX1_init_149 : decode cX1_init 149 = .ok (.iinc 12 1, 3) := by decide +kernel
theorem dX1_init_152 : decode cX1_init 152 = .ok (.goto (-40), 3) := by decide +kernel
theorem dX1_init_155 : decode cX1_init 155 = .ok (.iinc 11 1, 3) := by decide +kernel
theorem dX1_init_158 : decode cX1_init 158 = .ok (.goto (-57), 3) := by decide +kernel
theorem dX1_init_161 : decode cX1_init 161 = .ok (.iinc 10 1, 3) := by decide +kernel
theorem dX1_init_164 : decode cX1_init 164 = .ok (.goto (-73), 3) := by decide +kernel
theorem dX1_init_167 : decode cX1_init 167 = .ok (.return_, 1) := by decide +kernel
theorem dX1_isSame_0 : decode cX1_isSame 0 = .ok (.iconst 0, 1) := by decide +kernel
theorem dX1_isSame_1 : decode cX1_isSame 1 = .ok (.istore_n 3, 1) := by decide +kernel
theorem dX1_isSame_2 : decode cX1_isSame 2 = .ok (.iload_n 3, 1) := by decide +kernel
theorem dX1_isSame_3 : decode cX1_isSame 3 = .ok (.aload_n 0, 1) := by decide +kernel
theorem dX1_isSame_4 : decode cX1_isSame 4 = .ok (.getfield 24, 3) := by decide +kernel
theorem dX1_isSame_7 : decode cX1_isSame 7 = .ok (.arraylength, 1) := by decide +kernel
theorem dX1_isSame_8 : decode cX1_isSame 8 = .ok (.if_icmp .ge 25, 3) := by decide +kernel
theorem dX1_isSame_11 : decode cX1_isSame 11 = .ok (.aload_n 1, 1) := by decide +kernel
theorem dX1_isSame_12 : decode cX1_isSame 12 = .ok (.aload_n 2, 1) := by decide +kernel
theorem dX1_isSame_13 : decode cX1_isSame 13 = .ok (.aload_n 0, 1) := by decide +kernel
theorem dX1_isSame_14 : decode cX1_isSame 14 = .ok (.getfield 24, 3) := by decide +kernel
theorem dX1_isSame_17 : decode cX1_isSame 17 = .ok (.iload_n 3, 1) := by decide +kernel
theorem dX1_isSame_18 : decode cX1_isSame 18 = .ok (.iaload, 1) := by decide +kernel
theorem dX1_isSame_19 : decode cX1_isSame 19 = .ok (.invokevirtual 32, 3) := by decide +kernel
theorem dX1_isSame_22 : decode cX1_isSame 22 = .ok (.ifCond .ne 5, 3) := by decide +kernel
theorem dX1_isSame_25 : decode cX1_isSame 25 = .ok (.iconst 0, 1) := by decide +kernel
theorem dX1_isSame_26 : decode cX1_isSame 26 = .ok (.ireturn, 1) := by decide +kernel
theorem dX1_isSame_27 : decode cX1_isSame 27 = .ok (.iinc 3 1, 3) := by decide +kernel
theorem dX1_isSame_30 : decode cX1_isSame 30 = .ok (.goto (-28), 3) := by decide +kernel
theorem dX1_isSame_33 : decode cX1_isSame 33 = .ok (.iconst 1, 1) := by decide +kernel
theorem dX1_isSame_34 : decode cX1_isSame 34 = .ok (.ireturn, 1) := by decide +kernel
theorem dX1_octets_0 : decode cX1_octets 0 = .ok (.bipush 8, 2) := by decide +kernel
theorem dX1_octets_2 : decode cX1_octets 2 = .ok (.istore_n 2, 1) := by decide +kernel
theorem dX1_octets_3 : decode cX1_octets 3 = .ok (.iconst 1, 1) := by decide +kernel
theorem dX1_octets_4 : decode cX1_octets 4 = .ok (.istore_n 3, 1) := by decide +kernel
theorem dX1_octets_5 : decode cX1_octets 5 = .ok (.lconst 0, 1) := by decide +kernel
theorem dX1_octets_6 : decode cX1_octets 6 = .ok (.lstore 4, 2) := by decide +kernel
theorem dX1_octets_8 : decode cX1_octets 8 = .ok (.iconst 0, 1) := by decide +kernel
theorem dX1_octets_9 : decode cX1_octets 9 = .ok (.istore 6, 2) := by decide +kernel
theorem dX1_octets_11 : decode cX1_octets 11 = .ok (.iload 6, 2) := by decide +kernel
theorem dX1_octets_13 : decode cX1_octets 13 = .ok (.aload_n 0, 1) := by decide +kernel
theorem dX1_octets_14 : decode cX1_octets 14 = .ok (.getfield 24, 3) := by decide +kernel
theorem dX1_octets_17 : decode cX1_octets 17 = .ok (.arraylength, 1) := by decide +kernel
theorem dX1_octets_18 : decode cX1_octets 18 = .ok (.if_icmp .ge 67, 3) := by decide +kernel
theorem dX1_octets_21 : decode cX1_octets 21 = .ok (.aload_n 1, 1) := by decide +kernel
theorem dX1_octets_22 : decode cX1_octets 22 = .ok (.aload_n 0, 1) := by decide +kernel
theorem dX1_octets_23 : decode cX1_octets 23 = .ok (.getfield 24, 3) := by decide +kernel
theorem dX1_octets_26 : decode cX1_octets 26 = .ok (.iload 6, 2) := by decide +kernel
theorem dX1_octets_28 : decode cX1_octets 28 = .ok (.iaload, 1) := by decide +kernel
theorem dX1_octets_29 : decode cX1_octets 29 = .ok (.invokevirtual 38, 3) := by decide +kernel
theorem dX1_octets_32 : decode cX1_octets 32 = .ok (.ifCond .eq 47, 3) := by decide +kernel
theorem dX1_octets_35 : decode cX1_octets 35 = .ok (.aload_n 1, 1) := by decide +kernel
theorem dX1_octets_36 : decode cX1_octets 36 = .ok (.aload_n 0, 1) := by decide +kernel
theorem dX1_octets_37 : decode cX1_octets 37 = .ok (.getfield 24, 3) := by decide +kernel
theorem dX1_octets_40 : decode cX1_octets 40 = .ok (.iload 6, 2) := by decide +kernel
theorem dX1_octets_42 : decode cX1_octets 42 = .ok (.iaload, 1) := by decide +kernel
theorem dX1_octets_43 : decode cX1_octets 43 = .ok (.invokevirtual 42, 3) := by decide +kernel
theorem dX1_octets_46 : decode cX1_octets 46 = .ok (.lstore 7, 2) := by decide +kernel
theorem dX1_octets_48 : decode cX1_octets 48 = .ok (.iload_n 3, 1) := by decide +kernel
theorem dX1_octets_49 : decode cX1_octets 49 = .ok (.ifCond .ne 11, 3) := by decide +kernel
theorem dX1_octets_52 : decode cX1_octets 52 = .ok (.lload 7, 2) := by decide +kernel
theorem dX1_octets_54 : decode cX1_octets 54 = .ok (.lload 4, 2) := by decide +kernel
theorem dX1_octets_56 : decode cX1_octets 56 = .ok (.lcmp, 1) := by decide +kernel
theorem dX1_octets_57 : decode cX1_octets 57 = .ok (.ifCond .eq 22, 3) := by decide +kernel
theorem dX1_octets_60 : decode cX1_octets 60 = .ok (.iload_n 2, 1) := by decide +kernel
theorem dX1_octets_61 : decode cX1_octets 61 = .ok (.iconst 1, 1) := by decide +kernel
theorem dX1_octets_62 : decode cX1_octets 62 = .ok (.lload 7, 2) := by decide +kernel
theorem dX1_octets_64 : decode cX1_octets 64 = .ok (.lload 4, 2) := by decide +kernel
theorem dX1_octets_66 : decode cX1_octets 66 = .ok (.lsub, 1) := by decide +kernel
theorem dX1_octets_67 : decode cX1_octets 67 = .ok (.invokestatic 46, 3) := by decide +kernel
theorem dX1_octets_70 : decode cX1_octets 70 = .ok (.iadd, 1) := by decide +kernel
theorem dX1_octets_71 : decode cX1_octets 71 = .ok (.iadd, 1) := by decide +kernel
theorem dX1_octets_72 : decode cX1_octets 72 = .ok (.istore_n 2, 1) := by decide +kernel
theorem dX1_octets_73 : decode cX1_octets 73 = .ok (.lload 7, 2) := by decide +kernel
theorem dX1_octets_75 : decode cX1_octets 75 = .ok (.lstore 4, 2) := by decide +kernel
theorem dX1_octets_77 : decode cX1_octets 77 = .ok (.iconst 0, 1) := by decide +kernel
theorem dX1_octets_78 : decode cX1_octets 78 = .ok (.istore_n 3, 1) := by decide +kernel
theorem dX1_octets_79 : decode cX1_octets 79 = .ok (.iinc 6 1, 3) := by decide +kernel
theorem dX1_octets_82 : decode cX1_octets 82 = .ok (.goto (-71), 3) := by decide +kernel
theorem dX1_octets_85 : decode cX1_octets 85 = .ok (.iload_n 2, 1) := by decide +kernel
theorem dX1_octets_86 : decode cX1_octets 86 = .ok (.ireturn, 1) := by decide +kernel
theorem dX1_octetsOf_0 : decode cX1_octetsOf 0 = .ok (.lload_n 0, 1) := by decide +kernel
theorem dX1_octetsOf_1 : decode cX1_octetsOf 1 = .ok (.iconst 1, 1) := by decide +kernel
theorem dX1_octetsOf_2 : decode cX1_octetsOf 2 = .ok (.lshl, 1) := by decide +kernel
theorem dX1_octetsOf_3 : decode cX1_octetsOf 3 = .ok (.lload_n 0, 1) := by decide +kernel
theorem dX1_octetsOf_4 : decode cX1_octetsOf 4 = .ok (.bipush 63, 2) := by decide +kernel
theorem dX1_octetsOf_6 : decode cX1_octetsOf 6 = .ok (.lshr, 1) := by decide +kernel
theorem dX1_octetsOf_7 : decode cX1_octetsOf 7 = .ok (.lxor, 1) := by decide +kernel
theorem dX1_octetsOf_8 : decode cX1_octetsOf 8 = .ok (.lstore_n 2, 1) := by decide +kernel
theorem dX1_octetsOf_9 : decode cX1_octetsOf 9 = .ok (.iconst 1, 1) := by decide +kernel
theorem dX1_octetsOf_10 : decode cX1_octetsOf 10 = .ok (.istore 4, 2) := by decide +kernel
theorem dX1_octetsOf_12 : decode cX1_octetsOf 12 = .ok (.iload 4, 2) := by decide +kernel
theorem dX1_octetsOf_14 : decode cX1_octetsOf 14 = .ok (.bipush 10, 2) := by decide +kernel
theorem dX1_octetsOf_16 : decode cX1_octetsOf 16 = .ok (.if_icmp .ge 23, 3) := by decide +kernel
theorem dX1_octetsOf_19 : decode cX1_octetsOf 19 = .ok (.lload_n 2, 1) := by decide +kernel
theorem dX1_octetsOf_20 : decode cX1_octetsOf 20 = .ok (.bipush 7, 2) := by decide +kernel
theorem dX1_octetsOf_22 : decode cX1_octetsOf 22 = .ok (.lushr, 1) := by decide +kernel
theorem dX1_octetsOf_23 : decode cX1_octetsOf 23 = .ok (.lconst 0, 1) := by decide +kernel
theorem dX1_octetsOf_24 : decode cX1_octetsOf 24 = .ok (.lcmp, 1) := by decide +kernel
theorem dX1_octetsOf_25 : decode cX1_octetsOf 25 = .ok (.ifCond .eq 14, 3) := by decide +kernel
theorem dX1_octetsOf_28 : decode cX1_octetsOf 28 = .ok (.lload_n 2, 1) := by decide +kernel
theorem dX1_octetsOf_29 : decode cX1_octetsOf 29 = .ok (.bipush 7, 2) := by decide +kernel
theorem dX1_octetsOf_31 : decode cX1_octetsOf 31 = .ok (.lushr, 1) := by decide +kernel
theorem dX1_octetsOf_32 : decode cX1_octetsOf 32 = .ok (.lstore_n 2, 1) := by decide +kernel
theorem dX1_octetsOf_33 : decode cX1_octetsOf 33 = .ok (.iinc 4 1, 3) := by decide +kernel
theorem dX1_octetsOf_36 : decode cX1_octetsOf 36 = .ok (.goto (-24), 3) := by decide +kernel
theorem dX1_octetsOf_39 : decode cX1_octetsOf 39 = .ok (.iload 4, 2) := by decide +kernel
theorem dX1_octetsOf_41 : decode cX1_octetsOf 41 = .ok (.ireturn, 1) := by decide +kernel
theorem dX2_init_0 : decode cX2_init 0 = .ok (.aload_n 0, 1) := by decide +kernel
theorem dX2_init_1 : decode cX2_init 1 = .ok (.aload_n 1, 1) := by decide +kernel
theorem dX2_init_2 : decode cX2_init 2 = .ok (.invokevirtual 1, 3) := by decide +kernel
theorem dX2_init_5 : decode cX2_init 5 = .ok (.aload_n 1, 1) := by decide +kernel
theorem dX2_init_6 : decode cX2_init 6 = .ok (.invokevirtual 7, 3) := by decide +kernel
theorem dX2_init_9 : decode cX2_init 9 = .ok (.iconst 1, 1) := by decide +kernel
theorem dX2_init_10 : decode cX2_init 10 = .ok (.iadd, 1) := by decide +kernel
theorem dX2_init_11 : decode cX2_init 11 = .ok (.invokespecial 11, 3) := by decide +kernel
theorem dX2_init_14 : decode cX2_init 14 = .ok (.aload_n 0, 1) := by decide +kernel
theorem dX2_init_15 : decode cX2_init 15 = .ok (.aload_n 1, 1) := by decide +kernel
theorem dX2_init_16 : decode cX2_init 16 = .ok (.putfield 15, 3) := by decide +kernel
theorem dX2_init_19 : decode cX2_init 19 = .ok (.aload_n 0, 1) := by decide +kernel
theorem dX2_init_20 : decode cX2_init 20 = .ok (.iload_n 2, 1) := by decide +kernel
theorem dX2_init_21 : decode cX2_init 21 = .ok (.putfield 21, 3) := by decide +kernel
theorem dX2_init_24 : decode cX2_init 24 = .ok (.aload_n 0, 1) := by decide +kernel
theorem dX2_init_25 : decode cX2_init 25 = .ok (.lload_n 3, 1) := by decide +kernel
theorem dX2_init_26 : decode cX2_init 26 = .ok (.putfield 25, 3) := by decide +kernel
theorem dX2_init_29 : decode cX2_init 29 = .ok (.return_, 1) := by decide +kernel
theorem dX2_work_0 : decode cX2_work 0 = .ok (.aload_n 0, 1) := by decide +kernel
theorem dX2_work_1 : decode cX2_work 1 = .ok (.getfield 15, 3) := by decide +kernel
theorem dX2_work_4 : decode cX2_work 4 = .ok (.iload_n 1, 1) := by decide +kernel
theorem dX2_work_5 : decode cX2_work 5 = .ok (.invokevirtual 29, 3) := by decide +kernel
theorem dX2_work_8 : decode cX2_work 8 = .ok (.ifCond .ne 4, 3) := by decide +kernel
theorem dX2_work_11 : decode cX2_work 11 = .ok (.return_, 1) := by decide +kernel
theorem dX2_work_12 : decode cX2_work 12 = .ok (.aload_n 0, 1) := by decide +kernel
theorem dX2_work_13 : decode cX2_work 13 = .ok (.getfield 15, 3) := by decide +kernel
theorem dX2_work_16 : decode cX2_work 16 = .ok (.iload_n 1, 1) := by decide +kernel
theorem dX2_work_17 : decode cX2_work 17 = .ok (.invokevirtual 33, 3) := by decide +kernel
theorem dX2_work_20 : decode cX2_work 20 = .ok (.lstore_n 2, 1) := by decide +kernel
theorem dX2_work_21 : decode cX2_work 21 = .ok (.aload_n 0, 1) := by decide +kernel
theorem dX2_work_22 : decode cX2_work 22 = .ok (.getfield 21, 3) := by decide +kernel
theorem dX2_work_25 : decode cX2_work 25 = .ok (.bipush 6, 2) := by decide +kernel
theorem dX2_work_27 : decode cX2_work 27 = .ok (.if_icmp .ge 12, 3) := by decide +kernel
theorem dX2_work_30 : decode cX2_work 30 = .ok (.aload_n 0, 1) := by decide +kernel
theorem dX2_work_31 : decode cX2_work 31 = .ok (.iload_n 1, 1) := by decide +kernel
theorem dX2_work_32 : decode cX2_work 32 = .ok (.lload_n 2, 1) := by decide +kernel
theorem dX2_work_33 : decode cX2_work 33 = .ok (.invokevirtual 37, 3) := by decide +kernel
theorem dX2_work_36 : decode cX2_work 36 = .ok (.goto 17, 3) := by decide +kernel
theorem dX2_work_39 : decode cX2_work 39 = .ok (.aload_n 0, 1) := by decide +kernel
theorem dX2_work_40 : decode cX2_work 40 = .ok (.lload_n 2, 1) := by decide +kernel
theorem dX2_work_41 : decode cX2_work 41 = .ok (.invokevirtual 41, 3) := by decide +kernel
theorem dX2_work_44 : decode cX2_work 44 = .ok (.ifCond .eq 9, 3) := by decide +kernel
theorem dX2_work_47 : decode cX2_work 47 = .ok (.aload_n 0, 1) := by decide +kernel
theorem dX2_work_48 : decode cX2_work 48 = .ok (.iload_n 1, 1) := by decide +kernel
theorem dX2_work_49 : decode cX2_work 49 = .ok (.lload_n 2, 1) := by decide +kernel
theorem dX2_work_50 : decode cX2_work 50 = .ok (.invokevirtual 45, 3) := by decide +kernel
theorem dX2_work_53 : decode cX2_work 53 = .ok (.return_, 1) := by decide +kernel
theorem dX2_change_0 : decode cX2_change 0 = .ok (.aload_n 0, 1) := by decide +kernel
theorem dX2_change_1 : decode cX2_change 1 = .ok (.getfield 21, 3) := by decide +kernel
theorem dX2_change_4 : decode cX2_change 4 = .ok (.tableswitch 148 0 5 #[40, 54, 68, 91, 114, 128], 40) := by decide +kernel
theorem dX2_change_44 : decode cX2_change 44 = .ok (.aload_n 0, 1) := by decide +kernel
theorem dX2_change_45 : decode cX2_change 45 = .ok (.iload_n 1, 1) := by decide +kernel
theorem dX2_change_46 : decode cX2_change 46 = .ok (.lload_n 2, 1) := by decide +kernel
theorem dX2_change_47 : decode cX2_change 47 = .ok (.aload_n 0, 1) := by decide +kernel
theorem dX2_change_48 : decode cX2_change 48 = .ok (.getfield 25, 3) := by decide +kernel
theorem dX2_change_51 : decode cX2_change 51 = .ok (.ladd, 1) := by decide +kernel
theorem dX2_change_52 : decode cX2_change 52 = .ok (.invokevirtual 45, 3) := by decide +kernel
theorem dX2_change_55 : decode cX2_change 55 = .ok (.goto 97, 3) := by decide +kernel
theorem dX2_change_58 : decode cX2_change 58 = .ok (.aload_n 0, 1) := by decide +kernel
theorem dX2_change_59 : decode cX2_change 59 = .ok (.iload_n 1, 1) := by decide +kernel
theorem dX2_change_60 : decode cX2_change 60 = .ok (.lload_n 2, 1) := by decide +kernel
theorem dX2_change_61 : decode cX2_change 61 = .ok (.aload_n 0, 1) := by decide +kernel
theorem dX2_change_62 : decode cX2_change 62 = .ok (.getfield 25, 3) := by decide +kernel
theorem dX2_change_65 : decode cX2_change 65 = .ok (.lmul, 1) := by decide +kernel
theorem dX2_change_66 : decode cX2_change 66 = .ok (.invokevirtual 45, 3) := by decide +kernel
theorem dX2_change_69 : decode cX2_change 69 = .ok (.goto 83, 3) := by decide +kernel
theorem dX2_change_72 : decode cX2_change 72 = .ok (.aload_n 0, 1) := by decide +kernel
theorem dX2_change_73 : decode cX2_change 73 = .ok (.getfield 25, 3) := by decide +kernel
theorem dX2_change_76 : decode cX2_change 76 = .ok (.lconst 0, 1) := by decide +kernel
theorem dX2_change_77 : decode cX2_change 77 = .ok (.lcmp, 1) := by decide +kernel
theorem dX2_change_78 : decode cX2_change 78 = .ok (.ifCond .eq 74, 3) := by decide +kernel
theorem dX2_change_81 : decode cX2_change 81 = .ok (.aload_n 0, 1) := by decide +kernel
theorem dX2_change_82 : decode cX2_change 82 = .ok (.iload_n 1, 1) := by decide +kernel
theorem dX2_change_83 : decode cX2_change 83 = .ok (.lload_n 2, 1) := by decide +kernel
theorem dX2_change_84 : decode cX2_change 84 = .ok (.aload_n 0, 1) := by decide +kernel
theorem dX2_change_85 : decode cX2_change 85 = .ok (.getfield 25, 3) := by decide +kernel
theorem dX2_change_88 : decode cX2_change 88 = .ok (.ldiv, 1) := by decide +kernel
theorem dX2_change_89 : decode cX2_change 89 = .ok (.invokevirtual 45, 3) := by decide +kernel
theorem dX2_change_92 : decode cX2_change 92 = .ok (.goto 60, 3) := by decide +kernel
theorem dX2_change_95 : decode cX2_change 95 = .ok (.aload_n 0, 1) := by decide +kernel
theorem dX2_change_96 : decode cX2_change 96 = .ok (.getfield 25, 3) := by decide +kernel
theorem dX2_change_99 : decode cX2_change 99 = .ok (.lconst 0, 1) := by decide +kernel
theorem dX2_change_100 : decode cX2_change 100 = .ok (.lcmp, 1) := by decide +kernel
theorem dX2_change_101 : decode cX2_change 101 = .ok (.ifCond .eq 51, 3) := by decide +kernel
theorem dX2_change_104 : decode cX2_change 104 = .ok (.aload_n 0, 1) := by decide +kernel
theorem dX2_change_105 : decode cX2_change 105 = .ok (.iload_n 1, 1) := by decide +kernel
theorem dX2_change_106 : decode cX2_change 106 = .ok (.lload_n 2, 1) := by decide +kernel
theorem dX2_change_107 : decode cX2_change 107 = .ok (.aload_n 0, 1) := by decide +kernel
theorem dX2_change_108 : decode cX2_change 108 = .ok (.getfield 25, 3) := by decide +kernel
theorem dX2_change_111 : decode cX2_change 111 = .ok (.lrem, 1) := by decide +kernel
theorem dX2_change_112 : decode cX2_change 112 = .ok (.invokevirtual 45, 3) := by decide +kernel
theorem dX2_change_115 : decode cX2_change 115 = .ok (.goto 37, 3) := by decide +kernel
theorem dX2_change_118 : decode cX2_change 118 = .ok (.aload_n 0, 1) := by decide +kernel
theorem dX2_change_119 : decode cX2_change 119 = .ok (.iload_n 1, 1) := by decide +kernel
theorem dX2_change_120 : decode cX2_change 120 = .ok (.aload_n 0, 1) := by decide +kernel
theorem dX2_change_121 : decode cX2_change 121 = .ok (.getfield 25, 3) := by decide +kernel
theorem dX2_change_124 : decode cX2_change 124 = .ok (.lload_n 2, 1) := by decide +kernel
theorem dX2_change_125 : decode cX2_change 125 = .ok (.lsub, 1) := by decide +kernel
theorem dX2_change_126 : decode cX2_change 126 = .ok (.invokevirtual 45, 3) := by decide +kernel
theorem dX2_change_129 : decode cX2_change 129 = .ok (.goto 23, 3) := by decide +kernel
theorem dX2_change_132 : decode cX2_change 132 = .ok (.lload_n 2, 1) := by decide +kernel
theorem dX2_change_133 : decode cX2_change 133 = .ok (.lconst 0, 1) := by decide +kernel
theorem dX2_change_134 : decode cX2_change 134 = .ok (.lcmp, 1) := by decide +kernel
theorem dX2_change_135 : decode cX2_change 135 = .ok (.ifCond .eq 17, 3) := by decide +kernel
theorem dX2_change_138 : decode cX2_change 138 = .ok (.aload_n 0, 1) := by decide +kernel
theorem dX2_change_139 : decode cX2_change 139 = .ok (.iload_n 1, 1) := by decide +kernel
theorem dX2_change_140 : decode cX2_change 140 = .ok (.aload_n 0, 1) := by decide +kernel
theorem dX2_change_141 : decode cX2_change 141 = .ok (.getfield 25, 3) := by decide +kernel
theorem dX2_change_144 : decode cX2_change 144 = .ok (.lload_n 2, 1) := by decide +kernel
theorem dX2_change_145 : decode cX2_change 145 = .ok (.ldiv, 1) := by decide +kernel
theorem dX2_change_146 : decode cX2_change 146 = .ok (.invokevirtual 45, 3) := by decide +kernel
theorem dX2_change_149 : decode cX2_change 149 = .ok (.goto 3, 3) := by decide +kernel
theorem dX2_change_152 : decode cX2_change 152 = .ok (.return_, 1) := by decide +kernel
theorem dX2_isKept_0 : decode cX2_isKept 0 = .ok (.aload_n 0, 1) := by decide +kernel
theorem dX2_isKept_1 : decode cX2_isKept 1 = .ok (.getfield 21, 3) := by decide +kernel
theorem dX2_isKept_4 : decode cX2_isKept 4 = .ok (.bipush 6, 2) := by decide +kernel
theorem dX2_isKept_6 : decode cX2_isKept 6 = .ok (.isub, 1) := by decide +kernel
theorem dX2_isKept_7 : decode cX2_isKept 7 = .ok (.tableswitch 70 0 2 #[25, 40, 55], 25) := by decide +kernel
theorem dX2_isKept_32 : decode cX2_isKept 32 = .ok (.lload_n 1, 1) := by decide +kernel
theorem dX2_isKept_33 : decode cX2_isKept 33 = .ok (.aload_n 0, 1) := by decide +kernel
theorem dX2_isKept_34 : decode cX2_isKept 34 = .ok (.getfield 25, 3) := by decide +kernel
theorem dX2_isKept_37 : decode cX2_isKept 37 = .ok (.lcmp, 1) := by decide +kernel
theorem dX2_isKept_38 : decode cX2_isKept 38 = .ok (.ifCond .ne 7, 3) := by decide +kernel
theorem dX2_isKept_41 : decode cX2_isKept 41 = .ok (.iconst 1, 1) := by decide +kernel
theorem dX2_isKept_42 : decode cX2_isKept 42 = .ok (.goto 4, 3) := by decide +kernel
theorem dX2_isKept_45 : decode cX2_isKept 45 = .ok (.iconst 0, 1) := by decide +kernel
theorem dX2_isKept_46 : decode cX2_isKept 46 = .ok (.ireturn, 1) := by decide +kernel
theorem dX2_isKept_47 : decode cX2_isKept 47 = .ok (.lload_n 1, 1) := by decide +kernel
theorem dX2_isKept_48 : decode cX2_isKept 48 = .ok (.aload_n 0, 1) := by decide +kernel
theorem dX2_isKept_49 : decode cX2_isKept 49 = .ok (.getfield 25, 3) := by decide +kernel
theorem dX2_isKept_52 : decode cX2_isKept 52 = .ok (.lcmp, 1) := by decide +kernel
theorem dX2_isKept_53 : decode cX2_isKept 53 = .ok (.ifCond .eq 7, 3) := by decide +kernel
theorem dX2_isKept_56 : decode cX2_isKept 56 = .ok (.iconst 1, 1) := by decide +kernel
theorem dX2_isKept_57 : decode cX2_isKept 57 = .ok (.goto 4, 3) := by decide +kernel
theorem dX2_isKept_60 : decode cX2_isKept 60 = .ok (.iconst 0, 1) := by decide +kernel
theorem dX2_isKept_61 : decode cX2_isKept 61 = .ok (.ireturn, 1) := by decide +kernel
theorem dX2_isKept_62 : decode cX2_isKept 62 = .ok (.lload_n 1, 1) := by decide +kernel
theorem dX2_isKept_63 : decode cX2_isKept 63 = .ok (.aload_n 0, 1) := by decide +kernel
theorem dX2_isKept_64 : decode cX2_isKept 64 = .ok (.getfield 25, 3) := by decide +kernel
theorem dX2_isKept_67 : decode cX2_isKept 67 = .ok (.lcmp, 1) := by decide +kernel
theorem dX2_isKept_68 : decode cX2_isKept 68 = .ok (.ifCond .ge 7, 3) := by decide +kernel
theorem dX2_isKept_71 : decode cX2_isKept 71 = .ok (.iconst 1, 1) := by decide +kernel
theorem dX2_isKept_72 : decode cX2_isKept 72 = .ok (.goto 4, 3) := by decide +kernel
theorem dX2_isKept_75 : decode cX2_isKept 75 = .ok (.iconst 0, 1) := by decide +kernel
theorem dX2_isKept_76 : decode cX2_isKept 76 = .ok (.ireturn, 1) := by decide +kernel
theorem dX2_isKept_77 : decode cX2_isKept 77 = .ok (.lload_n 1, 1) := by decide +kernel
theorem dX2_isKept_78 : decode cX2_isKept 78 = .ok (.aload_n 0, 1) := by decide +kernel
theorem dX2_isKept_79 : decode cX2_isKept 79 = .ok (.getfield 25, 3) := by decide +kernel
theorem dX2_isKept_82 : decode cX2_isKept 82 = .ok (.lcmp, 1) := by decide +kernel
theorem dX2_isKept_83 : decode cX2_isKept 83 = .ok (.ifCond .lt 7, 3) := by decide +kernel
theorem dX2_isKept_86 : decode cX2_isKept 86 = .ok (.iconst 1, 1) := by decide +kernel
theorem dX2_isKept_87 : decode cX2_isKept 87 = .ok (.goto 4, 3) := by decide +kernel
theorem dX2_isKept_90 : decode cX2_isKept 90 = .ok (.iconst 0, 1) := by decide +kernel
theorem dX2_isKept_91 : decode cX2_isKept 91 = .ok (.ireturn, 1) := by decide +kernel
theorem dX3_init_0 : decode cX3_init 0 = .ok (.aload_n 0, 1) := by decide +kernel
theorem dX3_init_1 : decode cX3_init 1 = .ok (.aload_n 1, 1) := by decide +kernel
theorem dX3_init_2 : decode cX3_init 2 = .ok (.aload_n 2, 1) := by decide +kernel
theorem dX3_init_3 : decode cX3_init 3 = .ok (.invokevirtual 1, 3) := by decide +kernel
theorem dX3_init_6 : decode cX3_init 6 = .ok (.iconst 1, 1) := by decide +kernel
theorem dX3_init_7 : decode cX3_init 7 = .ok (.iadd, 1) := by decide +kernel
theorem dX3_init_8 : decode cX3_init 8 = .ok (.invokespecial 7, 3) := by decide +kernel
theorem dX3_init_11 : decode cX3_init 11 = .ok (.aload_n 0, 1) := by decide +kernel
theorem dX3_init_12 : decode cX3_init 12 = .ok (.aload_n 2, 1) := by decide +kernel
theorem dX3_init_13 : decode cX3_init 13 = .ok (.putfield 11, 3) := by decide +kernel
theorem dX3_init_16 : decode cX3_init 16 = .ok (.aload_n 0, 1) := by decide +kernel
theorem dX3_init_17 : decode cX3_init 17 = .ok (.iload_n 3, 1) := by decide +kernel
theorem dX3_init_18 : decode cX3_init 18 = .ok (.putfield 17, 3) := by decide +kernel
theorem dX3_init_21 : decode cX3_init 21 = .ok (.aload_n 0, 1) := by decide +kernel
theorem dX3_init_22 : decode cX3_init 22 = .ok (.iload 4, 2) := by decide +kernel
theorem dX3_init_24 : decode cX3_init 24 = .ok (.putfield 21, 3) := by decide +kernel
theorem dX3_init_27 : decode cX3_init 27 = .ok (.aload_n 0, 1) := by decide +kernel
theorem dX3_init_28 : decode cX3_init 28 = .ok (.iload 5, 2) := by decide +kernel
theorem dX3_init_30 : decode cX3_init 30 = .ok (.putfield 24, 3) := by decide +kernel
theorem dX3_init_33 : decode cX3_init 33 = .ok (.aload_n 0, 1) := by decide +kernel
theorem dX3_init_34 : decode cX3_init 34 = .ok (.aload 6, 2) := by decide +kernel
theorem dX3_init_36 : decode cX3_init 36 = .ok (.putfield 27, 3) := by decide +kernel
theorem dX3_init_39 : decode cX3_init 39 = .ok (.return_, 1) := by decide +kernel
theorem dX3_work_0 : decode cX3_work 0 = .ok (.aload_n 0, 1) := by decide +kernel
theorem dX3_work_1 : decode cX3_work 1 = .ok (.getfield 11, 3) := by decide +kernel
theorem dX3_work_4 : decode cX3_work 4 = .ok (.invokevirtual 31, 3) := by decide +kernel
theorem dX3_work_7 : decode cX3_work 7 = .ok (.aload_n 0, 1) := by decide +kernel
theorem dX3_work_8 : decode cX3_work 8 = .ok (.getfield 17, 3) := by decide +kernel
theorem dX3_work_11 : decode cX3_work 11 = .ok (.invokevirtual 35, 3) := by decide +kernel
theorem dX3_work_14 : decode cX3_work 14 = .ok (.aload_n 0, 1) := by decide +kernel
theorem dX3_work_15 : decode cX3_work 15 = .ok (.iload_n 1, 1) := by decide +kernel
theorem dX3_work_16 : decode cX3_work 16 = .ok (.invokevirtual 41, 3) := by decide +kernel
theorem dX3_work_19 : decode cX3_work 19 = .ok (.invokestatic 44, 3) := by decide +kernel
theorem dX3_work_22 : decode cX3_work 22 = .ok (.istore_n 2, 1) := by decide +kernel
theorem dX3_work_23 : decode cX3_work 23 = .ok (.aload_n 0, 1) := by decide +kernel
theorem dX3_work_24 : decode cX3_work 24 = .ok (.getfield 11, 3) := by decide +kernel
theorem dX3_work_27 : decode cX3_work 27 = .ok (.invokevirtual 31, 3) := by decide +kernel
theorem dX3_work_30 : decode cX3_work 30 = .ok (.aload_n 0, 1) := by decide +kernel
theorem dX3_work_31 : decode cX3_work 31 = .ok (.getfield 17, 3) := by decide +kernel
theorem dX3_work_34 : decode cX3_work 34 = .ok (.invokevirtual 50, 3) := by decide +kernel
theorem dX3_work_37 : decode cX3_work 37 = .ok (.aload_n 0, 1) := by decide +kernel
theorem dX3_work_38 : decode cX3_work 38 = .ok (.iload_n 1, 1) := by decide +kernel
theorem dX3_work_39 : decode cX3_work 39 = .ok (.invokevirtual 53, 3) := by decide +kernel
theorem dX3_work_42 : decode cX3_work 42 = .ok (.invokestatic 56, 3) := by decide +kernel
theorem dX3_work_45 : decode cX3_work 45 = .ok (.istore_n 3, 1) := by decide +kernel
theorem dX3_work_46 : decode cX3_work 46 = .ok (.aload_n 0, 1) := by decide +kernel
theorem dX3_work_47 : decode cX3_work 47 = .ok (.getfield 11, 3) := by decide +kernel
theorem dX3_work_50 : decode cX3_work 50 = .ok (.invokevirtual 31, 3) := by decide +kernel
theorem dX3_work_53 : decode cX3_work 53 = .ok (.aload_n 0, 1) := by decide +kernel
theorem dX3_work_54 : decode cX3_work 54 = .ok (.iconst 0, 1) := by decide +kernel
theorem dX3_work_55 : decode cX3_work 55 = .ok (.iload_n 1, 1) := by decide +kernel
theorem dX3_work_56 : decode cX3_work 56 = .ok (.iload_n 2, 1) := by decide +kernel
theorem dX3_work_57 : decode cX3_work 57 = .ok (.invokevirtual 59, 3) := by decide +kernel
theorem dX3_work_60 : decode cX3_work 60 = .ok (.aload_n 0, 1) := by decide +kernel
theorem dX3_work_61 : decode cX3_work 61 = .ok (.iconst 1, 1) := by decide +kernel
theorem dX3_work_62 : decode cX3_work 62 = .ok (.iload_n 1, 1) := by decide +kernel
theorem dX3_work_63 : decode cX3_work 63 = .ok (.iload_n 2, 1) := by decide +kernel
theorem dX3_work_64 : decode cX3_work 64 = .ok (.invokevirtual 59, 3) := by decide +kernel
theorem dX3_work_67 : decode cX3_work 67 = .ok (.aload_n 0, 1) := by decide +kernel
theorem dX3_work_68 : decode cX3_work 68 = .ok (.iconst 2, 1) := by decide +kernel
theorem dX3_work_69 : decode cX3_work 69 = .ok (.iload_n 1, 1) := by decide +kernel
theorem dX3_work_70 : decode cX3_work 70 = .ok (.iload_n 2, 1) := by decide +kernel
theorem dX3_work_71 : decode cX3_work 71 = .ok (.invokevirtual 59, 3) := by decide +kernel
theorem dX3_work_74 : decode cX3_work 74 = .ok (.invokevirtual 63, 3) := by decide +kernel
theorem dX3_work_77 : decode cX3_work 77 = .ok (.istore 4, 2) := by decide +kernel
theorem dX3_work_79 : decode cX3_work 79 = .ok (.aload_n 0, 1) := by decide +kernel
theorem dX3_work_80 : decode cX3_work 80 = .ok (.getfield 27, 3) := by decide +kernel
theorem dX3_work_83 : decode cX3_work 83 = .ok (.aload_n 0, 1) := by decide +kernel
theorem dX3_work_84 : decode cX3_work 84 = .ok (.getfield 11, 3) := by decide +kernel
theorem dX3_work_87 : decode cX3_work 87 = .ok (.iload 4, 2) := by decide +kernel
theorem dX3_work_89 : decode cX3_work 89 = .ok (.aload_n 0, 1) := by decide +kernel
theorem dX3_work_90 : decode cX3_work 90 = .ok (.getfield 11, 3) := by decide +kernel
theorem dX3_work_93 : decode cX3_work 93 = .ok (.invokevirtual 31, 3) := by decide +kernel
theorem dX3_work_96 : decode cX3_work 96 = .ok (.aload_n 0, 1) := by decide +kernel
theorem dX3_work_97 : decode cX3_work 97 = .ok (.getfield 17, 3) := by decide +kernel
theorem dX3_work_100 : decode cX3_work 100 = .ok (.invokevirtual 66, 3) := by decide +kernel
theorem dX3_work_103 : decode cX3_work 103 = .ok (.iload_n 3, 1) := by decide +kernel
theorem dX3_work_104 : decode cX3_work 104 = .ok (.iload_n 2, 1) := by decide +kernel
theorem dX3_work_105 : decode cX3_work 105 = .ok (.isub, 1) := by decide +kernel
theorem dX3_work_106 : decode cX3_work 106 = .ok (.iconst 1, 1) := by decide +kernel
theorem dX3_work_107 : decode cX3_work 107 = .ok (.iadd, 1) := by decide +kernel
theorem dX3_work_108 : decode cX3_work 108 = .ok (.invokevirtual 69, 3) := by decide +kernel
theorem dX3_work_111 : decode cX3_work 111 = .ok (.aload_n 0, 1) := by decide +kernel
theorem dX3_work_112 : decode cX3_work 112 = .ok (.getfield 27, 3) := by decide +kernel
theorem dX3_work_115 : decode cX3_work 115 = .ok (.invokevirtual 75, 3) := by decide +kernel
theorem dX3_work_118 : decode cX3_work 118 = .ok (.ifCond .ne 15, 3) := by decide +kernel
theorem dX3_work_121 : decode cX3_work 121 = .ok (.aload_n 0, 1) := by decide +kernel
theorem dX3_work_122 : decode cX3_work 122 = .ok (.iload_n 1, 1) := by decide +kernel
theorem dX3_work_123 : decode cX3_work 123 = .ok (.aload_n 0, 1) := by decide +kernel
theorem dX3_work_124 : decode cX3_work 124 = .ok (.getfield 27, 3) := by decide +kernel
theorem dX3_work_127 : decode cX3_work 127 = .ok (.invokevirtual 79, 3) := by decide +kernel
theorem dX3_work_130 : decode cX3_work 130 = .ok (.invokevirtual 83, 3) := by decide +kernel
theorem dX3_work_133 : decode cX3_work 133 = .ok (.return_, 1) := by decide +kernel
theorem dX3_firstPlace_0 : decode cX3_firstPlace 0 = .ok (.aload_n 0, 1) := by decide +kernel
theorem dX3_firstPlace_1 : decode cX3_firstPlace 1 = .ok (.getfield 21, 3) := by decide +kernel
theorem dX3_firstPlace_4 : decode cX3_firstPlace 4 = .ok (.lookupswitch 64 #[(1, 28), (2, 46)], 28) := by decide +kernel
theorem dX3_firstPlace_32 : decode cX3_firstPlace 32 = .ok (.aload_n 0, 1) := by decide +kernel
theorem dX3_firstPlace_33 : decode cX3_firstPlace 33 = .ok (.invokevirtual 87, 3) := by decide +kernel
theorem dX3_firstPlace_36 : decode cX3_firstPlace 36 = .ok (.iload_n 1, 1) := by decide +kernel
theorem dX3_firstPlace_37 : decode cX3_firstPlace 37 = .ok (.aload_n 0, 1) := by decide +kernel
theorem dX3_firstPlace_38 : decode cX3_firstPlace 38 = .ok (.getfield 17, 3) := by decide +kernel
theorem dX3_firstPlace_41 : decode cX3_firstPlace 41 = .ok (.invokevirtual 88, 3) := by decide +kernel
theorem dX3_firstPlace_44 : decode cX3_firstPlace 44 = .ok (.aload_n 0, 1) := by decide +kernel
theorem dX3_firstPlace_45 : decode cX3_firstPlace 45 = .ok (.getfield 24, 3) := by decide +kernel
theorem dX3_firstPlace_48 : decode cX3_firstPlace 48 = .ok (.imul, 1) := by decide +kernel
theorem dX3_firstPlace_49 : decode cX3_firstPlace 49 = .ok (.ireturn, 1) := by decide +kernel
theorem dX3_firstPlace_50 : decode cX3_firstPlace 50 = .ok (.aload_n 0, 1) := by decide +kernel
theorem dX3_firstPlace_51 : decode cX3_firstPlace 51 = .ok (.invokevirtual 87, 3) := by decide +kernel
theorem dX3_firstPlace_54 : decode cX3_firstPlace 54 = .ok (.iload_n 1, 1) := by decide +kernel
theorem dX3_firstPlace_55 : decode cX3_firstPlace 55 = .ok (.aload_n 0, 1) := by decide +kernel
theorem dX3_firstPlace_56 : decode cX3_firstPlace 56 = .ok (.getfield 17, 3) := by decide +kernel
theorem dX3_firstPlace_59 : decode cX3_firstPlace 59 = .ok (.invokevirtual 88, 3) := by decide +kernel
theorem dX3_firstPlace_62 : decode cX3_firstPlace 62 = .ok (.aload_n 0, 1) := by decide +kernel
theorem dX3_firstPlace_63 : decode cX3_firstPlace 63 = .ok (.getfield 24, 3) := by decide +kernel
theorem dX3_firstPlace_66 : decode cX3_firstPlace 66 = .ok (.isub, 1) := by decide +kernel
theorem dX3_firstPlace_67 : decode cX3_firstPlace 67 = .ok (.ireturn, 1) := by decide +kernel
theorem dX3_firstPlace_68 : decode cX3_firstPlace 68 = .ok (.aload_n 0, 1) := by decide +kernel
theorem dX3_firstPlace_69 : decode cX3_firstPlace 69 = .ok (.getfield 11, 3) := by decide +kernel
theorem dX3_firstPlace_72 : decode cX3_firstPlace 72 = .ok (.invokevirtual 31, 3) := by decide +kernel
theorem dX3_firstPlace_75 : decode cX3_firstPlace 75 = .ok (.aload_n 0, 1) := by decide +kernel
theorem dX3_firstPlace_76 : decode cX3_firstPlace 76 = .ok (.getfield 17, 3) := by decide +kernel
theorem dX3_firstPlace_79 : decode cX3_firstPlace 79 = .ok (.invokevirtual 35, 3) := by decide +kernel
theorem dX3_firstPlace_82 : decode cX3_firstPlace 82 = .ok (.ireturn, 1) := by decide +kernel
theorem dX3_lastPlace_0 : decode cX3_lastPlace 0 = .ok (.aload_n 0, 1) := by decide +kernel
theorem dX3_lastPlace_1 : decode cX3_lastPlace 1 = .ok (.getfield 21, 3) := by decide +kernel
theorem dX3_lastPlace_4 : decode cX3_lastPlace 4 = .ok (.lookupswitch 71 #[(1, 28), (2, 53)], 28) := by decide +kernel
theorem dX3_lastPlace_32 : decode cX3_lastPlace 32 = .ok (.aload_n 0, 1) := by decide +kernel
theorem dX3_lastPlace_33 : decode cX3_lastPlace 33 = .ok (.invokevirtual 87, 3) := by decide +kernel
theorem dX3_lastPlace_36 : decode cX3_lastPlace 36 = .ok (.iload_n 1, 1) := by decide +kernel
theorem dX3_lastPlace_37 : decode cX3_lastPlace 37 = .ok (.aload_n 0, 1) := by decide +kernel
theorem dX3_lastPlace_38 : decode cX3_lastPlace 38 = .ok (.getfield 17, 3) := by decide +kernel
theorem dX3_lastPlace_41 : decode cX3_lastPlace 41 = .ok (.invokevirtual 88, 3) := by decide +kernel
theorem dX3_lastPlace_44 : decode cX3_lastPlace 44 = .ok (.aload_n 0, 1) := by decide +kernel
theorem dX3_lastPlace_45 : decode cX3_lastPlace 45 = .ok (.getfield 24, 3) := by decide +kernel
theorem dX3_lastPlace_48 : decode cX3_lastPlace 48 = .ok (.imul, 1) := by decide +kernel
theorem dX3_lastPlace_49 : decode cX3_lastPlace 49 = .ok (.aload_n 0, 1) := by decide +kernel
theorem dX3_lastPlace_50 : decode cX3_lastPlace 50 = .ok (.getfield 24, 3) := by decide +kernel
theorem dX3_lastPlace_53 : decode cX3_lastPlace 53 = .ok (.iadd, 1) := by decide +kernel
theorem dX3_lastPlace_54 : decode cX3_lastPlace 54 = .ok (.iconst 1, 1) := by decide +kernel
theorem dX3_lastPlace_55 : decode cX3_lastPlace 55 = .ok (.isub, 1) := by decide +kernel
theorem dX3_lastPlace_56 : decode cX3_lastPlace 56 = .ok (.ireturn, 1) := by decide +kernel
theorem dX3_lastPlace_57 : decode cX3_lastPlace 57 = .ok (.aload_n 0, 1) := by decide +kernel
theorem dX3_lastPlace_58 : decode cX3_lastPlace 58 = .ok (.invokevirtual 87, 3) := by decide +kernel
theorem dX3_lastPlace_61 : decode cX3_lastPlace 61 = .ok (.iload_n 1, 1) := by decide +kernel
theorem dX3_lastPlace_62 : decode cX3_lastPlace 62 = .ok (.aload_n 0, 1) := by decide +kernel
theorem dX3_lastPlace_63 : decode cX3_lastPlace 63 = .ok (.getfield 17, 3) := by decide +kernel
theorem dX3_lastPlace_66 : decode cX3_lastPlace 66 = .ok (.invokevirtual 88, 3) := by decide +kernel
theorem dX3_lastPlace_69 : decode cX3_lastPlace 69 = .ok (.aload_n 0, 1) := by decide +kernel
theorem dX3_lastPlace_70 : decode cX3_lastPlace 70 = .ok (.getfield 24, 3) := by decide +kernel
theorem dX3_lastPlace_73 : decode cX3_lastPlace 73 = .ok (.iadd, 1) := by decide +kernel
theorem dX3_lastPlace_74 : decode cX3_lastPlace 74 = .ok (.ireturn, 1) := by decide +kernel
theorem dX3_lastPlace_75 : decode cX3_lastPlace 75 = .ok (.aload_n 0, 1) := by decide +kernel
theorem dX3_lastPlace_76 : decode cX3_lastPlace 76 = .ok (.getfield 11, 3) := by decide +kernel
theorem dX3_lastPlace_79 : decode cX3_lastPlace 79 = .ok (.invokevirtual 31, 3) := by decide +kernel
theorem dX3_lastPlace_82 : decode cX3_lastPlace 82 = .ok (.aload_n 0, 1) := by decide +kernel
theorem dX3_lastPlace_83 : decode cX3_lastPlace 83 = .ok (.getfield 17, 3) := by decide +kernel
theorem dX3_lastPlace_86 : decode cX3_lastPlace 86 = .ok (.invokevirtual 50, 3) := by decide +kernel
theorem dX3_lastPlace_89 : decode cX3_lastPlace 89 = .ok (.ireturn, 1) := by decide +kernel
theorem dX3_sourcePlace_0 : decode cX3_sourcePlace 0 = .ok (.iload_n 1, 1) := by decide +kernel
theorem dX3_sourcePlace_1 : decode cX3_sourcePlace 1 = .ok (.aload_n 0, 1) := by decide +kernel
theorem dX3_sourcePlace_2 : decode cX3_sourcePlace 2 = .ok (.getfield 17, 3) := by decide +kernel
theorem dX3_sourcePlace_5 : decode cX3_sourcePlace 5 = .ok (.if_icmp .ne 5, 3) := by decide +kernel
theorem dX3_sourcePlace_8 : decode cX3_sourcePlace 8 = .ok (.iload_n 3, 1) := by decide +kernel
theorem dX3_sourcePlace_9 : decode cX3_sourcePlace 9 = .ok (.ireturn, 1) := by decide +kernel
theorem dX3_sourcePlace_10 : decode cX3_sourcePlace 10 = .ok (.aload_n 0, 1) := by decide +kernel
theorem dX3_sourcePlace_11 : decode cX3_sourcePlace 11 = .ok (.getfield 21, 3) := by decide +kernel
theorem dX3_sourcePlace_14 : decode cX3_sourcePlace 14 = .ok (.ifCond .ne 15, 3) := by decide +kernel
theorem dX3_sourcePlace_17 : decode cX3_sourcePlace 17 = .ok (.iload_n 1, 1) := by decide +kernel
theorem dX3_sourcePlace_18 : decode cX3_sourcePlace 18 = .ok (.aload_n 0, 1) := by decide +kernel
theorem dX3_sourcePlace_19 : decode cX3_sourcePlace 19 = .ok (.getfield 17, 3) := by decide +kernel
theorem dX3_sourcePlace_22 : decode cX3_sourcePlace 22 = .ok (.if_icmp .le 7, 3) := by decide +kernel
theorem dX3_sourcePlace_25 : decode cX3_sourcePlace 25 = .ok (.iconst 1, 1) := by decide +kernel
theorem dX3_sourcePlace_26 : decode cX3_sourcePlace 26 = .ok (.goto 4, 3) := by decide +kernel
theorem dX3_sourcePlace_29 : decode cX3_sourcePlace 29 = .ok (.iconst 0, 1) := by decide +kernel
theorem dX3_sourcePlace_30 : decode cX3_sourcePlace 30 = .ok (.istore 4, 2) := by decide +kernel
theorem dX3_sourcePlace_32 : decode cX3_sourcePlace 32 = .ok (.aload_n 0, 1) := by decide +kernel
theorem dX3_sourcePlace_33 : decode cX3_sourcePlace 33 = .ok (.invokevirtual 87, 3) := by decide +kernel
theorem dX3_sourcePlace_36 : decode cX3_sourcePlace 36 = .ok (.iload_n 2, 1) := by decide +kernel
theorem dX3_sourcePlace_37 : decode cX3_sourcePlace 37 = .ok (.iload 4, 2) := by decide +kernel
theorem dX3_sourcePlace_39 : decode cX3_sourcePlace 39 = .ok (.ifCond .eq 9, 3) := by decide +kernel
theorem dX3_sourcePlace_42 : decode cX3_sourcePlace 42 = .ok (.iload_n 1, 1) := by decide +kernel
theorem dX3_sourcePlace_43 : decode cX3_sourcePlace 43 = .ok (.iconst 1, 1) := by decide +kernel
theorem dX3_sourcePlace_44 : decode cX3_sourcePlace 44 = .ok (.isub, 1) := by decide +kernel
theorem dX3_sourcePlace_45 : decode cX3_sourcePlace 45 = .ok (.goto 4, 3) := by decide +kernel
theorem dX3_sourcePlace_48 : decode cX3_sourcePlace 48 = .ok (.iload_n 1, 1) := by decide +kernel
theorem dX3_sourcePlace_49 : decode cX3_sourcePlace 49 = .ok (.invokevirtual 88, 3) := by decide +kernel
theorem dX3_sourcePlace_52 : decode cX3_sourcePlace 52 = .ok (.ireturn, 1) := by decide +kernel
theorem dX4_init_0 : decode cX4_init 0 = .ok (.aload_n 0, 1) := by decide +kernel
theorem dX4_init_1 : decode cX4_init 1 = .ok (.aload_n 1, 1) := by decide +kernel
theorem dX4_init_2 : decode cX4_init 2 = .ok (.aload_n 2, 1) := by decide +kernel
theorem dX4_init_3 : decode cX4_init 3 = .ok (.invokevirtual 1, 3) := by decide +kernel
theorem dX4_init_6 : decode cX4_init 6 = .ok (.aload_n 3, 1) := by decide +kernel
theorem dX4_init_7 : decode cX4_init 7 = .ok (.invokevirtual 1, 3) := by decide +kernel
theorem dX4_init_10 : decode cX4_init 10 = .ok (.invokestatic 7, 3) := by decide +kernel
theorem dX4_init_13 : decode cX4_init 13 = .ok (.iconst 1, 1) := by decide +kernel
theorem dX4_init_14 : decode cX4_init 14 = .ok (.iadd, 1) := by decide +kernel
theorem dX4_init_15 : decode cX4_init 15 = .ok (.invokespecial 13, 3) := by decide +kernel
theorem dX4_init_18 : decode cX4_init 18 = .ok (.aload_n 0, 1) := by decide +kernel
theorem dX4_init_19 : decode cX4_init 19 = .ok (.aload_n 2, 1) := by decide +kernel
theorem dX4_init_20 : decode cX4_init 20 = .ok (.putfield 17, 3) := by decide +kernel
theorem dX4_init_23 : decode cX4_init 23 = .ok (.aload_n 0, 1) := by decide +kernel
theorem dX4_init_24 : decode cX4_init 24 = .ok (.aload_n 3, 1) := by decide +kernel
theorem dX4_init_25 : decode cX4_init 25 = .ok (.putfield 23, 3) := by decide +kernel
theorem dX4_init_28 : decode cX4_init 28 = .ok (.aload_n 0, 1) := by decide +kernel
theorem dX4_init_29 : decode cX4_init 29 = .ok (.iload 4, 2) := by decide +kernel
theorem dX4_init_31 : decode cX4_init 31 = .ok (.putfield 26, 3) := by decide +kernel
theorem dX4_init_34 : decode cX4_init 34 = .ok (.return_, 1) := by decide +kernel
theorem dX4_work_0 : decode cX4_work 0 = .ok (.aload_n 0, 1) := by decide +kernel
theorem dX4_work_1 : decode cX4_work 1 = .ok (.invokevirtual 30, 3) := by decide +kernel
theorem dX4_work_4 : decode cX4_work 4 = .ok (.iload_n 1, 1) := by decide +kernel
theorem dX4_work_5 : decode cX4_work 5 = .ok (.iconst 0, 1) := by decide +kernel
theorem dX4_work_6 : decode cX4_work 6 = .ok (.invokevirtual 34, 3) := by decide +kernel
theorem dX4_work_9 : decode cX4_work 9 = .ok (.istore_n 2, 1) := by decide +kernel
theorem dX4_work_10 : decode cX4_work 10 = .ok (.aload_n 0, 1) := by decide +kernel
theorem dX4_work_11 : decode cX4_work 11 = .ok (.invokevirtual 30, 3) := by decide +kernel
theorem dX4_work_14 : decode cX4_work 14 = .ok (.iload_n 1, 1) := by decide +kernel
theorem dX4_work_15 : decode cX4_work 15 = .ok (.iconst 1, 1) := by decide +kernel
theorem dX4_work_16 : decode cX4_work 16 = .ok (.invokevirtual 34, 3) := by decide +kernel
theorem dX4_work_19 : decode cX4_work 19 = .ok (.istore_n 3, 1) := by decide +kernel
theorem dX4_work_20 : decode cX4_work 20 = .ok (.aload_n 0, 1) := by decide +kernel
theorem dX4_work_21 : decode cX4_work 21 = .ok (.invokevirtual 30, 3) := by decide +kernel
theorem dX4_work_24 : decode cX4_work 24 = .ok (.iload_n 1, 1) := by decide +kernel
theorem dX4_work_25 : decode cX4_work 25 = .ok (.iconst 2, 1) := by decide +kernel
theorem dX4_work_26 : decode cX4_work 26 = .ok (.invokevirtual 34, 3) := by decide +kernel
theorem dX4_work_29 : decode cX4_work 29 = .ok (.istore 4, 2) := by decide +kernel
theorem dX4_work_31 : decode cX4_work 31 = .ok (.aload_n 0, 1) := by decide +kernel
theorem dX4_work_32 : decode cX4_work 32 = .ok (.getfield 17, 3) := by decide +kernel
theorem dX4_work_35 : decode cX4_work 35 = .ok (.invokevirtual 39, 3) := by decide +kernel
theorem dX4_work_38 : decode cX4_work 38 = .ok (.iload_n 2, 1) := by decide +kernel
theorem dX4_work_39 : decode cX4_work 39 = .ok (.iload_n 3, 1) := by decide +kernel
theorem dX4_work_40 : decode cX4_work 40 = .ok (.iload 4, 2) := by decide +kernel
theorem dX4_work_42 : decode cX4_work 42 = .ok (.invokevirtual 40, 3) := by decide +kernel
theorem dX4_work_45 : decode cX4_work 45 = .ok (.istore 5, 2) := by decide +kernel
theorem dX4_work_47 : decode cX4_work 47 = .ok (.aload_n 0, 1) := by decide +kernel
theorem dX4_work_48 : decode cX4_work 48 = .ok (.getfield 23, 3) := by decide +kernel
theorem dX4_work_51 : decode cX4_work 51 = .ok (.invokevirtual 39, 3) := by decide +kernel
theorem dX4_work_54 : decode cX4_work 54 = .ok (.iload_n 2, 1) := by decide +kernel
theorem dX4_work_55 : decode cX4_work 55 = .ok (.iload_n 3, 1) := by decide +kernel
theorem dX4_work_56 : decode cX4_work 56 = .ok (.iload 4, 2) := by decide +kernel
theorem dX4_work_58 : decode cX4_work 58 = .ok (.invokevirtual 40, 3) := by decide +kernel
theorem dX4_work_61 : decode cX4_work 61 = .ok (.istore 6, 2) := by decide +kernel
theorem dX4_work_63 : decode cX4_work 63 = .ok (.aload_n 0, 1) := by decide +kernel
theorem dX4_work_64 : decode cX4_work 64 = .ok (.getfield 17, 3) := by decide +kernel
theorem dX4_work_67 : decode cX4_work 67 = .ok (.iload 5, 2) := by decide +kernel
theorem dX4_work_69 : decode cX4_work 69 = .ok (.invokevirtual 44, 3) := by decide +kernel
theorem dX4_work_72 : decode cX4_work 72 = .ok (.ifCond .eq 42, 3) := by decide +kernel
theorem dX4_work_75 : decode cX4_work 75 = .ok (.aload_n 0, 1) := by decide +kernel
theorem dX4_work_76 : decode cX4_work 76 = .ok (.getfield 23, 3) := by decide +kernel
theorem dX4_work_79 : decode cX4_work 79 = .ok (.iload 6, 2) := by decide +kernel
theorem dX4_work_81 : decode cX4_work 81 = .ok (.invokevirtual 44, 3) := by decide +kernel
theorem dX4_work_84 : decode cX4_work 84 = .ok (.ifCond .eq 30, 3) := by decide +kernel
theorem dX4_work_87 : decode cX4_work 87 = .ok (.aload_n 0, 1) := by decide +kernel
theorem dX4_work_88 : decode cX4_work 88 = .ok (.iload_n 1, 1) := by decide +kernel
theorem dX4_work_89 : decode cX4_work 89 = .ok (.aload_n 0, 1) := by decide +kernel
theorem dX4_work_90 : decode cX4_work 90 = .ok (.aload_n 0, 1) := by decide +kernel
theorem dX4_work_91 : decode cX4_work 91 = .ok (.getfield 17, 3) := by decide +kernel
theorem dX4_work_94 : decode cX4_work 94 = .ok (.iload 5, 2) := by decide +kernel
theorem dX4_work_96 : decode cX4_work 96 = .ok (.invokevirtual 48, 3) := by decide +kernel
theorem dX4_work_99 : decode cX4_work 99 = .ok (.aload_n 0, 1) := by decide +kernel
theorem dX4_work_100 : decode cX4_work 100 = .ok (.getfield 23, 3) := by decide +kernel
theorem dX4_work_103 : decode cX4_work 103 = .ok (.iload 6, 2) := by decide +kernel
theorem dX4_work_105 : decode cX4_work 105 = .ok (.invokevirtual 48, 3) := by decide +kernel
theorem dX4_work_108 : decode cX4_work 108 = .ok (.invokevirtual 52, 3) := by decide +kernel
theorem dX4_work_111 : decode cX4_work 111 = .ok (.invokevirtual 56, 3) := by decide +kernel
theorem dX4_work_114 : decode cX4_work 114 = .ok (.return_, 1) := by decide +kernel
theorem dX4_joined_0 : decode cX4_joined 0 = .ok (.aload_n 0, 1) := by decide +kernel
theorem dX4_joined_1 : decode cX4_joined 1 = .ok (.getfield 26, 3) := by decide +kernel
theorem dX4_joined_4 : decode cX4_joined 4 = .ok (.tableswitch 60 0 4 #[36, 40, 44, 48, 54], 36) := by decide +kernel
theorem dX4_joined_40 : decode cX4_joined 40 = .ok (.lload_n 1, 1) := by decide +kernel
theorem dX4_joined_41 : decode cX4_joined 41 = .ok (.lload_n 3, 1) := by decide +kernel
theorem dX4_joined_42 : decode cX4_joined 42 = .ok (.ladd, 1) := by decide +kernel
theorem dX4_joined_43 : decode cX4_joined 43 = .ok (.lreturn, 1) := by decide +kernel
theorem dX4_joined_44 : decode cX4_joined 44 = .ok (.lload_n 1, 1) := by decide +kernel
theorem dX4_joined_45 : decode cX4_joined 45 = .ok (.lload_n 3, 1) := by decide +kernel
theorem dX4_joined_46 : decode cX4_joined 46 = .ok (.lsub, 1) := by decide +kernel
theorem dX4_joined_47 : decode cX4_joined 47 = .ok (.lreturn, 1) := by decide +kernel
theorem dX4_joined_48 : decode cX4_joined 48 = .ok (.lload_n 1, 1) := by decide +kernel
theorem dX4_joined_49 : decode cX4_joined 49 = .ok (.lload_n 3, 1) := by decide +kernel
theorem dX4_joined_50 : decode cX4_joined 50 = .ok (.lmul, 1) := by decide +kernel
theorem dX4_joined_51 : decode cX4_joined 51 = .ok (.lreturn, 1) := by decide +kernel
theorem dX4_joined_52 : decode cX4_joined 52 = .ok (.lload_n 1, 1) := by decide +kernel
theorem dX4_joined_53 : decode cX4_joined 53 = .ok (.lload_n 3, 1) := by decide +kernel
theorem dX4_joined_54 : decode cX4_joined 54 = .ok (.invokestatic 60, 3) := by decide +kernel
theorem dX4_joined_57 : decode cX4_joined 57 = .ok (.lreturn, 1) := by decide +kernel
theorem dX4_joined_58 : decode cX4_joined 58 = .ok (.lload_n 1, 1) := by decide +kernel
theorem dX4_joined_59 : decode cX4_joined 59 = .ok (.lload_n 3, 1) := by decide +kernel
theorem dX4_joined_60 : decode cX4_joined 60 = .ok (.invokestatic 63, 3) := by decide +kernel
theorem dX4_joined_63 : decode cX4_joined 63 = .ok (.lreturn, 1) := by decide +kernel
theorem dX4_joined_64 : decode cX4_joined 64 = .ok (.lload_n 1, 1) := by decide +kernel
theorem dX4_joined_65 : decode cX4_joined 65 = .ok (.lreturn, 1) := by decide +kernel
theorem dX5_init_0 : decode cX5_init 0 = .ok (.aload_n 0, 1) := by decide +kernel
theorem dX5_init_1 : decode cX5_init 1 = .ok (.invokespecial 1, 3) := by decide +kernel
theorem dX5_init_4 : decode cX5_init 4 = .ok (.aload_n 0, 1) := by decide +kernel
theorem dX5_init_5 : decode cX5_init 5 = .ok (.aload_n 1, 1) := by decide +kernel
theorem dX5_init_6 : decode cX5_init 6 = .ok (.putfield 7, 3) := by decide +kernel
theorem dX5_init_9 : decode cX5_init 9 = .ok (.aload_n 0, 1) := by decide +kernel
theorem dX5_init_10 : decode cX5_init 10 = .ok (.iload_n 2, 1) := by decide +kernel
theorem dX5_init_11 : decode cX5_init 11 = .ok (.putfield 13, 3) := by decide +kernel
theorem dX5_init_14 : decode cX5_init 14 = .ok (.aload_n 0, 1) := by decide +kernel
theorem dX5_init_15 : decode cX5_init 15 = .ok (.new 17, 3) := by decide +kernel
theorem dX5_init_18 : decode cX5_init 18 = .ok (.dup, 1) := by decide +kernel
theorem dX5_init_19 : decode cX5_init 19 = .ok (.aload_n 1, 1) := by decide +kernel
theorem dX5_init_20 : decode cX5_init 20 = .ok (.invokevirtual 19, 3) := by decide +kernel
theorem dX5_init_23 : decode cX5_init 23 = .ok (.invokespecial 25, 3) := by decide +kernel
theorem dX5_init_26 : decode cX5_init 26 = .ok (.putfield 28, 3) := by decide +kernel
theorem dX5_init_29 : decode cX5_init 29 = .ok (.aload_n 0, 1) := by decide +kernel
theorem dX5_init_30 : decode cX5_init 30 = .ok (.aload_n 1, 1) := by decide +kernel
theorem dX5_init_31 : decode cX5_init 31 = .ok (.invokevirtual 19, 3) := by decide +kernel
theorem dX5_init_34 : decode cX5_init 34 = .ok (.bipush 63, 2) := by decide +kernel
theorem dX5_init_36 : decode cX5_init 36 = .ok (.iadd, 1) := by decide +kernel
theorem dX5_init_37 : decode cX5_init 37 = .ok (.bipush 64, 2) := by decide +kernel
theorem dX5_init_39 : decode cX5_init 39 = .ok (.idiv, 1) := by decide +kernel
theorem dX5_init_40 : decode cX5_init 40 = .ok (.iconst 0, 1) := by decide +kernel
theorem dX5_init_41 : decode cX5_init 41 = .ok (.invokestatic 32, 3) := by decide +kernel
theorem dX5_init_44 : decode cX5_init 44 = .ok (.newarray .long, 2) := by decide +kernel
theorem dX5_init_46 : decode cX5_init 46 = .ok (.putfield 38, 3) := by decide +kernel
theorem dX5_init_49 : decode cX5_init 49 = .ok (.return_, 1) := by decide +kernel
theorem dX5_form_0 : decode cX5_form 0 = .ok (.aload_n 0, 1) := by decide +kernel
theorem dX5_form_1 : decode cX5_form 1 = .ok (.getfield 7, 3) := by decide +kernel
theorem dX5_form_4 : decode cX5_form 4 = .ok (.areturn, 1) := by decide +kernel
theorem dX5_depth_0 : decode cX5_depth 0 = .ok (.aload_n 0, 1) := by decide +kernel
theorem dX5_depth_1 : decode cX5_depth 1 = .ok (.getfield 13, 3) := by decide +kernel
theorem dX5_depth_4 : decode cX5_depth 4 = .ok (.ireturn, 1) := by decide +kernel
theorem dX5_cells_0 : decode cX5_cells 0 = .ok (.aload_n 0, 1) := by decide +kernel
theorem dX5_cells_1 : decode cX5_cells 1 = .ok (.getfield 28, 3) := by decide +kernel
theorem dX5_cells_4 : decode cX5_cells 4 = .ok (.areturn, 1) := by decide +kernel
theorem dX5_settle_0 : decode cX5_settle 0 = .ok (.aload_n 0, 1) := by decide +kernel
theorem dX5_settle_1 : decode cX5_settle 1 = .ok (.getfield 28, 3) := by decide +kernel
theorem dX5_settle_4 : decode cX5_settle 4 = .ok (.iload_n 1, 1) := by decide +kernel
theorem dX5_settle_5 : decode cX5_settle 5 = .ok (.lload_n 2, 1) := by decide +kernel
theorem dX5_settle_6 : decode cX5_settle 6 = .ok (.invokevirtual 42, 3) := by decide +kernel
theorem dX5_settle_9 : decode cX5_settle 9 = .ok (.return_, 1) := by decide +kernel
theorem dX5_holds_0 : decode cX5_holds 0 = .ok (.iload_n 1, 1) := by decide +kernel
theorem dX5_holds_1 : decode cX5_holds 1 = .ok (.bipush 6, 2) := by decide +kernel
theorem dX5_holds_3 : decode cX5_holds 3 = .ok (.ishr, 1) := by decide +kernel
theorem dX5_holds_4 : decode cX5_holds 4 = .ok (.istore_n 2, 1) := by decide +kernel
theorem dX5_holds_5 : decode cX5_holds 5 = .ok (.aload_n 0, 1) := by decide +kernel
theorem dX5_holds_6 : decode cX5_holds 6 = .ok (.getfield 28, 3) := by decide +kernel
theorem dX5_holds_9 : decode cX5_holds 9 = .ok (.iload_n 1, 1) := by decide +kernel
theorem dX5_holds_10 : decode cX5_holds 10 = .ok (.invokevirtual 46, 3) := by decide +kernel
theorem dX5_holds_13 : decode cX5_holds 13 = .ok (.ifCond .eq 12, 3) := by decide +kernel
theorem dX5_holds_16 : decode cX5_holds 16 = .ok (.iload_n 2, 1) := by decide +kernel
theorem dX5_holds_17 : decode cX5_holds 17 = .ok (.aload_n 0, 1) := by decide +kernel
theorem dX5_holds_18 : decode cX5_holds 18 = .ok (.getfield 38, 3) := by decide +kernel
theorem dX5_holds_21 : decode cX5_holds 21 = .ok (.arraylength, 1) := by decide +kernel
theorem dX5_holds_22 : decode cX5_holds 22 = .ok (.if_icmp .lt 5, 3) := by decide +kernel
theorem dX5_holds_25 : decode cX5_holds 25 = .ok (.iconst 0, 1) := by decide +kernel
theorem dX5_holds_26 : decode cX5_holds 26 = .ok (.ireturn, 1) := by decide +kernel
theorem dX5_holds_27 : decode cX5_holds 27 = .ok (.lconst 1, 1) := by decide +kernel
theorem dX5_holds_28 : decode cX5_holds 28 = .ok (.iload_n 1, 1) := by decide +kernel
theorem dX5_holds_29 : decode cX5_holds 29 = .ok (.bipush 63, 2) := by decide +kernel
theorem dX5_holds_31 : decode cX5_holds 31 = .ok (.iand, 1) := by decide +kernel
theorem dX5_holds_32 : decode cX5_holds 32 = .ok (.lshl, 1) := by decide +kernel
theorem dX5_holds_33 : decode cX5_holds 33 = .ok (.lstore_n 3, 1) := by decide +kernel
theorem dX5_holds_34 : decode cX5_holds 34 = .ok (.aload_n 0, 1) := by decide +kernel
theorem dX5_holds_35 : decode cX5_holds 35 = .ok (.getfield 38, 3) := by decide +kernel
theorem dX5_holds_38 : decode cX5_holds 38 = .ok (.iload_n 2, 1) := by decide +kernel
theorem dX5_holds_39 : decode cX5_holds 39 = .ok (.laload, 1) := by decide +kernel
theorem dX5_holds_40 : decode cX5_holds 40 = .ok (.lload_n 3, 1) := by decide +kernel
theorem dX5_holds_41 : decode cX5_holds 41 = .ok (.land, 1) := by decide +kernel
theorem dX5_holds_42 : decode cX5_holds 42 = .ok (.lconst 0, 1) := by decide +kernel
theorem dX5_holds_43 : decode cX5_holds 43 = .ok (.lcmp, 1) := by decide +kernel
theorem dX5_holds_44 : decode cX5_holds 44 = .ok (.ifCond .ne 18, 3) := by decide +kernel
theorem dX5_holds_47 : decode cX5_holds 47 = .ok (.aload_n 0, 1) := by decide +kernel
theorem dX5_holds_48 : decode cX5_holds 48 = .ok (.getfield 38, 3) := by decide +kernel
theorem dX5_holds_51 : decode cX5_holds 51 = .ok (.iload_n 2, 1) := by decide +kernel
theorem dX5_holds_52 : decode cX5_holds 52 = .ok (.dup2, 1) := by decide +kernel
theorem dX5_holds_53 : decode cX5_holds 53 = .ok (.laload, 1) := by decide +kernel
theorem dX5_holds_54 : decode cX5_holds 54 = .ok (.lload_n 3, 1) := by decide +kernel
theorem dX5_holds_55 : decode cX5_holds 55 = .ok (.lor, 1) := by decide +kernel
theorem dX5_holds_56 : decode cX5_holds 56 = .ok (.lastore, 1) := by decide +kernel
theorem dX5_holds_57 : decode cX5_holds 57 = .ok (.aload_n 0, 1) := by decide +kernel
theorem dX5_holds_58 : decode cX5_holds 58 = .ok (.iload_n 1, 1) := by decide +kernel
theorem dX5_holds_59 : decode cX5_holds 59 = .ok (.invokevirtual 50, 3) := by decide +kernel
theorem dX5_holds_62 : decode cX5_holds 62 = .ok (.aload_n 0, 1) := by decide +kernel
theorem dX5_holds_63 : decode cX5_holds 63 = .ok (.getfield 28, 3) := by decide +kernel
theorem dX5_holds_66 : decode cX5_holds 66 = .ok (.iload_n 1, 1) := by decide +kernel
theorem dX5_holds_67 : decode cX5_holds 67 = .ok (.invokevirtual 53, 3) := by decide +kernel
theorem dX5_holds_70 : decode cX5_holds 70 = .ok (.ireturn, 1) := by decide +kernel
theorem dX5_number_0 : decode cX5_number 0 = .ok (.aload_n 0, 1) := by decide +kernel
theorem dX5_number_1 : decode cX5_number 1 = .ok (.getfield 28, 3) := by decide +kernel
theorem dX5_number_4 : decode cX5_number 4 = .ok (.iload_n 1, 1) := by decide +kernel
theorem dX5_number_5 : decode cX5_number 5 = .ok (.invokevirtual 56, 3) := by decide +kernel
theorem dX5_number_8 : decode cX5_number 8 = .ok (.lreturn, 1) := by decide +kernel
theorem dX5_filled_0 : decode cX5_filled 0 = .ok (.aload_n 0, 1) := by decide +kernel
theorem dX5_filled_1 : decode cX5_filled 1 = .ok (.getfield 7, 3) := by decide +kernel
theorem dX5_filled_4 : decode cX5_filled 4 = .ok (.invokevirtual 19, 3) := by decide +kernel
theorem dX5_filled_7 : decode cX5_filled 7 = .ok (.istore_n 1, 1) := by decide +kernel
theorem dX5_filled_8 : decode cX5_filled 8 = .ok (.iconst 0, 1) := by decide +kernel
theorem dX5_filled_9 : decode cX5_filled 9 = .ok (.istore_n 2, 1) := by decide +kernel
theorem dX5_filled_10 : decode cX5_filled 10 = .ok (.iconst 0, 1) := by decide +kernel
theorem dX5_filled_11 : decode cX5_filled 11 = .ok (.istore_n 3, 1) := by decide +kernel
theorem dX5_filled_12 : decode cX5_filled 12 = .ok (.iload_n 3, 1) := by decide +kernel
theorem dX5_filled_13 : decode cX5_filled 13 = .ok (.iload_n 1, 1) := by decide +kernel
theorem dX5_filled_14 : decode cX5_filled 14 = .ok (.if_icmp .ge 20, 3) := by decide +kernel
theorem dX5_filled_17 : decode cX5_filled 17 = .ok (.aload_n 0, 1) := by decide +kernel
theorem dX5_filled_18 : decode cX5_filled 18 = .ok (.iload_n 3, 1) := by decide +kernel
theorem dX5_filled_19 : decode cX5_filled 19 = .ok (.invokevirtual 60, 3) := by decide +kernel
theorem dX5_filled_22 : decode cX5_filled 22 = .ok (.ifCond .eq 6, 3) := by decide +kernel
theorem dX5_filled_25 : decode cX5_filled 25 = .ok (.iinc 2 1, 3) := by decide +kernel
theorem dX5_filled_28 : decode cX5_filled 28 = .ok (.iinc 3 1, 3) := by decide +kernel
theorem dX5_filled_31 : decode cX5_filled 31 = .ok (.goto (-19), 3) := by decide +kernel
theorem dX5_filled_34 : decode cX5_filled 34 = .ok (.iload_n 2, 1) := by decide +kernel
theorem dX5_filled_35 : decode cX5_filled 35 = .ok (.ireturn, 1) := by decide +kernel
theorem dX6_init_0 : decode cX6_init 0 = .ok (.aload_n 0, 1) := by decide +kernel
theorem dX6_init_1 : decode cX6_init 1 = .ok (.aload_n 1, 1) := by decide +kernel
theorem dX6_init_2 : decode cX6_init 2 = .ok (.aload_n 2, 1) := by decide +kernel
theorem dX6_init_3 : decode cX6_init 3 = .ok (.invokevirtual 1, 3) := by decide +kernel
theorem dX6_init_6 : decode cX6_init 6 = .ok (.aload_n 3, 1) := by decide +kernel
theorem dX6_init_7 : decode cX6_init 7 = .ok (.invokevirtual 1, 3) := by decide +kernel
theorem dX6_init_10 : decode cX6_init 10 = .ok (.invokestatic 7, 3) := by decide +kernel
theorem dX6_init_13 : decode cX6_init 13 = .ok (.iconst 1, 1) := by decide +kernel
theorem dX6_init_14 : decode cX6_init 14 = .ok (.iadd, 1) := by decide +kernel
theorem dX6_init_15 : decode cX6_init 15 = .ok (.invokespecial 13, 3) := by decide +kernel
theorem dX6_init_18 : decode cX6_init 18 = .ok (.aload_n 0, 1) := by decide +kernel
theorem dX6_init_19 : decode cX6_init 19 = .ok (.aload_n 2, 1) := by decide +kernel
theorem dX6_init_20 : decode cX6_init 20 = .ok (.putfield 17, 3) := by decide +kernel
theorem dX6_init_23 : decode cX6_init 23 = .ok (.aload_n 0, 1) := by decide +kernel
theorem dX6_init_24 : decode cX6_init 24 = .ok (.aload_n 3, 1) := by decide +kernel
theorem dX6_init_25 : decode cX6_init 25 = .ok (.putfield 23, 3) := by decide +kernel
theorem dX6_init_28 : decode cX6_init 28 = .ok (.return_, 1) := by decide +kernel
theorem dX6_work_0 : decode cX6_work 0 = .ok (.aload_n 0, 1) := by decide +kernel
theorem dX6_work_1 : decode cX6_work 1 = .ok (.invokevirtual 26, 3) := by decide +kernel
theorem dX6_work_4 : decode cX6_work 4 = .ok (.iload_n 1, 1) := by decide +kernel
theorem dX6_work_5 : decode cX6_work 5 = .ok (.iconst 0, 1) := by decide +kernel
theorem dX6_work_6 : decode cX6_work 6 = .ok (.invokevirtual 30, 3) := by decide +kernel
theorem dX6_work_9 : decode cX6_work 9 = .ok (.istore_n 2, 1) := by decide +kernel
theorem dX6_work_10 : decode cX6_work 10 = .ok (.aload_n 0, 1) := by decide +kernel
theorem dX6_work_11 : decode cX6_work 11 = .ok (.invokevirtual 26, 3) := by decide +kernel
theorem dX6_work_14 : decode cX6_work 14 = .ok (.iload_n 1, 1) := by decide +kernel
theorem dX6_work_15 : decode cX6_work 15 = .ok (.iconst 1, 1) := by decide +kernel
theorem dX6_work_16 : decode cX6_work 16 = .ok (.invokevirtual 30, 3) := by decide +kernel
theorem dX6_work_19 : decode cX6_work 19 = .ok (.istore_n 3, 1) := by decide +kernel
theorem dX6_work_20 : decode cX6_work 20 = .ok (.aload_n 0, 1) := by decide +kernel
theorem dX6_work_21 : decode cX6_work 21 = .ok (.getfield 17, 3) := by decide +kernel
theorem dX6_work_24 : decode cX6_work 24 = .ok (.invokevirtual 35, 3) := by decide +kernel
theorem dX6_work_27 : decode cX6_work 27 = .ok (.iconst 1, 1) := by decide +kernel
theorem dX6_work_28 : decode cX6_work 28 = .ok (.invokevirtual 36, 3) := by decide +kernel
theorem dX6_work_31 : decode cX6_work 31 = .ok (.aload_n 0, 1) := by decide +kernel
theorem dX6_work_32 : decode cX6_work 32 = .ok (.getfield 23, 3) := by decide +kernel
theorem dX6_work_35 : decode cX6_work 35 = .ok (.invokevirtual 35, 3) := by decide +kernel
theorem dX6_work_38 : decode cX6_work 38 = .ok (.iconst 0, 1) := by decide +kernel
theorem dX6_work_39 : decode cX6_work 39 = .ok (.invokevirtual 36, 3) := by decide +kernel
theorem dX6_work_42 : decode cX6_work 42 = .ok (.invokestatic 7, 3) := by decide +kernel
theorem dX6_work_45 : decode cX6_work 45 = .ok (.istore 4, 2) := by decide +kernel
theorem dX6_work_47 : decode cX6_work 47 = .ok (.aload_n 0, 1) := by decide +kernel
theorem dX6_work_48 : decode cX6_work 48 = .ok (.getfield 17, 3) := by decide +kernel
theorem dX6_work_51 : decode cX6_work 51 = .ok (.invokevirtual 35, 3) := by decide +kernel
theorem dX6_work_54 : decode cX6_work 54 = .ok (.iconst 1, 1) := by decide +kernel
theorem dX6_work_55 : decode cX6_work 55 = .ok (.invokevirtual 40, 3) := by decide +kernel
theorem dX6_work_58 : decode cX6_work 58 = .ok (.aload_n 0, 1) := by decide +kernel
theorem dX6_work_59 : decode cX6_work 59 = .ok (.getfield 23, 3) := by decide +kernel
theorem dX6_work_62 : decode cX6_work 62 = .ok (.invokevirtual 35, 3) := by decide +kernel
theorem dX6_work_65 : decode cX6_work 65 = .ok (.iconst 0, 1) := by decide +kernel
theorem dX6_work_66 : decode cX6_work 66 = .ok (.invokevirtual 40, 3) := by decide +kernel
theorem dX6_work_69 : decode cX6_work 69 = .ok (.invokestatic 43, 3) := by decide +kernel
theorem dX6_work_72 : decode cX6_work 72 = .ok (.istore 5, 2) := by decide +kernel
theorem dX6_work_74 : decode cX6_work 74 = .ok (.aload_n 0, 1) := by decide +kernel
theorem dX6_work_75 : decode cX6_work 75 = .ok (.getfield 17, 3) := by decide +kernel
theorem dX6_work_78 : decode cX6_work 78 = .ok (.invokevirtual 35, 3) := by decide +kernel
theorem dX6_work_81 : decode cX6_work 81 = .ok (.iload_n 2, 1) := by decide +kernel
theorem dX6_work_82 : decode cX6_work 82 = .ok (.iload 4, 2) := by decide +kernel
theorem dX6_work_84 : decode cX6_work 84 = .ok (.iconst 0, 1) := by decide +kernel
theorem dX6_work_85 : decode cX6_work 85 = .ok (.invokevirtual 46, 3) := by decide +kernel
theorem dX6_work_88 : decode cX6_work 88 = .ok (.istore 6, 2) := by decide +kernel
theorem dX6_work_90 : decode cX6_work 90 = .ok (.aload_n 0, 1) := by decide +kernel
theorem dX6_work_91 : decode cX6_work 91 = .ok (.getfield 23, 3) := by decide +kernel
theorem dX6_work_94 : decode cX6_work 94 = .ok (.invokevirtual 35, 3) := by decide +kernel
theorem dX6_work_97 : decode cX6_work 97 = .ok (.iload 4, 2) := by decide +kernel
theorem dX6_work_99 : decode cX6_work 99 = .ok (.iload_n 3, 1) := by decide +kernel
theorem dX6_work_100 : decode cX6_work 100 = .ok (.iconst 0, 1) := by decide +kernel
theorem dX6_work_101 : decode cX6_work 101 = .ok (.invokevirtual 46, 3) := by decide +kernel
theorem dX6_work_104 : decode cX6_work 104 = .ok (.istore 7, 2) := by decide +kernel
theorem dX6_work_106 : decode cX6_work 106 = .ok (.iconst 0, 1) := by decide +kernel
theorem dX6_work_107 : decode cX6_work 107 = .ok (.istore 8, 2) := by decide +kernel
theorem dX6_work_109 : decode cX6_work 109 = .ok (.lconst 0, 1) := by decide +kernel
theorem dX6_work_110 : decode cX6_work 110 = .ok (.lstore 9, 2) := by decide +kernel
theorem dX6_work_112 : decode cX6_work 112 = .ok (.iload 4, 2) := by decide +kernel
theorem dX6_work_114 : decode cX6_work 114 = .ok (.istore 11, 2) := by decide +kernel
theorem dX6_work_116 : decode cX6_work 116 = .ok (.iload 11, 2) := by decide +kernel
theorem dX6_work_118 : decode cX6_work 118 = .ok (.iload 5, 2) := by decide +kernel
theorem dX6_work_120 : decode cX6_work 120 = .ok (.if_icmp .gt 92, 3) := by decide +kernel
theorem dX6_work_123 : decode cX6_work 123 = .ok (.aload_n 0, 1) := by decide +kernel
theorem dX6_work_124 : decode cX6_work 124 = .ok (.getfield 17, 3) := by decide +kernel
theorem dX6_work_127 : decode cX6_work 127 = .ok (.iload 6, 2) := by decide +kernel
theorem dX6_work_129 : decode cX6_work 129 = .ok (.invokevirtual 50, 3) := by decide +kernel
theorem dX6_work_132 : decode cX6_work 132 = .ok (.ifCond .eq 42, 3) := by decide +kernel
theorem dX6_work_135 : decode cX6_work 135 = .ok (.aload_n 0, 1) := by decide +kernel
theorem dX6_work_136 : decode cX6_work 136 = .ok (.getfield 23, 3) := by decide +kernel
theorem dX6_work_139 : decode cX6_work 139 = .ok (.iload 7, 2) := by decide +kernel
theorem dX6_work_141 : decode cX6_work 141 = .ok (.invokevirtual 50, 3) := by decide +kernel
theorem dX6_work_144 : decode cX6_work 144 = .ok (.ifCond .eq 30, 3) := by decide +kernel
theorem dX6_work_147 : decode cX6_work 147 = .ok (.lload 9, 2) := by decide +kernel
theorem dX6_work_149 : decode cX6_work 149 = .ok (.aload_n 0, 1) := by decide +kernel
theorem dX6_work_150 : decode cX6_work 150 = .ok (.getfield 17, 3) := by decide +kernel
theorem dX6_work_153 : decode cX6_work 153 = .ok (.iload 6, 2) := by decide +kernel
theorem dX6_work_155 : decode cX6_work 155 = .ok (.invokevirtual 54, 3) := by decide +kernel
theorem dX6_work_158 : decode cX6_work 158 = .ok (.aload_n 0, 1) := by decide +kernel
theorem dX6_work_159 : decode cX6_work 159 = .ok (.getfield 23, 3) := by decide +kernel
theorem dX6_work_162 : decode cX6_work 162 = .ok (.iload 7, 2) := by decide +kernel
theorem dX6_work_164 : decode cX6_work 164 = .ok (.invokevirtual 54, 3) := by decide +kernel
theorem dX6_work_167 : decode cX6_work 167 = .ok (.lmul, 1) := by decide +kernel
theorem dX6_work_168 : decode cX6_work 168 = .ok (.ladd, 1) := by decide +kernel
theorem dX6_work_169 : decode cX6_work 169 = .ok (.lstore 9, 2) := by decide +kernel
theorem dX6_work_171 : decode cX6_work 171 = .ok (.iconst 1, 1) := by decide +kernel
theorem dX6_work_172 : decode cX6_work 172 = .ok (.istore 8, 2) := by decide +kernel
theorem dX6_work_174 : decode cX6_work 174 = .ok (.iload 6, 2) := by decide +kernel
theorem dX6_work_176 : decode cX6_work 176 = .ok (.aload_n 0, 1) := by decide +kernel
theorem dX6_work_177 : decode cX6_work 177 = .ok (.getfield 17, 3) := by decide +kernel
theorem dX6_work_180 : decode cX6_work 180 = .ok (.invokevirtual 35, 3) := by decide +kernel
theorem dX6_work_183 : decode cX6_work 183 = .ok (.iconst 1, 1) := by decide +kernel
theorem dX6_work_184 : decode cX6_work 184 = .ok (.invokevirtual 58, 3) := by decide +kernel
theorem dX6_work_187 : decode cX6_work 187 = .ok (.iadd, 1) := by decide +kernel
theorem dX6_work_188 : decode cX6_work 188 = .ok (.istore 6, 2) := by decide +kernel
theorem dX6_work_190 : decode cX6_work 190 = .ok (.iload 7, 2) := by decide +kernel
theorem dX6_work_192 : decode cX6_work 192 = .ok (.aload_n 0, 1) := by decide +kernel
theorem dX6_work_193 : decode cX6_work 193 = .ok (.getfield 23, 3) := by decide +kernel
theorem dX6_work_196 : decode cX6_work 196 = .ok (.invokevirtual 35, 3) := by decide +kernel
theorem dX6_work_199 : decode cX6_work 199 = .ok (.iconst 0, 1) := by decide +kernel
theorem dX6_work_200 : decode cX6_work 200 = .ok (.invokevirtual 58, 3) := by decide +kernel
theorem dX6_work_203 : decode cX6_work 203 = .ok (.iadd, 1) := by decide +kernel
theorem dX6_work_204 : decode cX6_work 204 = .ok (.istore 7, 2) := by decide +kernel
theorem dX6_work_206 : decode cX6_work 206 = .ok (.iinc 11 1, 3) := by decide +kernel
theorem dX6_work_209 : decode cX6_work 209 = .ok (.goto (-93), 3) := by decide +kernel
theorem dX6_work_212 : decode cX6_work 212 = .ok (.iload 8, 2) := by decide +kernel
theorem dX6_work_214 : decode cX6_work 214 = .ok (.ifCond .eq 10, 3) := by decide +kernel
theorem dX6_work_217 : decode cX6_work 217 = .ok (.aload_n 0, 1) := by decide +kernel
theorem dX6_work_218 : decode cX6_work 218 = .ok (.iload_n 1, 1) := by decide +kernel
theorem dX6_work_219 : decode cX6_work 219 = .ok (.lload 9, 2) := by decide +kernel
theorem dX6_work_221 : decode cX6_work 221 = .ok (.invokevirtual 61, 3) := by decide +kernel
theorem dX6_work_224 : decode cX6_work 224 = .ok (.return_, 1) := by decide +kernel
theorem dX7_init_0 : decode cX7_init 0 = .ok (.aload_n 0, 1) := by decide +kernel
theorem dX7_init_1 : decode cX7_init 1 = .ok (.invokespecial 1, 3) := by decide +kernel
theorem dX7_init_4 : decode cX7_init 4 = .ok (.aload_n 0, 1) := by decide +kernel
theorem dX7_init_5 : decode cX7_init 5 = .ok (.iload_n 1, 1) := by decide +kernel
theorem dX7_init_6 : decode cX7_init 6 = .ok (.putfield 7, 3) := by decide +kernel
theorem dX7_init_9 : decode cX7_init 9 = .ok (.aload_n 0, 1) := by decide +kernel
theorem dX7_init_10 : decode cX7_init 10 = .ok (.aload_n 2, 1) := by decide +kernel
theorem dX7_init_11 : decode cX7_init 11 = .ok (.putfield 13, 3) := by decide +kernel
theorem dX7_init_14 : decode cX7_init 14 = .ok (.aload_n 0, 1) := by decide +kernel
theorem dX7_init_15 : decode cX7_init 15 = .ok (.aload_n 3, 1) := by decide +kernel
theorem dX7_init_16 : decode cX7_init 16 = .ok (.putfield 17, 3) := by decide +kernel
theorem dX7_init_19 : decode cX7_init 19 = .ok (.aload_n 0, 1) := by decide +kernel
theorem dX7_init_20 : decode cX7_init 20 = .ok (.iconst 3, 1) := by decide +kernel
theorem dX7_init_21 : decode cX7_init 21 = .ok (.newarray .int, 2) := by decide +kernel
theorem dX7_init_23 : decode cX7_init 23 = .ok (.dup, 1) := by decide +kernel
theorem dX7_init_24 : decode cX7_init 24 = .ok (.iconst 0, 1) := by decide +kernel
theorem dX7_init_25 : decode cX7_init 25 = .ok (.aload_n 0, 1) := by decide +kernel
theorem dX7_init_26 : decode cX7_init 26 = .ok (.iconst 0, 1) := by decide +kernel
theorem dX7_init_27 : decode cX7_init 27 = .ok (.invokevirtual 20, 3) := by decide +kernel
theorem dX7_init_30 : decode cX7_init 30 = .ok (.aload_n 0, 1) := by decide +kernel
theorem dX7_init_31 : decode cX7_init 31 = .ok (.iconst 0, 1) := by decide +kernel
theorem dX7_init_32 : decode cX7_init 32 = .ok (.invokevirtual 24, 3) := by decide +kernel
theorem dX7_init_35 : decode cX7_init 35 = .ok (.isub, 1) := by decide +kernel
theorem dX7_init_36 : decode cX7_init 36 = .ok (.iconst 1, 1) := by decide +kernel
theorem dX7_init_37 : decode cX7_init 37 = .ok (.iadd, 1) := by decide +kernel
theorem dX7_init_38 : decode cX7_init 38 = .ok (.iastore, 1) := by decide +kernel
theorem dX7_init_39 : decode cX7_init 39 = .ok (.dup, 1) := by decide +kernel
theorem dX7_init_40 : decode cX7_init 40 = .ok (.iconst 1, 1) := by decide +kernel
theorem dX7_init_41 : decode cX7_init 41 = .ok (.aload_n 0, 1) := by decide +kernel
theorem dX7_init_42 : decode cX7_init 42 = .ok (.iconst 1, 1) := by decide +kernel
theorem dX7_init_43 : decode cX7_init 43 = .ok (.invokevirtual 20, 3) := by decide +kernel
theorem dX7_init_46 : decode cX7_init 46 = .ok (.aload_n 0, 1) := by decide +kernel
theorem dX7_init_47 : decode cX7_init 47 = .ok (.iconst 1, 1) := by decide +kernel
theorem dX7_init_48 : decode cX7_init 48 = .ok (.invokevirtual 24, 3) := by decide +kernel
theorem dX7_init_51 : decode cX7_init 51 = .ok (.isub, 1) := by decide +kernel
theorem dX7_init_52 : decode cX7_init 52 = .ok (.iconst 1, 1) := by decide +kernel
theorem dX7_init_53 : decode cX7_init 53 = .ok (.iadd, 1) := by decide +kernel
theorem dX7_init_54 : decode cX7_init 54 = .ok (.iastore, 1) := by decide +kernel
theorem dX7_init_55 : decode cX7_init 55 = .ok (.dup, 1) := by decide +kernel
theorem dX7_init_56 : decode cX7_init 56 = .ok (.iconst 2, 1) := by decide +kernel
theorem dX7_init_57 : decode cX7_init 57 = .ok (.aload_n 0, 1) := by decide +kernel
theorem dX7_init_58 : decode cX7_init 58 = .ok (.iconst 2, 1) := by decide +kernel
theorem dX7_init_59 : decode cX7_init 59 = .ok (.invokevirtual 20, 3) := by decide +kernel
theorem dX7_init_62 : decode cX7_init 62 = .ok (.aload_n 0, 1) := by decide +kernel
theorem dX7_init_63 : decode cX7_init 63 = .ok (.iconst 2, 1) := by decide +kernel
theorem dX7_init_64 : decode cX7_init 64 = .ok (.invokevirtual 24, 3) := by decide +kernel
theorem dX7_init_67 : decode cX7_init 67 = .ok (.isub, 1) := by decide +kernel
theorem dX7_init_68 : decode cX7_init 68 = .ok (.iconst 1, 1) := by decide +kernel
theorem dX7_init_69 : decode cX7_init 69 = .ok (.iadd, 1) := by decide +kernel
theorem dX7_init_70 : decode cX7_init 70 = .ok (.iastore, 1) := by decide +kernel
theorem dX7_init_71 : decode cX7_init 71 = .ok (.putfield 27, 3) := by decide +kernel
theorem dX7_init_74 : decode cX7_init 74 = .ok (.aload_n 0, 1) := by decide +kernel
theorem dX7_init_75 : decode cX7_init 75 = .ok (.iconst 3, 1) := by decide +kernel
theorem dX7_init_76 : decode cX7_init 76 = .ok (.newarray .int, 2) := by decide +kernel
theorem dX7_init_78 : decode cX7_init 78 = .ok (.dup, 1) := by decide +kernel
theorem dX7_init_79 : decode cX7_init 79 = .ok (.iconst 0, 1) := by decide +kernel
theorem dX7_init_80 : decode cX7_init 80 = .ok (.aload_n 0, 1) := by decide +kernel
theorem dX7_init_81 : decode cX7_init 81 = .ok (.iconst 1, 1) := by decide +kernel
theorem dX7_init_82 : decode cX7_init 82 = .ok (.invokevirtual 30, 3) := by decide +kernel
theorem dX7_init_85 : decode cX7_init 85 = .ok (.aload_n 0, 1) := by decide +kernel
theorem dX7_init_86 : decode cX7_init 86 = .ok (.iconst 2, 1) := by decide +kernel
theorem dX7_init_87 : decode cX7_init 87 = .ok (.invokevirtual 30, 3) := by decide +kernel
theorem dX7_init_90 : decode cX7_init 90 = .ok (.imul, 1) := by decide +kernel
theorem dX7_init_91 : decode cX7_init 91 = .ok (.iastore, 1) := by decide +kernel
theorem dX7_init_92 : decode cX7_init 92 = .ok (.dup, 1) := by decide +kernel
theorem dX7_init_93 : decode cX7_init 93 = .ok (.iconst 1, 1) := by decide +kernel
theorem dX7_init_94 : decode cX7_init 94 = .ok (.aload_n 0, 1) := by decide +kernel
theorem dX7_init_95 : decode cX7_init 95 = .ok (.iconst 2, 1) := by decide +kernel
theorem dX7_init_96 : decode cX7_init 96 = .ok (.invokevirtual 30, 3) := by decide +kernel
theorem dX7_init_99 : decode cX7_init 99 = .ok (.iastore, 1) := by decide +kernel
theorem dX7_init_100 : decode cX7_init 100 = .ok (.dup, 1) := by decide +kernel
theorem dX7_init_101 : decode cX7_init 101 = .ok (.iconst 2, 1) := by decide +kernel
theorem dX7_init_102 : decode cX7_init 102 = .ok (.iconst 1, 1) := by decide +kernel
theorem dX7_init_103 : decode cX7_init 103 = .ok (.iastore, 1) := by decide +kernel
theorem dX7_init_104 : decode cX7_init 104 = .ok (.putfield 33, 3) := by decide +kernel
theorem dX7_init_107 : decode cX7_init 107 = .ok (.aload_n 0, 1) := by decide +kernel
theorem dX7_init_108 : decode cX7_init 108 = .ok (.aload_n 0, 1) := by decide +kernel
theorem dX7_init_109 : decode cX7_init 109 = .ok (.iconst 0, 1) := by decide +kernel
theorem dX7_init_110 : decode cX7_init 110 = .ok (.invokevirtual 30, 3) := by decide +kernel
theorem dX7_init_113 : decode cX7_init 113 = .ok (.aload_n 0, 1) := by decide +kernel
theorem dX7_init_114 : decode cX7_init 114 = .ok (.iconst 0, 1) := by decide +kernel
theorem dX7_init_115 : decode cX7_init 115 = .ok (.invokevirtual 36, 3) := by decide +kernel
theorem dX7_init_118 : decode cX7_init 118 = .ok (.imul, 1) := by decide +kernel
theorem dX7_init_119 : decode cX7_init 119 = .ok (.putfield 39, 3) := by decide +kernel
theorem dX7_init_122 : decode cX7_init 122 = .ok (.return_, 1) := by decide +kernel
theorem dX7_dimensions_0 : decode cX7_dimensions 0 = .ok (.aload_n 0, 1) := by decide +kernel
theorem dX7_dimensions_1 : decode cX7_dimensions 1 = .ok (.getfield 7, 3) := by decide +kernel
theorem dX7_dimensions_4 : decode cX7_dimensions 4 = .ok (.ireturn, 1) := by decide +kernel
theorem dX7_low_0 : decode cX7_low 0 = .ok (.iload_n 1, 1) := by decide +kernel
theorem dX7_low_1 : decode cX7_low 1 = .ok (.ifCond .lt 21, 3) := by decide +kernel
theorem dX7_low_4 : decode cX7_low 4 = .ok (.iload_n 1, 1) := by decide +kernel
theorem dX7_low_5 : decode cX7_low 5 = .ok (.aload_n 0, 1) := by decide +kernel
theorem dX7_low_6 : decode cX7_low 6 = .ok (.getfield 13, 3) := by decide +kernel
theorem dX7_low_9 : decode cX7_low 9 = .ok (.arraylength, 1) := by decide +kernel
theorem dX7_low_10 : decode cX7_low 10 = .ok (.if_icmp .ge 12, 3) := by decide +kernel
theorem dX7_low_13 : decode cX7_low 13 = .ok (.aload_n 0, 1) := by decide +kernel
theorem dX7_low_14 : decode cX7_low 14 = .ok (.getfield 13, 3) := by decide +kernel
theorem dX7_low_17 : decode cX7_low 17 = .ok (.iload_n 1, 1) := by decide +kernel
theorem dX7_low_18 : decode cX7_low 18 = .ok (.iaload, 1) := by decide +kernel
theorem dX7_low_19 : decode cX7_low 19 = .ok (.goto 4, 3) := by decide +kernel
theorem dX7_low_22 : decode cX7_low 22 = .ok (.iconst 0, 1) := by decide +kernel
theorem dX7_low_23 : decode cX7_low 23 = .ok (.ireturn, 1) := by decide +kernel
theorem dX7_high_0 : decode cX7_high 0 = .ok (.iload_n 1, 1) := by decide +kernel
theorem dX7_high_1 : decode cX7_high 1 = .ok (.ifCond .lt 21, 3) := by decide +kernel
theorem dX7_high_4 : decode cX7_high 4 = .ok (.iload_n 1, 1) := by decide +kernel
theorem dX7_high_5 : decode cX7_high 5 = .ok (.aload_n 0, 1) := by decide +kernel
theorem dX7_high_6 : decode cX7_high 6 = .ok (.getfield 17, 3) := by decide +kernel
theorem dX7_high_9 : decode cX7_high 9 = .ok (.arraylength, 1) := by decide +kernel
theorem dX7_high_10 : decode cX7_high 10 = .ok (.if_icmp .ge 12, 3) := by decide +kernel
theorem dX7_high_13 : decode cX7_high 13 = .ok (.aload_n 0, 1) := by decide +kernel
theorem dX7_high_14 : decode cX7_high 14 = .ok (.getfield 17, 3) := by decide +kernel
theorem dX7_high_17 : decode cX7_high 17 = .ok (.iload_n 1, 1) := by decide +kernel
theorem dX7_high_18 : decode cX7_high 18 = .ok (.iaload, 1) := by decide +kernel
theorem dX7_high_19 : decode cX7_high 19 = .ok (.goto 4, 3) := by decide +kernel
theorem dX7_high_22 : decode cX7_high 22 = .ok (.iconst 0, 1) := by decide +kernel
theorem dX7_high_23 : decode cX7_high 23 = .ok (.ireturn, 1) := by decide +kernel
theorem dX7_length_0 : decode cX7_length 0 = .ok (.iload_n 1, 1) := by decide +kernel
theorem dX7_length_1 : decode cX7_length 1 = .ok (.ifCond .lt 21, 3) := by decide +kernel
theorem dX7_length_4 : decode cX7_length 4 = .ok (.iload_n 1, 1) := by decide +kernel
theorem dX7_length_5 : decode cX7_length 5 = .ok (.aload_n 0, 1) := by decide +kernel
theorem dX7_length_6 : decode cX7_length 6 = .ok (.getfield 27, 3) := by decide +kernel
theorem dX7_length_9 : decode cX7_length 9 = .ok (.arraylength, 1) := by decide +kernel
theorem dX7_length_10 : decode cX7_length 10 = .ok (.if_icmp .ge 12, 3) := by decide +kernel
theorem dX7_length_13 : decode cX7_length 13 = .ok (.aload_n 0, 1) := by decide +kernel
theorem dX7_length_14 : decode cX7_length 14 = .ok (.getfield 27, 3) := by decide +kernel
theorem dX7_length_17 : decode cX7_length 17 = .ok (.iload_n 1, 1) := by decide +kernel
theorem dX7_length_18 : decode cX7_length 18 = .ok (.iaload, 1) := by decide +kernel
theorem dX7_length_19 : decode cX7_length 19 = .ok (.goto 4, 3) := by decide +kernel
theorem dX7_length_22 : decode cX7_length 22 = .ok (.iconst 1, 1) := by decide +kernel
theorem dX7_length_23 : decode cX7_length 23 = .ok (.ireturn, 1) := by decide +kernel
theorem dX7_step_0 : decode cX7_step 0 = .ok (.iload_n 1, 1) := by decide +kernel
theorem dX7_step_1 : decode cX7_step 1 = .ok (.ifCond .lt 21, 3) := by decide +kernel
theorem dX7_step_4 : decode cX7_step 4 = .ok (.iload_n 1, 1) := by decide +kernel
theorem dX7_step_5 : decode cX7_step 5 = .ok (.aload_n 0, 1) := by decide +kernel
theorem dX7_step_6 : decode cX7_step 6 = .ok (.getfield 33, 3) := by decide +kernel
theorem dX7_step_9 : decode cX7_step 9 = .ok (.arraylength, 1) := by decide +kernel
theorem dX7_step_10 : decode cX7_step 10 = .ok (.if_icmp .ge 12, 3) := by decide +kernel
theorem dX7_step_13 : decode cX7_step 13 = .ok (.aload_n 0, 1) := by decide +kernel
theorem dX7_step_14 : decode cX7_step 14 = .ok (.getfield 33, 3) := by decide +kernel
theorem dX7_step_17 : decode cX7_step 17 = .ok (.iload_n 1, 1) := by decide +kernel
theorem dX7_step_18 : decode cX7_step 18 = .ok (.iaload, 1) := by decide +kernel
theorem dX7_step_19 : decode cX7_step 19 = .ok (.goto 4, 3) := by decide +kernel
theorem dX7_step_22 : decode cX7_step 22 = .ok (.iconst 1, 1) := by decide +kernel
theorem dX7_step_23 : decode cX7_step 23 = .ok (.ireturn, 1) := by decide +kernel
theorem dX7_size_0 : decode cX7_size 0 = .ok (.aload_n 0, 1) := by decide +kernel
theorem dX7_size_1 : decode cX7_size 1 = .ok (.getfield 39, 3) := by decide +kernel
theorem dX7_size_4 : decode cX7_size 4 = .ok (.ireturn, 1) := by decide +kernel
theorem dX7_hasDimension_0 : decode cX7_hasDimension 0 = .ok (.iload_n 1, 1) := by decide +kernel
theorem dX7_hasDimension_1 : decode cX7_hasDimension 1 = .ok (.ifCond .lt 15, 3) := by decide +kernel
theorem dX7_hasDimension_4 : decode cX7_hasDimension 4 = .ok (.iload_n 1, 1) := by decide +kernel
theorem dX7_hasDimension_5 : decode cX7_hasDimension 5 = .ok (.aload_n 0, 1) := by decide +kernel
theorem dX7_hasDimension_6 : decode cX7_hasDimension 6 = .ok (.getfield 7, 3) := by decide +kernel
theorem dX7_hasDimension_9 : decode cX7_hasDimension 9 = .ok (.if_icmp .ge 7, 3) := by decide +kernel
theorem dX7_hasDimension_12 : decode cX7_hasDimension 12 = .ok (.iconst 1, 1) := by decide +kernel
theorem dX7_hasDimension_13 : decode cX7_hasDimension 13 = .ok (.goto 4, 3) := by decide +kernel
theorem dX7_hasDimension_16 : decode cX7_hasDimension 16 = .ok (.iconst 0, 1) := by decide +kernel
theorem dX7_hasDimension_17 : decode cX7_hasDimension 17 = .ok (.ireturn, 1) := by decide +kernel
theorem dX7_hasRange_0 : decode cX7_hasRange 0 = .ok (.aload_n 0, 1) := by decide +kernel
theorem dX7_hasRange_1 : decode cX7_hasRange 1 = .ok (.iload_n 1, 1) := by decide +kernel
theorem dX7_hasRange_2 : decode cX7_hasRange 2 = .ok (.invokevirtual 42, 3) := by decide +kernel
theorem dX7_hasRange_5 : decode cX7_hasRange 5 = .ok (.ifCond .eq 30, 3) := by decide +kernel
theorem dX7_hasRange_8 : decode cX7_hasRange 8 = .ok (.iload_n 2, 1) := by decide +kernel
theorem dX7_hasRange_9 : decode cX7_hasRange 9 = .ok (.iload_n 3, 1) := by decide +kernel
theorem dX7_hasRange_10 : decode cX7_hasRange 10 = .ok (.if_icmp .gt 25, 3) := by decide +kernel
theorem dX7_hasRange_13 : decode cX7_hasRange 13 = .ok (.iload_n 2, 1) := by decide +kernel
theorem dX7_hasRange_14 : decode cX7_hasRange 14 = .ok (.aload_n 0, 1) := by decide +kernel
theorem dX7_hasRange_15 : decode cX7_hasRange 15 = .ok (.iload_n 1, 1) := by decide +kernel
theorem dX7_hasRange_16 : decode cX7_hasRange 16 = .ok (.invokevirtual 24, 3) := by decide +kernel
theorem dX7_hasRange_19 : decode cX7_hasRange 19 = .ok (.if_icmp .lt 16, 3) := by decide +kernel
theorem dX7_hasRange_22 : decode cX7_hasRange 22 = .ok (.iload_n 3, 1) := by decide +kernel
theorem dX7_hasRange_23 : decode cX7_hasRange 23 = .ok (.aload_n 0, 1) := by decide +kernel
theorem dX7_hasRange_24 : decode cX7_hasRange 24 = .ok (.iload_n 1, 1) := by decide +kernel
theorem dX7_hasRange_25 : decode cX7_hasRange 25 = .ok (.invokevirtual 20, 3) := by decide +kernel
theorem dX7_hasRange_28 : decode cX7_hasRange 28 = .ok (.if_icmp .gt 7, 3) := by decide +kernel
theorem dX7_hasRange_31 : decode cX7_hasRange 31 = .ok (.iconst 1, 1) := by decide +kernel
theorem dX7_hasRange_32 : decode cX7_hasRange 32 = .ok (.goto 4, 3) := by decide +kernel
theorem dX7_hasRange_35 : decode cX7_hasRange 35 = .ok (.iconst 0, 1) := by decide +kernel
theorem dX7_hasRange_36 : decode cX7_hasRange 36 = .ok (.ireturn, 1) := by decide +kernel
theorem dX7_isWithinLimits_0 : decode cX7_isWithinLimits 0 = .ok (.aload_n 0, 1) := by decide +kernel
theorem dX7_isWithinLimits_1 : decode cX7_isWithinLimits 1 = .ok (.iconst 0, 1) := by decide +kernel
theorem dX7_isWithinLimits_2 : decode cX7_isWithinLimits 2 = .ok (.invokevirtual 30, 3) := by decide +kernel
theorem dX7_isWithinLimits_5 : decode cX7_isWithinLimits 5 = .ok (.bipush 40, 2) := by decide +kernel
theorem dX7_isWithinLimits_7 : decode cX7_isWithinLimits 7 = .ok (.if_icmp .gt 37, 3) := by decide +kernel
theorem dX7_isWithinLimits_10 : decode cX7_isWithinLimits 10 = .ok (.aload_n 0, 1) := by decide +kernel
theorem dX7_isWithinLimits_11 : decode cX7_isWithinLimits 11 = .ok (.iconst 1, 1) := by decide +kernel
theorem dX7_isWithinLimits_12 : decode cX7_isWithinLimits 12 = .ok (.invokevirtual 30, 3) := by decide +kernel
theorem dX7_isWithinLimits_15 : decode cX7_isWithinLimits 15 = .ok (.bipush 40, 2) := by decide +kernel
theorem dX7_isWithinLimits_17 : decode cX7_isWithinLimits 17 = .ok (.if_icmp .gt 27, 3) := by decide +kernel
theorem dX7_isWithinLimits_20 : decode cX7_isWithinLimits 20 = .ok (.aload_n 0, 1) := by decide +kernel
theorem dX7_isWithinLimits_21 : decode cX7_isWithinLimits 21 = .ok (.iconst 2, 1) := by decide +kernel
theorem dX7_isWithinLimits_22 : decode cX7_isWithinLimits 22 = .ok (.invokevirtual 30, 3) := by decide +kernel
theorem dX7_isWithinLimits_25 : decode cX7_isWithinLimits 25 = .ok (.bipush 40, 2) := by decide +kernel
theorem dX7_isWithinLimits_27 : decode cX7_isWithinLimits 27 = .ok (.if_icmp .gt 17, 3) := by decide +kernel
theorem dX7_isWithinLimits_30 : decode cX7_isWithinLimits 30 = .ok (.aload_n 0, 1) := by decide +kernel
theorem dX7_isWithinLimits_31 : decode cX7_isWithinLimits 31 = .ok (.getfield 39, 3) := by decide +kernel
theorem dX7_isWithinLimits_34 : decode cX7_isWithinLimits 34 = .ok (.sipush 2048, 3) := by decide +kernel
theorem dX7_isWithinLimits_37 : decode cX7_isWithinLimits 37 = .ok (.if_icmp .gt 7, 3) := by decide +kernel
theorem dX7_isWithinLimits_40 : decode cX7_isWithinLimits 40 = .ok (.iconst 1, 1) := by decide +kernel
theorem dX7_isWithinLimits_41 : decode cX7_isWithinLimits 41 = .ok (.goto 4, 3) := by decide +kernel
theorem dX7_isWithinLimits_44 : decode cX7_isWithinLimits 44 = .ok (.iconst 0, 1) := by decide +kernel
theorem dX7_isWithinLimits_45 : decode cX7_isWithinLimits 45 = .ok (.ireturn, 1) := by decide +kernel
theorem dX7_indexOf_0 : decode cX7_indexOf 0 = .ok (.aload_n 0, 1) := by decide +kernel
theorem dX7_indexOf_1 : decode cX7_indexOf 1 = .ok (.iconst 0, 1) := by decide +kernel
theorem dX7_indexOf_2 : decode cX7_indexOf 2 = .ok (.iload_n 1, 1) := by decide +kernel
theorem dX7_indexOf_3 : decode cX7_indexOf 3 = .ok (.invokevirtual 46, 3) := by decide +kernel
theorem dX7_indexOf_6 : decode cX7_indexOf 6 = .ok (.istore 4, 2) := by decide +kernel
theorem dX7_indexOf_8 : decode cX7_indexOf 8 = .ok (.aload_n 0, 1) := by decide +kernel
theorem dX7_indexOf_9 : decode cX7_indexOf 9 = .ok (.iconst 1, 1) := by decide +kernel
theorem dX7_indexOf_10 : decode cX7_indexOf 10 = .ok (.iload_n 2, 1) := by decide +kernel
theorem dX7_indexOf_11 : decode cX7_indexOf 11 = .ok (.invokevirtual 46, 3) := by decide +kernel
theorem dX7_indexOf_14 : decode cX7_indexOf 14 = .ok (.istore 5, 2) := by decide +kernel
theorem dX7_indexOf_16 : decode cX7_indexOf 16 = .ok (.aload_n 0, 1) := by decide +kernel
theorem dX7_indexOf_17 : decode cX7_indexOf 17 = .ok (.iconst 2, 1) := by decide +kernel
theorem dX7_indexOf_18 : decode cX7_indexOf 18 = .ok (.iload_n 3, 1) := by decide +kernel
theorem dX7_indexOf_19 : decode cX7_indexOf 19 = .ok (.invokevirtual 46, 3) := by decide +kernel
theorem dX7_indexOf_22 : decode cX7_indexOf 22 = .ok (.istore 6, 2) := by decide +kernel
theorem dX7_indexOf_24 : decode cX7_indexOf 24 = .ok (.iload 4, 2) := by decide +kernel
theorem dX7_indexOf_26 : decode cX7_indexOf 26 = .ok (.ifCond .lt 13, 3) := by decide +kernel
theorem dX7_indexOf_29 : decode cX7_indexOf 29 = .ok (.iload 5, 2) := by decide +kernel
theorem dX7_indexOf_31 : decode cX7_indexOf 31 = .ok (.ifCond .lt 8, 3) := by decide +kernel
theorem dX7_indexOf_34 : decode cX7_indexOf 34 = .ok (.iload 6, 2) := by decide +kernel
theorem dX7_indexOf_36 : decode cX7_indexOf 36 = .ok (.ifCond .ge 7, 3) := by decide +kernel
theorem dX7_indexOf_39 : decode cX7_indexOf 39 = .ok (.iconst (-1), 1) := by decide +kernel
theorem dX7_indexOf_40 : decode cX7_indexOf 40 = .ok (.goto 11, 3) := by decide +kernel
theorem dX7_indexOf_43 : decode cX7_indexOf 43 = .ok (.iload 4, 2) := by decide +kernel
theorem dX7_indexOf_45 : decode cX7_indexOf 45 = .ok (.iload 5, 2) := by decide +kernel
theorem dX7_indexOf_47 : decode cX7_indexOf 47 = .ok (.iadd, 1) := by decide +kernel
theorem dX7_indexOf_48 : decode cX7_indexOf 48 = .ok (.iload 6, 2) := by decide +kernel
theorem dX7_indexOf_50 : decode cX7_indexOf 50 = .ok (.iadd, 1) := by decide +kernel
theorem dX7_indexOf_51 : decode cX7_indexOf 51 = .ok (.ireturn, 1) := by decide +kernel
theorem dX7_offset_0 : decode cX7_offset 0 = .ok (.aload_n 0, 1) := by decide +kernel
theorem dX7_offset_1 : decode cX7_offset 1 = .ok (.iload_n 1, 1) := by decide +kernel
theorem dX7_offset_2 : decode cX7_offset 2 = .ok (.invokevirtual 42, 3) := by decide +kernel
theorem dX7_offset_5 : decode cX7_offset 5 = .ok (.ifCond .ne 5, 3) := by decide +kernel
theorem dX7_offset_8 : decode cX7_offset 8 = .ok (.iconst 0, 1) := by decide +kernel
theorem dX7_offset_9 : decode cX7_offset 9 = .ok (.ireturn, 1) := by decide +kernel
theorem dX7_offset_10 : decode cX7_offset 10 = .ok (.iload_n 2, 1) := by decide +kernel
theorem dX7_offset_11 : decode cX7_offset 11 = .ok (.aload_n 0, 1) := by decide +kernel
theorem dX7_offset_12 : decode cX7_offset 12 = .ok (.iload_n 1, 1) := by decide +kernel
theorem dX7_offset_13 : decode cX7_offset 13 = .ok (.invokevirtual 24, 3) := by decide +kernel
theorem dX7_offset_16 : decode cX7_offset 16 = .ok (.if_icmp .lt 12, 3) := by decide +kernel
theorem dX7_offset_19 : decode cX7_offset 19 = .ok (.iload_n 2, 1) := by decide +kernel
theorem dX7_offset_20 : decode cX7_offset 20 = .ok (.aload_n 0, 1) := by decide +kernel
theorem dX7_offset_21 : decode cX7_offset 21 = .ok (.iload_n 1, 1) := by decide +kernel
theorem dX7_offset_22 : decode cX7_offset 22 = .ok (.invokevirtual 20, 3) := by decide +kernel
theorem dX7_offset_25 : decode cX7_offset 25 = .ok (.if_icmp .le 7, 3) := by decide +kernel
theorem dX7_offset_28 : decode cX7_offset 28 = .ok (.iconst (-1), 1) := by decide +kernel
theorem dX7_offset_29 : decode cX7_offset 29 = .ok (.goto 16, 3) := by decide +kernel
theorem dX7_offset_32 : decode cX7_offset 32 = .ok (.iload_n 2, 1) := by decide +kernel
theorem dX7_offset_33 : decode cX7_offset 33 = .ok (.aload_n 0, 1) := by decide +kernel
theorem dX7_offset_34 : decode cX7_offset 34 = .ok (.iload_n 1, 1) := by decide +kernel
theorem dX7_offset_35 : decode cX7_offset 35 = .ok (.invokevirtual 24, 3) := by decide +kernel
theorem dX7_offset_38 : decode cX7_offset 38 = .ok (.isub, 1) := by decide +kernel
theorem dX7_offset_39 : decode cX7_offset 39 = .ok (.aload_n 0, 1) := by decide +kernel
theorem dX7_offset_40 : decode cX7_offset 40 = .ok (.iload_n 1, 1) := by decide +kernel
theorem dX7_offset_41 : decode cX7_offset 41 = .ok (.invokevirtual 36, 3) := by decide +kernel
theorem dX7_offset_44 : decode cX7_offset 44 = .ok (.imul, 1) := by decide +kernel
theorem dX7_offset_45 : decode cX7_offset 45 = .ok (.ireturn, 1) := by decide +kernel
theorem dX7_placeOf_0 : decode cX7_placeOf 0 = .ok (.aload_n 0, 1) := by decide +kernel
theorem dX7_placeOf_1 : decode cX7_placeOf 1 = .ok (.iload_n 2, 1) := by decide +kernel
theorem dX7_placeOf_2 : decode cX7_placeOf 2 = .ok (.invokevirtual 36, 3) := by decide +kernel
theorem dX7_placeOf_5 : decode cX7_placeOf 5 = .ok (.istore_n 3, 1) := by decide +kernel
theorem dX7_placeOf_6 : decode cX7_placeOf 6 = .ok (.aload_n 0, 1) := by decide +kernel
theorem dX7_placeOf_7 : decode cX7_placeOf 7 = .ok (.iload_n 2, 1) := by decide +kernel
theorem dX7_placeOf_8 : decode cX7_placeOf 8 = .ok (.invokevirtual 30, 3) := by decide +kernel
theorem dX7_placeOf_11 : decode cX7_placeOf 11 = .ok (.istore 4, 2) := by decide +kernel
theorem dX7_placeOf_13 : decode cX7_placeOf 13 = .ok (.iload_n 3, 1) := by decide +kernel
theorem dX7_placeOf_14 : decode cX7_placeOf 14 = .ok (.iconst 1, 1) := by decide +kernel
theorem dX7_placeOf_15 : decode cX7_placeOf 15 = .ok (.if_icmp .lt 9, 3) := by decide +kernel
theorem dX7_placeOf_18 : decode cX7_placeOf 18 = .ok (.iload 4, 2) := by decide +kernel
theorem dX7_placeOf_20 : decode cX7_placeOf 20 = .ok (.iconst 1, 1) := by decide +kernel
theorem dX7_placeOf_21 : decode cX7_placeOf 21 = .ok (.if_icmp .ge 5, 3) := by decide +kernel
theorem dX7_placeOf_24 : decode cX7_placeOf 24 = .ok (.iconst 0, 1) := by decide +kernel
theorem dX7_placeOf_25 : decode cX7_placeOf 25 = .ok (.ireturn, 1) := by decide +kernel
theorem dX7_placeOf_26 : decode cX7_placeOf 26 = .ok (.aload_n 0, 1) := by decide +kernel
theorem dX7_placeOf_27 : decode cX7_placeOf 27 = .ok (.iload_n 2, 1) := by decide +kernel
theorem dX7_placeOf_28 : decode cX7_placeOf 28 = .ok (.invokevirtual 24, 3) := by decide +kernel
theorem dX7_placeOf_31 : decode cX7_placeOf 31 = .ok (.iload_n 1, 1) := by decide +kernel
theorem dX7_placeOf_32 : decode cX7_placeOf 32 = .ok (.iload_n 3, 1) := by decide +kernel
theorem dX7_placeOf_33 : decode cX7_placeOf 33 = .ok (.idiv, 1) := by decide +kernel
theorem dX7_placeOf_34 : decode cX7_placeOf 34 = .ok (.iload 4, 2) := by decide +kernel
theorem dX7_placeOf_36 : decode cX7_placeOf 36 = .ok (.irem, 1) := by decide +kernel
theorem dX7_placeOf_37 : decode cX7_placeOf 37 = .ok (.iadd, 1) := by decide +kernel
theorem dX7_placeOf_38 : decode cX7_placeOf 38 = .ok (.ireturn, 1) := by decide +kernel
theorem dX7_ranged_0 : decode cX7_ranged 0 = .ok (.new 8, 3) := by decide +kernel
theorem dX7_ranged_3 : decode cX7_ranged 3 = .ok (.dup, 1) := by decide +kernel
theorem dX7_ranged_4 : decode cX7_ranged 4 = .ok (.aload_n 0, 1) := by decide +kernel
theorem dX7_ranged_5 : decode cX7_ranged 5 = .ok (.getfield 7, 3) := by decide +kernel
theorem dX7_ranged_8 : decode cX7_ranged 8 = .ok (.aload_n 0, 1) := by decide +kernel
theorem dX7_ranged_9 : decode cX7_ranged 9 = .ok (.getfield 13, 3) := by decide +kernel
theorem dX7_ranged_12 : decode cX7_ranged 12 = .ok (.iload_n 1, 1) := by decide +kernel
theorem dX7_ranged_13 : decode cX7_ranged 13 = .ok (.iload_n 2, 1) := by decide +kernel
theorem dX7_ranged_14 : decode cX7_ranged 14 = .ok (.invokestatic 50, 3) := by decide +kernel
theorem dX7_ranged_17 : decode cX7_ranged 17 = .ok (.aload_n 0, 1) := by decide +kernel
theorem dX7_ranged_18 : decode cX7_ranged 18 = .ok (.getfield 17, 3) := by decide +kernel
theorem dX7_ranged_21 : decode cX7_ranged 21 = .ok (.iload_n 1, 1) := by decide +kernel
theorem dX7_ranged_22 : decode cX7_ranged 22 = .ok (.iload_n 3, 1) := by decide +kernel
theorem dX7_ranged_23 : decode cX7_ranged 23 = .ok (.invokestatic 50, 3) := by decide +kernel
theorem dX7_ranged_26 : decode cX7_ranged 26 = .ok (.invokespecial 54, 3) := by decide +kernel
theorem dX7_ranged_29 : decode cX7_ranged 29 = .ok (.areturn, 1) := by decide +kernel
theorem dX7_without_0 : decode cX7_without 0 = .ok (.new 8, 3) := by decide +kernel
theorem dX7_without_3 : decode cX7_without 3 = .ok (.dup, 1) := by decide +kernel
theorem dX7_without_4 : decode cX7_without 4 = .ok (.aload_n 0, 1) := by decide +kernel
theorem dX7_without_5 : decode cX7_without 5 = .ok (.getfield 7, 3) := by decide +kernel
theorem dX7_without_8 : decode cX7_without 8 = .ok (.iconst 1, 1) := by decide +kernel
theorem dX7_without_9 : decode cX7_without 9 = .ok (.isub, 1) := by decide +kernel
theorem dX7_without_10 : decode cX7_without 10 = .ok (.aload_n 0, 1) := by decide +kernel
theorem dX7_without_11 : decode cX7_without 11 = .ok (.getfield 13, 3) := by decide +kernel
theorem dX7_without_14 : decode cX7_without 14 = .ok (.iload_n 1, 1) := by decide +kernel
theorem dX7_without_15 : decode cX7_without 15 = .ok (.invokestatic 57, 3) := by decide +kernel
theorem dX7_without_18 : decode cX7_without 18 = .ok (.aload_n 0, 1) := by decide +kernel
theorem dX7_without_19 : decode cX7_without 19 = .ok (.getfield 17, 3) := by decide +kernel
theorem dX7_without_22 : decode cX7_without 22 = .ok (.iload_n 1, 1) := by decide +kernel
theorem dX7_without_23 : decode cX7_without 23 = .ok (.invokestatic 57, 3) := by decide +kernel
theorem dX7_without_26 : decode cX7_without 26 = .ok (.invokespecial 54, 3) := by decide +kernel
theorem dX7_without_29 : decode cX7_without 29 = .ok (.areturn, 1) := by decide +kernel
theorem dX7_swapped_0 : decode cX7_swapped 0 = .ok (.aload_n 0, 1) := by decide +kernel
theorem dX7_swapped_1 : decode cX7_swapped 1 = .ok (.iload_n 1, 1) := by decide +kernel
theorem dX7_swapped_2 : decode cX7_swapped 2 = .ok (.aload_n 0, 1) := by decide +kernel
theorem dX7_swapped_3 : decode cX7_swapped 3 = .ok (.iload_n 2, 1) := by decide +kernel
theorem dX7_swapped_4 : decode cX7_swapped 4 = .ok (.invokevirtual 24, 3) := by decide +kernel
theorem dX7_swapped_7 : decode cX7_swapped 7 = .ok (.aload_n 0, 1) := by decide +kernel
theorem dX7_swapped_8 : decode cX7_swapped 8 = .ok (.iload_n 2, 1) := by decide +kernel
theorem dX7_swapped_9 : decode cX7_swapped 9 = .ok (.invokevirtual 20, 3) := by decide +kernel
theorem dX7_swapped_12 : decode cX7_swapped 12 = .ok (.invokevirtual 61, 3) := by decide +kernel
theorem dX7_swapped_15 : decode cX7_swapped 15 = .ok (.iload_n 2, 1) := by decide +kernel
theorem dX7_swapped_16 : decode cX7_swapped 16 = .ok (.aload_n 0, 1) := by decide +kernel
theorem dX7_swapped_17 : decode cX7_swapped 17 = .ok (.iload_n 1, 1) := by decide +kernel
theorem dX7_swapped_18 : decode cX7_swapped 18 = .ok (.invokevirtual 24, 3) := by decide +kernel
theorem dX7_swapped_21 : decode cX7_swapped 21 = .ok (.aload_n 0, 1) := by decide +kernel
theorem dX7_swapped_22 : decode cX7_swapped 22 = .ok (.iload_n 1, 1) := by decide +kernel
theorem dX7_swapped_23 : decode cX7_swapped 23 = .ok (.invokevirtual 20, 3) := by decide +kernel
theorem dX7_swapped_26 : decode cX7_swapped 26 = .ok (.invokevirtual 61, 3) := by decide +kernel
theorem dX7_swapped_29 : decode cX7_swapped 29 = .ok (.areturn, 1) := by decide +kernel
theorem dX7_meets_0 : decode cX7_meets 0 = .ok (.aload_n 0, 1) := by decide +kernel
theorem dX7_meets_1 : decode cX7_meets 1 = .ok (.getfield 7, 3) := by decide +kernel
theorem dX7_meets_4 : decode cX7_meets 4 = .ok (.aload_n 1, 1) := by decide +kernel
theorem dX7_meets_5 : decode cX7_meets 5 = .ok (.getfield 7, 3) := by decide +kernel
theorem dX7_meets_8 : decode cX7_meets 8 = .ok (.if_icmp .ne 7, 3) := by decide +kernel
theorem dX7_meets_11 : decode cX7_meets 11 = .ok (.iconst 1, 1) := by decide +kernel
theorem dX7_meets_12 : decode cX7_meets 12 = .ok (.goto 4, 3) := by decide +kernel
theorem dX7_meets_15 : decode cX7_meets 15 = .ok (.iconst 0, 1) := by decide +kernel
theorem dX7_meets_16 : decode cX7_meets 16 = .ok (.istore_n 2, 1) := by decide +kernel
theorem dX7_meets_17 : decode cX7_meets 17 = .ok (.iconst 0, 1) := by decide +kernel
theorem dX7_meets_18 : decode cX7_meets 18 = .ok (.istore_n 3, 1) := by decide +kernel
theorem dX7_meets_19 : decode cX7_meets 19 = .ok (.iload_n 3, 1) := by decide +kernel
theorem dX7_meets_20 : decode cX7_meets 20 = .ok (.aload_n 0, 1) := by decide +kernel
theorem dX7_meets_21 : decode cX7_meets 21 = .ok (.getfield 7, 3) := by decide +kernel
theorem dX7_meets_24 : decode cX7_meets 24 = .ok (.if_icmp .ge 45, 3) := by decide +kernel
theorem dX7_meets_27 : decode cX7_meets 27 = .ok (.iload_n 2, 1) := by decide +kernel
theorem dX7_meets_28 : decode cX7_meets 28 = .ok (.ifCond .eq 33, 3) := by decide +kernel
theorem dX7_meets_31 : decode cX7_meets 31 = .ok (.aload_n 0, 1) := by decide +kernel
theorem dX7_meets_32 : decode cX7_meets 32 = .ok (.iload_n 3, 1) := by decide +kernel
theorem dX7_meets_33 : decode cX7_meets 33 = .ok (.invokevirtual 24, 3) := by decide +kernel
theorem dX7_meets_36 : decode cX7_meets 36 = .ok (.aload_n 1, 1) := by decide +kernel
theorem dX7_meets_37 : decode cX7_meets 37 = .ok (.iload_n 3, 1) := by decide +kernel
theorem dX7_meets_38 : decode cX7_meets 38 = .ok (.invokevirtual 20, 3) := by decide +kernel
theorem dX7_meets_41 : decode cX7_meets 41 = .ok (.if_icmp .gt 20, 3) := by decide +kernel
theorem dX7_meets_44 : decode cX7_meets 44 = .ok (.aload_n 1, 1) := by decide +kernel
theorem dX7_meets_45 : decode cX7_meets 45 = .ok (.iload_n 3, 1) := by decide +kernel
theorem dX7_meets_46 : decode cX7_meets 46 = .ok (.invokevirtual 24, 3) := by decide +kernel
theorem dX7_meets_49 : decode cX7_meets 49 = .ok (.aload_n 0, 1) := by decide +kernel
theorem dX7_meets_50 : decode cX7_meets 50 = .ok (.iload_n 3, 1) := by decide +kernel
theorem dX7_meets_51 : decode cX7_meets 51 = .ok (.invokevirtual 20, 3) := by decide +kernel
theorem dX7_meets_54 : decode cX7_meets 54 = .ok (.if_icmp .gt 7, 3) := by decide +kernel
theorem dX7_meets_57 : decode cX7_meets 57 = .ok (.iconst 1, 1) := by decide +kernel
theorem dX7_meets_58 : decode cX7_meets 58 = .ok (.goto 4, 3) := by decide +kernel
theorem dX7_meets_61 : decode cX7_meets 61 = .ok (.iconst 0, 1) := by decide +kernel
theorem dX7_meets_62 : decode cX7_meets 62 = .ok (.istore_n 2, 1) := by decide +kernel
theorem dX7_meets_63 : decode cX7_meets 63 = .ok (.iinc 3 1, 3) := by decide +kernel
theorem dX7_meets_66 : decode cX7_meets 66 = .ok (.goto (-47), 3) := by decide +kernel
theorem dX7_meets_69 : decode cX7_meets 69 = .ok (.iload_n 2, 1) := by decide +kernel
theorem dX7_meets_70 : decode cX7_meets 70 = .ok (.ireturn, 1) := by decide +kernel
theorem dX7_common_0 : decode cX7_common 0 = .ok (.iconst 3, 1) := by decide +kernel
theorem dX7_common_1 : decode cX7_common 1 = .ok (.newarray .int, 2) := by decide +kernel
theorem dX7_common_3 : decode cX7_common 3 = .ok (.dup, 1) := by decide +kernel
theorem dX7_common_4 : decode cX7_common 4 = .ok (.iconst 0, 1) := by decide +kernel
theorem dX7_common_5 : decode cX7_common 5 = .ok (.aload_n 0, 1) := by decide +kernel
theorem dX7_common_6 : decode cX7_common 6 = .ok (.iconst 0, 1) := by decide +kernel
theorem dX7_common_7 : decode cX7_common 7 = .ok (.invokevirtual 24, 3) := by decide +kernel
theorem dX7_common_10 : decode cX7_common 10 = .ok (.aload_n 1, 1) := by decide +kernel
theorem dX7_common_11 : decode cX7_common 11 = .ok (.iconst 0, 1) := by decide +kernel
theorem dX7_common_12 : decode cX7_common 12 = .ok (.invokevirtual 24, 3) := by decide +kernel
theorem dX7_common_15 : decode cX7_common 15 = .ok (.invokestatic 65, 3) := by decide +kernel
theorem dX7_common_18 : decode cX7_common 18 = .ok (.iastore, 1) := by decide +kernel
theorem dX7_common_19 : decode cX7_common 19 = .ok (.dup, 1) := by decide +kernel
theorem dX7_common_20 : decode cX7_common 20 = .ok (.iconst 1, 1) := by decide +kernel
theorem dX7_common_21 : decode cX7_common 21 = .ok (.aload_n 0, 1) := by decide +kernel
theorem dX7_common_22 : decode cX7_common 22 = .ok (.iconst 1, 1) := by decide +kernel
theorem dX7_common_23 : decode cX7_common 23 = .ok (.invokevirtual 24, 3) := by decide +kernel
theorem dX7_common_26 : decode cX7_common 26 = .ok (.aload_n 1, 1) := by decide +kernel
theorem dX7_common_27 : decode cX7_common 27 = .ok (.iconst 1, 1) := by decide +kernel
theorem dX7_common_28 : decode cX7_common 28 = .ok (.invokevirtual 24, 3) := by decide +kernel
theorem dX7_common_31 : decode cX7_common 31 = .ok (.invokestatic 65, 3) := by decide +kernel
theorem dX7_common_34 : decode cX7_common 34 = .ok (.iastore, 1) := by decide +kernel
theorem dX7_common_35 : decode cX7_common 35 = .ok (.dup, 1) := by decide +kernel
theorem dX7_common_36 : decode cX7_common 36 = .ok (.iconst 2, 1) := by decide +kernel
theorem dX7_common_37 : decode cX7_common 37 = .ok (.aload_n 0, 1) := by decide +kernel
theorem dX7_common_38 : decode cX7_common 38 = .ok (.iconst 2, 1) := by decide +kernel
theorem dX7_common_39 : decode cX7_common 39 = .ok (.invokevirtual 24, 3) := by decide +kernel
theorem dX7_common_42 : decode cX7_common 42 = .ok (.aload_n 1, 1) := by decide +kernel
theorem dX7_common_43 : decode cX7_common 43 = .ok (.iconst 2, 1) := by decide +kernel
theorem dX7_common_44 : decode cX7_common 44 = .ok (.invokevirtual 24, 3) := by decide +kernel
theorem dX7_common_47 : decode cX7_common 47 = .ok (.invokestatic 65, 3) := by decide +kernel
theorem dX7_common_50 : decode cX7_common 50 = .ok (.iastore, 1) := by decide +kernel
theorem dX7_common_51 : decode cX7_common 51 = .ok (.astore_n 2, 1) := by decide +kernel
theorem dX7_common_52 : decode cX7_common 52 = .ok (.iconst 3, 1) := by decide +kernel
theorem dX7_common_53 : decode cX7_common 53 = .ok (.newarray .int, 2) := by decide +kernel
theorem dX7_common_55 : decode cX7_common 55 = .ok (.dup, 1) := by decide +kernel
theorem dX7_common_56 : decode cX7_common 56 = .ok (.iconst 0, 1) := by decide +kernel
theorem dX7_common_57 : decode cX7_common 57 = .ok (.aload_n 0, 1) := by decide +kernel
theorem dX7_common_58 : decode cX7_common 58 = .ok (.iconst 0, 1) := by decide +kernel
theorem dX7_common_59 : decode cX7_common 59 = .ok (.invokevirtual 20, 3) := by decide +kernel
theorem dX7_common_62 : decode cX7_common 62 = .ok (.aload_n 1, 1) := by decide +kernel
theorem dX7_common_63 : decode cX7_common 63 = .ok (.iconst 0, 1) := by decide +kernel
theorem dX7_common_64 : decode cX7_common 64 = .ok (.invokevirtual 20, 3) := by decide +kernel
theorem dX7_common_67 : decode cX7_common 67 = .ok (.invokestatic 70, 3) := by decide +kernel
theorem dX7_common_70 : decode cX7_common 70 = .ok (.iastore, 1) := by decide +kernel
theorem dX7_common_71 : decode cX7_common 71 = .ok (.dup, 1) := by decide +kernel
theorem dX7_common_72 : decode cX7_common 72 = .ok (.iconst 1, 1) := by decide +kernel
theorem dX7_common_73 : decode cX7_common 73 = .ok (.aload_n 0, 1) := by decide +kernel
theorem dX7_common_74 : decode cX7_common 74 = .ok (.iconst 1, 1) := by decide +kernel
theorem dX7_common_75 : decode cX7_common 75 = .ok (.invokevirtual 20, 3) := by decide +kernel
theorem dX7_common_78 : decode cX7_common 78 = .ok (.aload_n 1, 1) := by decide +kernel
theorem dX7_common_79 : decode cX7_common 79 = .ok (.iconst 1, 1) := by decide +kernel
theorem dX7_common_80 : decode cX7_common 80 = .ok (.invokevirtual 20, 3) := by decide +kernel
theorem dX7_common_83 : decode cX7_common 83 = .ok (.invokestatic 70, 3) := by decide +kernel
theorem dX7_common_86 : decode cX7_common 86 = .ok (.iastore, 1) := by decide +kernel
theorem dX7_common_87 : decode cX7_common 87 = .ok (.dup, 1) := by decide +kernel
theorem dX7_common_88 : decode cX7_common 88 = .ok (.iconst 2, 1) := by decide +kernel
theorem dX7_common_89 : decode cX7_common 89 = .ok (.aload_n 0, 1) := by decide +kernel
theorem dX7_common_90 : decode cX7_common 90 = .ok (.iconst 2, 1) := by decide +kernel
theorem dX7_common_91 : decode cX7_common 91 = .ok (.invokevirtual 20, 3) := by decide +kernel
theorem dX7_common_94 : decode cX7_common 94 = .ok (.aload_n 1, 1) := by decide +kernel
theorem dX7_common_95 : decode cX7_common 95 = .ok (.iconst 2, 1) := by decide +kernel
theorem dX7_common_96 : decode cX7_common 96 = .ok (.invokevirtual 20, 3) := by decide +kernel
theorem dX7_common_99 : decode cX7_common 99 = .ok (.invokestatic 70, 3) := by decide +kernel
theorem dX7_common_102 : decode cX7_common 102 = .ok (.iastore, 1) := by decide +kernel
theorem dX7_common_103 : decode cX7_common 103 = .ok (.astore_n 3, 1) := by decide +kernel
theorem dX7_common_104 : decode cX7_common 104 = .ok (.new 8, 3) := by decide +kernel
theorem dX7_common_107 : decode cX7_common 107 = .ok (.dup, 1) := by decide +kernel
theorem dX7_common_108 : decode cX7_common 108 = .ok (.aload_n 0, 1) := by decide +kernel
theorem dX7_common_109 : decode cX7_common 109 = .ok (.getfield 7, 3) := by decide +kernel
theorem dX7_common_112 : decode cX7_common 112 = .ok (.aload_n 2, 1) := by decide +kernel
theorem dX7_common_113 : decode cX7_common 113 = .ok (.aload_n 3, 1) := by decide +kernel
theorem dX7_common_114 : decode cX7_common 114 = .ok (.invokespecial 54, 3) := by decide +kernel
theorem dX7_common_117 : decode cX7_common 117 = .ok (.areturn, 1) := by decide +kernel
theorem dX7_replaced_0 : decode cX7_replaced 0 = .ok (.aload_n 0, 1) := by decide +kernel
theorem dX7_replaced_1 : decode cX7_replaced 1 = .ok (.invokevirtual 73, 3) := by decide +kernel
theorem dX7_replaced_4 : decode cX7_replaced 4 = .ok (.checkcast 74, 3) := by decide +kernel
theorem dX7_replaced_7 : decode cX7_replaced 7 = .ok (.astore_n 3, 1) := by decide +kernel
theorem dX7_replaced_8 : decode cX7_replaced 8 = .ok (.iload_n 1, 1) := by decide +kernel
theorem dX7_replaced_9 : decode cX7_replaced 9 = .ok (.ifCond .lt 13, 3) := by decide +kernel
theorem dX7_replaced_12 : decode cX7_replaced 12 = .ok (.iload_n 1, 1) := by decide +kernel
theorem dX7_replaced_13 : decode cX7_replaced 13 = .ok (.aload_n 3, 1) := by decide +kernel
theorem dX7_replaced_14 : decode cX7_replaced 14 = .ok (.arraylength, 1) := by decide +kernel
theorem dX7_replaced_15 : decode cX7_replaced 15 = .ok (.if_icmp .ge 7, 3) := by decide +kernel
theorem dX7_replaced_18 : decode cX7_replaced 18 = .ok (.aload_n 3, 1) := by decide +kernel
theorem dX7_replaced_19 : decode cX7_replaced 19 = .ok (.iload_n 1, 1) := by decide +kernel
theorem dX7_replaced_20 : decode cX7_replaced 20 = .ok (.iload_n 2, 1) := by decide +kernel
theorem dX7_replaced_21 : decode cX7_replaced 21 = .ok (.iastore, 1) := by decide +kernel
theorem dX7_replaced_22 : decode cX7_replaced 22 = .ok (.aload_n 3, 1) := by decide +kernel
theorem dX7_replaced_23 : decode cX7_replaced 23 = .ok (.areturn, 1) := by decide +kernel
theorem dX7_dropped_0 : decode cX7_dropped 0 = .ok (.aload_n 0, 1) := by decide +kernel
theorem dX7_dropped_1 : decode cX7_dropped 1 = .ok (.invokevirtual 73, 3) := by decide +kernel
theorem dX7_dropped_4 : decode cX7_dropped 4 = .ok (.checkcast 74, 3) := by decide +kernel
theorem dX7_dropped_7 : decode cX7_dropped 7 = .ok (.astore_n 2, 1) := by decide +kernel
theorem dX7_dropped_8 : decode cX7_dropped 8 = .ok (.iload_n 1, 1) := by decide +kernel
theorem dX7_dropped_9 : decode cX7_dropped 9 = .ok (.iconst 0, 1) := by decide +kernel
theorem dX7_dropped_10 : decode cX7_dropped 10 = .ok (.invokestatic 65, 3) := by decide +kernel
theorem dX7_dropped_13 : decode cX7_dropped 13 = .ok (.istore_n 3, 1) := by decide +kernel
theorem dX7_dropped_14 : decode cX7_dropped 14 = .ok (.iload_n 3, 1) := by decide +kernel
theorem dX7_dropped_15 : decode cX7_dropped 15 = .ok (.aload_n 2, 1) := by decide +kernel
theorem dX7_dropped_16 : decode cX7_dropped 16 = .ok (.arraylength, 1) := by decide +kernel
theorem dX7_dropped_17 : decode cX7_dropped 17 = .ok (.if_icmp .ge 29, 3) := by decide +kernel
theorem dX7_dropped_20 : decode cX7_dropped 20 = .ok (.aload_n 2, 1) := by decide +kernel
theorem dX7_dropped_21 : decode cX7_dropped 21 = .ok (.iload_n 3, 1) := by decide +kernel
theorem dX7_dropped_22 : decode cX7_dropped 22 = .ok (.iload_n 3, 1) := by decide +kernel
theorem dX7_dropped_23 : decode cX7_dropped 23 = .ok (.iconst 1, 1) := by decide +kernel
theorem dX7_dropped_24 : decode cX7_dropped 24 = .ok (.iadd, 1) := by decide +kernel
theorem dX7_dropped_25 : decode cX7_dropped 25 = .ok (.aload_n 0, 1) := by decide +kernel
theorem dX7_dropped_26 : decode cX7_dropped 26 = .ok (.arraylength, 1) := by decide +kernel
theorem dX7_dropped_27 : decode cX7_dropped 27 = .ok (.if_icmp .ge 11, 3) := by decide +kernel
theorem dX7_dropped_30 : decode cX7_dropped 30 = .ok (.aload_n 0, 1) := by decide +kernel
theorem dX7_dropped_31 : decode cX7_dropped 31 = .ok (.iload_n 3, 1) := by decide +kernel
theorem dX7_dropped_32 : decode cX7_dropped 32 = .ok (.iconst 1, 1) := by decide +kernel
theorem dX7_dropped_33 : decode cX7_dropped 33 = .ok (.iadd, 1) := by decide +kernel
theorem dX7_dropped_34 : decode cX7_dropped 34 = .ok (.iaload, 1) := by decide +kernel
theorem dX7_dropped_35 : decode cX7_dropped 35 = .ok (.goto 4, 3) := by decide +kernel
theorem dX7_dropped_38 : decode cX7_dropped 38 = .ok (.iconst 0, 1) := by decide +kernel
theorem dX7_dropped_39 : decode cX7_dropped 39 = .ok (.iastore, 1) := by decide +kernel
theorem dX7_dropped_40 : decode cX7_dropped 40 = .ok (.iinc 3 1, 3) := by decide +kernel
theorem dX7_dropped_43 : decode cX7_dropped 43 = .ok (.goto (-29), 3) := by decide +kernel
theorem dX7_dropped_46 : decode cX7_dropped 46 = .ok (.aload_n 2, 1) := by decide +kernel
theorem dX7_dropped_47 : decode cX7_dropped 47 = .ok (.areturn, 1) := by decide +kernel
theorem dX8_init_0 : decode cX8_init 0 = .ok (.aload_n 0, 1) := by decide +kernel
theorem dX8_init_1 : decode cX8_init 1 = .ok (.invokespecial 1, 3) := by decide +kernel
theorem dX8_init_4 : decode cX8_init 4 = .ok (.aload_n 0, 1) := by decide +kernel
theorem dX8_init_5 : decode cX8_init 5 = .ok (.iload_n 1, 1) := by decide +kernel
theorem dX8_init_6 : decode cX8_init 6 = .ok (.putfield 7, 3) := by decide +kernel
theorem dX8_init_9 : decode cX8_init 9 = .ok (.return_, 1) := by decide +kernel
theorem dX8_isKnown_0 : decode cX8_isKnown 0 = .ok (.iload_n 0, 1) := by decide +kernel
theorem dX8_isKnown_1 : decode cX8_isKnown 1 = .ok (.ifCond .lt 12, 3) := by decide +kernel
theorem dX8_isKnown_4 : decode cX8_isKnown 4 = .ok (.iload_n 0, 1) := by decide +kernel
theorem dX8_isKnown_5 : decode cX8_isKnown 5 = .ok (.iconst 3, 1) := by decide +kernel
theorem dX8_isKnown_6 : decode cX8_isKnown 6 = .ok (.if_icmp .gt 7, 3) := by decide +kernel
theorem dX8_isKnown_9 : decode cX8_isKnown 9 = .ok (.iconst 1, 1) := by decide +kernel
theorem dX8_isKnown_10 : decode cX8_isKnown 10 = .ok (.goto 4, 3) := by decide +kernel
theorem dX8_isKnown_13 : decode cX8_isKnown 13 = .ok (.iconst 0, 1) := by decide +kernel
theorem dX8_isKnown_14 : decode cX8_isKnown 14 = .ok (.ireturn, 1) := by decide +kernel
theorem dX8_takeRow_0 : decode cX8_takeRow 0 = .ok (.aload_n 0, 1) := by decide +kernel
theorem dX8_takeRow_1 : decode cX8_takeRow 1 = .ok (.iconst 0, 1) := by decide +kernel
theorem dX8_takeRow_2 : decode cX8_takeRow 2 = .ok (.putfield 13, 3) := by decide +kernel
theorem dX8_takeRow_5 : decode cX8_takeRow 5 = .ok (.aload_n 0, 1) := by decide +kernel
theorem dX8_takeRow_6 : decode cX8_takeRow 6 = .ok (.lconst 0, 1) := by decide +kernel
theorem dX8_takeRow_7 : decode cX8_takeRow 7 = .ok (.putfield 16, 3) := by decide +kernel
theorem dX8_takeRow_10 : decode cX8_takeRow 10 = .ok (.iconst 0, 1) := by decide +kernel
theorem dX8_takeRow_11 : decode cX8_takeRow 11 = .ok (.istore 5, 2) := by decide +kernel
theorem dX8_takeRow_13 : decode cX8_takeRow 13 = .ok (.iload 5, 2) := by decide +kernel
theorem dX8_takeRow_15 : decode cX8_takeRow 15 = .ok (.iload 4, 2) := by decide +kernel
theorem dX8_takeRow_17 : decode cX8_takeRow 17 = .ok (.if_icmp .ge 36, 3) := by decide +kernel
theorem dX8_takeRow_20 : decode cX8_takeRow 20 = .ok (.iload_n 2, 1) := by decide +kernel
theorem dX8_takeRow_21 : decode cX8_takeRow 21 = .ok (.iload 5, 2) := by decide +kernel
theorem dX8_takeRow_23 : decode cX8_takeRow 23 = .ok (.iload_n 3, 1) := by decide +kernel
theorem dX8_takeRow_24 : decode cX8_takeRow 24 = .ok (.imul, 1) := by decide +kernel
theorem dX8_takeRow_25 : decode cX8_takeRow 25 = .ok (.iadd, 1) := by decide +kernel
theorem dX8_takeRow_26 : decode cX8_takeRow 26 = .ok (.istore 6, 2) := by decide +kernel
theorem dX8_takeRow_28 : decode cX8_takeRow 28 = .ok (.aload_n 1, 1) := by decide +kernel
theorem dX8_takeRow_29 : decode cX8_takeRow 29 = .ok (.iload 6, 2) := by decide +kernel
theorem dX8_takeRow_31 : decode cX8_takeRow 31 = .ok (.invokevirtual 20, 3) := by decide +kernel
theorem dX8_takeRow_34 : decode cX8_takeRow 34 = .ok (.ifCond .eq 13, 3) := by decide +kernel
theorem dX8_takeRow_37 : decode cX8_takeRow 37 = .ok (.aload_n 0, 1) := by decide +kernel
theorem dX8_takeRow_38 : decode cX8_takeRow 38 = .ok (.aload_n 1, 1) := by decide +kernel
theorem dX8_takeRow_39 : decode cX8_takeRow 39 = .ok (.iload 6, 2) := by decide +kernel
theorem dX8_takeRow_41 : decode cX8_takeRow 41 = .ok (.invokevirtual 26, 3) := by decide +kernel
theorem dX8_takeRow_44 : decode cX8_takeRow 44 = .ok (.invokevirtual 30, 3) := by decide +kernel
theorem dX8_takeRow_47 : decode cX8_takeRow 47 = .ok (.iinc 5 1, 3) := by decide +kernel
theorem dX8_takeRow_50 : decode cX8_takeRow 50 = .ok (.goto (-37), 3) := by decide +kernel
theorem dX8_takeRow_53 : decode cX8_takeRow 53 = .ok (.return_, 1) := by decide +kernel
theorem dX8_take_0 : decode cX8_take 0 = .ok (.aload_n 0, 1) := by decide +kernel
theorem dX8_take_1 : decode cX8_take 1 = .ok (.getfield 7, 3) := by decide +kernel
theorem dX8_take_4 : decode cX8_take 4 = .ok (.tableswitch 80 0 2 #[28, 41, 54], 28) := by decide +kernel
theorem dX8_take_32 : decode cX8_take 32 = .ok (.aload_n 0, 1) := by decide +kernel
theorem dX8_take_33 : decode cX8_take 33 = .ok (.dup, 1) := by decide +kernel
theorem dX8_take_34 : decode cX8_take 34 = .ok (.getfield 16, 3) := by decide +kernel
theorem dX8_take_37 : decode cX8_take 37 = .ok (.lload_n 1, 1) := by decide +kernel
theorem dX8_take_38 : decode cX8_take 38 = .ok (.ladd, 1) := by decide +kernel
theorem dX8_take_39 : decode cX8_take 39 = .ok (.putfield 16, 3) := by decide +kernel
theorem dX8_take_42 : decode cX8_take 42 = .ok (.goto 65, 3) := by decide +kernel
theorem dX8_take_45 : decode cX8_take 45 = .ok (.aload_n 0, 1) := by decide +kernel
theorem dX8_take_46 : decode cX8_take 46 = .ok (.dup, 1) := by decide +kernel
theorem dX8_take_47 : decode cX8_take 47 = .ok (.getfield 16, 3) := by decide +kernel
theorem dX8_take_50 : decode cX8_take 50 = .ok (.lconst 1, 1) := by decide +kernel
theorem dX8_take_51 : decode cX8_take 51 = .ok (.ladd, 1) := by decide +kernel
theorem dX8_take_52 : decode cX8_take 52 = .ok (.putfield 16, 3) := by decide +kernel
theorem dX8_take_55 : decode cX8_take 55 = .ok (.goto 52, 3) := by decide +kernel
theorem dX8_take_58 : decode cX8_take 58 = .ok (.aload_n 0, 1) := by decide +kernel
theorem dX8_take_59 : decode cX8_take 59 = .ok (.aload_n 0, 1) := by decide +kernel
theorem dX8_take_60 : decode cX8_take 60 = .ok (.getfield 13, 3) := by decide +kernel
theorem dX8_take_63 : decode cX8_take 63 = .ok (.ifCond .ne 7, 3) := by decide +kernel
theorem dX8_take_66 : decode cX8_take 66 = .ok (.lload_n 1, 1) := by decide +kernel
theorem dX8_take_67 : decode cX8_take 67 = .ok (.goto 11, 3) := by decide +kernel
theorem dX8_take_70 : decode cX8_take 70 = .ok (.aload_n 0, 1) := by decide +kernel
theorem dX8_take_71 : decode cX8_take 71 = .ok (.getfield 16, 3) := by decide +kernel
theorem dX8_take_74 : decode cX8_take 74 = .ok (.lload_n 1, 1) := by decide +kernel
theorem dX8_take_75 : decode cX8_take 75 = .ok (.invokestatic 34, 3) := by decide +kernel
theorem dX8_take_78 : decode cX8_take 78 = .ok (.putfield 16, 3) := by decide +kernel
theorem dX8_take_81 : decode cX8_take 81 = .ok (.goto 26, 3) := by decide +kernel
theorem dX8_take_84 : decode cX8_take 84 = .ok (.aload_n 0, 1) := by decide +kernel
theorem dX8_take_85 : decode cX8_take 85 = .ok (.aload_n 0, 1) := by decide +kernel
theorem dX8_take_86 : decode cX8_take 86 = .ok (.getfield 13, 3) := by decide +kernel
theorem dX8_take_89 : decode cX8_take 89 = .ok (.ifCond .ne 7, 3) := by decide +kernel
theorem dX8_take_92 : decode cX8_take 92 = .ok (.lload_n 1, 1) := by decide +kernel
theorem dX8_take_93 : decode cX8_take 93 = .ok (.goto 11, 3) := by decide +kernel
theorem dX8_take_96 : decode cX8_take 96 = .ok (.aload_n 0, 1) := by decide +kernel
theorem dX8_take_97 : decode cX8_take 97 = .ok (.getfield 16, 3) := by decide +kernel
theorem dX8_take_100 : decode cX8_take 100 = .ok (.lload_n 1, 1) := by decide +kernel
theorem dX8_take_101 : decode cX8_take 101 = .ok (.invokestatic 40, 3) := by decide +kernel
theorem dX8_take_104 : decode cX8_take 104 = .ok (.putfield 16, 3) := by decide +kernel
theorem dX8_take_107 : decode cX8_take 107 = .ok (.aload_n 0, 1) := by decide +kernel
theorem dX8_take_108 : decode cX8_take 108 = .ok (.dup, 1) := by decide +kernel
theorem dX8_take_109 : decode cX8_take 109 = .ok (.getfield 13, 3) := by decide +kernel
theorem dX8_take_112 : decode cX8_take 112 = .ok (.iconst 1, 1) := by decide +kernel
theorem dX8_take_113 : decode cX8_take 113 = .ok (.iadd, 1) := by decide +kernel
theorem dX8_take_114 : decode cX8_take 114 = .ok (.putfield 13, 3) := by decide +kernel
theorem dX8_take_117 : decode cX8_take 117 = .ok (.return_, 1) := by decide +kernel
theorem dX8_isOfNone_0 : decode cX8_isOfNone 0 = .ok (.aload_n 0, 1) := by decide +kernel
theorem dX8_isOfNone_1 : decode cX8_isOfNone 1 = .ok (.getfield 13, 3) := by decide +kernel
theorem dX8_isOfNone_4 : decode cX8_isOfNone 4 = .ok (.ifCond .ne 7, 3) := by decide +kernel
theorem dX8_isOfNone_7 : decode cX8_isOfNone 7 = .ok (.iconst 1, 1) := by decide +kernel
theorem dX8_isOfNone_8 : decode cX8_isOfNone 8 = .ok (.goto 4, 3) := by decide +kernel
theorem dX8_isOfNone_11 : decode cX8_isOfNone 11 = .ok (.iconst 0, 1) := by decide +kernel
theorem dX8_isOfNone_12 : decode cX8_isOfNone 12 = .ok (.ireturn, 1) := by decide +kernel
theorem dX8_result_0 : decode cX8_result 0 = .ok (.aload_n 0, 1) := by decide +kernel
theorem dX8_result_1 : decode cX8_result 1 = .ok (.getfield 16, 3) := by decide +kernel
theorem dX8_result_4 : decode cX8_result 4 = .ok (.lreturn, 1) := by decide +kernel
theorem dX9_init_0 : decode cX9_init 0 = .ok (.aload_n 0, 1) := by decide +kernel
theorem dX9_init_1 : decode cX9_init 1 = .ok (.aload_n 1, 1) := by decide +kernel
theorem dX9_init_2 : decode cX9_init 2 = .ok (.iconst 1, 1) := by decide +kernel
theorem dX9_init_3 : decode cX9_init 3 = .ok (.invokespecial 1, 3) := by decide +kernel
theorem dX9_init_6 : decode cX9_init 6 = .ok (.aload_n 0, 1) := by decide +kernel
theorem dX9_init_7 : decode cX9_init 7 = .ok (.iload_n 2, 1) := by decide +kernel
theorem dX9_init_8 : decode cX9_init 8 = .ok (.putfield 7, 3) := by decide +kernel
theorem dX9_init_11 : decode cX9_init 11 = .ok (.return_, 1) := by decide +kernel
theorem dX9_encode_0 : decode cX9_encode 0 = .ok (.aload_n 0, 1) := by decide +kernel
theorem dX9_encode_1 : decode cX9_encode 1 = .ok (.invokevirtual 13, 3) := by decide +kernel
theorem dX9_encode_4 : decode cX9_encode 4 = .ok (.aload_n 1, 1) := by decide +kernel
theorem dX9_encode_5 : decode cX9_encode 5 = .ok (.invokevirtual 17, 3) := by decide +kernel
theorem dX9_encode_8 : decode cX9_encode 8 = .ok (.iconst 0, 1) := by decide +kernel
theorem dX9_encode_9 : decode cX9_encode 9 = .ok (.istore 4, 2) := by decide +kernel
theorem dX9_encode_11 : decode cX9_encode 11 = .ok (.iload 4, 2) := by decide +kernel
theorem dX9_encode_13 : decode cX9_encode 13 = .ok (.aload_n 3, 1) := by decide +kernel
theorem dX9_encode_14 : decode cX9_encode 14 = .ok (.invokeinterface 23 1, 5) := by decide +kernel
theorem dX9_encode_19 : decode cX9_encode 19 = .ok (.if_icmp .ge 60, 3) := by decide +kernel
theorem dX9_encode_22 : decode cX9_encode 22 = .ok (.aload_n 3, 1) := by decide +kernel
theorem dX9_encode_23 : decode cX9_encode 23 = .ok (.iload 4, 2) := by decide +kernel
theorem dX9_encode_25 : decode cX9_encode 25 = .ok (.invokeinterface 29 2, 5) := by decide +kernel
theorem dX9_encode_30 : decode cX9_encode 30 = .ok (.checkcast 33, 3) := by decide +kernel
theorem dX9_encode_33 : decode cX9_encode 33 = .ok (.astore 5, 2) := by decide +kernel
theorem dX9_encode_35 : decode cX9_encode 35 = .ok (.aload 5, 2) := by decide +kernel
theorem dX9_encode_37 : decode cX9_encode 37 = .ok (.aload_n 1, 1) := by decide +kernel
theorem dX9_encode_38 : decode cX9_encode 38 = .ok (.aload_n 2, 1) := by decide +kernel
theorem dX9_encode_39 : decode cX9_encode 39 = .ok (.invokevirtual 13, 3) := by decide +kernel
theorem dX9_encode_42 : decode cX9_encode 42 = .ok (.invokevirtual 35, 3) := by decide +kernel
theorem dX9_encode_45 : decode cX9_encode 45 = .ok (.ifCond .ne 28, 3) := by decide +kernel
theorem dX9_encode_48 : decode cX9_encode 48 = .ok (.aload_n 0, 1) := by decide +kernel
theorem dX9_encode_49 : decode cX9_encode 49 = .ok (.dup, 1) := by decide +kernel
theorem dX9_encode_50 : decode cX9_encode 50 = .ok (.getfield 39, 3) := by decide +kernel
theorem dX9_encode_53 : decode cX9_encode 53 = .ok (.iconst 1, 1) := by decide +kernel
theorem dX9_encode_54 : decode cX9_encode 54 = .ok (.iadd, 1) := by decide +kernel
theorem dX9_encode_55 : decode cX9_encode 55 = .ok (.putfield 39, 3) := by decide +kernel
theorem dX9_encode_58 : decode cX9_encode 58 = .ok (.aload_n 0, 1) := by decide +kernel
theorem dX9_encode_59 : decode cX9_encode 59 = .ok (.dup, 1) := by decide +kernel
theorem dX9_encode_60 : decode cX9_encode 60 = .ok (.getfield 42, 3) := by decide +kernel
theorem dX9_encode_63 : decode cX9_encode 63 = .ok (.aload 5, 2) := by decide +kernel
theorem dX9_encode_65 : decode cX9_encode 65 = .ok (.aload_n 1, 1) := by decide +kernel
theorem dX9_encode_66 : decode cX9_encode 66 = .ok (.invokevirtual 45, 3) := by decide +kernel
theorem dX9_encode_69 : decode cX9_encode 69 = .ok (.iadd, 1) := by decide +kernel
theorem dX9_encode_70 : decode cX9_encode 70 = .ok (.putfield 42, 3) := by decide +kernel
theorem dX9_encode_73 : decode cX9_encode 73 = .ok (.iinc 4 1, 3) := by decide +kernel
theorem dX9_encode_76 : decode cX9_encode 76 = .ok (.goto (-65), 3) := by decide +kernel
theorem dX9_encode_79 : decode cX9_encode 79 = .ok (.return_, 1) := by decide +kernel
theorem dX9_work_0 : decode cX9_work 0 = .ok (.return_, 1) := by decide +kernel
theorem dX9_parent_0 : decode cX9_parent 0 = .ok (.aload_n 0, 1) := by decide +kernel
theorem dX9_parent_1 : decode cX9_parent 1 = .ok (.getfield 7, 3) := by decide +kernel
theorem dX9_parent_4 : decode cX9_parent 4 = .ok (.ireturn, 1) := by decide +kernel
theorem dX9_differingChunks_0 : decode cX9_differingChunks 0 = .ok (.aload_n 0, 1) := by decide +kernel
theorem dX9_differingChunks_1 : decode cX9_differingChunks 1 = .ok (.getfield 39, 3) := by decide +kernel
theorem dX9_differingChunks_4 : decode cX9_differingChunks 4 = .ok (.ireturn, 1) := by decide +kernel
theorem dX9_octets_0 : decode cX9_octets 0 = .ok (.aload_n 0, 1) := by decide +kernel
theorem dX9_octets_1 : decode cX9_octets 1 = .ok (.getfield 42, 3) := by decide +kernel
theorem dX9_octets_4 : decode cX9_octets 4 = .ok (.ireturn, 1) := by decide +kernel
theorem dX10_init_0 : decode cX10_init 0 = .ok (.aload_n 0, 1) := by decide +kernel
theorem dX10_init_1 : decode cX10_init 1 = .ok (.aload_n 1, 1) := by decide +kernel
theorem dX10_init_2 : decode cX10_init 2 = .ok (.aload_n 2, 1) := by decide +kernel
theorem dX10_init_3 : decode cX10_init 3 = .ok (.invokevirtual 1, 3) := by decide +kernel
theorem dX10_init_6 : decode cX10_init 6 = .ok (.iconst 1, 1) := by decide +kernel
theorem dX10_init_7 : decode cX10_init 7 = .ok (.iadd, 1) := by decide +kernel
theorem dX10_init_8 : decode cX10_init 8 = .ok (.invokespecial 7, 3) := by decide +kernel
theorem dX10_init_11 : decode cX10_init 11 = .ok (.aload_n 0, 1) := by decide +kernel
theorem dX10_init_12 : decode cX10_init 12 = .ok (.aload_n 2, 1) := by decide +kernel
theorem dX10_init_13 : decode cX10_init 13 = .ok (.putfield 11, 3) := by decide +kernel
theorem dX10_init_16 : decode cX10_init 16 = .ok (.aload_n 0, 1) := by decide +kernel
theorem dX10_init_17 : decode cX10_init 17 = .ok (.aload_n 3, 1) := by decide +kernel
theorem dX10_init_18 : decode cX10_init 18 = .ok (.putfield 17, 3) := by decide +kernel
theorem dX10_init_21 : decode cX10_init 21 = .ok (.aload_n 0, 1) := by decide +kernel
theorem dX10_init_22 : decode cX10_init 22 = .ok (.iload 4, 2) := by decide +kernel
theorem dX10_init_24 : decode cX10_init 24 = .ok (.putfield 21, 3) := by decide +kernel
theorem dX10_init_27 : decode cX10_init 27 = .ok (.return_, 1) := by decide +kernel
theorem dX10_straight_0 : decode cX10_straight 0 = .ok (.iconst 3, 1) := by decide +kernel
theorem dX10_straight_1 : decode cX10_straight 1 = .ok (.newarray .int, 2) := by decide +kernel
theorem dX10_straight_3 : decode cX10_straight 3 = .ok (.dup, 1) := by decide +kernel
theorem dX10_straight_4 : decode cX10_straight 4 = .ok (.iconst 0, 1) := by decide +kernel
theorem dX10_straight_5 : decode cX10_straight 5 = .ok (.iconst 0, 1) := by decide +kernel
theorem dX10_straight_6 : decode cX10_straight 6 = .ok (.iastore, 1) := by decide +kernel
theorem dX10_straight_7 : decode cX10_straight 7 = .ok (.dup, 1) := by decide +kernel
theorem dX10_straight_8 : decode cX10_straight 8 = .ok (.iconst 1, 1) := by decide +kernel
theorem dX10_straight_9 : decode cX10_straight 9 = .ok (.iconst 1, 1) := by decide +kernel
theorem dX10_straight_10 : decode cX10_straight 10 = .ok (.iastore, 1) := by decide +kernel
theorem dX10_straight_11 : decode cX10_straight 11 = .ok (.dup, 1) := by decide +kernel
theorem dX10_straight_12 : decode cX10_straight 12 = .ok (.iconst 2, 1) := by decide +kernel
theorem dX10_straight_13 : decode cX10_straight 13 = .ok (.iconst 2, 1) := by decide +kernel
theorem dX10_straight_14 : decode cX10_straight 14 = .ok (.iastore, 1) := by decide +kernel
theorem dX10_straight_15 : decode cX10_straight 15 = .ok (.areturn, 1) := by decide +kernel
theorem dX10_skipping_0 : decode cX10_skipping 0 = .ok (.invokestatic 25, 3) := by decide +kernel
theorem dX10_skipping_3 : decode cX10_skipping 3 = .ok (.astore_n 1, 1) := by decide +kernel
theorem dX10_skipping_4 : decode cX10_skipping 4 = .ok (.iconst 0, 1) := by decide +kernel
theorem dX10_skipping_5 : decode cX10_skipping 5 = .ok (.istore_n 2, 1) := by decide +kernel
theorem dX10_skipping_6 : decode cX10_skipping 6 = .ok (.iload_n 2, 1) := by decide +kernel
theorem dX10_skipping_7 : decode cX10_skipping 7 = .ok (.aload_n 1, 1) := by decide +kernel
theorem dX10_skipping_8 : decode cX10_skipping 8 = .ok (.arraylength, 1) := by decide +kernel
theorem dX10_skipping_9 : decode cX10_skipping 9 = .ok (.if_icmp .ge 32, 3) := by decide +kernel
theorem dX10_skipping_12 : decode cX10_skipping 12 = .ok (.iload_n 2, 1) := by decide +kernel
theorem dX10_skipping_13 : decode cX10_skipping 13 = .ok (.iload_n 0, 1) := by decide +kernel
theorem dX10_skipping_14 : decode cX10_skipping 14 = .ok (.if_icmp .ne 10, 3) := by decide +kernel
theorem dX10_skipping_17 : decode cX10_skipping 17 = .ok (.aload_n 1, 1) := by decide +kernel
theorem dX10_skipping_18 : decode cX10_skipping 18 = .ok (.iload_n 2, 1) := by decide +kernel
theorem dX10_skipping_19 : decode cX10_skipping 19 = .ok (.iconst (-1), 1) := by decide +kernel
theorem dX10_skipping_20 : decode cX10_skipping 20 = .ok (.iastore, 1) := by decide +kernel
theorem dX10_skipping_21 : decode cX10_skipping 21 = .ok (.goto 14, 3) := by decide +kernel
theorem dX10_skipping_24 : decode cX10_skipping 24 = .ok (.iload_n 2, 1) := by decide +kernel
theorem dX10_skipping_25 : decode cX10_skipping 25 = .ok (.iload_n 0, 1) := by decide +kernel
theorem dX10_skipping_26 : decode cX10_skipping 26 = .ok (.if_icmp .le 9, 3) := by decide +kernel
theorem dX10_skipping_29 : decode cX10_skipping 29 = .ok (.aload_n 1, 1) := by decide +kernel
theorem dX10_skipping_30 : decode cX10_skipping 30 = .ok (.iload_n 2, 1) := by decide +kernel
theorem dX10_skipping_31 : decode cX10_skipping 31 = .ok (.iload_n 2, 1) := by decide +kernel
theorem dX10_skipping_32 : decode cX10_skipping 32 = .ok (.iconst 1, 1) := by decide +kernel
theorem dX10_skipping_33 : decode cX10_skipping 33 = .ok (.isub, 1) := by decide +kernel
theorem dX10_skipping_34 : decode cX10_skipping 34 = .ok (.iastore, 1) := by decide +kernel
theorem dX10_skipping_35 : decode cX10_skipping 35 = .ok (.iinc 2 1, 3) := by decide +kernel
theorem dX10_skipping_38 : decode cX10_skipping 38 = .ok (.goto (-32), 3) := by decide +kernel
theorem dX10_skipping_41 : decode cX10_skipping 41 = .ok (.aload_n 1, 1) := by decide +kernel
theorem dX10_skipping_42 : decode cX10_skipping 42 = .ok (.areturn, 1) := by decide +kernel
theorem dX10_exchanging_0 : decode cX10_exchanging 0 = .ok (.invokestatic 25, 3) := by decide +kernel
theorem dX10_exchanging_3 : decode cX10_exchanging 3 = .ok (.astore_n 2, 1) := by decide +kernel
theorem dX10_exchanging_4 : decode cX10_exchanging 4 = .ok (.iload_n 0, 1) := by decide +kernel
theorem dX10_exchanging_5 : decode cX10_exchanging 5 = .ok (.ifCond .lt 27, 3) := by decide +kernel
theorem dX10_exchanging_8 : decode cX10_exchanging 8 = .ok (.iload_n 0, 1) := by decide +kernel
theorem dX10_exchanging_9 : decode cX10_exchanging 9 = .ok (.aload_n 2, 1) := by decide +kernel
theorem dX10_exchanging_10 : decode cX10_exchanging 10 = .ok (.arraylength, 1) := by decide +kernel
theorem dX10_exchanging_11 : decode cX10_exchanging 11 = .ok (.if_icmp .ge 21, 3) := by decide +kernel
theorem dX10_exchanging_14 : decode cX10_exchanging 14 = .ok (.iload_n 1, 1) := by decide +kernel
theorem dX10_exchanging_15 : decode cX10_exchanging 15 = .ok (.ifCond .lt 17, 3) := by decide +kernel
theorem dX10_exchanging_18 : decode cX10_exchanging 18 = .ok (.iload_n 1, 1) := by decide +kernel
theorem dX10_exchanging_19 : decode cX10_exchanging 19 = .ok (.aload_n 2, 1) := by decide +kernel
theorem dX10_exchanging_20 : decode cX10_exchanging 20 = .ok (.arraylength, 1) := by decide +kernel
theorem dX10_exchanging_21 : decode cX10_exchanging 21 = .ok (.if_icmp .ge 11, 3) := by decide +kernel
theorem dX10_exchanging_24 : decode cX10_exchanging 24 = .ok (.aload_n 2, 1) := by decide +kernel
theorem dX10_exchanging_25 : decode cX10_exchanging 25 = .ok (.iload_n 0, 1) := by decide +kernel
theorem dX10_exchanging_26 : decode cX10_exchanging 26 = .ok (.iload_n 1, 1) := by decide +kernel
theorem dX10_exchanging_27 : decode cX10_exchanging 27 = .ok (.iastore, 1) := by decide +kernel
theorem dX10_exchanging_28 : decode cX10_exchanging 28 = .ok (.aload_n 2, 1) := by decide +kernel
theorem dX10_exchanging_29 : decode cX10_exchanging 29 = .ok (.iload_n 1, 1) := by decide +kernel
theorem dX10_exchanging_30 : decode cX10_exchanging 30 = .ok (.iload_n 0, 1) := by decide +kernel
theorem dX10_exchanging_31 : decode cX10_exchanging 31 = .ok (.iastore, 1) := by decide +kernel
theorem dX10_exchanging_32 : decode cX10_exchanging 32 = .ok (.aload_n 2, 1) := by decide +kernel
theorem dX10_exchanging_33 : decode cX10_exchanging 33 = .ok (.areturn, 1) := by decide +kernel
theorem dX10_work_0 : decode cX10_work 0 = .ok (.aload_n 0, 1) := by decide +kernel
theorem dX10_work_1 : decode cX10_work 1 = .ok (.getfield 11, 3) := by decide +kernel
theorem dX10_work_4 : decode cX10_work 4 = .ok (.invokevirtual 29, 3) := by decide +kernel
theorem dX10_work_7 : decode cX10_work 7 = .ok (.aload_n 0, 1) := by decide +kernel
theorem dX10_work_8 : decode cX10_work 8 = .ok (.iconst 0, 1) := by decide +kernel
theorem dX10_work_9 : decode cX10_work 9 = .ok (.iload_n 1, 1) := by decide +kernel
theorem dX10_work_10 : decode cX10_work 10 = .ok (.invokevirtual 33, 3) := by decide +kernel
theorem dX10_work_13 : decode cX10_work 13 = .ok (.aload_n 0, 1) := by decide +kernel
theorem dX10_work_14 : decode cX10_work 14 = .ok (.iconst 1, 1) := by decide +kernel
theorem dX10_work_15 : decode cX10_work 15 = .ok (.iload_n 1, 1) := by decide +kernel
theorem dX10_work_16 : decode cX10_work 16 = .ok (.invokevirtual 33, 3) := by decide +kernel
theorem dX10_work_19 : decode cX10_work 19 = .ok (.aload_n 0, 1) := by decide +kernel
theorem dX10_work_20 : decode cX10_work 20 = .ok (.iconst 2, 1) := by decide +kernel
theorem dX10_work_21 : decode cX10_work 21 = .ok (.iload_n 1, 1) := by decide +kernel
theorem dX10_work_22 : decode cX10_work 22 = .ok (.invokevirtual 33, 3) := by decide +kernel
theorem dX10_work_25 : decode cX10_work 25 = .ok (.invokevirtual 37, 3) := by decide +kernel
theorem dX10_work_28 : decode cX10_work 28 = .ok (.istore_n 2, 1) := by decide +kernel
theorem dX10_work_29 : decode cX10_work 29 = .ok (.aload_n 0, 1) := by decide +kernel
theorem dX10_work_30 : decode cX10_work 30 = .ok (.getfield 11, 3) := by decide +kernel
theorem dX10_work_33 : decode cX10_work 33 = .ok (.iload_n 2, 1) := by decide +kernel
theorem dX10_work_34 : decode cX10_work 34 = .ok (.invokevirtual 43, 3) := by decide +kernel
theorem dX10_work_37 : decode cX10_work 37 = .ok (.ifCond .eq 16, 3) := by decide +kernel
theorem dX10_work_40 : decode cX10_work 40 = .ok (.aload_n 0, 1) := by decide +kernel
theorem dX10_work_41 : decode cX10_work 41 = .ok (.iload_n 1, 1) := by decide +kernel
theorem dX10_work_42 : decode cX10_work 42 = .ok (.aload_n 0, 1) := by decide +kernel
theorem dX10_work_43 : decode cX10_work 43 = .ok (.getfield 11, 3) := by decide +kernel
theorem dX10_work_46 : decode cX10_work 46 = .ok (.iload_n 2, 1) := by decide +kernel
theorem dX10_work_47 : decode cX10_work 47 = .ok (.invokevirtual 47, 3) := by decide +kernel
theorem dX10_work_50 : decode cX10_work 50 = .ok (.invokevirtual 51, 3) := by decide +kernel
theorem dX10_work_53 : decode cX10_work 53 = .ok (.return_, 1) := by decide +kernel
theorem dX10_sourcePlace_0 : decode cX10_sourcePlace 0 = .ok (.iload_n 1, 1) := by decide +kernel
theorem dX10_sourcePlace_1 : decode cX10_sourcePlace 1 = .ok (.ifCond .lt 21, 3) := by decide +kernel
theorem dX10_sourcePlace_4 : decode cX10_sourcePlace 4 = .ok (.iload_n 1, 1) := by decide +kernel
theorem dX10_sourcePlace_5 : decode cX10_sourcePlace 5 = .ok (.aload_n 0, 1) := by decide +kernel
theorem dX10_sourcePlace_6 : decode cX10_sourcePlace 6 = .ok (.getfield 17, 3) := by decide +kernel
theorem dX10_sourcePlace_9 : decode cX10_sourcePlace 9 = .ok (.arraylength, 1) := by decide +kernel
theorem dX10_sourcePlace_10 : decode cX10_sourcePlace 10 = .ok (.if_icmp .ge 12, 3) := by decide +kernel
theorem dX10_sourcePlace_13 : decode cX10_sourcePlace 13 = .ok (.aload_n 0, 1) := by decide +kernel
theorem dX10_sourcePlace_14 : decode cX10_sourcePlace 14 = .ok (.getfield 17, 3) := by decide +kernel
theorem dX10_sourcePlace_17 : decode cX10_sourcePlace 17 = .ok (.iload_n 1, 1) := by decide +kernel
theorem dX10_sourcePlace_18 : decode cX10_sourcePlace 18 = .ok (.iaload, 1) := by decide +kernel
theorem dX10_sourcePlace_19 : decode cX10_sourcePlace 19 = .ok (.goto 4, 3) := by decide +kernel
theorem dX10_sourcePlace_22 : decode cX10_sourcePlace 22 = .ok (.iconst (-1), 1) := by decide +kernel
theorem dX10_sourcePlace_23 : decode cX10_sourcePlace 23 = .ok (.istore_n 3, 1) := by decide +kernel
theorem dX10_sourcePlace_24 : decode cX10_sourcePlace 24 = .ok (.iload_n 3, 1) := by decide +kernel
theorem dX10_sourcePlace_25 : decode cX10_sourcePlace 25 = .ok (.iconst (-1), 1) := by decide +kernel
theorem dX10_sourcePlace_26 : decode cX10_sourcePlace 26 = .ok (.if_icmp .ne 10, 3) := by decide +kernel
theorem dX10_sourcePlace_29 : decode cX10_sourcePlace 29 = .ok (.aload_n 0, 1) := by decide +kernel
theorem dX10_sourcePlace_30 : decode cX10_sourcePlace 30 = .ok (.getfield 21, 3) := by decide +kernel
theorem dX10_sourcePlace_33 : decode cX10_sourcePlace 33 = .ok (.goto 12, 3) := by decide +kernel
theorem dX10_sourcePlace_36 : decode cX10_sourcePlace 36 = .ok (.aload_n 0, 1) := by decide +kernel
theorem dX10_sourcePlace_37 : decode cX10_sourcePlace 37 = .ok (.invokevirtual 55, 3) := by decide +kernel
theorem dX10_sourcePlace_40 : decode cX10_sourcePlace 40 = .ok (.iload_n 2, 1) := by decide +kernel
theorem dX10_sourcePlace_41 : decode cX10_sourcePlace 41 = .ok (.iload_n 3, 1) := by decide +kernel
theorem dX10_sourcePlace_42 : decode cX10_sourcePlace 42 = .ok (.invokevirtual 56, 3) := by decide +kernel
theorem dX10_sourcePlace_45 : decode cX10_sourcePlace 45 = .ok (.ireturn, 1) := by decide +kernel
theorem dX11_init_0 : decode cX11_init 0 = .ok (.aload_n 0, 1) := by decide +kernel
theorem dX11_init_1 : decode cX11_init 1 = .ok (.invokespecial 1, 3) := by decide +kernel
theorem dX11_init_4 : decode cX11_init 4 = .ok (.aload_n 0, 1) := by decide +kernel
theorem dX11_init_5 : decode cX11_init 5 = .ok (.new 7, 3) := by decide +kernel
theorem dX11_init_8 : decode cX11_init 8 = .ok (.dup, 1) := by decide +kernel
theorem dX11_init_9 : decode cX11_init 9 = .ok (.invokespecial 9, 3) := by decide +kernel
theorem dX11_init_12 : decode cX11_init 12 = .ok (.putfield 10, 3) := by decide +kernel
theorem dX11_init_15 : decode cX11_init 15 = .ok (.aload_n 0, 1) := by decide +kernel
theorem dX11_init_16 : decode cX11_init 16 = .ok (.new 7, 3) := by decide +kernel
theorem dX11_init_19 : decode cX11_init 19 = .ok (.dup, 1) := by decide +kernel
theorem dX11_init_20 : decode cX11_init 20 = .ok (.invokespecial 9, 3) := by decide +kernel
theorem dX11_init_23 : decode cX11_init 23 = .ok (.putfield 16, 3) := by decide +kernel
theorem dX11_init_26 : decode cX11_init 26 = .ok (.aload_n 0, 1) := by decide +kernel
theorem dX11_init_27 : decode cX11_init 27 = .ok (.new 7, 3) := by decide +kernel
theorem dX11_init_30 : decode cX11_init 30 = .ok (.dup, 1) := by decide +kernel
theorem dX11_init_31 : decode cX11_init 31 = .ok (.invokespecial 9, 3) := by decide +kernel
theorem dX11_init_34 : decode cX11_init 34 = .ok (.putfield 19, 3) := by decide +kernel
theorem dX11_init_37 : decode cX11_init 37 = .ok (.aload_n 0, 1) := by decide +kernel
theorem dX11_init_38 : decode cX11_init 38 = .ok (.new 22, 3) := by decide +kernel
theorem dX11_init_41 : decode cX11_init 41 = .ok (.dup, 1) := by decide +kernel
theorem dX11_init_42 : decode cX11_init 42 = .ok (.iconst 1, 1) := by decide +kernel
theorem dX11_init_43 : decode cX11_init 43 = .ok (.iconst 3, 1) := by decide +kernel
theorem dX11_init_44 : decode cX11_init 44 = .ok (.newarray .int, 2) := by decide +kernel
theorem dX11_init_46 : decode cX11_init 46 = .ok (.dup, 1) := by decide +kernel
theorem dX11_init_47 : decode cX11_init 47 = .ok (.iconst 0, 1) := by decide +kernel
theorem dX11_init_48 : decode cX11_init 48 = .ok (.iconst 0, 1) := by decide +kernel
theorem dX11_init_49 : decode cX11_init 49 = .ok (.iastore, 1) := by decide +kernel
theorem dX11_init_50 : decode cX11_init 50 = .ok (.dup, 1) := by decide +kernel
theorem dX11_init_51 : decode cX11_init 51 = .ok (.iconst 1, 1) := by decide +kernel
theorem dX11_init_52 : decode cX11_init 52 = .ok (.iconst 0, 1) := by decide +kernel
theorem dX11_init_53 : decode cX11_init 53 = .ok (.iastore, 1) := by decide +kernel
theorem dX11_init_54 : decode cX11_init 54 = .ok (.dup, 1) := by decide +kernel
theorem dX11_init_55 : decode cX11_init 55 = .ok (.iconst 2, 1) := by decide +kernel
theorem dX11_init_56 : decode cX11_init 56 = .ok (.iconst 0, 1) := by decide +kernel
theorem dX11_init_57 : decode cX11_init 57 = .ok (.iastore, 1) := by decide +kernel
theorem dX11_init_58 : decode cX11_init 58 = .ok (.iconst 3, 1) := by decide +kernel
theorem dX11_init_59 : decode cX11_init 59 = .ok (.newarray .int, 2) := by decide +kernel
theorem dX11_init_61 : decode cX11_init 61 = .ok (.dup, 1) := by decide +kernel
theorem dX11_init_62 : decode cX11_init 62 = .ok (.iconst 0, 1) := by decide +kernel
theorem dX11_init_63 : decode cX11_init 63 = .ok (.iconst 0, 1) := by decide +kernel
theorem dX11_init_64 : decode cX11_init 64 = .ok (.iastore, 1) := by decide +kernel
theorem dX11_init_65 : decode cX11_init 65 = .ok (.dup, 1) := by decide +kernel
theorem dX11_init_66 : decode cX11_init 66 = .ok (.iconst 1, 1) := by decide +kernel
theorem dX11_init_67 : decode cX11_init 67 = .ok (.iconst 0, 1) := by decide +kernel
theorem dX11_init_68 : decode cX11_init 68 = .ok (.iastore, 1) := by decide +kernel
theorem dX11_init_69 : decode cX11_init 69 = .ok (.dup, 1) := by decide +kernel
theorem dX11_init_70 : decode cX11_init 70 = .ok (.iconst 2, 1) := by decide +kernel
theorem dX11_init_71 : decode cX11_init 71 = .ok (.iconst 0, 1) := by decide +kernel
theorem dX11_init_72 : decode cX11_init 72 = .ok (.iastore, 1) := by decide +kernel
theorem dX11_init_73 : decode cX11_init 73 = .ok (.invokespecial 24, 3) := by decide +kernel
theorem dX11_init_76 : decode cX11_init 76 = .ok (.invokevirtual 27, 3) := by decide +kernel
theorem dX11_init_79 : decode cX11_init 79 = .ok (.return_, 1) := by decide +kernel
theorem dX11_begin_0 : decode cX11_begin 0 = .ok (.aload_n 0, 1) := by decide +kernel
theorem dX11_begin_1 : decode cX11_begin 1 = .ok (.getfield 31, 3) := by decide +kernel
theorem dX11_begin_4 : decode cX11_begin 4 = .ok (.iconst 2, 1) := by decide +kernel
theorem dX11_begin_5 : decode cX11_begin 5 = .ok (.if_icmp .lt 13, 3) := by decide +kernel
theorem dX11_begin_8 : decode cX11_begin 8 = .ok (.new 35, 3) := by decide +kernel
theorem dX11_begin_11 : decode cX11_begin 11 = .ok (.dup, 1) := by decide +kernel
theorem dX11_begin_12 : decode cX11_begin 12 = .ok (.ldc 37, 2) := by decide +kernel
theorem dX11_begin_14 : decode cX11_begin 14 = .ok (.invokespecial 39, 3) := by decide +kernel
theorem dX11_begin_17 : decode cX11_begin 17 = .ok (.athrow, 1) := by decide +kernel
theorem dX11_begin_18 : decode cX11_begin 18 = .ok (.iload_n 1, 1) := by decide +kernel
theorem dX11_begin_19 : decode cX11_begin 19 = .ok (.iconst 1, 1) := by decide +kernel
theorem dX11_begin_20 : decode cX11_begin 20 = .ok (.if_icmp .lt 12, 3) := by decide +kernel
theorem dX11_begin_23 : decode cX11_begin 23 = .ok (.iload_n 1, 1) := by decide +kernel
theorem dX11_begin_24 : decode cX11_begin 24 = .ok (.iconst 3, 1) := by decide +kernel
theorem dX11_begin_25 : decode cX11_begin 25 = .ok (.if_icmp .gt 7, 3) := by decide +kernel
theorem dX11_begin_28 : decode cX11_begin 28 = .ok (.iconst 1, 1) := by decide +kernel
theorem dX11_begin_29 : decode cX11_begin 29 = .ok (.goto 4, 3) := by decide +kernel
theorem dX11_begin_32 : decode cX11_begin 32 = .ok (.iconst 0, 1) := by decide +kernel
theorem dX11_begin_33 : decode cX11_begin 33 = .ok (.invokestatic 42, 3) := by decide +kernel
theorem dX11_begin_36 : decode cX11_begin 36 = .ok (.iload_n 2, 1) := by decide +kernel
theorem dX11_begin_37 : decode cX11_begin 37 = .ok (.iload_n 3, 1) := by decide +kernel
theorem dX11_begin_38 : decode cX11_begin 38 = .ok (.invokestatic 46, 3) := by decide +kernel
theorem dX11_begin_41 : decode cX11_begin 41 = .ok (.ifCond .eq 37, 3) := by decide +kernel
theorem dX11_begin_44 : decode cX11_begin 44 = .ok (.iload_n 1, 1) := by decide +kernel
theorem dX11_begin_45 : decode cX11_begin 45 = .ok (.iconst 2, 1) := by decide +kernel
theorem dX11_begin_46 : decode cX11_begin 46 = .ok (.if_icmp .lt 13, 3) := by decide +kernel
theorem dX11_begin_49 : decode cX11_begin 49 = .ok (.iload 4, 2) := by decide +kernel
theorem dX11_begin_51 : decode cX11_begin 51 = .ok (.iload 5, 2) := by decide +kernel
theorem dX11_begin_53 : decode cX11_begin 53 = .ok (.invokestatic 46, 3) := by decide +kernel
theorem dX11_begin_56 : decode cX11_begin 56 = .ok (.ifCond .eq 22, 3) := by decide +kernel
theorem dX11_begin_59 : decode cX11_begin 59 = .ok (.iload_n 1, 1) := by decide +kernel
theorem dX11_begin_60 : decode cX11_begin 60 = .ok (.iconst 3, 1) := by decide +kernel
theorem dX11_begin_61 : decode cX11_begin 61 = .ok (.if_icmp .lt 13, 3) := by decide +kernel
theorem dX11_begin_64 : decode cX11_begin 64 = .ok (.iload 6, 2) := by decide +kernel
theorem dX11_begin_66 : decode cX11_begin 66 = .ok (.iload 7, 2) := by decide +kernel
theorem dX11_begin_68 : decode cX11_begin 68 = .ok (.invokestatic 46, 3) := by decide +kernel
theorem dX11_begin_71 : decode cX11_begin 71 = .ok (.ifCond .eq 7, 3) := by decide +kernel
theorem dX11_begin_74 : decode cX11_begin 74 = .ok (.iconst 1, 1) := by decide +kernel
theorem dX11_begin_75 : decode cX11_begin 75 = .ok (.goto 4, 3) := by decide +kernel
theorem dX11_begin_78 : decode cX11_begin 78 = .ok (.iconst 0, 1) := by decide +kernel
theorem dX11_begin_79 : decode cX11_begin 79 = .ok (.invokestatic 42, 3) := by decide +kernel
theorem dX11_begin_82 : decode cX11_begin 82 = .ok (.iconst 3, 1) := by decide +kernel
theorem dX11_begin_83 : decode cX11_begin 83 = .ok (.newarray .int, 2) := by decide +kernel
theorem dX11_begin_85 : decode cX11_begin 85 = .ok (.dup, 1) := by decide +kernel
theorem dX11_begin_86 : decode cX11_begin 86 = .ok (.iconst 0, 1) := by decide +kernel
theorem dX11_begin_87 : decode cX11_begin 87 = .ok (.iload_n 2, 1) := by decide +kernel
theorem dX11_begin_88 : decode cX11_begin 88 = .ok (.iastore, 1) := by decide +kernel
theorem dX11_begin_89 : decode cX11_begin 89 = .ok (.dup, 1) := by decide +kernel
theorem dX11_begin_90 : decode cX11_begin 90 = .ok (.iconst 1, 1) := by decide +kernel
theorem dX11_begin_91 : decode cX11_begin 91 = .ok (.iload_n 1, 1) := by decide +kernel
theorem dX11_begin_92 : decode cX11_begin 92 = .ok (.iconst 2, 1) := by decide +kernel
theorem dX11_begin_93 : decode cX11_begin 93 = .ok (.if_icmp .ge 7, 3) := by decide +kernel
theorem dX11_begin_96 : decode cX11_begin 96 = .ok (.iconst 0, 1) := by decide +kernel
theorem dX11_begin_97 : decode cX11_begin 97 = .ok (.goto 5, 3) := by decide +kernel
theorem dX11_begin_100 : decode cX11_begin 100 = .ok (.iload 4, 2) := by decide +kernel
theorem dX11_begin_102 : decode cX11_begin 102 = .ok (.iastore, 1) := by decide +kernel
theorem dX11_begin_103 : decode cX11_begin 103 = .ok (.dup, 1) := by decide +kernel
theorem dX11_begin_104 : decode cX11_begin 104 = .ok (.iconst 2, 1) := by decide +kernel
theorem dX11_begin_105 : decode cX11_begin 105 = .ok (.iload_n 1, 1) := by decide +kernel
theorem dX11_begin_106 : decode cX11_begin 106 = .ok (.iconst 3, 1) := by decide +kernel
theorem dX11_begin_107 : decode cX11_begin 107 = .ok (.if_icmp .ge 7, 3) := by decide +kernel
theorem dX11_begin_110 : decode cX11_begin 110 = .ok (.iconst 0, 1) := by decide +kernel
theorem dX11_begin_111 : decode cX11_begin 111 = .ok (.goto 5, 3) := by decide +kernel
theorem dX11_begin_114 : decode cX11_begin 114 = .ok (.iload 6, 2) := by decide +kernel
theorem dX11_begin_116 : decode cX11_begin 116 = .ok (.iastore, 1) := by decide +kernel
theorem dX11_begin_117 : decode cX11_begin 117 = .ok (.astore 8, 2) := by decide +kernel
theorem dX11_begin_119 : decode cX11_begin 119 = .ok (.iconst 3, 1) := by decide +kernel
theorem dX11_begin_120 : decode cX11_begin 120 = .ok (.newarray .int, 2) := by decide +kernel
theorem dX11_begin_122 : decode cX11_begin 122 = .ok (.dup, 1) := by decide +kernel
theorem dX11_begin_123 : decode cX11_begin 123 = .ok (.iconst 0, 1) := by decide +kernel
theorem dX11_begin_124 : decode cX11_begin 124 = .ok (.iload_n 3, 1) := by decide +kernel
theorem dX11_begin_125 : decode cX11_begin 125 = .ok (.iastore, 1) := by decide +kernel
theorem dX11_begin_126 : decode cX11_begin 126 = .ok (.dup, 1) := by decide +kernel
theorem dX11_begin_127 : decode cX11_begin 127 = .ok (.iconst 1, 1) := by decide +kernel
theorem dX11_begin_128 : decode cX11_begin 128 = .ok (.iload_n 1, 1) := by decide +kernel
theorem dX11_begin_129 : decode cX11_begin 129 = .ok (.iconst 2, 1) := by decide +kernel
theorem dX11_begin_130 : decode cX11_begin 130 = .ok (.if_icmp .ge 7, 3) := by decide +kernel
theorem dX11_begin_133 : decode cX11_begin 133 = .ok (.iconst 0, 1) := by decide +kernel
theorem dX11_begin_134 : decode cX11_begin 134 = .ok (.goto 5, 3) := by decide +kernel
theorem dX11_begin_137 : decode cX11_begin 137 = .ok (.iload 5, 2) := by decide +kernel
theorem dX11_begin_139 : decode cX11_begin 139 = .ok (.iastore, 1) := by decide +kernel
theorem dX11_begin_140 : decode cX11_begin 140 = .ok (.dup, 1) := by decide +kernel
theorem dX11_begin_141 : decode cX11_begin 141 = .ok (.iconst 2, 1) := by decide +kernel
theorem dX11_begin_142 : decode cX11_begin 142 = .ok (.iload_n 1, 1) := by decide +kernel
theorem dX11_begin_143 : decode cX11_begin 143 = .ok (.iconst 3, 1) := by decide +kernel
theorem dX11_begin_144 : decode cX11_begin 144 = .ok (.if_icmp .ge 7, 3) := by decide +kernel
theorem dX11_begin_147 : decode cX11_begin 147 = .ok (.iconst 0, 1) := by decide +kernel
theorem dX11_begin_148 : decode cX11_begin 148 = .ok (.goto 5, 3) := by decide +kernel
theorem dX11_begin_151 : decode cX11_begin 151 = .ok (.iload 7, 2) := by decide +kernel
theorem dX11_begin_153 : decode cX11_begin 153 = .ok (.iastore, 1) := by decide +kernel
theorem dX11_begin_154 : decode cX11_begin 154 = .ok (.astore 9, 2) := by decide +kernel
theorem dX11_begin_156 : decode cX11_begin 156 = .ok (.aload_n 0, 1) := by decide +kernel
theorem dX11_begin_157 : decode cX11_begin 157 = .ok (.dup, 1) := by decide +kernel
theorem dX11_begin_158 : decode cX11_begin 158 = .ok (.getfield 31, 3) := by decide +kernel
theorem dX11_begin_161 : decode cX11_begin 161 = .ok (.iconst 1, 1) := by decide +kernel
theorem dX11_begin_162 : decode cX11_begin 162 = .ok (.iadd, 1) := by decide +kernel
theorem dX11_begin_163 : decode cX11_begin 163 = .ok (.putfield 31, 3) := by decide +kernel
theorem dX11_begin_166 : decode cX11_begin 166 = .ok (.aload_n 0, 1) := by decide +kernel
theorem dX11_begin_167 : decode cX11_begin 167 = .ok (.new 22, 3) := by decide +kernel
theorem dX11_begin_170 : decode cX11_begin 170 = .ok (.dup, 1) := by decide +kernel
theorem dX11_begin_171 : decode cX11_begin 171 = .ok (.iload_n 1, 1) := by decide +kernel
theorem dX11_begin_172 : decode cX11_begin 172 = .ok (.aload 8, 2) := by decide +kernel
theorem dX11_begin_174 : decode cX11_begin 174 = .ok (.aload 9, 2) := by decide +kernel
theorem dX11_begin_176 : decode cX11_begin 176 = .ok (.invokespecial 24, 3) := by decide +kernel
theorem dX11_begin_179 : decode cX11_begin 179 = .ok (.invokevirtual 27, 3) := by decide +kernel
theorem dX11_begin_182 : decode cX11_begin 182 = .ok (.return_, 1) := by decide +kernel
theorem dX11_put_0 : decode cX11_put 0 = .ok (.aload_n 0, 1) := by decide +kernel
theorem dX11_put_1 : decode cX11_put 1 = .ok (.getfield 50, 3) := by decide +kernel
theorem dX11_put_4 : decode cX11_put 4 = .ok (.aload_n 0, 1) := by decide +kernel
theorem dX11_put_5 : decode cX11_put 5 = .ok (.iload_n 1, 1) := by decide +kernel
theorem dX11_put_6 : decode cX11_put 6 = .ok (.iload_n 2, 1) := by decide +kernel
theorem dX11_put_7 : decode cX11_put 7 = .ok (.iload_n 3, 1) := by decide +kernel
theorem dX11_put_8 : decode cX11_put 8 = .ok (.invokevirtual 54, 3) := by decide +kernel
theorem dX11_put_11 : decode cX11_put 11 = .ok (.lload 4, 2) := by decide +kernel
theorem dX11_put_13 : decode cX11_put 13 = .ok (.invokevirtual 58, 3) := by decide +kernel
theorem dX11_put_16 : decode cX11_put 16 = .ok (.return_, 1) := by decide +kernel
theorem dX11_erase_0 : decode cX11_erase 0 = .ok (.aload_n 0, 1) := by decide +kernel
theorem dX11_erase_1 : decode cX11_erase 1 = .ok (.getfield 50, 3) := by decide +kernel
theorem dX11_erase_4 : decode cX11_erase 4 = .ok (.aload_n 0, 1) := by decide +kernel
theorem dX11_erase_5 : decode cX11_erase 5 = .ok (.iload_n 1, 1) := by decide +kernel
theorem dX11_erase_6 : decode cX11_erase 6 = .ok (.iload_n 2, 1) := by decide +kernel
theorem dX11_erase_7 : decode cX11_erase 7 = .ok (.iload_n 3, 1) := by decide +kernel
theorem dX11_erase_8 : decode cX11_erase 8 = .ok (.invokevirtual 54, 3) := by decide +kernel
theorem dX11_erase_11 : decode cX11_erase 11 = .ok (.invokevirtual 64, 3) := by decide +kernel
theorem dX11_erase_14 : decode cX11_erase 14 = .ok (.return_, 1) := by decide +kernel
theorem dX11_fill_0 : decode cX11_fill 0 = .ok (.aload_n 0, 1) := by decide +kernel
theorem dX11_fill_1 : decode cX11_fill 1 = .ok (.getfield 68, 3) := by decide +kernel
theorem dX11_fill_4 : decode cX11_fill 4 = .ok (.iload_n 1, 1) := by decide +kernel
theorem dX11_fill_5 : decode cX11_fill 5 = .ok (.iload_n 2, 1) := by decide +kernel
theorem dX11_fill_6 : decode cX11_fill 6 = .ok (.iload_n 3, 1) := by decide +kernel
theorem dX11_fill_7 : decode cX11_fill 7 = .ok (.invokevirtual 72, 3) := by decide +kernel
theorem dX11_fill_10 : decode cX11_fill 10 = .ok (.invokestatic 42, 3) := by decide +kernel
theorem dX11_fill_13 : decode cX11_fill 13 = .ok (.aload_n 0, 1) := by decide +kernel
theorem dX11_fill_14 : decode cX11_fill 14 = .ok (.getfield 68, 3) := by decide +kernel
theorem dX11_fill_17 : decode cX11_fill 17 = .ok (.invokevirtual 76, 3) := by decide +kernel
theorem dX11_fill_20 : decode cX11_fill 20 = .ok (.istore 6, 2) := by decide +kernel
theorem dX11_fill_22 : decode cX11_fill 22 = .ok (.iconst 0, 1) := by decide +kernel
theorem dX11_fill_23 : decode cX11_fill 23 = .ok (.istore 7, 2) := by decide +kernel
theorem dX11_fill_25 : decode cX11_fill 25 = .ok (.iload 7, 2) := by decide +kernel
theorem dX11_fill_27 : decode cX11_fill 27 = .ok (.iload 6, 2) := by decide +kernel
theorem dX11_fill_29 : decode cX11_fill 29 = .ok (.if_icmp .ge 44, 3) := by decide +kernel
