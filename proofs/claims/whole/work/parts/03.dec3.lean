theorem dX13_less_66 : decode cX13_less 66 = .ok (.iinc 3 1, 3) := by decide +kernel
theorem dX13_less_69 : decode cX13_less 69 = .ok (.aload_n 0, 1) := by decide +kernel
theorem dX13_less_70 : decode cX13_less 70 = .ok (.getfield 55, 3) := by decide +kernel
theorem dX13_less_73 : decode cX13_less 73 = .ok (.iload 4, 2) := by decide +kernel
theorem dX13_less_75 : decode cX13_less 75 = .ok (.iaload, 1) := by decide +kernel
theorem dX13_less_76 : decode cX13_less 76 = .ok (.iastore, 1) := by decide +kernel
theorem dX13_less_77 : decode cX13_less 77 = .ok (.iinc 4 1, 3) := by decide +kernel
theorem dX13_less_80 : decode cX13_less 80 = .ok (.goto (-47), 3) := by decide +kernel
theorem dX13_less_83 : decode cX13_less 83 = .ok (.aload_n 2, 1) := by decide +kernel
theorem dX13_less_84 : decode cX13_less 84 = .ok (.areturn, 1) := by decide +kernel
theorem dX13_large_0 : decode cX13_large 0 = .ok (.lconst 1, 1) := by decide +kernel
theorem dX13_large_1 : decode cX13_large 1 = .ok (.lstore_n 2, 1) := by decide +kernel
theorem dX13_large_2 : decode cX13_large 2 = .ok (.aload_n 1, 1) := by decide +kernel
theorem dX13_large_3 : decode cX13_large 3 = .ok (.getfield 141, 3) := by decide +kernel
theorem dX13_large_6 : decode cX13_large 6 = .ok (.bipush 40, 2) := by decide +kernel
theorem dX13_large_8 : decode cX13_large 8 = .ok (.if_icmp .le 7, 3) := by decide +kernel
theorem dX13_large_11 : decode cX13_large 11 = .ok (.iconst 1, 1) := by decide +kernel
theorem dX13_large_12 : decode cX13_large 12 = .ok (.goto 4, 3) := by decide +kernel
theorem dX13_large_15 : decode cX13_large 15 = .ok (.iconst 0, 1) := by decide +kernel
theorem dX13_large_16 : decode cX13_large 16 = .ok (.istore 4, 2) := by decide +kernel
theorem dX13_large_18 : decode cX13_large 18 = .ok (.iconst 0, 1) := by decide +kernel
theorem dX13_large_19 : decode cX13_large 19 = .ok (.istore 5, 2) := by decide +kernel
theorem dX13_large_21 : decode cX13_large 21 = .ok (.iload 5, 2) := by decide +kernel
theorem dX13_large_23 : decode cX13_large 23 = .ok (.iconst 3, 1) := by decide +kernel
theorem dX13_large_24 : decode cX13_large 24 = .ok (.if_icmp .ge 33, 3) := by decide +kernel
theorem dX13_large_27 : decode cX13_large 27 = .ok (.aload_n 1, 1) := by decide +kernel
theorem dX13_large_28 : decode cX13_large 28 = .ok (.iload 5, 2) := by decide +kernel
theorem dX13_large_30 : decode cX13_large 30 = .ok (.invokevirtual 116, 3) := by decide +kernel
theorem dX13_large_33 : decode cX13_large 33 = .ok (.bipush 40, 2) := by decide +kernel
theorem dX13_large_35 : decode cX13_large 35 = .ok (.if_icmp .le 6, 3) := by decide +kernel
theorem dX13_large_38 : decode cX13_large 38 = .ok (.iconst 1, 1) := by decide +kernel
theorem dX13_large_39 : decode cX13_large 39 = .ok (.istore 4, 2) := by decide +kernel
theorem dX13_large_41 : decode cX13_large 41 = .ok (.lload_n 2, 1) := by decide +kernel
theorem dX13_large_42 : decode cX13_large 42 = .ok (.aload_n 1, 1) := by decide +kernel
theorem dX13_large_43 : decode cX13_large 43 = .ok (.iload 5, 2) := by decide +kernel
theorem dX13_large_45 : decode cX13_large 45 = .ok (.invokevirtual 116, 3) := by decide +kernel
theorem dX13_large_48 : decode cX13_large 48 = .ok (.i2l, 1) := by decide +kernel
theorem dX13_large_49 : decode cX13_large 49 = .ok (.lmul, 1) := by decide +kernel
theorem dX13_large_50 : decode cX13_large 50 = .ok (.lstore_n 2, 1) := by decide +kernel
theorem dX13_large_51 : decode cX13_large 51 = .ok (.iinc 5 1, 3) := by decide +kernel
theorem dX13_large_54 : decode cX13_large 54 = .ok (.goto (-33), 3) := by decide +kernel
theorem dX13_large_57 : decode cX13_large 57 = .ok (.aload_n 0, 1) := by decide +kernel
theorem dX13_large_58 : decode cX13_large 58 = .ok (.iload 4, 2) := by decide +kernel
theorem dX13_large_60 : decode cX13_large 60 = .ok (.ifCond .ne 11, 3) := by decide +kernel
theorem dX13_large_63 : decode cX13_large 63 = .ok (.lload_n 2, 1) := by decide +kernel
theorem dX13_large_64 : decode cX13_large 64 = .ok (.ldc2_w 144, 3) := by decide +kernel
theorem dX13_large_67 : decode cX13_large 67 = .ok (.lcmp, 1) := by decide +kernel
theorem dX13_large_68 : decode cX13_large 68 = .ok (.ifCond .le 7, 3) := by decide +kernel
theorem dX13_large_71 : decode cX13_large 71 = .ok (.iconst 1, 1) := by decide +kernel
theorem dX13_large_72 : decode cX13_large 72 = .ok (.goto 4, 3) := by decide +kernel
theorem dX13_large_75 : decode cX13_large 75 = .ok (.iconst 0, 1) := by decide +kernel
theorem dX13_large_76 : decode cX13_large 76 = .ok (.iconst 3, 1) := by decide +kernel
theorem dX13_large_77 : decode cX13_large 77 = .ok (.invokevirtual 36, 3) := by decide +kernel
theorem dX13_large_80 : decode cX13_large 80 = .ok (.ireturn, 1) := by decide +kernel
theorem dX13_made_0 : decode cX13_made 0 = .ok (.aload_n 0, 1) := by decide +kernel
theorem dX13_made_1 : decode cX13_made 1 = .ok (.iconst 0, 1) := by decide +kernel
theorem dX13_made_2 : decode cX13_made 2 = .ok (.putfield 29, 3) := by decide +kernel
theorem dX13_made_5 : decode cX13_made 5 = .ok (.aload_n 0, 1) := by decide +kernel
theorem dX13_made_6 : decode cX13_made 6 = .ok (.getfield 15, 3) := by decide +kernel
theorem dX13_made_9 : decode cX13_made 9 = .ok (.aload_n 0, 1) := by decide +kernel
theorem dX13_made_10 : decode cX13_made 10 = .ok (.getfield 68, 3) := by decide +kernel
theorem dX13_made_13 : decode cX13_made 13 = .ok (.aload_n 1, 1) := by decide +kernel
theorem dX13_made_14 : decode cX13_made 14 = .ok (.aastore, 1) := by decide +kernel
theorem dX13_made_15 : decode cX13_made 15 = .ok (.aload_n 0, 1) := by decide +kernel
theorem dX13_made_16 : decode cX13_made 16 = .ok (.dup, 1) := by decide +kernel
theorem dX13_made_17 : decode cX13_made 17 = .ok (.getfield 68, 3) := by decide +kernel
theorem dX13_made_20 : decode cX13_made 20 = .ok (.dup_x1, 1) := by decide +kernel
theorem dX13_made_21 : decode cX13_made 21 = .ok (.iconst 1, 1) := by decide +kernel
theorem dX13_made_22 : decode cX13_made 22 = .ok (.iadd, 1) := by decide +kernel
theorem dX13_made_23 : decode cX13_made 23 = .ok (.putfield 68, 3) := by decide +kernel
theorem dX13_made_26 : decode cX13_made 26 = .ok (.ireturn, 1) := by decide +kernel
theorem dX13_read_0 : decode cX13_read 0 = .ok (.aload_n 0, 1) := by decide +kernel
theorem dX13_read_1 : decode cX13_read 1 = .ok (.invokevirtual 146, 3) := by decide +kernel
theorem dX13_read_4 : decode cX13_read 4 = .ok (.ifCond .eq 5, 3) := by decide +kernel
theorem dX13_read_7 : decode cX13_read 7 = .ok (.iconst 0, 1) := by decide +kernel
theorem dX13_read_8 : decode cX13_read 8 = .ok (.ireturn, 1) := by decide +kernel
theorem dX13_read_9 : decode cX13_read 9 = .ok (.aload_n 0, 1) := by decide +kernel
theorem dX13_read_10 : decode cX13_read 10 = .ok (.aload_n 0, 1) := by decide +kernel
theorem dX13_read_11 : decode cX13_read 11 = .ok (.iload_n 1, 1) := by decide +kernel
theorem dX13_read_12 : decode cX13_read 12 = .ok (.invokevirtual 100, 3) := by decide +kernel
theorem dX13_read_15 : decode cX13_read 15 = .ok (.iconst 1, 1) := by decide +kernel
theorem dX13_read_16 : decode cX13_read 16 = .ok (.invokevirtual 36, 3) := by decide +kernel
theorem dX13_read_19 : decode cX13_read 19 = .ok (.ifCond .eq 5, 3) := by decide +kernel
theorem dX13_read_22 : decode cX13_read 22 = .ok (.iconst 0, 1) := by decide +kernel
theorem dX13_read_23 : decode cX13_read 23 = .ok (.ireturn, 1) := by decide +kernel
theorem dX13_read_24 : decode cX13_read 24 = .ok (.aload_n 0, 1) := by decide +kernel
theorem dX13_read_25 : decode cX13_read 25 = .ok (.getfield 11, 3) := by decide +kernel
theorem dX13_read_28 : decode cX13_read 28 = .ok (.iload_n 1, 1) := by decide +kernel
theorem dX13_read_29 : decode cX13_read 29 = .ok (.aaload, 1) := by decide +kernel
theorem dX13_read_30 : decode cX13_read 30 = .ok (.iconst 1, 1) := by decide +kernel
theorem dX13_read_31 : decode cX13_read 31 = .ok (.invokestatic 150, 3) := by decide +kernel
theorem dX13_read_34 : decode cX13_read 34 = .ok (.astore_n 2, 1) := by decide +kernel
theorem dX13_read_35 : decode cX13_read 35 = .ok (.aload_n 2, 1) := by decide +kernel
theorem dX13_read_36 : decode cX13_read 36 = .ok (.aload_n 0, 1) := by decide +kernel
theorem dX13_read_37 : decode cX13_read 37 = .ok (.getfield 11, 3) := by decide +kernel
theorem dX13_read_40 : decode cX13_read 40 = .ok (.iload_n 1, 1) := by decide +kernel
theorem dX13_read_41 : decode cX13_read 41 = .ok (.aaload, 1) := by decide +kernel
theorem dX13_read_42 : decode cX13_read 42 = .ok (.getfield 74, 3) := by decide +kernel
theorem dX13_read_45 : decode cX13_read 45 = .ok (.putfield 74, 3) := by decide +kernel
theorem dX13_read_48 : decode cX13_read 48 = .ok (.aload_n 2, 1) := by decide +kernel
theorem dX13_read_49 : decode cX13_read 49 = .ok (.aload_n 0, 1) := by decide +kernel
theorem dX13_read_50 : decode cX13_read 50 = .ok (.getfield 11, 3) := by decide +kernel
theorem dX13_read_53 : decode cX13_read 53 = .ok (.iload_n 1, 1) := by decide +kernel
theorem dX13_read_54 : decode cX13_read 54 = .ok (.aaload, 1) := by decide +kernel
theorem dX13_read_55 : decode cX13_read 55 = .ok (.getfield 78, 3) := by decide +kernel
theorem dX13_read_58 : decode cX13_read 58 = .ok (.putfield 78, 3) := by decide +kernel
theorem dX13_read_61 : decode cX13_read 61 = .ok (.aload_n 0, 1) := by decide +kernel
theorem dX13_read_62 : decode cX13_read 62 = .ok (.aload_n 2, 1) := by decide +kernel
theorem dX13_read_63 : decode cX13_read 63 = .ok (.invokevirtual 154, 3) := by decide +kernel
theorem dX13_read_66 : decode cX13_read 66 = .ok (.ireturn, 1) := by decide +kernel
theorem dX13_noDim_0 : decode cX13_noDim 0 = .ok (.aload_n 0, 1) := by decide +kernel
theorem dX13_noDim_1 : decode cX13_noDim 1 = .ok (.iload_n 1, 1) := by decide +kernel
theorem dX13_noDim_2 : decode cX13_noDim 2 = .ok (.invokevirtual 158, 3) := by decide +kernel
theorem dX13_noDim_5 : decode cX13_noDim 5 = .ok (.ifCond .ne 20, 3) := by decide +kernel
theorem dX13_noDim_8 : decode cX13_noDim 8 = .ok (.iload_n 2, 1) := by decide +kernel
theorem dX13_noDim_9 : decode cX13_noDim 9 = .ok (.ifCond .lt 16, 3) := by decide +kernel
theorem dX13_noDim_12 : decode cX13_noDim 12 = .ok (.iload_n 2, 1) := by decide +kernel
theorem dX13_noDim_13 : decode cX13_noDim 13 = .ok (.aload_n 0, 1) := by decide +kernel
theorem dX13_noDim_14 : decode cX13_noDim 14 = .ok (.getfield 15, 3) := by decide +kernel
theorem dX13_noDim_17 : decode cX13_noDim 17 = .ok (.iload_n 1, 1) := by decide +kernel
theorem dX13_noDim_18 : decode cX13_noDim 18 = .ok (.aaload, 1) := by decide +kernel
theorem dX13_noDim_19 : decode cX13_noDim 19 = .ok (.getfield 49, 3) := by decide +kernel
theorem dX13_noDim_22 : decode cX13_noDim 22 = .ok (.if_icmp .lt 7, 3) := by decide +kernel
theorem dX13_noDim_25 : decode cX13_noDim 25 = .ok (.iconst 1, 1) := by decide +kernel
theorem dX13_noDim_26 : decode cX13_noDim 26 = .ok (.goto 4, 3) := by decide +kernel
theorem dX13_noDim_29 : decode cX13_noDim 29 = .ok (.iconst 0, 1) := by decide +kernel
theorem dX13_noDim_30 : decode cX13_noDim 30 = .ok (.ireturn, 1) := by decide +kernel
theorem dX13_from_0 : decode cX13_from 0 = .ok (.aload_n 2, 1) := by decide +kernel
theorem dX13_from_1 : decode cX13_from 1 = .ok (.iload_n 3, 1) := by decide +kernel
theorem dX13_from_2 : decode cX13_from 2 = .ok (.iload 4, 2) := by decide +kernel
theorem dX13_from_4 : decode cX13_from 4 = .ok (.iload 5, 2) := by decide +kernel
theorem dX13_from_6 : decode cX13_from 6 = .ok (.invokevirtual 82, 3) := by decide +kernel
theorem dX13_from_9 : decode cX13_from 9 = .ok (.ifCond .eq 20, 3) := by decide +kernel
theorem dX13_from_12 : decode cX13_from 12 = .ok (.aload_n 2, 1) := by decide +kernel
theorem dX13_from_13 : decode cX13_from 13 = .ok (.getfield 78, 3) := by decide +kernel
theorem dX13_from_16 : decode cX13_from 16 = .ok (.aload_n 2, 1) := by decide +kernel
theorem dX13_from_17 : decode cX13_from 17 = .ok (.iload_n 3, 1) := by decide +kernel
theorem dX13_from_18 : decode cX13_from 18 = .ok (.iload 4, 2) := by decide +kernel
theorem dX13_from_20 : decode cX13_from 20 = .ok (.iload 5, 2) := by decide +kernel
theorem dX13_from_22 : decode cX13_from 22 = .ok (.invokevirtual 86, 3) := by decide +kernel
theorem dX13_from_25 : decode cX13_from 25 = .ok (.baload, 1) := by decide +kernel
theorem dX13_from_26 : decode cX13_from 26 = .ok (.ifCond .ne 4, 3) := by decide +kernel
theorem dX13_from_29 : decode cX13_from 29 = .ok (.return_, 1) := by decide +kernel
theorem dX13_from_30 : decode cX13_from 30 = .ok (.aload_n 0, 1) := by decide +kernel
theorem dX13_from_31 : decode cX13_from 31 = .ok (.getfield 74, 3) := by decide +kernel
theorem dX13_from_34 : decode cX13_from 34 = .ok (.iload_n 1, 1) := by decide +kernel
theorem dX13_from_35 : decode cX13_from 35 = .ok (.aload_n 2, 1) := by decide +kernel
theorem dX13_from_36 : decode cX13_from 36 = .ok (.getfield 74, 3) := by decide +kernel
theorem dX13_from_39 : decode cX13_from 39 = .ok (.aload_n 2, 1) := by decide +kernel
theorem dX13_from_40 : decode cX13_from 40 = .ok (.iload_n 3, 1) := by decide +kernel
theorem dX13_from_41 : decode cX13_from 41 = .ok (.iload 4, 2) := by decide +kernel
theorem dX13_from_43 : decode cX13_from 43 = .ok (.iload 5, 2) := by decide +kernel
theorem dX13_from_45 : decode cX13_from 45 = .ok (.invokevirtual 86, 3) := by decide +kernel
theorem dX13_from_48 : decode cX13_from 48 = .ok (.laload, 1) := by decide +kernel
theorem dX13_from_49 : decode cX13_from 49 = .ok (.lastore, 1) := by decide +kernel
theorem dX13_from_50 : decode cX13_from 50 = .ok (.aload_n 0, 1) := by decide +kernel
theorem dX13_from_51 : decode cX13_from 51 = .ok (.getfield 78, 3) := by decide +kernel
theorem dX13_from_54 : decode cX13_from 54 = .ok (.iload_n 1, 1) := by decide +kernel
theorem dX13_from_55 : decode cX13_from 55 = .ok (.iconst 1, 1) := by decide +kernel
theorem dX13_from_56 : decode cX13_from 56 = .ok (.bastore, 1) := by decide +kernel
theorem dX13_from_57 : decode cX13_from 57 = .ok (.return_, 1) := by decide +kernel
theorem dX13_sub_0 : decode cX13_sub 0 = .ok (.aload_n 0, 1) := by decide +kernel
theorem dX13_sub_1 : decode cX13_sub 1 = .ok (.invokevirtual 146, 3) := by decide +kernel
theorem dX13_sub_4 : decode cX13_sub 4 = .ok (.ifCond .eq 5, 3) := by decide +kernel
theorem dX13_sub_7 : decode cX13_sub 7 = .ok (.iconst 0, 1) := by decide +kernel
theorem dX13_sub_8 : decode cX13_sub 8 = .ok (.ireturn, 1) := by decide +kernel
theorem dX13_sub_9 : decode cX13_sub 9 = .ok (.aload_n 0, 1) := by decide +kernel
theorem dX13_sub_10 : decode cX13_sub 10 = .ok (.aload_n 0, 1) := by decide +kernel
theorem dX13_sub_11 : decode cX13_sub 11 = .ok (.iload_n 1, 1) := by decide +kernel
theorem dX13_sub_12 : decode cX13_sub 12 = .ok (.iload_n 2, 1) := by decide +kernel
theorem dX13_sub_13 : decode cX13_sub 13 = .ok (.invokevirtual 161, 3) := by decide +kernel
theorem dX13_sub_16 : decode cX13_sub 16 = .ok (.ifCond .ne 40, 3) := by decide +kernel
theorem dX13_sub_19 : decode cX13_sub 19 = .ok (.iload_n 3, 1) := by decide +kernel
theorem dX13_sub_20 : decode cX13_sub 20 = .ok (.iload 4, 2) := by decide +kernel
theorem dX13_sub_22 : decode cX13_sub 22 = .ok (.if_icmp .gt 34, 3) := by decide +kernel
theorem dX13_sub_25 : decode cX13_sub 25 = .ok (.iload_n 3, 1) := by decide +kernel
theorem dX13_sub_26 : decode cX13_sub 26 = .ok (.aload_n 0, 1) := by decide +kernel
theorem dX13_sub_27 : decode cX13_sub 27 = .ok (.getfield 15, 3) := by decide +kernel
theorem dX13_sub_30 : decode cX13_sub 30 = .ok (.iload_n 1, 1) := by decide +kernel
theorem dX13_sub_31 : decode cX13_sub 31 = .ok (.aaload, 1) := by decide +kernel
theorem dX13_sub_32 : decode cX13_sub 32 = .ok (.getfield 52, 3) := by decide +kernel
theorem dX13_sub_35 : decode cX13_sub 35 = .ok (.iload_n 2, 1) := by decide +kernel
theorem dX13_sub_36 : decode cX13_sub 36 = .ok (.iaload, 1) := by decide +kernel
theorem dX13_sub_37 : decode cX13_sub 37 = .ok (.if_icmp .lt 19, 3) := by decide +kernel
theorem dX13_sub_40 : decode cX13_sub 40 = .ok (.iload 4, 2) := by decide +kernel
theorem dX13_sub_42 : decode cX13_sub 42 = .ok (.aload_n 0, 1) := by decide +kernel
theorem dX13_sub_43 : decode cX13_sub 43 = .ok (.getfield 15, 3) := by decide +kernel
theorem dX13_sub_46 : decode cX13_sub 46 = .ok (.iload_n 1, 1) := by decide +kernel
theorem dX13_sub_47 : decode cX13_sub 47 = .ok (.aaload, 1) := by decide +kernel
theorem dX13_sub_48 : decode cX13_sub 48 = .ok (.getfield 55, 3) := by decide +kernel
theorem dX13_sub_51 : decode cX13_sub 51 = .ok (.iload_n 2, 1) := by decide +kernel
theorem dX13_sub_52 : decode cX13_sub 52 = .ok (.iaload, 1) := by decide +kernel
theorem dX13_sub_53 : decode cX13_sub 53 = .ok (.if_icmp .le 7, 3) := by decide +kernel
theorem dX13_sub_56 : decode cX13_sub 56 = .ok (.iconst 1, 1) := by decide +kernel
theorem dX13_sub_57 : decode cX13_sub 57 = .ok (.goto 4, 3) := by decide +kernel
theorem dX13_sub_60 : decode cX13_sub 60 = .ok (.iconst 0, 1) := by decide +kernel
theorem dX13_sub_61 : decode cX13_sub 61 = .ok (.iconst 1, 1) := by decide +kernel
theorem dX13_sub_62 : decode cX13_sub 62 = .ok (.invokevirtual 36, 3) := by decide +kernel
theorem dX13_sub_65 : decode cX13_sub 65 = .ok (.ifCond .eq 5, 3) := by decide +kernel
theorem dX13_sub_68 : decode cX13_sub 68 = .ok (.iconst 0, 1) := by decide +kernel
theorem dX13_sub_69 : decode cX13_sub 69 = .ok (.ireturn, 1) := by decide +kernel
theorem dX13_sub_70 : decode cX13_sub 70 = .ok (.aload_n 0, 1) := by decide +kernel
theorem dX13_sub_71 : decode cX13_sub 71 = .ok (.iload_n 1, 1) := by decide +kernel
theorem dX13_sub_72 : decode cX13_sub 72 = .ok (.iload_n 2, 1) := by decide +kernel
theorem dX13_sub_73 : decode cX13_sub 73 = .ok (.iload_n 3, 1) := by decide +kernel
theorem dX13_sub_74 : decode cX13_sub 74 = .ok (.iload 4, 2) := by decide +kernel
theorem dX13_sub_76 : decode cX13_sub 76 = .ok (.invokevirtual 164, 3) := by decide +kernel
theorem dX13_sub_79 : decode cX13_sub 79 = .ok (.ireturn, 1) := by decide +kernel
theorem dX13_extend_0 : decode cX13_extend 0 = .ok (.aload_n 0, 1) := by decide +kernel
theorem dX13_extend_1 : decode cX13_extend 1 = .ok (.invokevirtual 146, 3) := by decide +kernel
theorem dX13_extend_4 : decode cX13_extend 4 = .ok (.ifCond .eq 5, 3) := by decide +kernel
theorem dX13_extend_7 : decode cX13_extend 7 = .ok (.iconst 0, 1) := by decide +kernel
theorem dX13_extend_8 : decode cX13_extend 8 = .ok (.ireturn, 1) := by decide +kernel
theorem dX13_extend_9 : decode cX13_extend 9 = .ok (.aload_n 0, 1) := by decide +kernel
theorem dX13_extend_10 : decode cX13_extend 10 = .ok (.aload_n 0, 1) := by decide +kernel
theorem dX13_extend_11 : decode cX13_extend 11 = .ok (.iload_n 1, 1) := by decide +kernel
theorem dX13_extend_12 : decode cX13_extend 12 = .ok (.iload_n 2, 1) := by decide +kernel
theorem dX13_extend_13 : decode cX13_extend 13 = .ok (.invokevirtual 161, 3) := by decide +kernel
theorem dX13_extend_16 : decode cX13_extend 16 = .ok (.ifCond .ne 49, 3) := by decide +kernel
theorem dX13_extend_19 : decode cX13_extend 19 = .ok (.iload_n 3, 1) := by decide +kernel
theorem dX13_extend_20 : decode cX13_extend 20 = .ok (.aload_n 0, 1) := by decide +kernel
theorem dX13_extend_21 : decode cX13_extend 21 = .ok (.getfield 15, 3) := by decide +kernel
theorem dX13_extend_24 : decode cX13_extend 24 = .ok (.iload_n 1, 1) := by decide +kernel
theorem dX13_extend_25 : decode cX13_extend 25 = .ok (.aaload, 1) := by decide +kernel
theorem dX13_extend_26 : decode cX13_extend 26 = .ok (.getfield 52, 3) := by decide +kernel
theorem dX13_extend_29 : decode cX13_extend 29 = .ok (.iload_n 2, 1) := by decide +kernel
theorem dX13_extend_30 : decode cX13_extend 30 = .ok (.iaload, 1) := by decide +kernel
theorem dX13_extend_31 : decode cX13_extend 31 = .ok (.if_icmp .gt 34, 3) := by decide +kernel
theorem dX13_extend_34 : decode cX13_extend 34 = .ok (.iload 4, 2) := by decide +kernel
theorem dX13_extend_36 : decode cX13_extend 36 = .ok (.aload_n 0, 1) := by decide +kernel
theorem dX13_extend_37 : decode cX13_extend 37 = .ok (.getfield 15, 3) := by decide +kernel
theorem dX13_extend_40 : decode cX13_extend 40 = .ok (.iload_n 1, 1) := by decide +kernel
theorem dX13_extend_41 : decode cX13_extend 41 = .ok (.aaload, 1) := by decide +kernel
theorem dX13_extend_42 : decode cX13_extend 42 = .ok (.getfield 55, 3) := by decide +kernel
theorem dX13_extend_45 : decode cX13_extend 45 = .ok (.iload_n 2, 1) := by decide +kernel
theorem dX13_extend_46 : decode cX13_extend 46 = .ok (.iaload, 1) := by decide +kernel
theorem dX13_extend_47 : decode cX13_extend 47 = .ok (.if_icmp .lt 18, 3) := by decide +kernel
theorem dX13_extend_50 : decode cX13_extend 50 = .ok (.iload_n 3, 1) := by decide +kernel
theorem dX13_extend_51 : decode cX13_extend 51 = .ok (.sipush (-1000), 3) := by decide +kernel
theorem dX13_extend_54 : decode cX13_extend 54 = .ok (.if_icmp .lt 11, 3) := by decide +kernel
theorem dX13_extend_57 : decode cX13_extend 57 = .ok (.iload 4, 2) := by decide +kernel
theorem dX13_extend_59 : decode cX13_extend 59 = .ok (.sipush 1000, 3) := by decide +kernel
theorem dX13_extend_62 : decode cX13_extend 62 = .ok (.if_icmp .le 7, 3) := by decide +kernel
theorem dX13_extend_65 : decode cX13_extend 65 = .ok (.iconst 1, 1) := by decide +kernel
theorem dX13_extend_66 : decode cX13_extend 66 = .ok (.goto 4, 3) := by decide +kernel
theorem dX13_extend_69 : decode cX13_extend 69 = .ok (.iconst 0, 1) := by decide +kernel
theorem dX13_extend_70 : decode cX13_extend 70 = .ok (.iconst 1, 1) := by decide +kernel
theorem dX13_extend_71 : decode cX13_extend 71 = .ok (.invokevirtual 36, 3) := by decide +kernel
theorem dX13_extend_74 : decode cX13_extend 74 = .ok (.ifCond .eq 5, 3) := by decide +kernel
theorem dX13_extend_77 : decode cX13_extend 77 = .ok (.iconst 0, 1) := by decide +kernel
theorem dX13_extend_78 : decode cX13_extend 78 = .ok (.ireturn, 1) := by decide +kernel
theorem dX13_extend_79 : decode cX13_extend 79 = .ok (.aload_n 0, 1) := by decide +kernel
theorem dX13_extend_80 : decode cX13_extend 80 = .ok (.iload_n 1, 1) := by decide +kernel
theorem dX13_extend_81 : decode cX13_extend 81 = .ok (.iload_n 2, 1) := by decide +kernel
theorem dX13_extend_82 : decode cX13_extend 82 = .ok (.iload_n 3, 1) := by decide +kernel
theorem dX13_extend_83 : decode cX13_extend 83 = .ok (.iload 4, 2) := by decide +kernel
theorem dX13_extend_85 : decode cX13_extend 85 = .ok (.invokevirtual 164, 3) := by decide +kernel
theorem dX13_extend_88 : decode cX13_extend 88 = .ok (.ireturn, 1) := by decide +kernel
theorem dX13_ranged_0 : decode cX13_ranged 0 = .ok (.aload_n 0, 1) := by decide +kernel
theorem dX13_ranged_1 : decode cX13_ranged 1 = .ok (.getfield 15, 3) := by decide +kernel
theorem dX13_ranged_4 : decode cX13_ranged 4 = .ok (.iload_n 1, 1) := by decide +kernel
theorem dX13_ranged_5 : decode cX13_ranged 5 = .ok (.aaload, 1) := by decide +kernel
theorem dX13_ranged_6 : decode cX13_ranged 6 = .ok (.astore 5, 2) := by decide +kernel
theorem dX13_ranged_8 : decode cX13_ranged 8 = .ok (.aload 5, 2) := by decide +kernel
theorem dX13_ranged_10 : decode cX13_ranged 10 = .ok (.aload 5, 2) := by decide +kernel
theorem dX13_ranged_12 : decode cX13_ranged 12 = .ok (.getfield 141, 3) := by decide +kernel
theorem dX13_ranged_15 : decode cX13_ranged 15 = .ok (.iconst 1, 1) := by decide +kernel
theorem dX13_ranged_16 : decode cX13_ranged 16 = .ok (.iadd, 1) := by decide +kernel
theorem dX13_ranged_17 : decode cX13_ranged 17 = .ok (.invokestatic 150, 3) := by decide +kernel
theorem dX13_ranged_20 : decode cX13_ranged 20 = .ok (.astore 6, 2) := by decide +kernel
theorem dX13_ranged_22 : decode cX13_ranged 22 = .ok (.aload 6, 2) := by decide +kernel
theorem dX13_ranged_24 : decode cX13_ranged 24 = .ok (.getfield 52, 3) := by decide +kernel
theorem dX13_ranged_27 : decode cX13_ranged 27 = .ok (.iload_n 2, 1) := by decide +kernel
theorem dX13_ranged_28 : decode cX13_ranged 28 = .ok (.iload_n 3, 1) := by decide +kernel
theorem dX13_ranged_29 : decode cX13_ranged 29 = .ok (.iastore, 1) := by decide +kernel
theorem dX13_ranged_30 : decode cX13_ranged 30 = .ok (.aload 6, 2) := by decide +kernel
theorem dX13_ranged_32 : decode cX13_ranged 32 = .ok (.getfield 55, 3) := by decide +kernel
theorem dX13_ranged_35 : decode cX13_ranged 35 = .ok (.iload_n 2, 1) := by decide +kernel
theorem dX13_ranged_36 : decode cX13_ranged 36 = .ok (.iload 4, 2) := by decide +kernel
theorem dX13_ranged_38 : decode cX13_ranged 38 = .ok (.iastore, 1) := by decide +kernel
theorem dX13_ranged_39 : decode cX13_ranged 39 = .ok (.aload_n 0, 1) := by decide +kernel
theorem dX13_ranged_40 : decode cX13_ranged 40 = .ok (.aload 6, 2) := by decide +kernel
theorem dX13_ranged_42 : decode cX13_ranged 42 = .ok (.invokevirtual 167, 3) := by decide +kernel
theorem dX13_ranged_45 : decode cX13_ranged 45 = .ok (.ifCond .eq 5, 3) := by decide +kernel
theorem dX13_ranged_48 : decode cX13_ranged 48 = .ok (.iconst 0, 1) := by decide +kernel
theorem dX13_ranged_49 : decode cX13_ranged 49 = .ok (.ireturn, 1) := by decide +kernel
theorem dX13_ranged_50 : decode cX13_ranged 50 = .ok (.aload 6, 2) := by decide +kernel
theorem dX13_ranged_52 : decode cX13_ranged 52 = .ok (.invokevirtual 58, 3) := by decide +kernel
theorem dX13_ranged_55 : decode cX13_ranged 55 = .ok (.aload 6, 2) := by decide +kernel
theorem dX13_ranged_57 : decode cX13_ranged 57 = .ok (.getfield 52, 3) := by decide +kernel
theorem dX13_ranged_60 : decode cX13_ranged 60 = .ok (.iconst 0, 1) := by decide +kernel
theorem dX13_ranged_61 : decode cX13_ranged 61 = .ok (.iaload, 1) := by decide +kernel
theorem dX13_ranged_62 : decode cX13_ranged 62 = .ok (.istore 7, 2) := by decide +kernel
theorem dX13_ranged_64 : decode cX13_ranged 64 = .ok (.iload 7, 2) := by decide +kernel
theorem dX13_ranged_66 : decode cX13_ranged 66 = .ok (.aload 6, 2) := by decide +kernel
theorem dX13_ranged_68 : decode cX13_ranged 68 = .ok (.getfield 55, 3) := by decide +kernel
theorem dX13_ranged_71 : decode cX13_ranged 71 = .ok (.iconst 0, 1) := by decide +kernel
theorem dX13_ranged_72 : decode cX13_ranged 72 = .ok (.iaload, 1) := by decide +kernel
theorem dX13_ranged_73 : decode cX13_ranged 73 = .ok (.if_icmp .gt 87, 3) := by decide +kernel
theorem dX13_ranged_76 : decode cX13_ranged 76 = .ok (.aload 6, 2) := by decide +kernel
theorem dX13_ranged_78 : decode cX13_ranged 78 = .ok (.getfield 52, 3) := by decide +kernel
theorem dX13_ranged_81 : decode cX13_ranged 81 = .ok (.iconst 1, 1) := by decide +kernel
theorem dX13_ranged_82 : decode cX13_ranged 82 = .ok (.iaload, 1) := by decide +kernel
theorem dX13_ranged_83 : decode cX13_ranged 83 = .ok (.istore 8, 2) := by decide +kernel
theorem dX13_ranged_85 : decode cX13_ranged 85 = .ok (.iload 8, 2) := by decide +kernel
theorem dX13_ranged_87 : decode cX13_ranged 87 = .ok (.aload 6, 2) := by decide +kernel
theorem dX13_ranged_89 : decode cX13_ranged 89 = .ok (.getfield 55, 3) := by decide +kernel
theorem dX13_ranged_92 : decode cX13_ranged 92 = .ok (.iconst 1, 1) := by decide +kernel
theorem dX13_ranged_93 : decode cX13_ranged 93 = .ok (.iaload, 1) := by decide +kernel
theorem dX13_ranged_94 : decode cX13_ranged 94 = .ok (.if_icmp .gt 60, 3) := by decide +kernel
theorem dX13_ranged_97 : decode cX13_ranged 97 = .ok (.aload 6, 2) := by decide +kernel
theorem dX13_ranged_99 : decode cX13_ranged 99 = .ok (.getfield 52, 3) := by decide +kernel
theorem dX13_ranged_102 : decode cX13_ranged 102 = .ok (.iconst 2, 1) := by decide +kernel
theorem dX13_ranged_103 : decode cX13_ranged 103 = .ok (.iaload, 1) := by decide +kernel
theorem dX13_ranged_104 : decode cX13_ranged 104 = .ok (.istore 9, 2) := by decide +kernel
theorem dX13_ranged_106 : decode cX13_ranged 106 = .ok (.iload 9, 2) := by decide +kernel
theorem dX13_ranged_108 : decode cX13_ranged 108 = .ok (.aload 6, 2) := by decide +kernel
theorem dX13_ranged_110 : decode cX13_ranged 110 = .ok (.getfield 55, 3) := by decide +kernel
theorem dX13_ranged_113 : decode cX13_ranged 113 = .ok (.iconst 2, 1) := by decide +kernel
theorem dX13_ranged_114 : decode cX13_ranged 114 = .ok (.iaload, 1) := by decide +kernel
theorem dX13_ranged_115 : decode cX13_ranged 115 = .ok (.if_icmp .gt 33, 3) := by decide +kernel
theorem dX13_ranged_118 : decode cX13_ranged 118 = .ok (.aload 6, 2) := by decide +kernel
theorem dX13_ranged_120 : decode cX13_ranged 120 = .ok (.aload 6, 2) := by decide +kernel
theorem dX13_ranged_122 : decode cX13_ranged 122 = .ok (.iload 7, 2) := by decide +kernel
theorem dX13_ranged_124 : decode cX13_ranged 124 = .ok (.iload 8, 2) := by decide +kernel
theorem dX13_ranged_126 : decode cX13_ranged 126 = .ok (.iload 9, 2) := by decide +kernel
theorem dX13_ranged_128 : decode cX13_ranged 128 = .ok (.invokevirtual 86, 3) := by decide +kernel
theorem dX13_ranged_131 : decode cX13_ranged 131 = .ok (.aload 5, 2) := by decide +kernel
theorem dX13_ranged_133 : decode cX13_ranged 133 = .ok (.iload 7, 2) := by decide +kernel
theorem dX13_ranged_135 : decode cX13_ranged 135 = .ok (.iload 8, 2) := by decide +kernel
theorem dX13_ranged_137 : decode cX13_ranged 137 = .ok (.iload 9, 2) := by decide +kernel
theorem dX13_ranged_139 : decode cX13_ranged 139 = .ok (.invokestatic 171, 3) := by decide +kernel
theorem dX13_ranged_142 : decode cX13_ranged 142 = .ok (.iinc 9 1, 3) := by decide +kernel
theorem dX13_ranged_145 : decode cX13_ranged 145 = .ok (.goto (-39), 3) := by decide +kernel
theorem dX13_ranged_148 : decode cX13_ranged 148 = .ok (.iinc 8 1, 3) := by decide +kernel
theorem dX13_ranged_151 : decode cX13_ranged 151 = .ok (.goto (-66), 3) := by decide +kernel
theorem dX13_ranged_154 : decode cX13_ranged 154 = .ok (.iinc 7 1, 3) := by decide +kernel
theorem dX13_ranged_157 : decode cX13_ranged 157 = .ok (.goto (-93), 3) := by decide +kernel
theorem dX13_ranged_160 : decode cX13_ranged 160 = .ok (.aload_n 0, 1) := by decide +kernel
theorem dX13_ranged_161 : decode cX13_ranged 161 = .ok (.aload 6, 2) := by decide +kernel
theorem dX13_ranged_163 : decode cX13_ranged 163 = .ok (.invokevirtual 154, 3) := by decide +kernel
theorem dX13_ranged_166 : decode cX13_ranged 166 = .ok (.ireturn, 1) := by decide +kernel
theorem dX13_wider_0 : decode cX13_wider 0 = .ok (.aload_n 0, 1) := by decide +kernel
theorem dX13_wider_1 : decode cX13_wider 1 = .ok (.getfield 22, 3) := by decide +kernel
theorem dX13_wider_4 : decode cX13_wider 4 = .ok (.iconst 0, 1) := by decide +kernel
theorem dX13_wider_5 : decode cX13_wider 5 = .ok (.iload_n 1, 1) := by decide +kernel
theorem dX13_wider_6 : decode cX13_wider 6 = .ok (.ifCond .ne 7, 3) := by decide +kernel
theorem dX13_wider_9 : decode cX13_wider 9 = .ok (.iload_n 2, 1) := by decide +kernel
theorem dX13_wider_10 : decode cX13_wider 10 = .ok (.goto 4, 3) := by decide +kernel
theorem dX13_wider_13 : decode cX13_wider 13 = .ok (.iload_n 3, 1) := by decide +kernel
theorem dX13_wider_14 : decode cX13_wider 14 = .ok (.iastore, 1) := by decide +kernel
theorem dX13_wider_15 : decode cX13_wider 15 = .ok (.aload_n 0, 1) := by decide +kernel
theorem dX13_wider_16 : decode cX13_wider 16 = .ok (.getfield 22, 3) := by decide +kernel
theorem dX13_wider_19 : decode cX13_wider 19 = .ok (.iconst 1, 1) := by decide +kernel
theorem dX13_wider_20 : decode cX13_wider 20 = .ok (.iload_n 1, 1) := by decide +kernel
theorem dX13_wider_21 : decode cX13_wider 21 = .ok (.ifCond .ne 7, 3) := by decide +kernel
theorem dX13_wider_24 : decode cX13_wider 24 = .ok (.iload_n 3, 1) := by decide +kernel
theorem dX13_wider_25 : decode cX13_wider 25 = .ok (.goto 14, 3) := by decide +kernel
theorem dX13_wider_28 : decode cX13_wider 28 = .ok (.iload_n 1, 1) := by decide +kernel
theorem dX13_wider_29 : decode cX13_wider 29 = .ok (.iconst 1, 1) := by decide +kernel
theorem dX13_wider_30 : decode cX13_wider 30 = .ok (.if_icmp .ne 7, 3) := by decide +kernel
theorem dX13_wider_33 : decode cX13_wider 33 = .ok (.iload_n 2, 1) := by decide +kernel
theorem dX13_wider_34 : decode cX13_wider 34 = .ok (.goto 5, 3) := by decide +kernel
theorem dX13_wider_37 : decode cX13_wider 37 = .ok (.iload 4, 2) := by decide +kernel
theorem dX13_wider_39 : decode cX13_wider 39 = .ok (.iastore, 1) := by decide +kernel
theorem dX13_wider_40 : decode cX13_wider 40 = .ok (.aload_n 0, 1) := by decide +kernel
theorem dX13_wider_41 : decode cX13_wider 41 = .ok (.getfield 22, 3) := by decide +kernel
theorem dX13_wider_44 : decode cX13_wider 44 = .ok (.iconst 2, 1) := by decide +kernel
theorem dX13_wider_45 : decode cX13_wider 45 = .ok (.iload_n 1, 1) := by decide +kernel
theorem dX13_wider_46 : decode cX13_wider 46 = .ok (.iconst 2, 1) := by decide +kernel
theorem dX13_wider_47 : decode cX13_wider 47 = .ok (.if_icmp .ne 7, 3) := by decide +kernel
theorem dX13_wider_50 : decode cX13_wider 50 = .ok (.iload_n 2, 1) := by decide +kernel
theorem dX13_wider_51 : decode cX13_wider 51 = .ok (.goto 5, 3) := by decide +kernel
theorem dX13_wider_54 : decode cX13_wider 54 = .ok (.iload 4, 2) := by decide +kernel
theorem dX13_wider_56 : decode cX13_wider 56 = .ok (.iastore, 1) := by decide +kernel
theorem dX13_wider_57 : decode cX13_wider 57 = .ok (.return_, 1) := by decide +kernel
theorem dX13_slice_0 : decode cX13_slice 0 = .ok (.aload_n 0, 1) := by decide +kernel
theorem dX13_slice_1 : decode cX13_slice 1 = .ok (.invokevirtual 146, 3) := by decide +kernel
theorem dX13_slice_4 : decode cX13_slice 4 = .ok (.ifCond .eq 5, 3) := by decide +kernel
theorem dX13_slice_7 : decode cX13_slice 7 = .ok (.iconst 0, 1) := by decide +kernel
theorem dX13_slice_8 : decode cX13_slice 8 = .ok (.ireturn, 1) := by decide +kernel
theorem dX13_slice_9 : decode cX13_slice 9 = .ok (.aload_n 0, 1) := by decide +kernel
theorem dX13_slice_10 : decode cX13_slice 10 = .ok (.aload_n 0, 1) := by decide +kernel
theorem dX13_slice_11 : decode cX13_slice 11 = .ok (.iload_n 1, 1) := by decide +kernel
theorem dX13_slice_12 : decode cX13_slice 12 = .ok (.iload_n 2, 1) := by decide +kernel
theorem dX13_slice_13 : decode cX13_slice 13 = .ok (.invokevirtual 161, 3) := by decide +kernel
theorem dX13_slice_16 : decode cX13_slice 16 = .ok (.ifCond .ne 46, 3) := by decide +kernel
theorem dX13_slice_19 : decode cX13_slice 19 = .ok (.aload_n 0, 1) := by decide +kernel
theorem dX13_slice_20 : decode cX13_slice 20 = .ok (.getfield 15, 3) := by decide +kernel
theorem dX13_slice_23 : decode cX13_slice 23 = .ok (.iload_n 1, 1) := by decide +kernel
theorem dX13_slice_24 : decode cX13_slice 24 = .ok (.aaload, 1) := by decide +kernel
theorem dX13_slice_25 : decode cX13_slice 25 = .ok (.getfield 49, 3) := by decide +kernel
theorem dX13_slice_28 : decode cX13_slice 28 = .ok (.iconst 1, 1) := by decide +kernel
theorem dX13_slice_29 : decode cX13_slice 29 = .ok (.if_icmp .eq 33, 3) := by decide +kernel
theorem dX13_slice_32 : decode cX13_slice 32 = .ok (.iload_n 3, 1) := by decide +kernel
theorem dX13_slice_33 : decode cX13_slice 33 = .ok (.aload_n 0, 1) := by decide +kernel
theorem dX13_slice_34 : decode cX13_slice 34 = .ok (.getfield 15, 3) := by decide +kernel
theorem dX13_slice_37 : decode cX13_slice 37 = .ok (.iload_n 1, 1) := by decide +kernel
theorem dX13_slice_38 : decode cX13_slice 38 = .ok (.aaload, 1) := by decide +kernel
theorem dX13_slice_39 : decode cX13_slice 39 = .ok (.getfield 52, 3) := by decide +kernel
theorem dX13_slice_42 : decode cX13_slice 42 = .ok (.iload_n 2, 1) := by decide +kernel
theorem dX13_slice_43 : decode cX13_slice 43 = .ok (.iaload, 1) := by decide +kernel
theorem dX13_slice_44 : decode cX13_slice 44 = .ok (.if_icmp .lt 18, 3) := by decide +kernel
theorem dX13_slice_47 : decode cX13_slice 47 = .ok (.iload_n 3, 1) := by decide +kernel
theorem dX13_slice_48 : decode cX13_slice 48 = .ok (.aload_n 0, 1) := by decide +kernel
theorem dX13_slice_49 : decode cX13_slice 49 = .ok (.getfield 15, 3) := by decide +kernel
theorem dX13_slice_52 : decode cX13_slice 52 = .ok (.iload_n 1, 1) := by decide +kernel
theorem dX13_slice_53 : decode cX13_slice 53 = .ok (.aaload, 1) := by decide +kernel
theorem dX13_slice_54 : decode cX13_slice 54 = .ok (.getfield 55, 3) := by decide +kernel
theorem dX13_slice_57 : decode cX13_slice 57 = .ok (.iload_n 2, 1) := by decide +kernel
theorem dX13_slice_58 : decode cX13_slice 58 = .ok (.iaload, 1) := by decide +kernel
theorem dX13_slice_59 : decode cX13_slice 59 = .ok (.if_icmp .le 7, 3) := by decide +kernel
theorem dX13_slice_62 : decode cX13_slice 62 = .ok (.iconst 1, 1) := by decide +kernel
theorem dX13_slice_63 : decode cX13_slice 63 = .ok (.goto 4, 3) := by decide +kernel
theorem dX13_slice_66 : decode cX13_slice 66 = .ok (.iconst 0, 1) := by decide +kernel
theorem dX13_slice_67 : decode cX13_slice 67 = .ok (.iconst 1, 1) := by decide +kernel
theorem dX13_slice_68 : decode cX13_slice 68 = .ok (.invokevirtual 36, 3) := by decide +kernel
theorem dX13_slice_71 : decode cX13_slice 71 = .ok (.ifCond .eq 5, 3) := by decide +kernel
theorem dX13_slice_74 : decode cX13_slice 74 = .ok (.iconst 0, 1) := by decide +kernel
theorem dX13_slice_75 : decode cX13_slice 75 = .ok (.ireturn, 1) := by decide +kernel
theorem dX13_slice_76 : decode cX13_slice 76 = .ok (.aload_n 0, 1) := by decide +kernel
theorem dX13_slice_77 : decode cX13_slice 77 = .ok (.getfield 15, 3) := by decide +kernel
theorem dX13_slice_80 : decode cX13_slice 80 = .ok (.iload_n 1, 1) := by decide +kernel
theorem dX13_slice_81 : decode cX13_slice 81 = .ok (.aaload, 1) := by decide +kernel
theorem dX13_slice_82 : decode cX13_slice 82 = .ok (.astore 4, 2) := by decide +kernel
theorem dX13_slice_84 : decode cX13_slice 84 = .ok (.aload 4, 2) := by decide +kernel
theorem dX13_slice_86 : decode cX13_slice 86 = .ok (.iload_n 2, 1) := by decide +kernel
theorem dX13_slice_87 : decode cX13_slice 87 = .ok (.invokestatic 175, 3) := by decide +kernel
theorem dX13_slice_90 : decode cX13_slice 90 = .ok (.astore 5, 2) := by decide +kernel
theorem dX13_slice_92 : decode cX13_slice 92 = .ok (.aload_n 0, 1) := by decide +kernel
theorem dX13_slice_93 : decode cX13_slice 93 = .ok (.aload 5, 2) := by decide +kernel
theorem dX13_slice_95 : decode cX13_slice 95 = .ok (.invokevirtual 167, 3) := by decide +kernel
theorem dX13_slice_98 : decode cX13_slice 98 = .ok (.ifCond .eq 5, 3) := by decide +kernel
theorem dX13_slice_101 : decode cX13_slice 101 = .ok (.iconst 0, 1) := by decide +kernel
theorem dX13_slice_102 : decode cX13_slice 102 = .ok (.ireturn, 1) := by decide +kernel
theorem dX13_slice_103 : decode cX13_slice 103 = .ok (.aload 5, 2) := by decide +kernel
theorem dX13_slice_105 : decode cX13_slice 105 = .ok (.invokevirtual 58, 3) := by decide +kernel
theorem dX13_slice_108 : decode cX13_slice 108 = .ok (.aload 5, 2) := by decide +kernel
theorem dX13_slice_110 : decode cX13_slice 110 = .ok (.getfield 52, 3) := by decide +kernel
theorem dX13_slice_113 : decode cX13_slice 113 = .ok (.iconst 0, 1) := by decide +kernel
theorem dX13_slice_114 : decode cX13_slice 114 = .ok (.iaload, 1) := by decide +kernel
theorem dX13_slice_115 : decode cX13_slice 115 = .ok (.istore 6, 2) := by decide +kernel
theorem dX13_slice_117 : decode cX13_slice 117 = .ok (.iload 6, 2) := by decide +kernel
theorem dX13_slice_119 : decode cX13_slice 119 = .ok (.aload 5, 2) := by decide +kernel
theorem dX13_slice_121 : decode cX13_slice 121 = .ok (.getfield 55, 3) := by decide +kernel
theorem dX13_slice_124 : decode cX13_slice 124 = .ok (.iconst 0, 1) := by decide +kernel
theorem dX13_slice_125 : decode cX13_slice 125 = .ok (.iaload, 1) := by decide +kernel
theorem dX13_slice_126 : decode cX13_slice 126 = .ok (.if_icmp .gt 81, 3) := by decide +kernel
theorem dX13_slice_129 : decode cX13_slice 129 = .ok (.aload 5, 2) := by decide +kernel
theorem dX13_slice_131 : decode cX13_slice 131 = .ok (.getfield 52, 3) := by decide +kernel
theorem dX13_slice_134 : decode cX13_slice 134 = .ok (.iconst 1, 1) := by decide +kernel
theorem dX13_slice_135 : decode cX13_slice 135 = .ok (.iaload, 1) := by decide +kernel
theorem dX13_slice_136 : decode cX13_slice 136 = .ok (.istore 7, 2) := by decide +kernel
theorem dX13_slice_138 : decode cX13_slice 138 = .ok (.iload 7, 2) := by decide +kernel
theorem dX13_slice_140 : decode cX13_slice 140 = .ok (.aload 5, 2) := by decide +kernel
theorem dX13_slice_142 : decode cX13_slice 142 = .ok (.getfield 55, 3) := by decide +kernel
theorem dX13_slice_145 : decode cX13_slice 145 = .ok (.iconst 1, 1) := by decide +kernel
theorem dX13_slice_146 : decode cX13_slice 146 = .ok (.iaload, 1) := by decide +kernel
theorem dX13_slice_147 : decode cX13_slice 147 = .ok (.if_icmp .gt 54, 3) := by decide +kernel
theorem dX13_slice_150 : decode cX13_slice 150 = .ok (.aload_n 0, 1) := by decide +kernel
theorem dX13_slice_151 : decode cX13_slice 151 = .ok (.iload_n 2, 1) := by decide +kernel
theorem dX13_slice_152 : decode cX13_slice 152 = .ok (.iload_n 3, 1) := by decide +kernel
theorem dX13_slice_153 : decode cX13_slice 153 = .ok (.iload 6, 2) := by decide +kernel
theorem dX13_slice_155 : decode cX13_slice 155 = .ok (.iload 7, 2) := by decide +kernel
theorem dX13_slice_157 : decode cX13_slice 157 = .ok (.invokevirtual 178, 3) := by decide +kernel
theorem dX13_slice_160 : decode cX13_slice 160 = .ok (.aload 5, 2) := by decide +kernel
theorem dX13_slice_162 : decode cX13_slice 162 = .ok (.aload 5, 2) := by decide +kernel
theorem dX13_slice_164 : decode cX13_slice 164 = .ok (.iload 6, 2) := by decide +kernel
theorem dX13_slice_166 : decode cX13_slice 166 = .ok (.iload 7, 2) := by decide +kernel
theorem dX13_slice_168 : decode cX13_slice 168 = .ok (.iconst 0, 1) := by decide +kernel
theorem dX13_slice_169 : decode cX13_slice 169 = .ok (.invokevirtual 86, 3) := by decide +kernel
theorem dX13_slice_172 : decode cX13_slice 172 = .ok (.aload 4, 2) := by decide +kernel
theorem dX13_slice_174 : decode cX13_slice 174 = .ok (.aload_n 0, 1) := by decide +kernel
theorem dX13_slice_175 : decode cX13_slice 175 = .ok (.getfield 22, 3) := by decide +kernel
theorem dX13_slice_178 : decode cX13_slice 178 = .ok (.iconst 0, 1) := by decide +kernel
theorem dX13_slice_179 : decode cX13_slice 179 = .ok (.iaload, 1) := by decide +kernel
theorem dX13_slice_180 : decode cX13_slice 180 = .ok (.aload_n 0, 1) := by decide +kernel
theorem dX13_slice_181 : decode cX13_slice 181 = .ok (.getfield 22, 3) := by decide +kernel
theorem dX13_slice_184 : decode cX13_slice 184 = .ok (.iconst 1, 1) := by decide +kernel
theorem dX13_slice_185 : decode cX13_slice 185 = .ok (.iaload, 1) := by decide +kernel
theorem dX13_slice_186 : decode cX13_slice 186 = .ok (.aload_n 0, 1) := by decide +kernel
theorem dX13_slice_187 : decode cX13_slice 187 = .ok (.getfield 22, 3) := by decide +kernel
theorem dX13_slice_190 : decode cX13_slice 190 = .ok (.iconst 2, 1) := by decide +kernel
theorem dX13_slice_191 : decode cX13_slice 191 = .ok (.iaload, 1) := by decide +kernel
theorem dX13_slice_192 : decode cX13_slice 192 = .ok (.invokestatic 171, 3) := by decide +kernel
theorem dX13_slice_195 : decode cX13_slice 195 = .ok (.iinc 7 1, 3) := by decide +kernel
theorem dX13_slice_198 : decode cX13_slice 198 = .ok (.goto (-60), 3) := by decide +kernel
theorem dX13_slice_201 : decode cX13_slice 201 = .ok (.iinc 6 1, 3) := by decide +kernel
theorem dX13_slice_204 : decode cX13_slice 204 = .ok (.goto (-87), 3) := by decide +kernel
theorem dX13_slice_207 : decode cX13_slice 207 = .ok (.aload_n 0, 1) := by decide +kernel
theorem dX13_slice_208 : decode cX13_slice 208 = .ok (.aload 5, 2) := by decide +kernel
theorem dX13_slice_210 : decode cX13_slice 210 = .ok (.invokevirtual 154, 3) := by decide +kernel
theorem dX13_slice_213 : decode cX13_slice 213 = .ok (.ireturn, 1) := by decide +kernel
theorem dX13_apply_0 : decode cX13_apply 0 = .ok (.aload_n 0, 1) := by decide +kernel
theorem dX13_apply_1 : decode cX13_apply 1 = .ok (.invokevirtual 146, 3) := by decide +kernel
theorem dX13_apply_4 : decode cX13_apply 4 = .ok (.ifCond .eq 5, 3) := by decide +kernel
theorem dX13_apply_7 : decode cX13_apply 7 = .ok (.iconst 0, 1) := by decide +kernel
theorem dX13_apply_8 : decode cX13_apply 8 = .ok (.ireturn, 1) := by decide +kernel
theorem dX13_apply_9 : decode cX13_apply 9 = .ok (.aload_n 0, 1) := by decide +kernel
theorem dX13_apply_10 : decode cX13_apply 10 = .ok (.aload_n 0, 1) := by decide +kernel
theorem dX13_apply_11 : decode cX13_apply 11 = .ok (.iload_n 1, 1) := by decide +kernel
theorem dX13_apply_12 : decode cX13_apply 12 = .ok (.invokevirtual 158, 3) := by decide +kernel
theorem dX13_apply_15 : decode cX13_apply 15 = .ok (.ifCond .ne 12, 3) := by decide +kernel
theorem dX13_apply_18 : decode cX13_apply 18 = .ok (.iload_n 2, 1) := by decide +kernel
theorem dX13_apply_19 : decode cX13_apply 19 = .ok (.ifCond .lt 8, 3) := by decide +kernel
theorem dX13_apply_22 : decode cX13_apply 22 = .ok (.iload_n 2, 1) := by decide +kernel
theorem dX13_apply_23 : decode cX13_apply 23 = .ok (.iconst 5, 1) := by decide +kernel
theorem dX13_apply_24 : decode cX13_apply 24 = .ok (.if_icmp .le 7, 3) := by decide +kernel
theorem dX13_apply_27 : decode cX13_apply 27 = .ok (.iconst 1, 1) := by decide +kernel
theorem dX13_apply_28 : decode cX13_apply 28 = .ok (.goto 4, 3) := by decide +kernel
theorem dX13_apply_31 : decode cX13_apply 31 = .ok (.iconst 0, 1) := by decide +kernel
theorem dX13_apply_32 : decode cX13_apply 32 = .ok (.iconst 1, 1) := by decide +kernel
theorem dX13_apply_33 : decode cX13_apply 33 = .ok (.invokevirtual 36, 3) := by decide +kernel
theorem dX13_apply_36 : decode cX13_apply 36 = .ok (.ifCond .eq 5, 3) := by decide +kernel
theorem dX13_apply_39 : decode cX13_apply 39 = .ok (.iconst 0, 1) := by decide +kernel
theorem dX13_apply_40 : decode cX13_apply 40 = .ok (.ireturn, 1) := by decide +kernel
theorem dX13_apply_41 : decode cX13_apply 41 = .ok (.aload_n 0, 1) := by decide +kernel
theorem dX13_apply_42 : decode cX13_apply 42 = .ok (.getfield 15, 3) := by decide +kernel
theorem dX13_apply_45 : decode cX13_apply 45 = .ok (.iload_n 1, 1) := by decide +kernel
theorem dX13_apply_46 : decode cX13_apply 46 = .ok (.aaload, 1) := by decide +kernel
theorem dX13_apply_47 : decode cX13_apply 47 = .ok (.astore 5, 2) := by decide +kernel
theorem dX13_apply_49 : decode cX13_apply 49 = .ok (.aload 5, 2) := by decide +kernel
theorem dX13_apply_51 : decode cX13_apply 51 = .ok (.aload 5, 2) := by decide +kernel
theorem dX13_apply_53 : decode cX13_apply 53 = .ok (.getfield 141, 3) := by decide +kernel
theorem dX13_apply_56 : decode cX13_apply 56 = .ok (.iconst 1, 1) := by decide +kernel
theorem dX13_apply_57 : decode cX13_apply 57 = .ok (.iadd, 1) := by decide +kernel
theorem dX13_apply_58 : decode cX13_apply 58 = .ok (.invokestatic 150, 3) := by decide +kernel
theorem dX13_apply_61 : decode cX13_apply 61 = .ok (.astore 6, 2) := by decide +kernel
theorem dX13_apply_63 : decode cX13_apply 63 = .ok (.aload_n 0, 1) := by decide +kernel
theorem dX13_apply_64 : decode cX13_apply 64 = .ok (.aload 6, 2) := by decide +kernel
theorem dX13_apply_66 : decode cX13_apply 66 = .ok (.invokevirtual 167, 3) := by decide +kernel
theorem dX13_apply_69 : decode cX13_apply 69 = .ok (.ifCond .eq 5, 3) := by decide +kernel
theorem dX13_apply_72 : decode cX13_apply 72 = .ok (.iconst 0, 1) := by decide +kernel
theorem dX13_apply_73 : decode cX13_apply 73 = .ok (.ireturn, 1) := by decide +kernel
theorem dX13_apply_74 : decode cX13_apply 74 = .ok (.aload 6, 2) := by decide +kernel
theorem dX13_apply_76 : decode cX13_apply 76 = .ok (.invokevirtual 58, 3) := by decide +kernel
theorem dX13_apply_79 : decode cX13_apply 79 = .ok (.iconst 0, 1) := by decide +kernel
theorem dX13_apply_80 : decode cX13_apply 80 = .ok (.istore 7, 2) := by decide +kernel
theorem dX13_apply_82 : decode cX13_apply 82 = .ok (.iload 7, 2) := by decide +kernel
theorem dX13_apply_84 : decode cX13_apply 84 = .ok (.aload 6, 2) := by decide +kernel
theorem dX13_apply_86 : decode cX13_apply 86 = .ok (.getfield 74, 3) := by decide +kernel
theorem dX13_apply_89 : decode cX13_apply 89 = .ok (.arraylength, 1) := by decide +kernel
theorem dX13_apply_90 : decode cX13_apply 90 = .ok (.if_icmp .ge 141, 3) := by decide +kernel
theorem dX13_apply_93 : decode cX13_apply 93 = .ok (.aload 5, 2) := by decide +kernel
theorem dX13_apply_95 : decode cX13_apply 95 = .ok (.getfield 78, 3) := by decide +kernel
theorem dX13_apply_98 : decode cX13_apply 98 = .ok (.iload 7, 2) := by decide +kernel
theorem dX13_apply_100 : decode cX13_apply 100 = .ok (.baload, 1) := by decide +kernel
theorem dX13_apply_101 : decode cX13_apply 101 = .ok (.ifCond .eq 124, 3) := by decide +kernel
theorem dX13_apply_104 : decode cX13_apply 104 = .ok (.aload 5, 2) := by decide +kernel
theorem dX13_apply_106 : decode cX13_apply 106 = .ok (.getfield 74, 3) := by decide +kernel
theorem dX13_apply_109 : decode cX13_apply 109 = .ok (.iload 7, 2) := by decide +kernel
theorem dX13_apply_111 : decode cX13_apply 111 = .ok (.laload, 1) := by decide +kernel
theorem dX13_apply_112 : decode cX13_apply 112 = .ok (.lstore 8, 2) := by decide +kernel
theorem dX13_apply_114 : decode cX13_apply 114 = .ok (.iload_n 2, 1) := by decide +kernel
theorem dX13_apply_115 : decode cX13_apply 115 = .ok (.iconst 2, 1) := by decide +kernel
theorem dX13_apply_116 : decode cX13_apply 116 = .ok (.if_icmp .eq 8, 3) := by decide +kernel
theorem dX13_apply_119 : decode cX13_apply 119 = .ok (.iload_n 2, 1) := by decide +kernel
theorem dX13_apply_120 : decode cX13_apply 120 = .ok (.iconst 3, 1) := by decide +kernel
theorem dX13_apply_121 : decode cX13_apply 121 = .ok (.if_icmp .ne 9, 3) := by decide +kernel
theorem dX13_apply_124 : decode cX13_apply 124 = .ok (.lload_n 3, 1) := by decide +kernel
theorem dX13_apply_125 : decode cX13_apply 125 = .ok (.lconst 0, 1) := by decide +kernel
theorem dX13_apply_126 : decode cX13_apply 126 = .ok (.lcmp, 1) := by decide +kernel
theorem dX13_apply_127 : decode cX13_apply 127 = .ok (.ifCond .eq 98, 3) := by decide +kernel
theorem dX13_apply_130 : decode cX13_apply 130 = .ok (.iload_n 2, 1) := by decide +kernel
theorem dX13_apply_131 : decode cX13_apply 131 = .ok (.iconst 5, 1) := by decide +kernel
theorem dX13_apply_132 : decode cX13_apply 132 = .ok (.if_icmp .ne 13, 3) := by decide +kernel
theorem dX13_apply_135 : decode cX13_apply 135 = .ok (.lload 8, 2) := by decide +kernel
theorem dX13_apply_137 : decode cX13_apply 137 = .ok (.lconst 0, 1) := by decide +kernel
theorem dX13_apply_138 : decode cX13_apply 138 = .ok (.lcmp, 1) := by decide +kernel
theorem dX13_apply_139 : decode cX13_apply 139 = .ok (.ifCond .ne 6, 3) := by decide +kernel
theorem dX13_apply_142 : decode cX13_apply 142 = .ok (.goto 83, 3) := by decide +kernel
theorem dX13_apply_145 : decode cX13_apply 145 = .ok (.aload 6, 2) := by decide +kernel
theorem dX13_apply_147 : decode cX13_apply 147 = .ok (.getfield 78, 3) := by decide +kernel
theorem dX13_apply_150 : decode cX13_apply 150 = .ok (.iload 7, 2) := by decide +kernel
theorem dX13_apply_152 : decode cX13_apply 152 = .ok (.iconst 1, 1) := by decide +kernel
theorem dX13_apply_153 : decode cX13_apply 153 = .ok (.bastore, 1) := by decide +kernel
theorem dX13_apply_154 : decode cX13_apply 154 = .ok (.aload 6, 2) := by decide +kernel
theorem dX13_apply_156 : decode cX13_apply 156 = .ok (.getfield 74, 3) := by decide +kernel
theorem dX13_apply_159 : decode cX13_apply 159 = .ok (.iload 7, 2) := by decide +kernel
theorem dX13_apply_161 : decode cX13_apply 161 = .ok (.iload_n 2, 1) := by decide +kernel
theorem dX13_apply_162 : decode cX13_apply 162 = .ok (.ifCond .ne 10, 3) := by decide +kernel
theorem dX13_apply_165 : decode cX13_apply 165 = .ok (.lload 8, 2) := by decide +kernel
theorem dX13_apply_167 : decode cX13_apply 167 = .ok (.lload_n 3, 1) := by decide +kernel
theorem dX13_apply_168 : decode cX13_apply 168 = .ok (.ladd, 1) := by decide +kernel
theorem dX13_apply_169 : decode cX13_apply 169 = .ok (.goto 55, 3) := by decide +kernel
theorem dX13_apply_172 : decode cX13_apply 172 = .ok (.iload_n 2, 1) := by decide +kernel
theorem dX13_apply_173 : decode cX13_apply 173 = .ok (.iconst 1, 1) := by decide +kernel
theorem dX13_apply_174 : decode cX13_apply 174 = .ok (.if_icmp .ne 10, 3) := by decide +kernel
theorem dX13_apply_177 : decode cX13_apply 177 = .ok (.lload 8, 2) := by decide +kernel
theorem dX13_apply_179 : decode cX13_apply 179 = .ok (.lload_n 3, 1) := by decide +kernel
theorem dX13_apply_180 : decode cX13_apply 180 = .ok (.lmul, 1) := by decide +kernel
theorem dX13_apply_181 : decode cX13_apply 181 = .ok (.goto 43, 3) := by decide +kernel
theorem dX13_apply_184 : decode cX13_apply 184 = .ok (.iload_n 2, 1) := by decide +kernel
theorem dX13_apply_185 : decode cX13_apply 185 = .ok (.iconst 2, 1) := by decide +kernel
theorem dX13_apply_186 : decode cX13_apply 186 = .ok (.if_icmp .ne 10, 3) := by decide +kernel
theorem dX13_apply_189 : decode cX13_apply 189 = .ok (.lload 8, 2) := by decide +kernel
theorem dX13_apply_191 : decode cX13_apply 191 = .ok (.lload_n 3, 1) := by decide +kernel
theorem dX13_apply_192 : decode cX13_apply 192 = .ok (.ldiv, 1) := by decide +kernel
theorem dX13_apply_193 : decode cX13_apply 193 = .ok (.goto 31, 3) := by decide +kernel
theorem dX13_apply_196 : decode cX13_apply 196 = .ok (.iload_n 2, 1) := by decide +kernel
theorem dX13_apply_197 : decode cX13_apply 197 = .ok (.iconst 3, 1) := by decide +kernel
theorem dX13_apply_198 : decode cX13_apply 198 = .ok (.if_icmp .ne 10, 3) := by decide +kernel
theorem dX13_apply_201 : decode cX13_apply 201 = .ok (.lload 8, 2) := by decide +kernel
theorem dX13_apply_203 : decode cX13_apply 203 = .ok (.lload_n 3, 1) := by decide +kernel
theorem dX13_apply_204 : decode cX13_apply 204 = .ok (.lrem, 1) := by decide +kernel
theorem dX13_apply_205 : decode cX13_apply 205 = .ok (.goto 19, 3) := by decide +kernel
theorem dX13_apply_208 : decode cX13_apply 208 = .ok (.iload_n 2, 1) := by decide +kernel
theorem dX13_apply_209 : decode cX13_apply 209 = .ok (.iconst 4, 1) := by decide +kernel
theorem dX13_apply_210 : decode cX13_apply 210 = .ok (.if_icmp .ne 10, 3) := by decide +kernel
theorem dX13_apply_213 : decode cX13_apply 213 = .ok (.lload_n 3, 1) := by decide +kernel
theorem dX13_apply_214 : decode cX13_apply 214 = .ok (.lload 8, 2) := by decide +kernel
theorem dX13_apply_216 : decode cX13_apply 216 = .ok (.lsub, 1) := by decide +kernel
theorem dX13_apply_217 : decode cX13_apply 217 = .ok (.goto 7, 3) := by decide +kernel
theorem dX13_apply_220 : decode cX13_apply 220 = .ok (.lload_n 3, 1) := by decide +kernel
theorem dX13_apply_221 : decode cX13_apply 221 = .ok (.lload 8, 2) := by decide +kernel
theorem dX13_apply_223 : decode cX13_apply 223 = .ok (.ldiv, 1) := by decide +kernel
theorem dX13_apply_224 : decode cX13_apply 224 = .ok (.lastore, 1) := by decide +kernel
theorem dX13_apply_225 : decode cX13_apply 225 = .ok (.iinc 7 1, 3) := by decide +kernel
theorem dX13_apply_228 : decode cX13_apply 228 = .ok (.goto (-146), 3) := by decide +kernel
theorem dX13_apply_231 : decode cX13_apply 231 = .ok (.aload_n 0, 1) := by decide +kernel
theorem dX13_apply_232 : decode cX13_apply 232 = .ok (.aload 6, 2) := by decide +kernel
theorem dX13_apply_234 : decode cX13_apply 234 = .ok (.invokevirtual 154, 3) := by decide +kernel
theorem dX13_apply_237 : decode cX13_apply 237 = .ok (.ireturn, 1) := by decide +kernel
theorem dX13_filter_0 : decode cX13_filter 0 = .ok (.aload_n 0, 1) := by decide +kernel
theorem dX13_filter_1 : decode cX13_filter 1 = .ok (.invokevirtual 146, 3) := by decide +kernel
theorem dX13_filter_4 : decode cX13_filter 4 = .ok (.ifCond .eq 5, 3) := by decide +kernel
theorem dX13_filter_7 : decode cX13_filter 7 = .ok (.iconst 0, 1) := by decide +kernel
theorem dX13_filter_8 : decode cX13_filter 8 = .ok (.ireturn, 1) := by decide +kernel
theorem dX13_filter_9 : decode cX13_filter 9 = .ok (.aload_n 0, 1) := by decide +kernel
theorem dX13_filter_10 : decode cX13_filter 10 = .ok (.aload_n 0, 1) := by decide +kernel
theorem dX13_filter_11 : decode cX13_filter 11 = .ok (.iload_n 1, 1) := by decide +kernel
theorem dX13_filter_12 : decode cX13_filter 12 = .ok (.invokevirtual 158, 3) := by decide +kernel
theorem dX13_filter_15 : decode cX13_filter 15 = .ok (.ifCond .ne 12, 3) := by decide +kernel
theorem dX13_filter_18 : decode cX13_filter 18 = .ok (.iload_n 2, 1) := by decide +kernel
theorem dX13_filter_19 : decode cX13_filter 19 = .ok (.ifCond .lt 8, 3) := by decide +kernel
theorem dX13_filter_22 : decode cX13_filter 22 = .ok (.iload_n 2, 1) := by decide +kernel
theorem dX13_filter_23 : decode cX13_filter 23 = .ok (.iconst 3, 1) := by decide +kernel
theorem dX13_filter_24 : decode cX13_filter 24 = .ok (.if_icmp .le 7, 3) := by decide +kernel
theorem dX13_filter_27 : decode cX13_filter 27 = .ok (.iconst 1, 1) := by decide +kernel
theorem dX13_filter_28 : decode cX13_filter 28 = .ok (.goto 4, 3) := by decide +kernel
theorem dX13_filter_31 : decode cX13_filter 31 = .ok (.iconst 0, 1) := by decide +kernel
theorem dX13_filter_32 : decode cX13_filter 32 = .ok (.iconst 1, 1) := by decide +kernel
theorem dX13_filter_33 : decode cX13_filter 33 = .ok (.invokevirtual 36, 3) := by decide +kernel
theorem dX13_filter_36 : decode cX13_filter 36 = .ok (.ifCond .eq 5, 3) := by decide +kernel
theorem dX13_filter_39 : decode cX13_filter 39 = .ok (.iconst 0, 1) := by decide +kernel
theorem dX13_filter_40 : decode cX13_filter 40 = .ok (.ireturn, 1) := by decide +kernel
theorem dX13_filter_41 : decode cX13_filter 41 = .ok (.aload_n 0, 1) := by decide +kernel
theorem dX13_filter_42 : decode cX13_filter 42 = .ok (.getfield 15, 3) := by decide +kernel
theorem dX13_filter_45 : decode cX13_filter 45 = .ok (.iload_n 1, 1) := by decide +kernel
theorem dX13_filter_46 : decode cX13_filter 46 = .ok (.aaload, 1) := by decide +kernel
theorem dX13_filter_47 : decode cX13_filter 47 = .ok (.astore 5, 2) := by decide +kernel
theorem dX13_filter_49 : decode cX13_filter 49 = .ok (.aload 5, 2) := by decide +kernel
theorem dX13_filter_51 : decode cX13_filter 51 = .ok (.aload 5, 2) := by decide +kernel
theorem dX13_filter_53 : decode cX13_filter 53 = .ok (.getfield 141, 3) := by decide +kernel
theorem dX13_filter_56 : decode cX13_filter 56 = .ok (.iconst 1, 1) := by decide +kernel
theorem dX13_filter_57 : decode cX13_filter 57 = .ok (.iadd, 1) := by decide +kernel
theorem dX13_filter_58 : decode cX13_filter 58 = .ok (.invokestatic 150, 3) := by decide +kernel
theorem dX13_filter_61 : decode cX13_filter 61 = .ok (.astore 6, 2) := by decide +kernel
theorem dX13_filter_63 : decode cX13_filter 63 = .ok (.aload_n 0, 1) := by decide +kernel
theorem dX13_filter_64 : decode cX13_filter 64 = .ok (.aload 6, 2) := by decide +kernel
theorem dX13_filter_66 : decode cX13_filter 66 = .ok (.invokevirtual 167, 3) := by decide +kernel
theorem dX13_filter_69 : decode cX13_filter 69 = .ok (.ifCond .eq 5, 3) := by decide +kernel
theorem dX13_filter_72 : decode cX13_filter 72 = .ok (.iconst 0, 1) := by decide +kernel
theorem dX13_filter_73 : decode cX13_filter 73 = .ok (.ireturn, 1) := by decide +kernel
theorem dX13_filter_74 : decode cX13_filter 74 = .ok (.aload 6, 2) := by decide +kernel
theorem dX13_filter_76 : decode cX13_filter 76 = .ok (.invokevirtual 58, 3) := by decide +kernel
theorem dX13_filter_79 : decode cX13_filter 79 = .ok (.iconst 0, 1) := by decide +kernel
theorem dX13_filter_80 : decode cX13_filter 80 = .ok (.istore 7, 2) := by decide +kernel
theorem dX13_filter_82 : decode cX13_filter 82 = .ok (.iload 7, 2) := by decide +kernel
theorem dX13_filter_84 : decode cX13_filter 84 = .ok (.aload 6, 2) := by decide +kernel
theorem dX13_filter_86 : decode cX13_filter 86 = .ok (.getfield 74, 3) := by decide +kernel
theorem dX13_filter_89 : decode cX13_filter 89 = .ok (.arraylength, 1) := by decide +kernel
theorem dX13_filter_90 : decode cX13_filter 90 = .ok (.if_icmp .ge 104, 3) := by decide +kernel
theorem dX13_filter_93 : decode cX13_filter 93 = .ok (.aload 5, 2) := by decide +kernel
theorem dX13_filter_95 : decode cX13_filter 95 = .ok (.getfield 74, 3) := by decide +kernel
theorem dX13_filter_98 : decode cX13_filter 98 = .ok (.iload 7, 2) := by decide +kernel
theorem dX13_filter_100 : decode cX13_filter 100 = .ok (.laload, 1) := by decide +kernel
theorem dX13_filter_101 : decode cX13_filter 101 = .ok (.lstore 8, 2) := by decide +kernel
theorem dX13_filter_103 : decode cX13_filter 103 = .ok (.aload 6, 2) := by decide +kernel
theorem dX13_filter_105 : decode cX13_filter 105 = .ok (.getfield 78, 3) := by decide +kernel
theorem dX13_filter_108 : decode cX13_filter 108 = .ok (.iload 7, 2) := by decide +kernel
theorem dX13_filter_110 : decode cX13_filter 110 = .ok (.aload 5, 2) := by decide +kernel
theorem dX13_filter_112 : decode cX13_filter 112 = .ok (.getfield 78, 3) := by decide +kernel
theorem dX13_filter_115 : decode cX13_filter 115 = .ok (.iload 7, 2) := by decide +kernel
theorem dX13_filter_117 : decode cX13_filter 117 = .ok (.baload, 1) := by decide +kernel
theorem dX13_filter_118 : decode cX13_filter 118 = .ok (.ifCond .eq 58, 3) := by decide +kernel
theorem dX13_filter_121 : decode cX13_filter 121 = .ok (.iload_n 2, 1) := by decide +kernel
theorem dX13_filter_122 : decode cX13_filter 122 = .ok (.ifCond .ne 13, 3) := by decide +kernel
theorem dX13_filter_125 : decode cX13_filter 125 = .ok (.lload 8, 2) := by decide +kernel
theorem dX13_filter_127 : decode cX13_filter 127 = .ok (.lload_n 3, 1) := by decide +kernel
theorem dX13_filter_128 : decode cX13_filter 128 = .ok (.lcmp, 1) := by decide +kernel
theorem dX13_filter_129 : decode cX13_filter 129 = .ok (.ifCond .ne 47, 3) := by decide +kernel
theorem dX13_filter_132 : decode cX13_filter 132 = .ok (.goto 40, 3) := by decide +kernel
theorem dX13_filter_135 : decode cX13_filter 135 = .ok (.iload_n 2, 1) := by decide +kernel
theorem dX13_filter_136 : decode cX13_filter 136 = .ok (.iconst 1, 1) := by decide +kernel
theorem dX13_filter_137 : decode cX13_filter 137 = .ok (.if_icmp .ne 13, 3) := by decide +kernel
theorem dX13_filter_140 : decode cX13_filter 140 = .ok (.lload 8, 2) := by decide +kernel
theorem dX13_filter_142 : decode cX13_filter 142 = .ok (.lload_n 3, 1) := by decide +kernel
theorem dX13_filter_143 : decode cX13_filter 143 = .ok (.lcmp, 1) := by decide +kernel
theorem dX13_filter_144 : decode cX13_filter 144 = .ok (.ifCond .eq 32, 3) := by decide +kernel
theorem dX13_filter_147 : decode cX13_filter 147 = .ok (.goto 25, 3) := by decide +kernel
theorem dX13_filter_150 : decode cX13_filter 150 = .ok (.iload_n 2, 1) := by decide +kernel
theorem dX13_filter_151 : decode cX13_filter 151 = .ok (.iconst 2, 1) := by decide +kernel
theorem dX13_filter_152 : decode cX13_filter 152 = .ok (.if_icmp .ne 13, 3) := by decide +kernel
theorem dX13_filter_155 : decode cX13_filter 155 = .ok (.lload 8, 2) := by decide +kernel
theorem dX13_filter_157 : decode cX13_filter 157 = .ok (.lload_n 3, 1) := by decide +kernel
theorem dX13_filter_158 : decode cX13_filter 158 = .ok (.lcmp, 1) := by decide +kernel
theorem dX13_filter_159 : decode cX13_filter 159 = .ok (.ifCond .ge 17, 3) := by decide +kernel
theorem dX13_filter_162 : decode cX13_filter 162 = .ok (.goto 10, 3) := by decide +kernel
theorem dX13_filter_165 : decode cX13_filter 165 = .ok (.lload 8, 2) := by decide +kernel
theorem dX13_filter_167 : decode cX13_filter 167 = .ok (.lload_n 3, 1) := by decide +kernel
theorem dX13_filter_168 : decode cX13_filter 168 = .ok (.lcmp, 1) := by decide +kernel
theorem dX13_filter_169 : decode cX13_filter 169 = .ok (.ifCond .lt 7, 3) := by decide +kernel
theorem dX13_filter_172 : decode cX13_filter 172 = .ok (.iconst 1, 1) := by decide +kernel
theorem dX13_filter_173 : decode cX13_filter 173 = .ok (.goto 4, 3) := by decide +kernel
theorem dX13_filter_176 : decode cX13_filter 176 = .ok (.iconst 0, 1) := by decide +kernel
theorem dX13_filter_177 : decode cX13_filter 177 = .ok (.bastore, 1) := by decide +kernel
theorem dX13_filter_178 : decode cX13_filter 178 = .ok (.aload 6, 2) := by decide +kernel
theorem dX13_filter_180 : decode cX13_filter 180 = .ok (.getfield 74, 3) := by decide +kernel
theorem dX13_filter_183 : decode cX13_filter 183 = .ok (.iload 7, 2) := by decide +kernel
theorem dX13_filter_185 : decode cX13_filter 185 = .ok (.lload 8, 2) := by decide +kernel
theorem dX13_filter_187 : decode cX13_filter 187 = .ok (.lastore, 1) := by decide +kernel
theorem dX13_filter_188 : decode cX13_filter 188 = .ok (.iinc 7 1, 3) := by decide +kernel
theorem dX13_filter_191 : decode cX13_filter 191 = .ok (.goto (-109), 3) := by decide +kernel
theorem dX13_filter_194 : decode cX13_filter 194 = .ok (.aload_n 0, 1) := by decide +kernel
theorem dX13_filter_195 : decode cX13_filter 195 = .ok (.aload 6, 2) := by decide +kernel
theorem dX13_filter_197 : decode cX13_filter 197 = .ok (.invokevirtual 154, 3) := by decide +kernel
theorem dX13_filter_200 : decode cX13_filter 200 = .ok (.ireturn, 1) := by decide +kernel
theorem dX13_join_0 : decode cX13_join 0 = .ok (.aload_n 0, 1) := by decide +kernel
theorem dX13_join_1 : decode cX13_join 1 = .ok (.invokevirtual 146, 3) := by decide +kernel
theorem dX13_join_4 : decode cX13_join 4 = .ok (.ifCond .eq 5, 3) := by decide +kernel
theorem dX13_join_7 : decode cX13_join 7 = .ok (.iconst 0, 1) := by decide +kernel
theorem dX13_join_8 : decode cX13_join 8 = .ok (.ireturn, 1) := by decide +kernel
theorem dX13_join_9 : decode cX13_join 9 = .ok (.aload_n 0, 1) := by decide +kernel
theorem dX13_join_10 : decode cX13_join 10 = .ok (.aload_n 0, 1) := by decide +kernel
theorem dX13_join_11 : decode cX13_join 11 = .ok (.iload_n 1, 1) := by decide +kernel
theorem dX13_join_12 : decode cX13_join 12 = .ok (.invokevirtual 158, 3) := by decide +kernel
theorem dX13_join_15 : decode cX13_join 15 = .ok (.ifCond .ne 41, 3) := by decide +kernel
theorem dX13_join_18 : decode cX13_join 18 = .ok (.aload_n 0, 1) := by decide +kernel
theorem dX13_join_19 : decode cX13_join 19 = .ok (.iload_n 2, 1) := by decide +kernel
theorem dX13_join_20 : decode cX13_join 20 = .ok (.invokevirtual 158, 3) := by decide +kernel
theorem dX13_join_23 : decode cX13_join 23 = .ok (.ifCond .ne 33, 3) := by decide +kernel
theorem dX13_join_26 : decode cX13_join 26 = .ok (.iload_n 3, 1) := by decide +kernel
theorem dX13_join_27 : decode cX13_join 27 = .ok (.ifCond .lt 29, 3) := by decide +kernel
theorem dX13_join_30 : decode cX13_join 30 = .ok (.iload_n 3, 1) := by decide +kernel
theorem dX13_join_31 : decode cX13_join 31 = .ok (.iconst 5, 1) := by decide +kernel
theorem dX13_join_32 : decode cX13_join 32 = .ok (.if_icmp .gt 24, 3) := by decide +kernel
theorem dX13_join_35 : decode cX13_join 35 = .ok (.aload_n 0, 1) := by decide +kernel
theorem dX13_join_36 : decode cX13_join 36 = .ok (.getfield 15, 3) := by decide +kernel
theorem dX13_join_39 : decode cX13_join 39 = .ok (.iload_n 1, 1) := by decide +kernel
theorem dX13_join_40 : decode cX13_join 40 = .ok (.aaload, 1) := by decide +kernel
theorem dX13_join_41 : decode cX13_join 41 = .ok (.getfield 49, 3) := by decide +kernel
theorem dX13_join_44 : decode cX13_join 44 = .ok (.aload_n 0, 1) := by decide +kernel
theorem dX13_join_45 : decode cX13_join 45 = .ok (.getfield 15, 3) := by decide +kernel
theorem dX13_join_48 : decode cX13_join 48 = .ok (.iload_n 2, 1) := by decide +kernel
theorem dX13_join_49 : decode cX13_join 49 = .ok (.aaload, 1) := by decide +kernel
theorem dX13_join_50 : decode cX13_join 50 = .ok (.getfield 49, 3) := by decide +kernel
theorem dX13_join_53 : decode cX13_join 53 = .ok (.if_icmp .eq 7, 3) := by decide +kernel
theorem dX13_join_56 : decode cX13_join 56 = .ok (.iconst 1, 1) := by decide +kernel
theorem dX13_join_57 : decode cX13_join 57 = .ok (.goto 4, 3) := by decide +kernel
theorem dX13_join_60 : decode cX13_join 60 = .ok (.iconst 0, 1) := by decide +kernel
theorem dX13_join_61 : decode cX13_join 61 = .ok (.iconst 1, 1) := by decide +kernel
theorem dX13_join_62 : decode cX13_join 62 = .ok (.invokevirtual 36, 3) := by decide +kernel
theorem dX13_join_65 : decode cX13_join 65 = .ok (.ifCond .eq 5, 3) := by decide +kernel
theorem dX13_join_68 : decode cX13_join 68 = .ok (.iconst 0, 1) := by decide +kernel
theorem dX13_join_69 : decode cX13_join 69 = .ok (.ireturn, 1) := by decide +kernel
theorem dX13_join_70 : decode cX13_join 70 = .ok (.aload_n 0, 1) := by decide +kernel
theorem dX13_join_71 : decode cX13_join 71 = .ok (.getfield 15, 3) := by decide +kernel
theorem dX13_join_74 : decode cX13_join 74 = .ok (.iload_n 1, 1) := by decide +kernel
theorem dX13_join_75 : decode cX13_join 75 = .ok (.aaload, 1) := by decide +kernel
theorem dX13_join_76 : decode cX13_join 76 = .ok (.astore 4, 2) := by decide +kernel
theorem dX13_join_78 : decode cX13_join 78 = .ok (.aload_n 0, 1) := by decide +kernel
theorem dX13_join_79 : decode cX13_join 79 = .ok (.getfield 15, 3) := by decide +kernel
theorem dX13_join_82 : decode cX13_join 82 = .ok (.iload_n 2, 1) := by decide +kernel
theorem dX13_join_83 : decode cX13_join 83 = .ok (.aaload, 1) := by decide +kernel
theorem dX13_join_84 : decode cX13_join 84 = .ok (.astore 5, 2) := by decide +kernel
theorem dX13_join_86 : decode cX13_join 86 = .ok (.aload 4, 2) := by decide +kernel
theorem dX13_join_88 : decode cX13_join 88 = .ok (.iconst 1, 1) := by decide +kernel
theorem dX13_join_89 : decode cX13_join 89 = .ok (.aload 4, 2) := by decide +kernel
theorem dX13_join_91 : decode cX13_join 91 = .ok (.getfield 141, 3) := by decide +kernel
theorem dX13_join_94 : decode cX13_join 94 = .ok (.aload 5, 2) := by decide +kernel
theorem dX13_join_96 : decode cX13_join 96 = .ok (.getfield 141, 3) := by decide +kernel
theorem dX13_join_99 : decode cX13_join 99 = .ok (.invokestatic 182, 3) := by decide +kernel
theorem dX13_join_102 : decode cX13_join 102 = .ok (.iadd, 1) := by decide +kernel
theorem dX13_join_103 : decode cX13_join 103 = .ok (.invokestatic 150, 3) := by decide +kernel
theorem dX13_join_106 : decode cX13_join 106 = .ok (.astore 6, 2) := by decide +kernel
theorem dX13_join_108 : decode cX13_join 108 = .ok (.iconst 1, 1) := by decide +kernel
theorem dX13_join_109 : decode cX13_join 109 = .ok (.istore 7, 2) := by decide +kernel
theorem dX13_join_111 : decode cX13_join 111 = .ok (.iconst 0, 1) := by decide +kernel
theorem dX13_join_112 : decode cX13_join 112 = .ok (.istore 8, 2) := by decide +kernel
theorem dX13_join_114 : decode cX13_join 114 = .ok (.iload 8, 2) := by decide +kernel
theorem dX13_join_116 : decode cX13_join 116 = .ok (.iconst 3, 1) := by decide +kernel
theorem dX13_join_117 : decode cX13_join 117 = .ok (.if_icmp .ge 85, 3) := by decide +kernel
theorem dX13_join_120 : decode cX13_join 120 = .ok (.aload 6, 2) := by decide +kernel
theorem dX13_join_122 : decode cX13_join 122 = .ok (.getfield 52, 3) := by decide +kernel
theorem dX13_join_125 : decode cX13_join 125 = .ok (.iload 8, 2) := by decide +kernel
theorem dX13_join_127 : decode cX13_join 127 = .ok (.aload 4, 2) := by decide +kernel
theorem dX13_join_129 : decode cX13_join 129 = .ok (.getfield 52, 3) := by decide +kernel
theorem dX13_join_132 : decode cX13_join 132 = .ok (.iload 8, 2) := by decide +kernel
theorem dX13_join_134 : decode cX13_join 134 = .ok (.iaload, 1) := by decide +kernel
theorem dX13_join_135 : decode cX13_join 135 = .ok (.aload 5, 2) := by decide +kernel
theorem dX13_join_137 : decode cX13_join 137 = .ok (.getfield 52, 3) := by decide +kernel
theorem dX13_join_140 : decode cX13_join 140 = .ok (.iload 8, 2) := by decide +kernel
theorem dX13_join_142 : decode cX13_join 142 = .ok (.iaload, 1) := by decide +kernel
theorem dX13_join_143 : decode cX13_join 143 = .ok (.invokestatic 182, 3) := by decide +kernel
theorem dX13_join_146 : decode cX13_join 146 = .ok (.iastore, 1) := by decide +kernel
theorem dX13_join_147 : decode cX13_join 147 = .ok (.aload 6, 2) := by decide +kernel
theorem dX13_join_149 : decode cX13_join 149 = .ok (.getfield 55, 3) := by decide +kernel
theorem dX13_join_152 : decode cX13_join 152 = .ok (.iload 8, 2) := by decide +kernel
theorem dX13_join_154 : decode cX13_join 154 = .ok (.aload 4, 2) := by decide +kernel
theorem dX13_join_156 : decode cX13_join 156 = .ok (.getfield 55, 3) := by decide +kernel
theorem dX13_join_159 : decode cX13_join 159 = .ok (.iload 8, 2) := by decide +kernel
theorem dX13_join_161 : decode cX13_join 161 = .ok (.iaload, 1) := by decide +kernel
theorem dX13_join_162 : decode cX13_join 162 = .ok (.aload 5, 2) := by decide +kernel
theorem dX13_join_164 : decode cX13_join 164 = .ok (.getfield 55, 3) := by decide +kernel
theorem dX13_join_167 : decode cX13_join 167 = .ok (.iload 8, 2) := by decide +kernel
theorem dX13_join_169 : decode cX13_join 169 = .ok (.iaload, 1) := by decide +kernel
theorem dX13_join_170 : decode cX13_join 170 = .ok (.invokestatic 128, 3) := by decide +kernel
theorem dX13_join_173 : decode cX13_join 173 = .ok (.iastore, 1) := by decide +kernel
theorem dX13_join_174 : decode cX13_join 174 = .ok (.aload 6, 2) := by decide +kernel
theorem dX13_join_176 : decode cX13_join 176 = .ok (.getfield 52, 3) := by decide +kernel
theorem dX13_join_179 : decode cX13_join 179 = .ok (.iload 8, 2) := by decide +kernel
theorem dX13_join_181 : decode cX13_join 181 = .ok (.iaload, 1) := by decide +kernel
theorem dX13_join_182 : decode cX13_join 182 = .ok (.aload 6, 2) := by decide +kernel
theorem dX13_join_184 : decode cX13_join 184 = .ok (.getfield 55, 3) := by decide +kernel
theorem dX13_join_187 : decode cX13_join 187 = .ok (.iload 8, 2) := by decide +kernel
theorem dX13_join_189 : decode cX13_join 189 = .ok (.iaload, 1) := by decide +kernel
theorem dX13_join_190 : decode cX13_join 190 = .ok (.if_icmp .le 6, 3) := by decide +kernel
theorem dX13_join_193 : decode cX13_join 193 = .ok (.iconst 0, 1) := by decide +kernel
theorem dX13_join_194 : decode cX13_join 194 = .ok (.istore 7, 2) := by decide +kernel
theorem dX13_join_196 : decode cX13_join 196 = .ok (.iinc 8 1, 3) := by decide +kernel
theorem dX13_join_199 : decode cX13_join 199 = .ok (.goto (-85), 3) := by decide +kernel
theorem dX13_join_202 : decode cX13_join 202 = .ok (.aload_n 0, 1) := by decide +kernel
theorem dX13_join_203 : decode cX13_join 203 = .ok (.iload 7, 2) := by decide +kernel
theorem dX13_join_205 : decode cX13_join 205 = .ok (.ifCond .ne 7, 3) := by decide +kernel
theorem dX13_join_208 : decode cX13_join 208 = .ok (.iconst 1, 1) := by decide +kernel
theorem dX13_join_209 : decode cX13_join 209 = .ok (.goto 4, 3) := by decide +kernel
theorem dX13_join_212 : decode cX13_join 212 = .ok (.iconst 0, 1) := by decide +kernel
theorem dX13_join_213 : decode cX13_join 213 = .ok (.iconst 1, 1) := by decide +kernel
theorem dX13_join_214 : decode cX13_join 214 = .ok (.invokevirtual 36, 3) := by decide +kernel
theorem dX13_join_217 : decode cX13_join 217 = .ok (.ifCond .eq 5, 3) := by decide +kernel
theorem dX13_join_220 : decode cX13_join 220 = .ok (.iconst 0, 1) := by decide +kernel
theorem dX13_join_221 : decode cX13_join 221 = .ok (.ireturn, 1) := by decide +kernel
theorem dX13_join_222 : decode cX13_join 222 = .ok (.aload_n 0, 1) := by decide +kernel
theorem dX13_join_223 : decode cX13_join 223 = .ok (.aload 6, 2) := by decide +kernel
theorem dX13_join_225 : decode cX13_join 225 = .ok (.invokevirtual 167, 3) := by decide +kernel
theorem dX13_join_228 : decode cX13_join 228 = .ok (.ifCond .eq 5, 3) := by decide +kernel
theorem dX13_join_231 : decode cX13_join 231 = .ok (.iconst 0, 1) := by decide +kernel
theorem dX13_join_232 : decode cX13_join 232 = .ok (.ireturn, 1) := by decide +kernel
theorem dX13_join_233 : decode cX13_join 233 = .ok (.aload 6, 2) := by decide +kernel
theorem dX13_join_235 : decode cX13_join 235 = .ok (.invokevirtual 58, 3) := by decide +kernel
theorem dX13_join_238 : decode cX13_join 238 = .ok (.aload 6, 2) := by decide +kernel
theorem dX13_join_240 : decode cX13_join 240 = .ok (.getfield 52, 3) := by decide +kernel
theorem dX13_join_243 : decode cX13_join 243 = .ok (.iconst 0, 1) := by decide +kernel
theorem dX13_join_244 : decode cX13_join 244 = .ok (.iaload, 1) := by decide +kernel
theorem dX13_join_245 : decode cX13_join 245 = .ok (.istore 8, 2) := by decide +kernel
theorem dX13_join_247 : decode cX13_join 247 = .ok (.iload 8, 2) := by decide +kernel
theorem dX13_join_249 : decode cX13_join 249 = .ok (.aload 6, 2) := by decide +kernel
theorem dX13_join_251 : decode cX13_join 251 = .ok (.getfield 55, 3) := by decide +kernel
theorem dX13_join_254 : decode cX13_join 254 = .ok (.iconst 0, 1) := by decide +kernel
theorem dX13_join_255 : decode cX13_join 255 = .ok (.iaload, 1) := by decide +kernel
theorem dX13_join_256 : decode cX13_join 256 = .ok (.if_icmp .gt 234, 3) := by decide +kernel
theorem dX13_join_259 : decode cX13_join 259 = .ok (.aload 6, 2) := by decide +kernel
theorem dX13_join_261 : decode cX13_join 261 = .ok (.getfield 52, 3) := by decide +kernel
theorem dX13_join_264 : decode cX13_join 264 = .ok (.iconst 1, 1) := by decide +kernel
theorem dX13_join_265 : decode cX13_join 265 = .ok (.iaload, 1) := by decide +kernel
theorem dX13_join_266 : decode cX13_join 266 = .ok (.istore 9, 2) := by decide +kernel
theorem dX13_join_268 : decode cX13_join 268 = .ok (.iload 9, 2) := by decide +kernel
theorem dX13_join_270 : decode cX13_join 270 = .ok (.aload 6, 2) := by decide +kernel
theorem dX13_join_272 : decode cX13_join 272 = .ok (.getfield 55, 3) := by decide +kernel
theorem dX13_join_275 : decode cX13_join 275 = .ok (.iconst 1, 1) := by decide +kernel
theorem dX13_join_276 : decode cX13_join 276 = .ok (.iaload, 1) := by decide +kernel
theorem dX13_join_277 : decode cX13_join 277 = .ok (.if_icmp .gt 207, 3) := by decide +kernel
theorem dX13_join_280 : decode cX13_join 280 = .ok (.aload 6, 2) := by decide +kernel
theorem dX13_join_282 : decode cX13_join 282 = .ok (.getfield 52, 3) := by decide +kernel
theorem dX13_join_285 : decode cX13_join 285 = .ok (.iconst 2, 1) := by decide +kernel
theorem dX13_join_286 : decode cX13_join 286 = .ok (.iaload, 1) := by decide +kernel
theorem dX13_join_287 : decode cX13_join 287 = .ok (.istore 10, 2) := by decide +kernel
theorem dX13_join_289 : decode cX13_join 289 = .ok (.iload 10, 2) := by decide +kernel
theorem dX13_join_291 : decode cX13_join 291 = .ok (.aload 6, 2) := by decide +kernel
theorem dX13_join_293 : decode cX13_join 293 = .ok (.getfield 55, 3) := by decide +kernel
theorem dX13_join_296 : decode cX13_join 296 = .ok (.iconst 2, 1) := by decide +kernel
theorem dX13_join_297 : decode cX13_join 297 = .ok (.iaload, 1) := by decide +kernel
theorem dX13_join_298 : decode cX13_join 298 = .ok (.if_icmp .gt 180, 3) := by decide +kernel
theorem dX13_join_301 : decode cX13_join 301 = .ok (.aload 4, 2) := by decide +kernel
theorem dX13_join_303 : decode cX13_join 303 = .ok (.iload 8, 2) := by decide +kernel
theorem dX13_join_305 : decode cX13_join 305 = .ok (.iload 9, 2) := by decide +kernel
theorem dX13_join_307 : decode cX13_join 307 = .ok (.iload 10, 2) := by decide +kernel
theorem dX13_join_309 : decode cX13_join 309 = .ok (.invokevirtual 86, 3) := by decide +kernel
theorem dX13_join_312 : decode cX13_join 312 = .ok (.istore 11, 2) := by decide +kernel
theorem dX13_join_314 : decode cX13_join 314 = .ok (.aload 5, 2) := by decide +kernel
theorem dX13_join_316 : decode cX13_join 316 = .ok (.iload 8, 2) := by decide +kernel
theorem dX13_join_318 : decode cX13_join 318 = .ok (.iload 9, 2) := by decide +kernel
theorem dX13_join_320 : decode cX13_join 320 = .ok (.iload 10, 2) := by decide +kernel
theorem dX13_join_322 : decode cX13_join 322 = .ok (.invokevirtual 86, 3) := by decide +kernel
theorem dX13_join_325 : decode cX13_join 325 = .ok (.istore 12, 2) := by decide +kernel
theorem dX13_join_327 : decode cX13_join 327 = .ok (.aload 6, 2) := by decide +kernel
theorem dX13_join_329 : decode cX13_join 329 = .ok (.iload 8, 2) := by decide +kernel
theorem dX13_join_331 : decode cX13_join 331 = .ok (.iload 9, 2) := by decide +kernel
theorem dX13_join_333 : decode cX13_join 333 = .ok (.iload 10, 2) := by decide +kernel
theorem dX13_join_335 : decode cX13_join 335 = .ok (.invokevirtual 86, 3) := by decide +kernel
theorem dX13_join_338 : decode cX13_join 338 = .ok (.istore 13, 2) := by decide +kernel
theorem dX13_join_340 : decode cX13_join 340 = .ok (.aload 4, 2) := by decide +kernel
theorem dX13_join_342 : decode cX13_join 342 = .ok (.getfield 78, 3) := by decide +kernel
theorem dX13_join_345 : decode cX13_join 345 = .ok (.iload 11, 2) := by decide +kernel
theorem dX13_join_347 : decode cX13_join 347 = .ok (.baload, 1) := by decide +kernel
theorem dX13_join_348 : decode cX13_join 348 = .ok (.ifCond .eq 124, 3) := by decide +kernel
theorem dX13_join_351 : decode cX13_join 351 = .ok (.aload 5, 2) := by decide +kernel
theorem dX13_join_353 : decode cX13_join 353 = .ok (.getfield 78, 3) := by decide +kernel
theorem dX13_join_356 : decode cX13_join 356 = .ok (.iload 12, 2) := by decide +kernel
theorem dX13_join_358 : decode cX13_join 358 = .ok (.baload, 1) := by decide +kernel
theorem dX13_join_359 : decode cX13_join 359 = .ok (.ifCond .ne 6, 3) := by decide +kernel
theorem dX13_join_362 : decode cX13_join 362 = .ok (.goto 110, 3) := by decide +kernel
theorem dX13_join_365 : decode cX13_join 365 = .ok (.aload 4, 2) := by decide +kernel
theorem dX13_join_367 : decode cX13_join 367 = .ok (.getfield 74, 3) := by decide +kernel
theorem dX13_join_370 : decode cX13_join 370 = .ok (.iload 11, 2) := by decide +kernel
theorem dX13_join_372 : decode cX13_join 372 = .ok (.laload, 1) := by decide +kernel
theorem dX13_join_373 : decode cX13_join 373 = .ok (.lstore 14, 2) := by decide +kernel
theorem dX13_join_375 : decode cX13_join 375 = .ok (.aload 5, 2) := by decide +kernel
theorem dX13_join_377 : decode cX13_join 377 = .ok (.getfield 74, 3) := by decide +kernel
theorem dX13_join_380 : decode cX13_join 380 = .ok (.iload 12, 2) := by decide +kernel
theorem dX13_join_382 : decode cX13_join 382 = .ok (.laload, 1) := by decide +kernel
theorem dX13_join_383 : decode cX13_join 383 = .ok (.lstore 16, 2) := by decide +kernel
theorem dX13_join_385 : decode cX13_join 385 = .ok (.aload 6, 2) := by decide +kernel
theorem dX13_join_387 : decode cX13_join 387 = .ok (.getfield 78, 3) := by decide +kernel
theorem dX13_join_390 : decode cX13_join 390 = .ok (.iload 13, 2) := by decide +kernel
theorem dX13_join_392 : decode cX13_join 392 = .ok (.iconst 1, 1) := by decide +kernel
theorem dX13_join_393 : decode cX13_join 393 = .ok (.bastore, 1) := by decide +kernel
theorem dX13_join_394 : decode cX13_join 394 = .ok (.aload 6, 2) := by decide +kernel
theorem dX13_join_396 : decode cX13_join 396 = .ok (.getfield 74, 3) := by decide +kernel
theorem dX13_join_399 : decode cX13_join 399 = .ok (.iload 13, 2) := by decide +kernel
theorem dX13_join_401 : decode cX13_join 401 = .ok (.iload_n 3, 1) := by decide +kernel
theorem dX13_join_402 : decode cX13_join 402 = .ok (.ifCond .ne 11, 3) := by decide +kernel
theorem dX13_join_405 : decode cX13_join 405 = .ok (.lload 14, 2) := by decide +kernel
theorem dX13_join_407 : decode cX13_join 407 = .ok (.lload 16, 2) := by decide +kernel
theorem dX13_join_409 : decode cX13_join 409 = .ok (.ladd, 1) := by decide +kernel
theorem dX13_join_410 : decode cX13_join 410 = .ok (.goto 61, 3) := by decide +kernel
theorem dX13_join_413 : decode cX13_join 413 = .ok (.iload_n 3, 1) := by decide +kernel
theorem dX13_join_414 : decode cX13_join 414 = .ok (.iconst 1, 1) := by decide +kernel
theorem dX13_join_415 : decode cX13_join 415 = .ok (.if_icmp .ne 11, 3) := by decide +kernel
theorem dX13_join_418 : decode cX13_join 418 = .ok (.lload 14, 2) := by decide +kernel
theorem dX13_join_420 : decode cX13_join 420 = .ok (.lload 16, 2) := by decide +kernel
theorem dX13_join_422 : decode cX13_join 422 = .ok (.lsub, 1) := by decide +kernel
theorem dX13_join_423 : decode cX13_join 423 = .ok (.goto 48, 3) := by decide +kernel
theorem dX13_join_426 : decode cX13_join 426 = .ok (.iload_n 3, 1) := by decide +kernel
theorem dX13_join_427 : decode cX13_join 427 = .ok (.iconst 2, 1) := by decide +kernel
theorem dX13_join_428 : decode cX13_join 428 = .ok (.if_icmp .ne 11, 3) := by decide +kernel
theorem dX13_join_431 : decode cX13_join 431 = .ok (.lload 14, 2) := by decide +kernel
theorem dX13_join_433 : decode cX13_join 433 = .ok (.lload 16, 2) := by decide +kernel
theorem dX13_join_435 : decode cX13_join 435 = .ok (.lmul, 1) := by decide +kernel
theorem dX13_join_436 : decode cX13_join 436 = .ok (.goto 35, 3) := by decide +kernel
theorem dX13_join_439 : decode cX13_join 439 = .ok (.iload_n 3, 1) := by decide +kernel
theorem dX13_join_440 : decode cX13_join 440 = .ok (.iconst 3, 1) := by decide +kernel
theorem dX13_join_441 : decode cX13_join 441 = .ok (.if_icmp .ne 13, 3) := by decide +kernel
theorem dX13_join_444 : decode cX13_join 444 = .ok (.lload 14, 2) := by decide +kernel
theorem dX13_join_446 : decode cX13_join 446 = .ok (.lload 16, 2) := by decide +kernel
theorem dX13_join_448 : decode cX13_join 448 = .ok (.invokestatic 185, 3) := by decide +kernel
theorem dX13_join_451 : decode cX13_join 451 = .ok (.goto 20, 3) := by decide +kernel
theorem dX13_join_454 : decode cX13_join 454 = .ok (.iload_n 3, 1) := by decide +kernel
theorem dX13_join_455 : decode cX13_join 455 = .ok (.iconst 4, 1) := by decide +kernel
theorem dX13_join_456 : decode cX13_join 456 = .ok (.if_icmp .ne 13, 3) := by decide +kernel
theorem dX13_join_459 : decode cX13_join 459 = .ok (.lload 14, 2) := by decide +kernel
theorem dX13_join_461 : decode cX13_join 461 = .ok (.lload 16, 2) := by decide +kernel
theorem dX13_join_463 : decode cX13_join 463 = .ok (.invokestatic 188, 3) := by decide +kernel
theorem dX13_join_466 : decode cX13_join 466 = .ok (.goto 5, 3) := by decide +kernel
theorem dX13_join_469 : decode cX13_join 469 = .ok (.lload 14, 2) := by decide +kernel
theorem dX13_join_471 : decode cX13_join 471 = .ok (.lastore, 1) := by decide +kernel
theorem dX13_join_472 : decode cX13_join 472 = .ok (.iinc 10 1, 3) := by decide +kernel
theorem dX13_join_475 : decode cX13_join 475 = .ok (.goto (-186), 3) := by decide +kernel
theorem dX13_join_478 : decode cX13_join 478 = .ok (.iinc 9 1, 3) := by decide +kernel
theorem dX13_join_481 : decode cX13_join 481 = .ok (.goto (-213), 3) := by decide +kernel
theorem dX13_join_484 : decode cX13_join 484 = .ok (.iinc 8 1, 3) := by decide +kernel
theorem dX13_join_487 : decode cX13_join 487 = .ok (.goto (-240), 3) := by decide +kernel
theorem dX13_join_490 : decode cX13_join 490 = .ok (.aload_n 0, 1) := by decide +kernel
theorem dX13_join_491 : decode cX13_join 491 = .ok (.aload 6, 2) := by decide +kernel
theorem dX13_join_493 : decode cX13_join 493 = .ok (.invokevirtual 154, 3) := by decide +kernel
theorem dX13_join_496 : decode cX13_join 496 = .ok (.ireturn, 1) := by decide +kernel
theorem dX13_swap_0 : decode cX13_swap 0 = .ok (.aload_n 0, 1) := by decide +kernel
theorem dX13_swap_1 : decode cX13_swap 1 = .ok (.invokevirtual 146, 3) := by decide +kernel
theorem dX13_swap_4 : decode cX13_swap 4 = .ok (.ifCond .eq 5, 3) := by decide +kernel
theorem dX13_swap_7 : decode cX13_swap 7 = .ok (.iconst 0, 1) := by decide +kernel
theorem dX13_swap_8 : decode cX13_swap 8 = .ok (.ireturn, 1) := by decide +kernel
theorem dX13_swap_9 : decode cX13_swap 9 = .ok (.aload_n 0, 1) := by decide +kernel
theorem dX13_swap_10 : decode cX13_swap 10 = .ok (.aload_n 0, 1) := by decide +kernel
theorem dX13_swap_11 : decode cX13_swap 11 = .ok (.iload_n 1, 1) := by decide +kernel
theorem dX13_swap_12 : decode cX13_swap 12 = .ok (.iload_n 2, 1) := by decide +kernel
theorem dX13_swap_13 : decode cX13_swap 13 = .ok (.invokevirtual 161, 3) := by decide +kernel
theorem dX13_swap_16 : decode cX13_swap 16 = .ok (.ifCond .ne 12, 3) := by decide +kernel
theorem dX13_swap_19 : decode cX13_swap 19 = .ok (.aload_n 0, 1) := by decide +kernel
theorem dX13_swap_20 : decode cX13_swap 20 = .ok (.iload_n 1, 1) := by decide +kernel
theorem dX13_swap_21 : decode cX13_swap 21 = .ok (.iload_n 3, 1) := by decide +kernel
theorem dX13_swap_22 : decode cX13_swap 22 = .ok (.invokevirtual 161, 3) := by decide +kernel
theorem dX13_swap_25 : decode cX13_swap 25 = .ok (.ifCond .eq 7, 3) := by decide +kernel
theorem dX13_swap_28 : decode cX13_swap 28 = .ok (.iconst 1, 1) := by decide +kernel
theorem dX13_swap_29 : decode cX13_swap 29 = .ok (.goto 4, 3) := by decide +kernel
theorem dX13_swap_32 : decode cX13_swap 32 = .ok (.iconst 0, 1) := by decide +kernel
theorem dX13_swap_33 : decode cX13_swap 33 = .ok (.iconst 1, 1) := by decide +kernel
theorem dX13_swap_34 : decode cX13_swap 34 = .ok (.invokevirtual 36, 3) := by decide +kernel
theorem dX13_swap_37 : decode cX13_swap 37 = .ok (.ifCond .eq 5, 3) := by decide +kernel
theorem dX13_swap_40 : decode cX13_swap 40 = .ok (.iconst 0, 1) := by decide +kernel
theorem dX13_swap_41 : decode cX13_swap 41 = .ok (.ireturn, 1) := by decide +kernel
theorem dX13_swap_42 : decode cX13_swap 42 = .ok (.aload_n 0, 1) := by decide +kernel
theorem dX13_swap_43 : decode cX13_swap 43 = .ok (.getfield 15, 3) := by decide +kernel
theorem dX13_swap_46 : decode cX13_swap 46 = .ok (.iload_n 1, 1) := by decide +kernel
theorem dX13_swap_47 : decode cX13_swap 47 = .ok (.aaload, 1) := by decide +kernel
theorem dX13_swap_48 : decode cX13_swap 48 = .ok (.astore 4, 2) := by decide +kernel
theorem dX13_swap_50 : decode cX13_swap 50 = .ok (.aload 4, 2) := by decide +kernel
theorem dX13_swap_52 : decode cX13_swap 52 = .ok (.aload 4, 2) := by decide +kernel
theorem dX13_swap_54 : decode cX13_swap 54 = .ok (.getfield 141, 3) := by decide +kernel
theorem dX13_swap_57 : decode cX13_swap 57 = .ok (.iconst 1, 1) := by decide +kernel
theorem dX13_swap_58 : decode cX13_swap 58 = .ok (.iadd, 1) := by decide +kernel
theorem dX13_swap_59 : decode cX13_swap 59 = .ok (.invokestatic 150, 3) := by decide +kernel
theorem dX13_swap_62 : decode cX13_swap 62 = .ok (.astore 5, 2) := by decide +kernel
theorem dX13_swap_64 : decode cX13_swap 64 = .ok (.aload 5, 2) := by decide +kernel
theorem dX13_swap_66 : decode cX13_swap 66 = .ok (.getfield 52, 3) := by decide +kernel
theorem dX13_swap_69 : decode cX13_swap 69 = .ok (.iload_n 2, 1) := by decide +kernel
theorem dX13_swap_70 : decode cX13_swap 70 = .ok (.aload 4, 2) := by decide +kernel
theorem dX13_swap_72 : decode cX13_swap 72 = .ok (.getfield 52, 3) := by decide +kernel
theorem dX13_swap_75 : decode cX13_swap 75 = .ok (.iload_n 3, 1) := by decide +kernel
theorem dX13_swap_76 : decode cX13_swap 76 = .ok (.iaload, 1) := by decide +kernel
theorem dX13_swap_77 : decode cX13_swap 77 = .ok (.iastore, 1) := by decide +kernel
theorem dX13_swap_78 : decode cX13_swap 78 = .ok (.aload 5, 2) := by decide +kernel
theorem dX13_swap_80 : decode cX13_swap 80 = .ok (.getfield 55, 3) := by decide +kernel
theorem dX13_swap_83 : decode cX13_swap 83 = .ok (.iload_n 2, 1) := by decide +kernel
theorem dX13_swap_84 : decode cX13_swap 84 = .ok (.aload 4, 2) := by decide +kernel
theorem dX13_swap_86 : decode cX13_swap 86 = .ok (.getfield 55, 3) := by decide +kernel
theorem dX13_swap_89 : decode cX13_swap 89 = .ok (.iload_n 3, 1) := by decide +kernel
theorem dX13_swap_90 : decode cX13_swap 90 = .ok (.iaload, 1) := by decide +kernel
theorem dX13_swap_91 : decode cX13_swap 91 = .ok (.iastore, 1) := by decide +kernel
theorem dX13_swap_92 : decode cX13_swap 92 = .ok (.aload 5, 2) := by decide +kernel
theorem dX13_swap_94 : decode cX13_swap 94 = .ok (.getfield 52, 3) := by decide +kernel
theorem dX13_swap_97 : decode cX13_swap 97 = .ok (.iload_n 3, 1) := by decide +kernel
theorem dX13_swap_98 : decode cX13_swap 98 = .ok (.aload 4, 2) := by decide +kernel
theorem dX13_swap_100 : decode cX13_swap 100 = .ok (.getfield 52, 3) := by decide +kernel
theorem dX13_swap_103 : decode cX13_swap 103 = .ok (.iload_n 2, 1) := by decide +kernel
theorem dX13_swap_104 : decode cX13_swap 104 = .ok (.iaload, 1) := by decide +kernel
theorem dX13_swap_105 : decode cX13_swap 105 = .ok (.iastore, 1) := by decide +kernel
theorem dX13_swap_106 : decode cX13_swap 106 = .ok (.aload 5, 2) := by decide +kernel
theorem dX13_swap_108 : decode cX13_swap 108 = .ok (.getfield 55, 3) := by decide +kernel
theorem dX13_swap_111 : decode cX13_swap 111 = .ok (.iload_n 3, 1) := by decide +kernel
theorem dX13_swap_112 : decode cX13_swap 112 = .ok (.aload 4, 2) := by decide +kernel
theorem dX13_swap_114 : decode cX13_swap 114 = .ok (.getfield 55, 3) := by decide +kernel
theorem dX13_swap_117 : decode cX13_swap 117 = .ok (.iload_n 2, 1) := by decide +kernel
theorem dX13_swap_118 : decode cX13_swap 118 = .ok (.iaload, 1) := by decide +kernel
theorem dX13_swap_119 : decode cX13_swap 119 = .ok (.iastore, 1) := by decide +kernel
theorem dX13_swap_120 : decode cX13_swap 120 = .ok (.aload_n 0, 1) := by decide +kernel
theorem dX13_swap_121 : decode cX13_swap 121 = .ok (.aload 5, 2) := by decide +kernel
theorem dX13_swap_123 : decode cX13_swap 123 = .ok (.invokevirtual 167, 3) := by decide +kernel
theorem dX13_swap_126 : decode cX13_swap 126 = .ok (.ifCond .eq 5, 3) := by decide +kernel
theorem dX13_swap_129 : decode cX13_swap 129 = .ok (.iconst 0, 1) := by decide +kernel
theorem dX13_swap_130 : decode cX13_swap 130 = .ok (.ireturn, 1) := by decide +kernel
theorem dX13_swap_131 : decode cX13_swap 131 = .ok (.aload 5, 2) := by decide +kernel
theorem dX13_swap_133 : decode cX13_swap 133 = .ok (.invokevirtual 58, 3) := by decide +kernel
theorem dX13_swap_136 : decode cX13_swap 136 = .ok (.aload 5, 2) := by decide +kernel
theorem dX13_swap_138 : decode cX13_swap 138 = .ok (.getfield 52, 3) := by decide +kernel
theorem dX13_swap_141 : decode cX13_swap 141 = .ok (.iconst 0, 1) := by decide +kernel
theorem dX13_swap_142 : decode cX13_swap 142 = .ok (.iaload, 1) := by decide +kernel
theorem dX13_swap_143 : decode cX13_swap 143 = .ok (.istore 6, 2) := by decide +kernel
theorem dX13_swap_145 : decode cX13_swap 145 = .ok (.iload 6, 2) := by decide +kernel
theorem dX13_swap_147 : decode cX13_swap 147 = .ok (.aload 5, 2) := by decide +kernel
theorem dX13_swap_149 : decode cX13_swap 149 = .ok (.getfield 55, 3) := by decide +kernel
theorem dX13_swap_152 : decode cX13_swap 152 = .ok (.iconst 0, 1) := by decide +kernel
theorem dX13_swap_153 : decode cX13_swap 153 = .ok (.iaload, 1) := by decide +kernel
theorem dX13_swap_154 : decode cX13_swap 154 = .ok (.if_icmp .gt 151, 3) := by decide +kernel
theorem dX13_swap_157 : decode cX13_swap 157 = .ok (.aload 5, 2) := by decide +kernel
theorem dX13_swap_159 : decode cX13_swap 159 = .ok (.getfield 52, 3) := by decide +kernel
theorem dX13_swap_162 : decode cX13_swap 162 = .ok (.iconst 1, 1) := by decide +kernel
theorem dX13_swap_163 : decode cX13_swap 163 = .ok (.iaload, 1) := by decide +kernel
theorem dX13_swap_164 : decode cX13_swap 164 = .ok (.istore 7, 2) := by decide +kernel
theorem dX13_swap_166 : decode cX13_swap 166 = .ok (.iload 7, 2) := by decide +kernel
theorem dX13_swap_168 : decode cX13_swap 168 = .ok (.aload 5, 2) := by decide +kernel
theorem dX13_swap_170 : decode cX13_swap 170 = .ok (.getfield 55, 3) := by decide +kernel
theorem dX13_swap_173 : decode cX13_swap 173 = .ok (.iconst 1, 1) := by decide +kernel
theorem dX13_swap_174 : decode cX13_swap 174 = .ok (.iaload, 1) := by decide +kernel
theorem dX13_swap_175 : decode cX13_swap 175 = .ok (.if_icmp .gt 124, 3) := by decide +kernel
theorem dX13_swap_178 : decode cX13_swap 178 = .ok (.aload 5, 2) := by decide +kernel
theorem dX13_swap_180 : decode cX13_swap 180 = .ok (.getfield 52, 3) := by decide +kernel
theorem dX13_swap_183 : decode cX13_swap 183 = .ok (.iconst 2, 1) := by decide +kernel
theorem dX13_swap_184 : decode cX13_swap 184 = .ok (.iaload, 1) := by decide +kernel
theorem dX13_swap_185 : decode cX13_swap 185 = .ok (.istore 8, 2) := by decide +kernel
theorem dX13_swap_187 : decode cX13_swap 187 = .ok (.iload 8, 2) := by decide +kernel
theorem dX13_swap_189 : decode cX13_swap 189 = .ok (.aload 5, 2) := by decide +kernel
theorem dX13_swap_191 : decode cX13_swap 191 = .ok (.getfield 55, 3) := by decide +kernel
theorem dX13_swap_194 : decode cX13_swap 194 = .ok (.iconst 2, 1) := by decide +kernel
theorem dX13_swap_195 : decode cX13_swap 195 = .ok (.iaload, 1) := by decide +kernel
theorem dX13_swap_196 : decode cX13_swap 196 = .ok (.if_icmp .gt 97, 3) := by decide +kernel
theorem dX13_swap_199 : decode cX13_swap 199 = .ok (.aload_n 0, 1) := by decide +kernel
theorem dX13_swap_200 : decode cX13_swap 200 = .ok (.getfield 22, 3) := by decide +kernel
theorem dX13_swap_203 : decode cX13_swap 203 = .ok (.iconst 0, 1) := by decide +kernel
theorem dX13_swap_204 : decode cX13_swap 204 = .ok (.iload 6, 2) := by decide +kernel
theorem dX13_swap_206 : decode cX13_swap 206 = .ok (.iastore, 1) := by decide +kernel
theorem dX13_swap_207 : decode cX13_swap 207 = .ok (.aload_n 0, 1) := by decide +kernel
theorem dX13_swap_208 : decode cX13_swap 208 = .ok (.getfield 22, 3) := by decide +kernel
theorem dX13_swap_211 : decode cX13_swap 211 = .ok (.iconst 1, 1) := by decide +kernel
theorem dX13_swap_212 : decode cX13_swap 212 = .ok (.iload 7, 2) := by decide +kernel
theorem dX13_swap_214 : decode cX13_swap 214 = .ok (.iastore, 1) := by decide +kernel
theorem dX13_swap_215 : decode cX13_swap 215 = .ok (.aload_n 0, 1) := by decide +kernel
theorem dX13_swap_216 : decode cX13_swap 216 = .ok (.getfield 22, 3) := by decide +kernel
theorem dX13_swap_219 : decode cX13_swap 219 = .ok (.iconst 2, 1) := by decide +kernel
theorem dX13_swap_220 : decode cX13_swap 220 = .ok (.iload 8, 2) := by decide +kernel
theorem dX13_swap_222 : decode cX13_swap 222 = .ok (.iastore, 1) := by decide +kernel
theorem dX13_swap_223 : decode cX13_swap 223 = .ok (.aload_n 0, 1) := by decide +kernel
theorem dX13_swap_224 : decode cX13_swap 224 = .ok (.getfield 22, 3) := by decide +kernel
theorem dX13_swap_227 : decode cX13_swap 227 = .ok (.iload_n 2, 1) := by decide +kernel
theorem dX13_swap_228 : decode cX13_swap 228 = .ok (.iaload, 1) := by decide +kernel
theorem dX13_swap_229 : decode cX13_swap 229 = .ok (.istore 9, 2) := by decide +kernel
theorem dX13_swap_231 : decode cX13_swap 231 = .ok (.aload_n 0, 1) := by decide +kernel
theorem dX13_swap_232 : decode cX13_swap 232 = .ok (.getfield 22, 3) := by decide +kernel
theorem dX13_swap_235 : decode cX13_swap 235 = .ok (.iload_n 2, 1) := by decide +kernel
theorem dX13_swap_236 : decode cX13_swap 236 = .ok (.aload_n 0, 1) := by decide +kernel
theorem dX13_swap_237 : decode cX13_swap 237 = .ok (.getfield 22, 3) := by decide +kernel
theorem dX13_swap_240 : decode cX13_swap 240 = .ok (.iload_n 3, 1) := by decide +kernel
theorem dX13_swap_241 : decode cX13_swap 241 = .ok (.iaload, 1) := by decide +kernel
theorem dX13_swap_242 : decode cX13_swap 242 = .ok (.iastore, 1) := by decide +kernel
theorem dX13_swap_243 : decode cX13_swap 243 = .ok (.aload_n 0, 1) := by decide +kernel
theorem dX13_swap_244 : decode cX13_swap 244 = .ok (.getfield 22, 3) := by decide +kernel
theorem dX13_swap_247 : decode cX13_swap 247 = .ok (.iload_n 3, 1) := by decide +kernel
theorem dX13_swap_248 : decode cX13_swap 248 = .ok (.iload 9, 2) := by decide +kernel
theorem dX13_swap_250 : decode cX13_swap 250 = .ok (.iastore, 1) := by decide +kernel
theorem dX13_swap_251 : decode cX13_swap 251 = .ok (.aload 5, 2) := by decide +kernel
theorem dX13_swap_253 : decode cX13_swap 253 = .ok (.aload 5, 2) := by decide +kernel
theorem dX13_swap_255 : decode cX13_swap 255 = .ok (.iload 6, 2) := by decide +kernel
theorem dX13_swap_257 : decode cX13_swap 257 = .ok (.iload 7, 2) := by decide +kernel
theorem dX13_swap_259 : decode cX13_swap 259 = .ok (.iload 8, 2) := by decide +kernel
theorem dX13_swap_261 : decode cX13_swap 261 = .ok (.invokevirtual 86, 3) := by decide +kernel
theorem dX13_swap_264 : decode cX13_swap 264 = .ok (.aload 4, 2) := by decide +kernel
theorem dX13_swap_266 : decode cX13_swap 266 = .ok (.aload_n 0, 1) := by decide +kernel
theorem dX13_swap_267 : decode cX13_swap 267 = .ok (.getfield 22, 3) := by decide +kernel
theorem dX13_swap_270 : decode cX13_swap 270 = .ok (.iconst 0, 1) := by decide +kernel
theorem dX13_swap_271 : decode cX13_swap 271 = .ok (.iaload, 1) := by decide +kernel
theorem dX13_swap_272 : decode cX13_swap 272 = .ok (.aload_n 0, 1) := by decide +kernel
theorem dX13_swap_273 : decode cX13_swap 273 = .ok (.getfield 22, 3) := by decide +kernel
theorem dX13_swap_276 : decode cX13_swap 276 = .ok (.iconst 1, 1) := by decide +kernel
theorem dX13_swap_277 : decode cX13_swap 277 = .ok (.iaload, 1) := by decide +kernel
theorem dX13_swap_278 : decode cX13_swap 278 = .ok (.aload_n 0, 1) := by decide +kernel
theorem dX13_swap_279 : decode cX13_swap 279 = .ok (.getfield 22, 3) := by decide +kernel
theorem dX13_swap_282 : decode cX13_swap 282 = .ok (.iconst 2, 1) := by decide +kernel
theorem dX13_swap_283 : decode cX13_swap 283 = .ok (.iaload, 1) := by decide +kernel
theorem dX13_swap_284 : decode cX13_swap 284 = .ok (.invokestatic 171, 3) := by decide +kernel
theorem dX13_swap_287 : decode cX13_swap 287 = .ok (.iinc 8 1, 3) := by decide +kernel
theorem dX13_swap_290 : decode cX13_swap 290 = .ok (.goto (-103), 3) := by decide +kernel
theorem dX13_swap_293 : decode cX13_swap 293 = .ok (.iinc 7 1, 3) := by decide +kernel
theorem dX13_swap_296 : decode cX13_swap 296 = .ok (.goto (-130), 3) := by decide +kernel
theorem dX13_swap_299 : decode cX13_swap 299 = .ok (.iinc 6 1, 3) := by decide +kernel
theorem dX13_swap_302 : decode cX13_swap 302 = .ok (.goto (-157), 3) := by decide +kernel
theorem dX13_swap_305 : decode cX13_swap 305 = .ok (.aload_n 0, 1) := by decide +kernel
theorem dX13_swap_306 : decode cX13_swap 306 = .ok (.aload 5, 2) := by decide +kernel
theorem dX13_swap_308 : decode cX13_swap 308 = .ok (.invokevirtual 154, 3) := by decide +kernel
theorem dX13_swap_311 : decode cX13_swap 311 = .ok (.ireturn, 1) := by decide +kernel
theorem dX13_product_0 : decode cX13_product 0 = .ok (.aload_n 0, 1) := by decide +kernel
theorem dX13_product_1 : decode cX13_product 1 = .ok (.invokevirtual 146, 3) := by decide +kernel
theorem dX13_product_4 : decode cX13_product 4 = .ok (.ifCond .eq 5, 3) := by decide +kernel
theorem dX13_product_7 : decode cX13_product 7 = .ok (.iconst 0, 1) := by decide +kernel
theorem dX13_product_8 : decode cX13_product 8 = .ok (.ireturn, 1) := by decide +kernel
theorem dX13_product_9 : decode cX13_product 9 = .ok (.aload_n 0, 1) := by decide +kernel
theorem dX13_product_10 : decode cX13_product 10 = .ok (.aload_n 0, 1) := by decide +kernel
theorem dX13_product_11 : decode cX13_product 11 = .ok (.iload_n 1, 1) := by decide +kernel
theorem dX13_product_12 : decode cX13_product 12 = .ok (.invokevirtual 158, 3) := by decide +kernel
theorem dX13_product_15 : decode cX13_product 15 = .ok (.ifCond .ne 37, 3) := by decide +kernel
theorem dX13_product_18 : decode cX13_product 18 = .ok (.aload_n 0, 1) := by decide +kernel
theorem dX13_product_19 : decode cX13_product 19 = .ok (.iload_n 2, 1) := by decide +kernel
theorem dX13_product_20 : decode cX13_product 20 = .ok (.invokevirtual 158, 3) := by decide +kernel
theorem dX13_product_23 : decode cX13_product 23 = .ok (.ifCond .ne 29, 3) := by decide +kernel
theorem dX13_product_26 : decode cX13_product 26 = .ok (.aload_n 0, 1) := by decide +kernel
theorem dX13_product_27 : decode cX13_product 27 = .ok (.getfield 15, 3) := by decide +kernel
theorem dX13_product_30 : decode cX13_product 30 = .ok (.iload_n 1, 1) := by decide +kernel
theorem dX13_product_31 : decode cX13_product 31 = .ok (.aaload, 1) := by decide +kernel
theorem dX13_product_32 : decode cX13_product 32 = .ok (.getfield 49, 3) := by decide +kernel
theorem dX13_product_35 : decode cX13_product 35 = .ok (.iconst 2, 1) := by decide +kernel
theorem dX13_product_36 : decode cX13_product 36 = .ok (.if_icmp .ne 16, 3) := by decide +kernel
theorem dX13_product_39 : decode cX13_product 39 = .ok (.aload_n 0, 1) := by decide +kernel
theorem dX13_product_40 : decode cX13_product 40 = .ok (.getfield 15, 3) := by decide +kernel
theorem dX13_product_43 : decode cX13_product 43 = .ok (.iload_n 2, 1) := by decide +kernel
theorem dX13_product_44 : decode cX13_product 44 = .ok (.aaload, 1) := by decide +kernel
theorem dX13_product_45 : decode cX13_product 45 = .ok (.getfield 49, 3) := by decide +kernel
theorem dX13_product_48 : decode cX13_product 48 = .ok (.iconst 2, 1) := by decide +kernel
theorem dX13_product_49 : decode cX13_product 49 = .ok (.if_icmp .eq 7, 3) := by decide +kernel
theorem dX13_product_52 : decode cX13_product 52 = .ok (.iconst 1, 1) := by decide +kernel
theorem dX13_product_53 : decode cX13_product 53 = .ok (.goto 4, 3) := by decide +kernel
theorem dX13_product_56 : decode cX13_product 56 = .ok (.iconst 0, 1) := by decide +kernel
theorem dX13_product_57 : decode cX13_product 57 = .ok (.iconst 1, 1) := by decide +kernel
theorem dX13_product_58 : decode cX13_product 58 = .ok (.invokevirtual 36, 3) := by decide +kernel
theorem dX13_product_61 : decode cX13_product 61 = .ok (.ifCond .eq 5, 3) := by decide +kernel
theorem dX13_product_64 : decode cX13_product 64 = .ok (.iconst 0, 1) := by decide +kernel
theorem dX13_product_65 : decode cX13_product 65 = .ok (.ireturn, 1) := by decide +kernel
theorem dX13_product_66 : decode cX13_product 66 = .ok (.aload_n 0, 1) := by decide +kernel
theorem dX13_product_67 : decode cX13_product 67 = .ok (.getfield 15, 3) := by decide +kernel
theorem dX13_product_70 : decode cX13_product 70 = .ok (.iload_n 1, 1) := by decide +kernel
theorem dX13_product_71 : decode cX13_product 71 = .ok (.aaload, 1) := by decide +kernel
theorem dX13_product_72 : decode cX13_product 72 = .ok (.astore_n 3, 1) := by decide +kernel
theorem dX13_product_73 : decode cX13_product 73 = .ok (.aload_n 0, 1) := by decide +kernel
theorem dX13_product_74 : decode cX13_product 74 = .ok (.getfield 15, 3) := by decide +kernel
theorem dX13_product_77 : decode cX13_product 77 = .ok (.iload_n 2, 1) := by decide +kernel
theorem dX13_product_78 : decode cX13_product 78 = .ok (.aaload, 1) := by decide +kernel
theorem dX13_product_79 : decode cX13_product 79 = .ok (.astore 4, 2) := by decide +kernel
theorem dX13_product_81 : decode cX13_product 81 = .ok (.aload_n 3, 1) := by decide +kernel
theorem dX13_product_82 : decode cX13_product 82 = .ok (.iconst 1, 1) := by decide +kernel
theorem dX13_product_83 : decode cX13_product 83 = .ok (.aload_n 3, 1) := by decide +kernel
theorem dX13_product_84 : decode cX13_product 84 = .ok (.getfield 141, 3) := by decide +kernel
theorem dX13_product_87 : decode cX13_product 87 = .ok (.aload 4, 2) := by decide +kernel
theorem dX13_product_89 : decode cX13_product 89 = .ok (.getfield 141, 3) := by decide +kernel
theorem dX13_product_92 : decode cX13_product 92 = .ok (.invokestatic 182, 3) := by decide +kernel
theorem dX13_product_95 : decode cX13_product 95 = .ok (.iadd, 1) := by decide +kernel
theorem dX13_product_96 : decode cX13_product 96 = .ok (.invokestatic 150, 3) := by decide +kernel
theorem dX13_product_99 : decode cX13_product 99 = .ok (.astore 5, 2) := by decide +kernel
theorem dX13_product_101 : decode cX13_product 101 = .ok (.aload 5, 2) := by decide +kernel
theorem dX13_product_103 : decode cX13_product 103 = .ok (.getfield 52, 3) := by decide +kernel
theorem dX13_product_106 : decode cX13_product 106 = .ok (.iconst 1, 1) := by decide +kernel
theorem dX13_product_107 : decode cX13_product 107 = .ok (.aload 4, 2) := by decide +kernel
theorem dX13_product_109 : decode cX13_product 109 = .ok (.getfield 52, 3) := by decide +kernel
theorem dX13_product_112 : decode cX13_product 112 = .ok (.iconst 1, 1) := by decide +kernel
theorem dX13_product_113 : decode cX13_product 113 = .ok (.iaload, 1) := by decide +kernel
theorem dX13_product_114 : decode cX13_product 114 = .ok (.iastore, 1) := by decide +kernel
theorem dX13_product_115 : decode cX13_product 115 = .ok (.aload 5, 2) := by decide +kernel
theorem dX13_product_117 : decode cX13_product 117 = .ok (.getfield 55, 3) := by decide +kernel
theorem dX13_product_120 : decode cX13_product 120 = .ok (.iconst 1, 1) := by decide +kernel
theorem dX13_product_121 : decode cX13_product 121 = .ok (.aload 4, 2) := by decide +kernel
theorem dX13_product_123 : decode cX13_product 123 = .ok (.getfield 55, 3) := by decide +kernel
theorem dX13_product_126 : decode cX13_product 126 = .ok (.iconst 1, 1) := by decide +kernel
theorem dX13_product_127 : decode cX13_product 127 = .ok (.iaload, 1) := by decide +kernel
theorem dX13_product_128 : decode cX13_product 128 = .ok (.iastore, 1) := by decide +kernel
theorem dX13_product_129 : decode cX13_product 129 = .ok (.aload_n 0, 1) := by decide +kernel
theorem dX13_product_130 : decode cX13_product 130 = .ok (.aload 5, 2) := by decide +kernel
theorem dX13_product_132 : decode cX13_product 132 = .ok (.invokevirtual 167, 3) := by decide +kernel
theorem dX13_product_135 : decode cX13_product 135 = .ok (.ifCond .eq 5, 3) := by decide +kernel
theorem dX13_product_138 : decode cX13_product 138 = .ok (.iconst 0, 1) := by decide +kernel
theorem dX13_product_139 : decode cX13_product 139 = .ok (.ireturn, 1) := by decide +kernel
theorem dX13_product_140 : decode cX13_product 140 = .ok (.aload 5, 2) := by decide +kernel
theorem dX13_product_142 : decode cX13_product 142 = .ok (.invokevirtual 58, 3) := by decide +kernel
theorem dX13_product_145 : decode cX13_product 145 = .ok (.aload 5, 2) := by decide +kernel
theorem dX13_product_147 : decode cX13_product 147 = .ok (.getfield 52, 3) := by decide +kernel
theorem dX13_product_150 : decode cX13_product 150 = .ok (.iconst 0, 1) := by decide +kernel
theorem dX13_product_151 : decode cX13_product 151 = .ok (.iaload, 1) := by decide +kernel
theorem dX13_product_152 : decode cX13_product 152 = .ok (.istore 6, 2) := by decide +kernel
theorem dX13_product_154 : decode cX13_product 154 = .ok (.iload 6, 2) := by decide +kernel
theorem dX13_product_156 : decode cX13_product 156 = .ok (.aload 5, 2) := by decide +kernel
theorem dX13_product_158 : decode cX13_product 158 = .ok (.getfield 55, 3) := by decide +kernel
theorem dX13_product_161 : decode cX13_product 161 = .ok (.iconst 0, 1) := by decide +kernel
theorem dX13_product_162 : decode cX13_product 162 = .ok (.iaload, 1) := by decide +kernel
theorem dX13_product_163 : decode cX13_product 163 = .ok (.if_icmp .gt 191, 3) := by decide +kernel
theorem dX13_product_166 : decode cX13_product 166 = .ok (.aload 5, 2) := by decide +kernel
theorem dX13_product_168 : decode cX13_product 168 = .ok (.getfield 52, 3) := by decide +kernel
theorem dX13_product_171 : decode cX13_product 171 = .ok (.iconst 1, 1) := by decide +kernel
theorem dX13_product_172 : decode cX13_product 172 = .ok (.iaload, 1) := by decide +kernel
theorem dX13_product_173 : decode cX13_product 173 = .ok (.istore 7, 2) := by decide +kernel
theorem dX13_product_175 : decode cX13_product 175 = .ok (.iload 7, 2) := by decide +kernel
theorem dX13_product_177 : decode cX13_product 177 = .ok (.aload 5, 2) := by decide +kernel
theorem dX13_product_179 : decode cX13_product 179 = .ok (.getfield 55, 3) := by decide +kernel
theorem dX13_product_182 : decode cX13_product 182 = .ok (.iconst 1, 1) := by decide +kernel
theorem dX13_product_183 : decode cX13_product 183 = .ok (.iaload, 1) := by decide +kernel
theorem dX13_product_184 : decode cX13_product 184 = .ok (.if_icmp .gt 164, 3) := by decide +kernel
theorem dX13_product_187 : decode cX13_product 187 = .ok (.aload_n 3, 1) := by decide +kernel
theorem dX13_product_188 : decode cX13_product 188 = .ok (.getfield 52, 3) := by decide +kernel
theorem dX13_product_191 : decode cX13_product 191 = .ok (.iconst 1, 1) := by decide +kernel
theorem dX13_product_192 : decode cX13_product 192 = .ok (.iaload, 1) := by decide +kernel
theorem dX13_product_193 : decode cX13_product 193 = .ok (.istore 8, 2) := by decide +kernel
theorem dX13_product_195 : decode cX13_product 195 = .ok (.iload 8, 2) := by decide +kernel
theorem dX13_product_197 : decode cX13_product 197 = .ok (.aload_n 3, 1) := by decide +kernel
theorem dX13_product_198 : decode cX13_product 198 = .ok (.getfield 55, 3) := by decide +kernel
theorem dX13_product_201 : decode cX13_product 201 = .ok (.iconst 1, 1) := by decide +kernel
theorem dX13_product_202 : decode cX13_product 202 = .ok (.iaload, 1) := by decide +kernel
theorem dX13_product_203 : decode cX13_product 203 = .ok (.if_icmp .gt 139, 3) := by decide +kernel
theorem dX13_product_206 : decode cX13_product 206 = .ok (.iload 8, 2) := by decide +kernel
theorem dX13_product_208 : decode cX13_product 208 = .ok (.aload 4, 2) := by decide +kernel
theorem dX13_product_210 : decode cX13_product 210 = .ok (.getfield 52, 3) := by decide +kernel
theorem dX13_product_213 : decode cX13_product 213 = .ok (.iconst 0, 1) := by decide +kernel
theorem dX13_product_214 : decode cX13_product 214 = .ok (.iaload, 1) := by decide +kernel
theorem dX13_product_215 : decode cX13_product 215 = .ok (.if_icmp .lt 121, 3) := by decide +kernel
theorem dX13_product_218 : decode cX13_product 218 = .ok (.iload 8, 2) := by decide +kernel
theorem dX13_product_220 : decode cX13_product 220 = .ok (.aload 4, 2) := by decide +kernel
theorem dX13_product_222 : decode cX13_product 222 = .ok (.getfield 55, 3) := by decide +kernel
theorem dX13_product_225 : decode cX13_product 225 = .ok (.iconst 0, 1) := by decide +kernel
theorem dX13_product_226 : decode cX13_product 226 = .ok (.iaload, 1) := by decide +kernel
theorem dX13_product_227 : decode cX13_product 227 = .ok (.if_icmp .gt 109, 3) := by decide +kernel
theorem dX13_product_230 : decode cX13_product 230 = .ok (.aload_n 3, 1) := by decide +kernel
theorem dX13_product_231 : decode cX13_product 231 = .ok (.getfield 78, 3) := by decide +kernel
theorem dX13_product_234 : decode cX13_product 234 = .ok (.aload_n 3, 1) := by decide +kernel
theorem dX13_product_235 : decode cX13_product 235 = .ok (.iload 6, 2) := by decide +kernel
theorem dX13_product_237 : decode cX13_product 237 = .ok (.iload 8, 2) := by decide +kernel
theorem dX13_product_239 : decode cX13_product 239 = .ok (.iconst 0, 1) := by decide +kernel
theorem dX13_product_240 : decode cX13_product 240 = .ok (.invokevirtual 86, 3) := by decide +kernel
theorem dX13_product_243 : decode cX13_product 243 = .ok (.baload, 1) := by decide +kernel
theorem dX13_product_244 : decode cX13_product 244 = .ok (.ifCond .eq 92, 3) := by decide +kernel
theorem dX13_product_247 : decode cX13_product 247 = .ok (.aload 4, 2) := by decide +kernel
theorem dX13_product_249 : decode cX13_product 249 = .ok (.getfield 78, 3) := by decide +kernel
theorem dX13_product_252 : decode cX13_product 252 = .ok (.aload 4, 2) := by decide +kernel
theorem dX13_product_254 : decode cX13_product 254 = .ok (.iload 8, 2) := by decide +kernel
theorem dX13_product_256 : decode cX13_product 256 = .ok (.iload 7, 2) := by decide +kernel
theorem dX13_product_258 : decode cX13_product 258 = .ok (.iconst 0, 1) := by decide +kernel
theorem dX13_product_259 : decode cX13_product 259 = .ok (.invokevirtual 86, 3) := by decide +kernel
theorem dX13_product_262 : decode cX13_product 262 = .ok (.baload, 1) := by decide +kernel
theorem dX13_product_263 : decode cX13_product 263 = .ok (.ifCond .ne 6, 3) := by decide +kernel
theorem dX13_product_266 : decode cX13_product 266 = .ok (.goto 70, 3) := by decide +kernel
theorem dX13_product_269 : decode cX13_product 269 = .ok (.aload 5, 2) := by decide +kernel
theorem dX13_product_271 : decode cX13_product 271 = .ok (.getfield 78, 3) := by decide +kernel
theorem dX13_product_274 : decode cX13_product 274 = .ok (.aload 5, 2) := by decide +kernel
theorem dX13_product_276 : decode cX13_product 276 = .ok (.iload 6, 2) := by decide +kernel
theorem dX13_product_278 : decode cX13_product 278 = .ok (.iload 7, 2) := by decide +kernel
theorem dX13_product_280 : decode cX13_product 280 = .ok (.iconst 0, 1) := by decide +kernel
theorem dX13_product_281 : decode cX13_product 281 = .ok (.invokevirtual 86, 3) := by decide +kernel
theorem dX13_product_284 : decode cX13_product 284 = .ok (.iconst 1, 1) := by decide +kernel
theorem dX13_product_285 : decode cX13_product 285 = .ok (.bastore, 1) := by decide +kernel
theorem dX13_product_286 : decode cX13_product 286 = .ok (.aload 5, 2) := by decide +kernel
theorem dX13_product_288 : decode cX13_product 288 = .ok (.getfield 74, 3) := by decide +kernel
theorem dX13_product_291 : decode cX13_product 291 = .ok (.aload 5, 2) := by decide +kernel
theorem dX13_product_293 : decode cX13_product 293 = .ok (.iload 6, 2) := by decide +kernel
theorem dX13_product_295 : decode cX13_product 295 = .ok (.iload 7, 2) := by decide +kernel
theorem dX13_product_297 : decode cX13_product 297 = .ok (.iconst 0, 1) := by decide +kernel
theorem dX13_product_298 : decode cX13_product 298 = .ok (.invokevirtual 86, 3) := by decide +kernel
theorem dX13_product_301 : decode cX13_product 301 = .ok (.dup2, 1) := by decide +kernel
theorem dX13_product_302 : decode cX13_product 302 = .ok (.laload, 1) := by decide +kernel
theorem dX13_product_303 : decode cX13_product 303 = .ok (.aload_n 3, 1) := by decide +kernel
theorem dX13_product_304 : decode cX13_product 304 = .ok (.getfield 74, 3) := by decide +kernel
theorem dX13_product_307 : decode cX13_product 307 = .ok (.aload_n 3, 1) := by decide +kernel
theorem dX13_product_308 : decode cX13_product 308 = .ok (.iload 6, 2) := by decide +kernel
theorem dX13_product_310 : decode cX13_product 310 = .ok (.iload 8, 2) := by decide +kernel
theorem dX13_product_312 : decode cX13_product 312 = .ok (.iconst 0, 1) := by decide +kernel
theorem dX13_product_313 : decode cX13_product 313 = .ok (.invokevirtual 86, 3) := by decide +kernel
theorem dX13_product_316 : decode cX13_product 316 = .ok (.laload, 1) := by decide +kernel
theorem dX13_product_317 : decode cX13_product 317 = .ok (.aload 4, 2) := by decide +kernel
theorem dX13_product_319 : decode cX13_product 319 = .ok (.getfield 74, 3) := by decide +kernel
theorem dX13_product_322 : decode cX13_product 322 = .ok (.aload 4, 2) := by decide +kernel
theorem dX13_product_324 : decode cX13_product 324 = .ok (.iload 8, 2) := by decide +kernel
theorem dX13_product_326 : decode cX13_product 326 = .ok (.iload 7, 2) := by decide +kernel
theorem dX13_product_328 : decode cX13_product 328 = .ok (.iconst 0, 1) := by decide +kernel
theorem dX13_product_329 : decode cX13_product 329 = .ok (.invokevirtual 86, 3) := by decide +kernel
theorem dX13_product_332 : decode cX13_product 332 = .ok (.laload, 1) := by decide +kernel
theorem dX13_product_333 : decode cX13_product 333 = .ok (.lmul, 1) := by decide +kernel
theorem dX13_product_334 : decode cX13_product 334 = .ok (.ladd, 1) := by decide +kernel
theorem dX13_product_335 : decode cX13_product 335 = .ok (.lastore, 1) := by decide +kernel
theorem dX13_product_336 : decode cX13_product 336 = .ok (.iinc 8 1, 3) := by decide +kernel
theorem dX13_product_339 : decode cX13_product 339 = .ok (.goto (-144), 3) := by decide +kernel
theorem dX13_product_342 : decode cX13_product 342 = .ok (.iinc 7 1, 3) := by decide +kernel
theorem dX13_product_345 : decode cX13_product 345 = .ok (.goto (-170), 3) := by decide +kernel
theorem dX13_product_348 : decode cX13_product 348 = .ok (.iinc 6 1, 3) := by decide +kernel
theorem dX13_product_351 : decode cX13_product 351 = .ok (.goto (-197), 3) := by decide +kernel
theorem dX13_product_354 : decode cX13_product 354 = .ok (.aload_n 0, 1) := by decide +kernel
theorem dX13_product_355 : decode cX13_product 355 = .ok (.aload 5, 2) := by decide +kernel
theorem dX13_product_357 : decode cX13_product 357 = .ok (.invokevirtual 154, 3) := by decide +kernel
theorem dX13_product_360 : decode cX13_product 360 = .ok (.ireturn, 1) := by decide +kernel
theorem dX13_nothing_0 : decode cX13_nothing 0 = .ok (.aload_n 0, 1) := by decide +kernel
theorem dX13_nothing_1 : decode cX13_nothing 1 = .ok (.iconst 0, 1) := by decide +kernel
theorem dX13_nothing_2 : decode cX13_nothing 2 = .ok (.putfield 190, 3) := by decide +kernel
theorem dX13_nothing_5 : decode cX13_nothing 5 = .ok (.aload_n 0, 1) := by decide +kernel
theorem dX13_nothing_6 : decode cX13_nothing 6 = .ok (.lconst 0, 1) := by decide +kernel
theorem dX13_nothing_7 : decode cX13_nothing 7 = .ok (.putfield 193, 3) := by decide +kernel
theorem dX13_nothing_10 : decode cX13_nothing 10 = .ok (.return_, 1) := by decide +kernel
theorem dX13_take_0 : decode cX13_take 0 = .ok (.aload_n 1, 1) := by decide +kernel
theorem dX13_take_1 : decode cX13_take 1 = .ok (.iload_n 2, 1) := by decide +kernel
theorem dX13_take_2 : decode cX13_take 2 = .ok (.iload_n 3, 1) := by decide +kernel
theorem dX13_take_3 : decode cX13_take 3 = .ok (.iload 4, 2) := by decide +kernel
theorem dX13_take_5 : decode cX13_take 5 = .ok (.invokevirtual 82, 3) := by decide +kernel
theorem dX13_take_8 : decode cX13_take 8 = .ok (.ifCond .eq 19, 3) := by decide +kernel
theorem dX13_take_11 : decode cX13_take 11 = .ok (.aload_n 1, 1) := by decide +kernel
theorem dX13_take_12 : decode cX13_take 12 = .ok (.getfield 78, 3) := by decide +kernel
theorem dX13_take_15 : decode cX13_take 15 = .ok (.aload_n 1, 1) := by decide +kernel
theorem dX13_take_16 : decode cX13_take 16 = .ok (.iload_n 2, 1) := by decide +kernel
theorem dX13_take_17 : decode cX13_take 17 = .ok (.iload_n 3, 1) := by decide +kernel
theorem dX13_take_18 : decode cX13_take 18 = .ok (.iload 4, 2) := by decide +kernel
theorem dX13_take_20 : decode cX13_take 20 = .ok (.invokevirtual 86, 3) := by decide +kernel
theorem dX13_take_23 : decode cX13_take 23 = .ok (.baload, 1) := by decide +kernel
theorem dX13_take_24 : decode cX13_take 24 = .ok (.ifCond .ne 4, 3) := by decide +kernel
theorem dX13_take_27 : decode cX13_take 27 = .ok (.return_, 1) := by decide +kernel
theorem dX13_take_28 : decode cX13_take 28 = .ok (.aload_n 1, 1) := by decide +kernel
theorem dX13_take_29 : decode cX13_take 29 = .ok (.getfield 74, 3) := by decide +kernel
theorem dX13_take_32 : decode cX13_take 32 = .ok (.aload_n 1, 1) := by decide +kernel
theorem dX13_take_33 : decode cX13_take 33 = .ok (.iload_n 2, 1) := by decide +kernel
theorem dX13_take_34 : decode cX13_take 34 = .ok (.iload_n 3, 1) := by decide +kernel
theorem dX13_take_35 : decode cX13_take 35 = .ok (.iload 4, 2) := by decide +kernel
theorem dX13_take_37 : decode cX13_take 37 = .ok (.invokevirtual 86, 3) := by decide +kernel
theorem dX13_take_40 : decode cX13_take 40 = .ok (.laload, 1) := by decide +kernel
theorem dX13_take_41 : decode cX13_take 41 = .ok (.lstore 5, 2) := by decide +kernel
theorem dX13_take_43 : decode cX13_take 43 = .ok (.aload_n 0, 1) := by decide +kernel
theorem dX13_take_44 : decode cX13_take 44 = .ok (.dup, 1) := by decide +kernel
theorem dX13_take_45 : decode cX13_take 45 = .ok (.getfield 193, 3) := by decide +kernel
theorem dX13_take_48 : decode cX13_take 48 = .ok (.lload 5, 2) := by decide +kernel
theorem dX13_take_50 : decode cX13_take 50 = .ok (.ladd, 1) := by decide +kernel
theorem dX13_take_51 : decode cX13_take 51 = .ok (.putfield 193, 3) := by decide +kernel
theorem dX13_take_54 : decode cX13_take 54 = .ok (.aload_n 0, 1) := by decide +kernel
theorem dX13_take_55 : decode cX13_take 55 = .ok (.aload_n 0, 1) := by decide +kernel
theorem dX13_take_56 : decode cX13_take 56 = .ok (.getfield 190, 3) := by decide +kernel
theorem dX13_take_59 : decode cX13_take 59 = .ok (.ifCond .ne 8, 3) := by decide +kernel
theorem dX13_take_62 : decode cX13_take 62 = .ok (.lload 5, 2) := by decide +kernel
theorem dX13_take_64 : decode cX13_take 64 = .ok (.goto 12, 3) := by decide +kernel
theorem dX13_take_67 : decode cX13_take 67 = .ok (.aload_n 0, 1) := by decide +kernel
theorem dX13_take_68 : decode cX13_take 68 = .ok (.getfield 197, 3) := by decide +kernel
theorem dX13_take_71 : decode cX13_take 71 = .ok (.lload 5, 2) := by decide +kernel
theorem dX13_take_73 : decode cX13_take 73 = .ok (.invokestatic 185, 3) := by decide +kernel
theorem dX13_take_76 : decode cX13_take 76 = .ok (.putfield 197, 3) := by decide +kernel
theorem dX13_take_79 : decode cX13_take 79 = .ok (.aload_n 0, 1) := by decide +kernel
theorem dX13_take_80 : decode cX13_take 80 = .ok (.aload_n 0, 1) := by decide +kernel
theorem dX13_take_81 : decode cX13_take 81 = .ok (.getfield 190, 3) := by decide +kernel
theorem dX13_take_84 : decode cX13_take 84 = .ok (.ifCond .ne 8, 3) := by decide +kernel
theorem dX13_take_87 : decode cX13_take 87 = .ok (.lload 5, 2) := by decide +kernel
theorem dX13_take_89 : decode cX13_take 89 = .ok (.goto 12, 3) := by decide +kernel
theorem dX13_take_92 : decode cX13_take 92 = .ok (.aload_n 0, 1) := by decide +kernel
theorem dX13_take_93 : decode cX13_take 93 = .ok (.getfield 200, 3) := by decide +kernel
theorem dX13_take_96 : decode cX13_take 96 = .ok (.lload 5, 2) := by decide +kernel
theorem dX13_take_98 : decode cX13_take 98 = .ok (.invokestatic 188, 3) := by decide +kernel
theorem dX13_take_101 : decode cX13_take 101 = .ok (.putfield 200, 3) := by decide +kernel
theorem dX13_take_104 : decode cX13_take 104 = .ok (.aload_n 0, 1) := by decide +kernel
theorem dX13_take_105 : decode cX13_take 105 = .ok (.dup, 1) := by decide +kernel
theorem dX13_take_106 : decode cX13_take 106 = .ok (.getfield 190, 3) := by decide +kernel
theorem dX13_take_109 : decode cX13_take 109 = .ok (.iconst 1, 1) := by decide +kernel
theorem dX13_take_110 : decode cX13_take 110 = .ok (.iadd, 1) := by decide +kernel
theorem dX13_take_111 : decode cX13_take 111 = .ok (.putfield 190, 3) := by decide +kernel
theorem dX13_take_114 : decode cX13_take 114 = .ok (.return_, 1) := by decide +kernel
theorem dX13_together_0 : decode cX13_together 0 = .ok (.iload_n 1, 1) := by decide +kernel
theorem dX13_together_1 : decode cX13_together 1 = .ok (.ifCond .ne 10, 3) := by decide +kernel
theorem dX13_together_4 : decode cX13_together 4 = .ok (.aload_n 0, 1) := by decide +kernel
theorem dX13_together_5 : decode cX13_together 5 = .ok (.getfield 193, 3) := by decide +kernel
theorem dX13_together_8 : decode cX13_together 8 = .ok (.goto 32, 3) := by decide +kernel
theorem dX13_together_11 : decode cX13_together 11 = .ok (.iload_n 1, 1) := by decide +kernel
theorem dX13_together_12 : decode cX13_together 12 = .ok (.iconst 1, 1) := by decide +kernel
theorem dX13_together_13 : decode cX13_together 13 = .ok (.if_icmp .ne 11, 3) := by decide +kernel
theorem dX13_together_16 : decode cX13_together 16 = .ok (.aload_n 0, 1) := by decide +kernel
theorem dX13_together_17 : decode cX13_together 17 = .ok (.getfield 190, 3) := by decide +kernel
theorem dX13_together_20 : decode cX13_together 20 = .ok (.i2l, 1) := by decide +kernel
theorem dX13_together_21 : decode cX13_together 21 = .ok (.goto 19, 3) := by decide +kernel
theorem dX13_together_24 : decode cX13_together 24 = .ok (.iload_n 1, 1) := by decide +kernel
theorem dX13_together_25 : decode cX13_together 25 = .ok (.iconst 2, 1) := by decide +kernel
theorem dX13_together_26 : decode cX13_together 26 = .ok (.if_icmp .ne 10, 3) := by decide +kernel
theorem dX13_together_29 : decode cX13_together 29 = .ok (.aload_n 0, 1) := by decide +kernel
theorem dX13_together_30 : decode cX13_together 30 = .ok (.getfield 197, 3) := by decide +kernel
theorem dX13_together_33 : decode cX13_together 33 = .ok (.goto 7, 3) := by decide +kernel
theorem dX13_together_36 : decode cX13_together 36 = .ok (.aload_n 0, 1) := by decide +kernel
theorem dX13_together_37 : decode cX13_together 37 = .ok (.getfield 200, 3) := by decide +kernel
theorem dX13_together_40 : decode cX13_together 40 = .ok (.lreturn, 1) := by decide +kernel
theorem dX13_give_0 : decode cX13_give 0 = .ok (.aload_n 0, 1) := by decide +kernel
theorem dX13_give_1 : decode cX13_give 1 = .ok (.getfield 190, 3) := by decide +kernel
theorem dX13_give_4 : decode cX13_give 4 = .ok (.ifCond .ne 4, 3) := by decide +kernel
theorem dX13_give_7 : decode cX13_give 7 = .ok (.return_, 1) := by decide +kernel
theorem dX13_give_8 : decode cX13_give 8 = .ok (.aload_n 1, 1) := by decide +kernel
theorem dX13_give_9 : decode cX13_give 9 = .ok (.getfield 78, 3) := by decide +kernel
theorem dX13_give_12 : decode cX13_give 12 = .ok (.iload_n 2, 1) := by decide +kernel
theorem dX13_give_13 : decode cX13_give 13 = .ok (.iconst 1, 1) := by decide +kernel
theorem dX13_give_14 : decode cX13_give 14 = .ok (.bastore, 1) := by decide +kernel
theorem dX13_give_15 : decode cX13_give 15 = .ok (.aload_n 1, 1) := by decide +kernel
theorem dX13_give_16 : decode cX13_give 16 = .ok (.getfield 74, 3) := by decide +kernel
theorem dX13_give_19 : decode cX13_give 19 = .ok (.iload_n 2, 1) := by decide +kernel
theorem dX13_give_20 : decode cX13_give 20 = .ok (.aload_n 0, 1) := by decide +kernel
theorem dX13_give_21 : decode cX13_give 21 = .ok (.iload_n 3, 1) := by decide +kernel
theorem dX13_give_22 : decode cX13_give 22 = .ok (.invokevirtual 203, 3) := by decide +kernel
theorem dX13_give_25 : decode cX13_give 25 = .ok (.lastore, 1) := by decide +kernel
theorem dX13_give_26 : decode cX13_give 26 = .ok (.return_, 1) := by decide +kernel
theorem dX13_gather_0 : decode cX13_gather 0 = .ok (.aload_n 0, 1) := by decide +kernel
theorem dX13_gather_1 : decode cX13_gather 1 = .ok (.invokevirtual 146, 3) := by decide +kernel
theorem dX13_gather_4 : decode cX13_gather 4 = .ok (.ifCond .eq 5, 3) := by decide +kernel
theorem dX13_gather_7 : decode cX13_gather 7 = .ok (.iconst 0, 1) := by decide +kernel
theorem dX13_gather_8 : decode cX13_gather 8 = .ok (.ireturn, 1) := by decide +kernel
theorem dX13_gather_9 : decode cX13_gather 9 = .ok (.aload_n 0, 1) := by decide +kernel
theorem dX13_gather_10 : decode cX13_gather 10 = .ok (.aload_n 0, 1) := by decide +kernel
theorem dX13_gather_11 : decode cX13_gather 11 = .ok (.iload_n 1, 1) := by decide +kernel
theorem dX13_gather_12 : decode cX13_gather 12 = .ok (.iload_n 2, 1) := by decide +kernel
theorem dX13_gather_13 : decode cX13_gather 13 = .ok (.invokevirtual 161, 3) := by decide +kernel
theorem dX13_gather_16 : decode cX13_gather 16 = .ok (.ifCond .ne 25, 3) := by decide +kernel
theorem dX13_gather_19 : decode cX13_gather 19 = .ok (.aload_n 0, 1) := by decide +kernel
theorem dX13_gather_20 : decode cX13_gather 20 = .ok (.getfield 15, 3) := by decide +kernel
theorem dX13_gather_23 : decode cX13_gather 23 = .ok (.iload_n 1, 1) := by decide +kernel
theorem dX13_gather_24 : decode cX13_gather 24 = .ok (.aaload, 1) := by decide +kernel
theorem dX13_gather_25 : decode cX13_gather 25 = .ok (.getfield 49, 3) := by decide +kernel
theorem dX13_gather_28 : decode cX13_gather 28 = .ok (.iconst 1, 1) := by decide +kernel
theorem dX13_gather_29 : decode cX13_gather 29 = .ok (.if_icmp .eq 12, 3) := by decide +kernel
theorem dX13_gather_32 : decode cX13_gather 32 = .ok (.iload_n 3, 1) := by decide +kernel
theorem dX13_gather_33 : decode cX13_gather 33 = .ok (.ifCond .lt 8, 3) := by decide +kernel
theorem dX13_gather_36 : decode cX13_gather 36 = .ok (.iload_n 3, 1) := by decide +kernel
theorem dX13_gather_37 : decode cX13_gather 37 = .ok (.iconst 3, 1) := by decide +kernel
theorem dX13_gather_38 : decode cX13_gather 38 = .ok (.if_icmp .le 7, 3) := by decide +kernel
theorem dX13_gather_41 : decode cX13_gather 41 = .ok (.iconst 1, 1) := by decide +kernel
theorem dX13_gather_42 : decode cX13_gather 42 = .ok (.goto 4, 3) := by decide +kernel
theorem dX13_gather_45 : decode cX13_gather 45 = .ok (.iconst 0, 1) := by decide +kernel
theorem dX13_gather_46 : decode cX13_gather 46 = .ok (.iconst 1, 1) := by decide +kernel
theorem dX13_gather_47 : decode cX13_gather 47 = .ok (.invokevirtual 36, 3) := by decide +kernel
theorem dX13_gather_50 : decode cX13_gather 50 = .ok (.ifCond .eq 5, 3) := by decide +kernel
theorem dX13_gather_53 : decode cX13_gather 53 = .ok (.iconst 0, 1) := by decide +kernel
theorem dX13_gather_54 : decode cX13_gather 54 = .ok (.ireturn, 1) := by decide +kernel
theorem dX13_gather_55 : decode cX13_gather 55 = .ok (.aload_n 0, 1) := by decide +kernel
theorem dX13_gather_56 : decode cX13_gather 56 = .ok (.getfield 15, 3) := by decide +kernel
theorem dX13_gather_59 : decode cX13_gather 59 = .ok (.iload_n 1, 1) := by decide +kernel
theorem dX13_gather_60 : decode cX13_gather 60 = .ok (.aaload, 1) := by decide +kernel
theorem dX13_gather_61 : decode cX13_gather 61 = .ok (.astore 4, 2) := by decide +kernel
theorem dX13_gather_63 : decode cX13_gather 63 = .ok (.aload 4, 2) := by decide +kernel
theorem dX13_gather_65 : decode cX13_gather 65 = .ok (.iload_n 2, 1) := by decide +kernel
theorem dX13_gather_66 : decode cX13_gather 66 = .ok (.invokestatic 175, 3) := by decide +kernel
theorem dX13_gather_69 : decode cX13_gather 69 = .ok (.astore 5, 2) := by decide +kernel
theorem dX13_gather_71 : decode cX13_gather 71 = .ok (.aload_n 0, 1) := by decide +kernel
theorem dX13_gather_72 : decode cX13_gather 72 = .ok (.aload 5, 2) := by decide +kernel
theorem dX13_gather_74 : decode cX13_gather 74 = .ok (.invokevirtual 167, 3) := by decide +kernel
theorem dX13_gather_77 : decode cX13_gather 77 = .ok (.ifCond .eq 5, 3) := by decide +kernel
theorem dX13_gather_80 : decode cX13_gather 80 = .ok (.iconst 0, 1) := by decide +kernel
theorem dX13_gather_81 : decode cX13_gather 81 = .ok (.ireturn, 1) := by decide +kernel
theorem dX13_gather_82 : decode cX13_gather 82 = .ok (.aload 5, 2) := by decide +kernel
theorem dX13_gather_84 : decode cX13_gather 84 = .ok (.invokevirtual 58, 3) := by decide +kernel
theorem dX13_gather_87 : decode cX13_gather 87 = .ok (.aload 5, 2) := by decide +kernel
theorem dX13_gather_89 : decode cX13_gather 89 = .ok (.getfield 52, 3) := by decide +kernel
theorem dX13_gather_92 : decode cX13_gather 92 = .ok (.iconst 0, 1) := by decide +kernel
theorem dX13_gather_93 : decode cX13_gather 93 = .ok (.iaload, 1) := by decide +kernel
theorem dX13_gather_94 : decode cX13_gather 94 = .ok (.istore 6, 2) := by decide +kernel
theorem dX13_gather_96 : decode cX13_gather 96 = .ok (.iload 6, 2) := by decide +kernel
theorem dX13_gather_98 : decode cX13_gather 98 = .ok (.aload 5, 2) := by decide +kernel
theorem dX13_gather_100 : decode cX13_gather 100 = .ok (.getfield 55, 3) := by decide +kernel
theorem dX13_gather_103 : decode cX13_gather 103 = .ok (.iconst 0, 1) := by decide +kernel
theorem dX13_gather_104 : decode cX13_gather 104 = .ok (.iaload, 1) := by decide +kernel
theorem dX13_gather_105 : decode cX13_gather 105 = .ok (.if_icmp .gt 119, 3) := by decide +kernel
theorem dX13_gather_108 : decode cX13_gather 108 = .ok (.aload 5, 2) := by decide +kernel
theorem dX13_gather_110 : decode cX13_gather 110 = .ok (.getfield 52, 3) := by decide +kernel
theorem dX13_gather_113 : decode cX13_gather 113 = .ok (.iconst 1, 1) := by decide +kernel
theorem dX13_gather_114 : decode cX13_gather 114 = .ok (.iaload, 1) := by decide +kernel
theorem dX13_gather_115 : decode cX13_gather 115 = .ok (.istore 7, 2) := by decide +kernel
theorem dX13_gather_117 : decode cX13_gather 117 = .ok (.iload 7, 2) := by decide +kernel
theorem dX13_gather_119 : decode cX13_gather 119 = .ok (.aload 5, 2) := by decide +kernel
theorem dX13_gather_121 : decode cX13_gather 121 = .ok (.getfield 55, 3) := by decide +kernel
theorem dX13_gather_124 : decode cX13_gather 124 = .ok (.iconst 1, 1) := by decide +kernel
theorem dX13_gather_125 : decode cX13_gather 125 = .ok (.iaload, 1) := by decide +kernel
theorem dX13_gather_126 : decode cX13_gather 126 = .ok (.if_icmp .gt 92, 3) := by decide +kernel
theorem dX13_gather_129 : decode cX13_gather 129 = .ok (.aload_n 0, 1) := by decide +kernel
theorem dX13_gather_130 : decode cX13_gather 130 = .ok (.invokevirtual 207, 3) := by decide +kernel
theorem dX13_gather_133 : decode cX13_gather 133 = .ok (.aload 4, 2) := by decide +kernel
theorem dX13_gather_135 : decode cX13_gather 135 = .ok (.getfield 52, 3) := by decide +kernel
theorem dX13_gather_138 : decode cX13_gather 138 = .ok (.iload_n 2, 1) := by decide +kernel
theorem dX13_gather_139 : decode cX13_gather 139 = .ok (.iaload, 1) := by decide +kernel
theorem dX13_gather_140 : decode cX13_gather 140 = .ok (.istore 8, 2) := by decide +kernel
theorem dX13_gather_142 : decode cX13_gather 142 = .ok (.iload 8, 2) := by decide +kernel
theorem dX13_gather_144 : decode cX13_gather 144 = .ok (.aload 4, 2) := by decide +kernel
theorem dX13_gather_146 : decode cX13_gather 146 = .ok (.getfield 55, 3) := by decide +kernel
theorem dX13_gather_149 : decode cX13_gather 149 = .ok (.iload_n 2, 1) := by decide +kernel
theorem dX13_gather_150 : decode cX13_gather 150 = .ok (.iaload, 1) := by decide +kernel
theorem dX13_gather_151 : decode cX13_gather 151 = .ok (.if_icmp .gt 44, 3) := by decide +kernel
theorem dX13_gather_154 : decode cX13_gather 154 = .ok (.aload_n 0, 1) := by decide +kernel
theorem dX13_gather_155 : decode cX13_gather 155 = .ok (.iload_n 2, 1) := by decide +kernel
theorem dX13_gather_156 : decode cX13_gather 156 = .ok (.iload 8, 2) := by decide +kernel
theorem dX13_gather_158 : decode cX13_gather 158 = .ok (.iload 6, 2) := by decide +kernel
theorem dX13_gather_160 : decode cX13_gather 160 = .ok (.iload 7, 2) := by decide +kernel
theorem dX13_gather_162 : decode cX13_gather 162 = .ok (.invokevirtual 178, 3) := by decide +kernel
theorem dX13_gather_165 : decode cX13_gather 165 = .ok (.aload_n 0, 1) := by decide +kernel
theorem dX13_gather_166 : decode cX13_gather 166 = .ok (.aload 4, 2) := by decide +kernel
theorem dX13_gather_168 : decode cX13_gather 168 = .ok (.aload_n 0, 1) := by decide +kernel
theorem dX13_gather_169 : decode cX13_gather 169 = .ok (.getfield 22, 3) := by decide +kernel
theorem dX13_gather_172 : decode cX13_gather 172 = .ok (.iconst 0, 1) := by decide +kernel
theorem dX13_gather_173 : decode cX13_gather 173 = .ok (.iaload, 1) := by decide +kernel
theorem dX13_gather_174 : decode cX13_gather 174 = .ok (.aload_n 0, 1) := by decide +kernel
theorem dX13_gather_175 : decode cX13_gather 175 = .ok (.getfield 22, 3) := by decide +kernel
theorem dX13_gather_178 : decode cX13_gather 178 = .ok (.iconst 1, 1) := by decide +kernel
theorem dX13_gather_179 : decode cX13_gather 179 = .ok (.iaload, 1) := by decide +kernel
theorem dX13_gather_180 : decode cX13_gather 180 = .ok (.aload_n 0, 1) := by decide +kernel
theorem dX13_gather_181 : decode cX13_gather 181 = .ok (.getfield 22, 3) := by decide +kernel
theorem dX13_gather_184 : decode cX13_gather 184 = .ok (.iconst 2, 1) := by decide +kernel
theorem dX13_gather_185 : decode cX13_gather 185 = .ok (.iaload, 1) := by decide +kernel
theorem dX13_gather_186 : decode cX13_gather 186 = .ok (.invokevirtual 210, 3) := by decide +kernel
theorem dX13_gather_189 : decode cX13_gather 189 = .ok (.iinc 8 1, 3) := by decide +kernel
theorem dX13_gather_192 : decode cX13_gather 192 = .ok (.goto (-50), 3) := by decide +kernel
theorem dX13_gather_195 : decode cX13_gather 195 = .ok (.aload_n 0, 1) := by decide +kernel
theorem dX13_gather_196 : decode cX13_gather 196 = .ok (.aload 5, 2) := by decide +kernel
theorem dX13_gather_198 : decode cX13_gather 198 = .ok (.aload 5, 2) := by decide +kernel
theorem dX13_gather_200 : decode cX13_gather 200 = .ok (.iload 6, 2) := by decide +kernel
theorem dX13_gather_202 : decode cX13_gather 202 = .ok (.iload 7, 2) := by decide +kernel
theorem dX13_gather_204 : decode cX13_gather 204 = .ok (.iconst 0, 1) := by decide +kernel
theorem dX13_gather_205 : decode cX13_gather 205 = .ok (.invokevirtual 86, 3) := by decide +kernel
theorem dX13_gather_208 : decode cX13_gather 208 = .ok (.iload_n 3, 1) := by decide +kernel
theorem dX13_gather_209 : decode cX13_gather 209 = .ok (.invokevirtual 214, 3) := by decide +kernel
theorem dX13_gather_212 : decode cX13_gather 212 = .ok (.iinc 7 1, 3) := by decide +kernel
theorem dX13_gather_215 : decode cX13_gather 215 = .ok (.goto (-98), 3) := by decide +kernel
theorem dX13_gather_218 : decode cX13_gather 218 = .ok (.iinc 6 1, 3) := by decide +kernel
theorem dX13_gather_221 : decode cX13_gather 221 = .ok (.goto (-125), 3) := by decide +kernel
theorem dX13_gather_224 : decode cX13_gather 224 = .ok (.aload_n 0, 1) := by decide +kernel
theorem dX13_gather_225 : decode cX13_gather 225 = .ok (.aload 5, 2) := by decide +kernel
theorem dX13_gather_227 : decode cX13_gather 227 = .ok (.invokevirtual 154, 3) := by decide +kernel
theorem dX13_gather_230 : decode cX13_gather 230 = .ok (.ireturn, 1) := by decide +kernel
theorem dX13_regrid_0 : decode cX13_regrid 0 = .ok (.aload_n 0, 1) := by decide +kernel
theorem dX13_regrid_1 : decode cX13_regrid 1 = .ok (.invokevirtual 146, 3) := by decide +kernel
theorem dX13_regrid_4 : decode cX13_regrid 4 = .ok (.ifCond .eq 5, 3) := by decide +kernel
theorem dX13_regrid_7 : decode cX13_regrid 7 = .ok (.iconst 0, 1) := by decide +kernel
theorem dX13_regrid_8 : decode cX13_regrid 8 = .ok (.ireturn, 1) := by decide +kernel
theorem dX13_regrid_9 : decode cX13_regrid 9 = .ok (.aload_n 0, 1) := by decide +kernel
theorem dX13_regrid_10 : decode cX13_regrid 10 = .ok (.aload_n 0, 1) := by decide +kernel
theorem dX13_regrid_11 : decode cX13_regrid 11 = .ok (.iload_n 1, 1) := by decide +kernel
theorem dX13_regrid_12 : decode cX13_regrid 12 = .ok (.iload_n 2, 1) := by decide +kernel
theorem dX13_regrid_13 : decode cX13_regrid 13 = .ok (.invokevirtual 161, 3) := by decide +kernel
theorem dX13_regrid_16 : decode cX13_regrid 16 = .ok (.ifCond .ne 25, 3) := by decide +kernel
theorem dX13_regrid_19 : decode cX13_regrid 19 = .ok (.iload_n 3, 1) := by decide +kernel
theorem dX13_regrid_20 : decode cX13_regrid 20 = .ok (.iconst 1, 1) := by decide +kernel
theorem dX13_regrid_21 : decode cX13_regrid 21 = .ok (.if_icmp .lt 20, 3) := by decide +kernel
theorem dX13_regrid_24 : decode cX13_regrid 24 = .ok (.iload_n 3, 1) := by decide +kernel
theorem dX13_regrid_25 : decode cX13_regrid 25 = .ok (.bipush 40, 2) := by decide +kernel
theorem dX13_regrid_27 : decode cX13_regrid 27 = .ok (.if_icmp .gt 14, 3) := by decide +kernel
theorem dX13_regrid_30 : decode cX13_regrid 30 = .ok (.iload 4, 2) := by decide +kernel
theorem dX13_regrid_32 : decode cX13_regrid 32 = .ok (.ifCond .lt 9, 3) := by decide +kernel
theorem dX13_regrid_35 : decode cX13_regrid 35 = .ok (.iload 4, 2) := by decide +kernel
theorem dX13_regrid_37 : decode cX13_regrid 37 = .ok (.iconst 3, 1) := by decide +kernel
theorem dX13_regrid_38 : decode cX13_regrid 38 = .ok (.if_icmp .le 7, 3) := by decide +kernel
theorem dX13_regrid_41 : decode cX13_regrid 41 = .ok (.iconst 1, 1) := by decide +kernel
theorem dX13_regrid_42 : decode cX13_regrid 42 = .ok (.goto 4, 3) := by decide +kernel
theorem dX13_regrid_45 : decode cX13_regrid 45 = .ok (.iconst 0, 1) := by decide +kernel
theorem dX13_regrid_46 : decode cX13_regrid 46 = .ok (.iconst 1, 1) := by decide +kernel
theorem dX13_regrid_47 : decode cX13_regrid 47 = .ok (.invokevirtual 36, 3) := by decide +kernel
theorem dX13_regrid_50 : decode cX13_regrid 50 = .ok (.ifCond .eq 5, 3) := by decide +kernel
theorem dX13_regrid_53 : decode cX13_regrid 53 = .ok (.iconst 0, 1) := by decide +kernel
theorem dX13_regrid_54 : decode cX13_regrid 54 = .ok (.ireturn, 1) := by decide +kernel
theorem dX13_regrid_55 : decode cX13_regrid 55 = .ok (.aload_n 0, 1) := by decide +kernel
theorem dX13_regrid_56 : decode cX13_regrid 56 = .ok (.getfield 15, 3) := by decide +kernel
theorem dX13_regrid_59 : decode cX13_regrid 59 = .ok (.iload_n 1, 1) := by decide +kernel
theorem dX13_regrid_60 : decode cX13_regrid 60 = .ok (.aaload, 1) := by decide +kernel
theorem dX13_regrid_61 : decode cX13_regrid 61 = .ok (.astore 5, 2) := by decide +kernel
theorem dX13_regrid_63 : decode cX13_regrid 63 = .ok (.aload 5, 2) := by decide +kernel
theorem dX13_regrid_65 : decode cX13_regrid 65 = .ok (.aload 5, 2) := by decide +kernel
theorem dX13_regrid_67 : decode cX13_regrid 67 = .ok (.getfield 141, 3) := by decide +kernel
theorem dX13_regrid_70 : decode cX13_regrid 70 = .ok (.iconst 1, 1) := by decide +kernel
theorem dX13_regrid_71 : decode cX13_regrid 71 = .ok (.iadd, 1) := by decide +kernel
theorem dX13_regrid_72 : decode cX13_regrid 72 = .ok (.invokestatic 150, 3) := by decide +kernel
theorem dX13_regrid_75 : decode cX13_regrid 75 = .ok (.astore 6, 2) := by decide +kernel
theorem dX13_regrid_77 : decode cX13_regrid 77 = .ok (.aload 6, 2) := by decide +kernel
theorem dX13_regrid_79 : decode cX13_regrid 79 = .ok (.getfield 52, 3) := by decide +kernel
theorem dX13_regrid_82 : decode cX13_regrid 82 = .ok (.iload_n 2, 1) := by decide +kernel
theorem dX13_regrid_83 : decode cX13_regrid 83 = .ok (.aload 5, 2) := by decide +kernel
theorem dX13_regrid_85 : decode cX13_regrid 85 = .ok (.getfield 52, 3) := by decide +kernel
theorem dX13_regrid_88 : decode cX13_regrid 88 = .ok (.iload_n 2, 1) := by decide +kernel
theorem dX13_regrid_89 : decode cX13_regrid 89 = .ok (.iaload, 1) := by decide +kernel
theorem dX13_regrid_90 : decode cX13_regrid 90 = .ok (.iload_n 3, 1) := by decide +kernel
theorem dX13_regrid_91 : decode cX13_regrid 91 = .ok (.invokestatic 218, 3) := by decide +kernel
theorem dX13_regrid_94 : decode cX13_regrid 94 = .ok (.iastore, 1) := by decide +kernel
theorem dX13_regrid_95 : decode cX13_regrid 95 = .ok (.aload 6, 2) := by decide +kernel
theorem dX13_regrid_97 : decode cX13_regrid 97 = .ok (.getfield 55, 3) := by decide +kernel
theorem dX13_regrid_100 : decode cX13_regrid 100 = .ok (.iload_n 2, 1) := by decide +kernel
theorem dX13_regrid_101 : decode cX13_regrid 101 = .ok (.aload 5, 2) := by decide +kernel
theorem dX13_regrid_103 : decode cX13_regrid 103 = .ok (.getfield 55, 3) := by decide +kernel
theorem dX13_regrid_106 : decode cX13_regrid 106 = .ok (.iload_n 2, 1) := by decide +kernel
theorem dX13_regrid_107 : decode cX13_regrid 107 = .ok (.iaload, 1) := by decide +kernel
theorem dX13_regrid_108 : decode cX13_regrid 108 = .ok (.iload_n 3, 1) := by decide +kernel
theorem dX13_regrid_109 : decode cX13_regrid 109 = .ok (.invokestatic 218, 3) := by decide +kernel
theorem dX13_regrid_112 : decode cX13_regrid 112 = .ok (.iastore, 1) := by decide +kernel
theorem dX13_regrid_113 : decode cX13_regrid 113 = .ok (.aload_n 0, 1) := by decide +kernel
theorem dX13_regrid_114 : decode cX13_regrid 114 = .ok (.aload 6, 2) := by decide +kernel
theorem dX13_regrid_116 : decode cX13_regrid 116 = .ok (.invokevirtual 167, 3) := by decide +kernel
theorem dX13_regrid_119 : decode cX13_regrid 119 = .ok (.ifCond .eq 5, 3) := by decide +kernel
theorem dX13_regrid_122 : decode cX13_regrid 122 = .ok (.iconst 0, 1) := by decide +kernel
theorem dX13_regrid_123 : decode cX13_regrid 123 = .ok (.ireturn, 1) := by decide +kernel
theorem dX13_regrid_124 : decode cX13_regrid 124 = .ok (.aload 6, 2) := by decide +kernel
theorem dX13_regrid_126 : decode cX13_regrid 126 = .ok (.invokevirtual 58, 3) := by decide +kernel
theorem dX13_regrid_129 : decode cX13_regrid 129 = .ok (.aload_n 0, 1) := by decide +kernel
theorem dX13_regrid_130 : decode cX13_regrid 130 = .ok (.aload 5, 2) := by decide +kernel
theorem dX13_regrid_132 : decode cX13_regrid 132 = .ok (.aload 6, 2) := by decide +kernel
theorem dX13_regrid_134 : decode cX13_regrid 134 = .ok (.iload_n 2, 1) := by decide +kernel
theorem dX13_regrid_135 : decode cX13_regrid 135 = .ok (.iload_n 3, 1) := by decide +kernel
theorem dX13_regrid_136 : decode cX13_regrid 136 = .ok (.iconst 0, 1) := by decide +kernel
theorem dX13_regrid_137 : decode cX13_regrid 137 = .ok (.iload 4, 2) := by decide +kernel
theorem dX13_regrid_139 : decode cX13_regrid 139 = .ok (.invokevirtual 221, 3) := by decide +kernel
theorem dX13_regrid_142 : decode cX13_regrid 142 = .ok (.aload_n 0, 1) := by decide +kernel
theorem dX13_regrid_143 : decode cX13_regrid 143 = .ok (.aload 6, 2) := by decide +kernel
theorem dX13_regrid_145 : decode cX13_regrid 145 = .ok (.invokevirtual 154, 3) := by decide +kernel
theorem dX13_regrid_148 : decode cX13_regrid 148 = .ok (.ireturn, 1) := by decide +kernel
theorem dX13_parts_0 : decode cX13_parts 0 = .ok (.aload_n 2, 1) := by decide +kernel
theorem dX13_parts_1 : decode cX13_parts 1 = .ok (.getfield 52, 3) := by decide +kernel
theorem dX13_parts_4 : decode cX13_parts 4 = .ok (.iconst 0, 1) := by decide +kernel
theorem dX13_parts_5 : decode cX13_parts 5 = .ok (.iaload, 1) := by decide +kernel
theorem dX13_parts_6 : decode cX13_parts 6 = .ok (.istore 7, 2) := by decide +kernel
theorem dX13_parts_8 : decode cX13_parts 8 = .ok (.iload 7, 2) := by decide +kernel
theorem dX13_parts_10 : decode cX13_parts 10 = .ok (.aload_n 2, 1) := by decide +kernel
theorem dX13_parts_11 : decode cX13_parts 11 = .ok (.getfield 55, 3) := by decide +kernel
theorem dX13_parts_14 : decode cX13_parts 14 = .ok (.iconst 0, 1) := by decide +kernel
theorem dX13_parts_15 : decode cX13_parts 15 = .ok (.iaload, 1) := by decide +kernel
theorem dX13_parts_16 : decode cX13_parts 16 = .ok (.if_icmp .gt 161, 3) := by decide +kernel
theorem dX13_parts_19 : decode cX13_parts 19 = .ok (.aload_n 2, 1) := by decide +kernel
theorem dX13_parts_20 : decode cX13_parts 20 = .ok (.getfield 52, 3) := by decide +kernel
theorem dX13_parts_23 : decode cX13_parts 23 = .ok (.iconst 1, 1) := by decide +kernel
theorem dX13_parts_24 : decode cX13_parts 24 = .ok (.iaload, 1) := by decide +kernel
theorem dX13_parts_25 : decode cX13_parts 25 = .ok (.istore 8, 2) := by decide +kernel
theorem dX13_parts_27 : decode cX13_parts 27 = .ok (.iload 8, 2) := by decide +kernel
theorem dX13_parts_29 : decode cX13_parts 29 = .ok (.aload_n 2, 1) := by decide +kernel
theorem dX13_parts_30 : decode cX13_parts 30 = .ok (.getfield 55, 3) := by decide +kernel
theorem dX13_parts_33 : decode cX13_parts 33 = .ok (.iconst 1, 1) := by decide +kernel
theorem dX13_parts_34 : decode cX13_parts 34 = .ok (.iaload, 1) := by decide +kernel
theorem dX13_parts_35 : decode cX13_parts 35 = .ok (.if_icmp .gt 136, 3) := by decide +kernel
theorem dX13_parts_38 : decode cX13_parts 38 = .ok (.aload_n 2, 1) := by decide +kernel
theorem dX13_parts_39 : decode cX13_parts 39 = .ok (.getfield 52, 3) := by decide +kernel
theorem dX13_parts_42 : decode cX13_parts 42 = .ok (.iconst 2, 1) := by decide +kernel
theorem dX13_parts_43 : decode cX13_parts 43 = .ok (.iaload, 1) := by decide +kernel
theorem dX13_parts_44 : decode cX13_parts 44 = .ok (.istore 9, 2) := by decide +kernel
theorem dX13_parts_46 : decode cX13_parts 46 = .ok (.iload 9, 2) := by decide +kernel
theorem dX13_parts_48 : decode cX13_parts 48 = .ok (.aload_n 2, 1) := by decide +kernel
theorem dX13_parts_49 : decode cX13_parts 49 = .ok (.getfield 55, 3) := by decide +kernel
theorem dX13_parts_52 : decode cX13_parts 52 = .ok (.iconst 2, 1) := by decide +kernel
theorem dX13_parts_53 : decode cX13_parts 53 = .ok (.iaload, 1) := by decide +kernel
theorem dX13_parts_54 : decode cX13_parts 54 = .ok (.if_icmp .gt 111, 3) := by decide +kernel
theorem dX13_parts_57 : decode cX13_parts 57 = .ok (.iload_n 3, 1) := by decide +kernel
theorem dX13_parts_58 : decode cX13_parts 58 = .ok (.iload 7, 2) := by decide +kernel
theorem dX13_parts_60 : decode cX13_parts 60 = .ok (.iload 8, 2) := by decide +kernel
theorem dX13_parts_62 : decode cX13_parts 62 = .ok (.iload 9, 2) := by decide +kernel
theorem dX13_parts_64 : decode cX13_parts 64 = .ok (.invokestatic 96, 3) := by decide +kernel
theorem dX13_parts_67 : decode cX13_parts 67 = .ok (.iload 4, 2) := by decide +kernel
theorem dX13_parts_69 : decode cX13_parts 69 = .ok (.imul, 1) := by decide +kernel
theorem dX13_parts_70 : decode cX13_parts 70 = .ok (.istore 10, 2) := by decide +kernel
theorem dX13_parts_72 : decode cX13_parts 72 = .ok (.aload_n 0, 1) := by decide +kernel
theorem dX13_parts_73 : decode cX13_parts 73 = .ok (.invokevirtual 207, 3) := by decide +kernel
theorem dX13_parts_76 : decode cX13_parts 76 = .ok (.iload 10, 2) := by decide +kernel
theorem dX13_parts_78 : decode cX13_parts 78 = .ok (.iload 5, 2) := by decide +kernel
theorem dX13_parts_80 : decode cX13_parts 80 = .ok (.isub, 1) := by decide +kernel
theorem dX13_parts_81 : decode cX13_parts 81 = .ok (.istore 11, 2) := by decide +kernel
theorem dX13_parts_83 : decode cX13_parts 83 = .ok (.iload 11, 2) := by decide +kernel
theorem dX13_parts_85 : decode cX13_parts 85 = .ok (.iload 10, 2) := by decide +kernel
theorem dX13_parts_87 : decode cX13_parts 87 = .ok (.iload 4, 2) := by decide +kernel
theorem dX13_parts_89 : decode cX13_parts 89 = .ok (.iadd, 1) := by decide +kernel
theorem dX13_parts_90 : decode cX13_parts 90 = .ok (.iload 5, 2) := by decide +kernel
theorem dX13_parts_92 : decode cX13_parts 92 = .ok (.iadd, 1) := by decide +kernel
theorem dX13_parts_93 : decode cX13_parts 93 = .ok (.if_icmp .ge 49, 3) := by decide +kernel
theorem dX13_parts_96 : decode cX13_parts 96 = .ok (.aload_n 0, 1) := by decide +kernel
theorem dX13_parts_97 : decode cX13_parts 97 = .ok (.aload_n 1, 1) := by decide +kernel
theorem dX13_parts_98 : decode cX13_parts 98 = .ok (.iload_n 3, 1) := by decide +kernel
theorem dX13_parts_99 : decode cX13_parts 99 = .ok (.ifCond .ne 8, 3) := by decide +kernel
theorem dX13_parts_102 : decode cX13_parts 102 = .ok (.iload 11, 2) := by decide +kernel
theorem dX13_parts_104 : decode cX13_parts 104 = .ok (.goto 5, 3) := by decide +kernel
theorem dX13_parts_107 : decode cX13_parts 107 = .ok (.iload 7, 2) := by decide +kernel
theorem dX13_parts_109 : decode cX13_parts 109 = .ok (.iload_n 3, 1) := by decide +kernel
theorem dX13_parts_110 : decode cX13_parts 110 = .ok (.iconst 1, 1) := by decide +kernel
theorem dX13_parts_111 : decode cX13_parts 111 = .ok (.if_icmp .ne 8, 3) := by decide +kernel
theorem dX13_parts_114 : decode cX13_parts 114 = .ok (.iload 11, 2) := by decide +kernel
theorem dX13_parts_116 : decode cX13_parts 116 = .ok (.goto 5, 3) := by decide +kernel
theorem dX13_parts_119 : decode cX13_parts 119 = .ok (.iload 8, 2) := by decide +kernel
theorem dX13_parts_121 : decode cX13_parts 121 = .ok (.iload_n 3, 1) := by decide +kernel
theorem dX13_parts_122 : decode cX13_parts 122 = .ok (.iconst 2, 1) := by decide +kernel
theorem dX13_parts_123 : decode cX13_parts 123 = .ok (.if_icmp .ne 8, 3) := by decide +kernel
theorem dX13_parts_126 : decode cX13_parts 126 = .ok (.iload 11, 2) := by decide +kernel
theorem dX13_parts_128 : decode cX13_parts 128 = .ok (.goto 5, 3) := by decide +kernel
theorem dX13_parts_131 : decode cX13_parts 131 = .ok (.iload 9, 2) := by decide +kernel
theorem dX13_parts_133 : decode cX13_parts 133 = .ok (.invokevirtual 210, 3) := by decide +kernel
theorem dX13_parts_136 : decode cX13_parts 136 = .ok (.iinc 11 1, 3) := by decide +kernel
theorem dX13_parts_139 : decode cX13_parts 139 = .ok (.goto (-56), 3) := by decide +kernel
theorem dX13_parts_142 : decode cX13_parts 142 = .ok (.aload_n 0, 1) := by decide +kernel
theorem dX13_parts_143 : decode cX13_parts 143 = .ok (.aload_n 2, 1) := by decide +kernel
theorem dX13_parts_144 : decode cX13_parts 144 = .ok (.aload_n 2, 1) := by decide +kernel
theorem dX13_parts_145 : decode cX13_parts 145 = .ok (.iload 7, 2) := by decide +kernel
theorem dX13_parts_147 : decode cX13_parts 147 = .ok (.iload 8, 2) := by decide +kernel
theorem dX13_parts_149 : decode cX13_parts 149 = .ok (.iload 9, 2) := by decide +kernel
theorem dX13_parts_151 : decode cX13_parts 151 = .ok (.invokevirtual 86, 3) := by decide +kernel
theorem dX13_parts_154 : decode cX13_parts 154 = .ok (.iload 6, 2) := by decide +kernel
theorem dX13_parts_156 : decode cX13_parts 156 = .ok (.invokevirtual 214, 3) := by decide +kernel
theorem dX13_parts_159 : decode cX13_parts 159 = .ok (.iinc 9 1, 3) := by decide +kernel
theorem dX13_parts_162 : decode cX13_parts 162 = .ok (.goto (-116), 3) := by decide +kernel
theorem dX13_parts_165 : decode cX13_parts 165 = .ok (.iinc 8 1, 3) := by decide +kernel
theorem dX13_parts_168 : decode cX13_parts 168 = .ok (.goto (-141), 3) := by decide +kernel
theorem dX13_parts_171 : decode cX13_parts 171 = .ok (.iinc 7 1, 3) := by decide +kernel
theorem dX13_parts_174 : decode cX13_parts 174 = .ok (.goto (-166), 3) := by decide +kernel
theorem dX13_parts_177 : decode cX13_parts 177 = .ok (.return_, 1) := by decide +kernel
theorem dX13_window_0 : decode cX13_window 0 = .ok (.aload_n 0, 1) := by decide +kernel
theorem dX13_window_1 : decode cX13_window 1 = .ok (.invokevirtual 146, 3) := by decide +kernel
theorem dX13_window_4 : decode cX13_window 4 = .ok (.ifCond .eq 5, 3) := by decide +kernel
theorem dX13_window_7 : decode cX13_window 7 = .ok (.iconst 0, 1) := by decide +kernel
theorem dX13_window_8 : decode cX13_window 8 = .ok (.ireturn, 1) := by decide +kernel
theorem dX13_window_9 : decode cX13_window 9 = .ok (.aload_n 0, 1) := by decide +kernel
theorem dX13_window_10 : decode cX13_window 10 = .ok (.aload_n 0, 1) := by decide +kernel
theorem dX13_window_11 : decode cX13_window 11 = .ok (.iload_n 1, 1) := by decide +kernel
theorem dX13_window_12 : decode cX13_window 12 = .ok (.iload_n 2, 1) := by decide +kernel
theorem dX13_window_13 : decode cX13_window 13 = .ok (.invokevirtual 161, 3) := by decide +kernel
theorem dX13_window_16 : decode cX13_window 16 = .ok (.ifCond .ne 24, 3) := by decide +kernel
theorem dX13_window_19 : decode cX13_window 19 = .ok (.iload_n 3, 1) := by decide +kernel
theorem dX13_window_20 : decode cX13_window 20 = .ok (.ifCond .lt 20, 3) := by decide +kernel
theorem dX13_window_23 : decode cX13_window 23 = .ok (.iload_n 3, 1) := by decide +kernel
theorem dX13_window_24 : decode cX13_window 24 = .ok (.bipush 40, 2) := by decide +kernel
theorem dX13_window_26 : decode cX13_window 26 = .ok (.if_icmp .gt 14, 3) := by decide +kernel
theorem dX13_window_29 : decode cX13_window 29 = .ok (.iload 4, 2) := by decide +kernel
theorem dX13_window_31 : decode cX13_window 31 = .ok (.ifCond .lt 9, 3) := by decide +kernel
theorem dX13_window_34 : decode cX13_window 34 = .ok (.iload 4, 2) := by decide +kernel
theorem dX13_window_36 : decode cX13_window 36 = .ok (.iconst 3, 1) := by decide +kernel
theorem dX13_window_37 : decode cX13_window 37 = .ok (.if_icmp .le 7, 3) := by decide +kernel
theorem dX13_window_40 : decode cX13_window 40 = .ok (.iconst 1, 1) := by decide +kernel
theorem dX13_window_41 : decode cX13_window 41 = .ok (.goto 4, 3) := by decide +kernel
theorem dX13_window_44 : decode cX13_window 44 = .ok (.iconst 0, 1) := by decide +kernel
theorem dX13_window_45 : decode cX13_window 45 = .ok (.iconst 1, 1) := by decide +kernel
theorem dX13_window_46 : decode cX13_window 46 = .ok (.invokevirtual 36, 3) := by decide +kernel
theorem dX13_window_49 : decode cX13_window 49 = .ok (.ifCond .eq 5, 3) := by decide +kernel
theorem dX13_window_52 : decode cX13_window 52 = .ok (.iconst 0, 1) := by decide +kernel
theorem dX13_window_53 : decode cX13_window 53 = .ok (.ireturn, 1) := by decide +kernel
theorem dX13_window_54 : decode cX13_window 54 = .ok (.aload_n 0, 1) := by decide +kernel
theorem dX13_window_55 : decode cX13_window 55 = .ok (.getfield 15, 3) := by decide +kernel
theorem dX13_window_58 : decode cX13_window 58 = .ok (.iload_n 1, 1) := by decide +kernel
theorem dX13_window_59 : decode cX13_window 59 = .ok (.aaload, 1) := by decide +kernel
theorem dX13_window_60 : decode cX13_window 60 = .ok (.astore 5, 2) := by decide +kernel
theorem dX13_window_62 : decode cX13_window 62 = .ok (.aload 5, 2) := by decide +kernel
theorem dX13_window_64 : decode cX13_window 64 = .ok (.aload 5, 2) := by decide +kernel
theorem dX13_window_66 : decode cX13_window 66 = .ok (.getfield 141, 3) := by decide +kernel
theorem dX13_window_69 : decode cX13_window 69 = .ok (.iconst 1, 1) := by decide +kernel
theorem dX13_window_70 : decode cX13_window 70 = .ok (.iadd, 1) := by decide +kernel
theorem dX13_window_71 : decode cX13_window 71 = .ok (.invokestatic 150, 3) := by decide +kernel
theorem dX13_window_74 : decode cX13_window 74 = .ok (.astore 6, 2) := by decide +kernel
theorem dX13_window_76 : decode cX13_window 76 = .ok (.aload_n 0, 1) := by decide +kernel
theorem dX13_window_77 : decode cX13_window 77 = .ok (.aload 6, 2) := by decide +kernel
theorem dX13_window_79 : decode cX13_window 79 = .ok (.invokevirtual 167, 3) := by decide +kernel
theorem dX13_window_82 : decode cX13_window 82 = .ok (.ifCond .eq 5, 3) := by decide +kernel
theorem dX13_window_85 : decode cX13_window 85 = .ok (.iconst 0, 1) := by decide +kernel
theorem dX13_window_86 : decode cX13_window 86 = .ok (.ireturn, 1) := by decide +kernel
theorem dX13_window_87 : decode cX13_window 87 = .ok (.aload 6, 2) := by decide +kernel
theorem dX13_window_89 : decode cX13_window 89 = .ok (.invokevirtual 58, 3) := by decide +kernel
theorem dX13_window_92 : decode cX13_window 92 = .ok (.aload_n 0, 1) := by decide +kernel
theorem dX13_window_93 : decode cX13_window 93 = .ok (.aload 5, 2) := by decide +kernel
theorem dX13_window_95 : decode cX13_window 95 = .ok (.aload 6, 2) := by decide +kernel
theorem dX13_window_97 : decode cX13_window 97 = .ok (.iload_n 2, 1) := by decide +kernel
theorem dX13_window_98 : decode cX13_window 98 = .ok (.iconst 1, 1) := by decide +kernel
theorem dX13_window_99 : decode cX13_window 99 = .ok (.iload_n 3, 1) := by decide +kernel
theorem dX13_window_100 : decode cX13_window 100 = .ok (.iload 4, 2) := by decide +kernel
theorem dX13_window_102 : decode cX13_window 102 = .ok (.invokevirtual 221, 3) := by decide +kernel
theorem dX13_window_105 : decode cX13_window 105 = .ok (.aload_n 0, 1) := by decide +kernel
theorem dX13_window_106 : decode cX13_window 106 = .ok (.aload 6, 2) := by decide +kernel
theorem dX13_window_108 : decode cX13_window 108 = .ok (.invokevirtual 154, 3) := by decide +kernel
theorem dX13_window_111 : decode cX13_window 111 = .ok (.ireturn, 1) := by decide +kernel
theorem dX13_shape_0 : decode cX13_shape 0 = .ok (.aload_n 0, 1) := by decide +kernel
theorem dX13_shape_1 : decode cX13_shape 1 = .ok (.aload_n 0, 1) := by decide +kernel
theorem dX13_shape_2 : decode cX13_shape 2 = .ok (.iload_n 1, 1) := by decide +kernel
theorem dX13_shape_3 : decode cX13_shape 3 = .ok (.invokevirtual 158, 3) := by decide +kernel
theorem dX13_shape_6 : decode cX13_shape 6 = .ok (.ifCond .ne 13, 3) := by decide +kernel
theorem dX13_shape_9 : decode cX13_shape 9 = .ok (.iload_n 2, 1) := by decide +kernel
theorem dX13_shape_10 : decode cX13_shape 10 = .ok (.ifCond .lt 9, 3) := by decide +kernel
theorem dX13_shape_13 : decode cX13_shape 13 = .ok (.iload_n 2, 1) := by decide +kernel
theorem dX13_shape_14 : decode cX13_shape 14 = .ok (.bipush 8, 2) := by decide +kernel
theorem dX13_shape_16 : decode cX13_shape 16 = .ok (.if_icmp .le 7, 3) := by decide +kernel
theorem dX13_shape_19 : decode cX13_shape 19 = .ok (.iconst 1, 1) := by decide +kernel
theorem dX13_shape_20 : decode cX13_shape 20 = .ok (.goto 4, 3) := by decide +kernel
theorem dX13_shape_23 : decode cX13_shape 23 = .ok (.iconst 0, 1) := by decide +kernel
theorem dX13_shape_24 : decode cX13_shape 24 = .ok (.iconst 1, 1) := by decide +kernel
theorem dX13_shape_25 : decode cX13_shape 25 = .ok (.invokevirtual 36, 3) := by decide +kernel
theorem dX13_shape_28 : decode cX13_shape 28 = .ok (.ifCond .eq 5, 3) := by decide +kernel
theorem dX13_shape_31 : decode cX13_shape 31 = .ok (.iconst 0, 1) := by decide +kernel
theorem dX13_shape_32 : decode cX13_shape 32 = .ok (.ireturn, 1) := by decide +kernel
theorem dX13_shape_33 : decode cX13_shape 33 = .ok (.aload_n 0, 1) := by decide +kernel
theorem dX13_shape_34 : decode cX13_shape 34 = .ok (.getfield 15, 3) := by decide +kernel
theorem dX13_shape_37 : decode cX13_shape 37 = .ok (.iload_n 1, 1) := by decide +kernel
theorem dX13_shape_38 : decode cX13_shape 38 = .ok (.aaload, 1) := by decide +kernel
theorem dX13_shape_39 : decode cX13_shape 39 = .ok (.astore_n 3, 1) := by decide +kernel
theorem dX13_shape_40 : decode cX13_shape 40 = .ok (.iload_n 2, 1) := by decide +kernel
theorem dX13_shape_41 : decode cX13_shape 41 = .ok (.ifCond .ne 8, 3) := by decide +kernel
theorem dX13_shape_44 : decode cX13_shape 44 = .ok (.aload_n 3, 1) := by decide +kernel
theorem dX13_shape_45 : decode cX13_shape 45 = .ok (.getfield 49, 3) := by decide +kernel
theorem dX13_shape_48 : decode cX13_shape 48 = .ok (.ireturn, 1) := by decide +kernel
theorem dX13_shape_49 : decode cX13_shape 49 = .ok (.iload_n 2, 1) := by decide +kernel
theorem dX13_shape_50 : decode cX13_shape 50 = .ok (.iconst 1, 1) := by decide +kernel
theorem dX13_shape_51 : decode cX13_shape 51 = .ok (.if_icmp .ne 8, 3) := by decide +kernel
theorem dX13_shape_54 : decode cX13_shape 54 = .ok (.aload_n 3, 1) := by decide +kernel
theorem dX13_shape_55 : decode cX13_shape 55 = .ok (.getfield 141, 3) := by decide +kernel
theorem dX13_shape_58 : decode cX13_shape 58 = .ok (.ireturn, 1) := by decide +kernel
theorem dX13_shape_59 : decode cX13_shape 59 = .ok (.iload_n 2, 1) := by decide +kernel
theorem dX13_shape_60 : decode cX13_shape 60 = .ok (.bipush 8, 2) := by decide +kernel
theorem dX13_shape_62 : decode cX13_shape 62 = .ok (.if_icmp .ne 8, 3) := by decide +kernel
theorem dX13_shape_65 : decode cX13_shape 65 = .ok (.aload_n 3, 1) := by decide +kernel
theorem dX13_shape_66 : decode cX13_shape 66 = .ok (.invokevirtual 112, 3) := by decide +kernel
theorem dX13_shape_69 : decode cX13_shape 69 = .ok (.ireturn, 1) := by decide +kernel
theorem dX13_shape_70 : decode cX13_shape 70 = .ok (.iload_n 2, 1) := by decide +kernel
theorem dX13_shape_71 : decode cX13_shape 71 = .ok (.iconst 2, 1) := by decide +kernel
theorem dX13_shape_72 : decode cX13_shape 72 = .ok (.irem, 1) := by decide +kernel
theorem dX13_shape_73 : decode cX13_shape 73 = .ok (.ifCond .ne 16, 3) := by decide +kernel
theorem dX13_shape_76 : decode cX13_shape 76 = .ok (.aload_n 3, 1) := by decide +kernel
theorem dX13_shape_77 : decode cX13_shape 77 = .ok (.getfield 52, 3) := by decide +kernel
theorem dX13_shape_80 : decode cX13_shape 80 = .ok (.iload_n 2, 1) := by decide +kernel
theorem dX13_shape_81 : decode cX13_shape 81 = .ok (.iconst 2, 1) := by decide +kernel
theorem dX13_shape_82 : decode cX13_shape 82 = .ok (.idiv, 1) := by decide +kernel
theorem dX13_shape_83 : decode cX13_shape 83 = .ok (.iconst 1, 1) := by decide +kernel
theorem dX13_shape_84 : decode cX13_shape 84 = .ok (.isub, 1) := by decide +kernel
theorem dX13_shape_85 : decode cX13_shape 85 = .ok (.iaload, 1) := by decide +kernel
theorem dX13_shape_86 : decode cX13_shape 86 = .ok (.goto 13, 3) := by decide +kernel
theorem dX13_shape_89 : decode cX13_shape 89 = .ok (.aload_n 3, 1) := by decide +kernel
theorem dX13_shape_90 : decode cX13_shape 90 = .ok (.getfield 55, 3) := by decide +kernel
theorem dX13_shape_93 : decode cX13_shape 93 = .ok (.iload_n 2, 1) := by decide +kernel
theorem dX13_shape_94 : decode cX13_shape 94 = .ok (.iconst 2, 1) := by decide +kernel
theorem dX13_shape_95 : decode cX13_shape 95 = .ok (.idiv, 1) := by decide +kernel
theorem dX13_shape_96 : decode cX13_shape 96 = .ok (.iconst 1, 1) := by decide +kernel
theorem dX13_shape_97 : decode cX13_shape 97 = .ok (.isub, 1) := by decide +kernel
theorem dX13_shape_98 : decode cX13_shape 98 = .ok (.iaload, 1) := by decide +kernel
theorem dX13_shape_99 : decode cX13_shape 99 = .ok (.ireturn, 1) := by decide +kernel
theorem dX13_cell_0 : decode cX13_cell 0 = .ok (.aload_n 0, 1) := by decide +kernel
theorem dX13_cell_1 : decode cX13_cell 1 = .ok (.aload_n 0, 1) := by decide +kernel
theorem dX13_cell_2 : decode cX13_cell 2 = .ok (.iload_n 1, 1) := by decide +kernel
theorem dX13_cell_3 : decode cX13_cell 3 = .ok (.invokevirtual 158, 3) := by decide +kernel
theorem dX13_cell_6 : decode cX13_cell 6 = .ok (.iconst 1, 1) := by decide +kernel
theorem dX13_cell_7 : decode cX13_cell 7 = .ok (.invokevirtual 36, 3) := by decide +kernel
theorem dX13_cell_10 : decode cX13_cell 10 = .ok (.ifCond .eq 5, 3) := by decide +kernel
theorem dX13_cell_13 : decode cX13_cell 13 = .ok (.lconst 0, 1) := by decide +kernel
theorem dX13_cell_14 : decode cX13_cell 14 = .ok (.lreturn, 1) := by decide +kernel
theorem dX13_cell_15 : decode cX13_cell 15 = .ok (.aload_n 0, 1) := by decide +kernel
theorem dX13_cell_16 : decode cX13_cell 16 = .ok (.getfield 15, 3) := by decide +kernel
theorem dX13_cell_19 : decode cX13_cell 19 = .ok (.iload_n 1, 1) := by decide +kernel
theorem dX13_cell_20 : decode cX13_cell 20 = .ok (.aaload, 1) := by decide +kernel
theorem dX13_cell_21 : decode cX13_cell 21 = .ok (.astore 5, 2) := by decide +kernel
theorem dX13_cell_23 : decode cX13_cell 23 = .ok (.aload 5, 2) := by decide +kernel
theorem dX13_cell_25 : decode cX13_cell 25 = .ok (.getfield 49, 3) := by decide +kernel
theorem dX13_cell_28 : decode cX13_cell 28 = .ok (.iconst 1, 1) := by decide +kernel
theorem dX13_cell_29 : decode cX13_cell 29 = .ok (.if_icmp .le 7, 3) := by decide +kernel
theorem dX13_cell_32 : decode cX13_cell 32 = .ok (.iload_n 3, 1) := by decide +kernel
theorem dX13_cell_33 : decode cX13_cell 33 = .ok (.goto 4, 3) := by decide +kernel
theorem dX13_cell_36 : decode cX13_cell 36 = .ok (.iconst 0, 1) := by decide +kernel
theorem dX13_cell_37 : decode cX13_cell 37 = .ok (.istore 6, 2) := by decide +kernel
theorem dX13_cell_39 : decode cX13_cell 39 = .ok (.aload 5, 2) := by decide +kernel
theorem dX13_cell_41 : decode cX13_cell 41 = .ok (.getfield 49, 3) := by decide +kernel
theorem dX13_cell_44 : decode cX13_cell 44 = .ok (.iconst 2, 1) := by decide +kernel
theorem dX13_cell_45 : decode cX13_cell 45 = .ok (.if_icmp .le 8, 3) := by decide +kernel
theorem dX13_cell_48 : decode cX13_cell 48 = .ok (.iload 4, 2) := by decide +kernel
theorem dX13_cell_50 : decode cX13_cell 50 = .ok (.goto 4, 3) := by decide +kernel
theorem dX13_cell_53 : decode cX13_cell 53 = .ok (.iconst 0, 1) := by decide +kernel
theorem dX13_cell_54 : decode cX13_cell 54 = .ok (.istore 7, 2) := by decide +kernel
theorem dX13_cell_56 : decode cX13_cell 56 = .ok (.aload_n 0, 1) := by decide +kernel
theorem dX13_cell_57 : decode cX13_cell 57 = .ok (.aload 5, 2) := by decide +kernel
theorem dX13_cell_59 : decode cX13_cell 59 = .ok (.iload_n 2, 1) := by decide +kernel
theorem dX13_cell_60 : decode cX13_cell 60 = .ok (.iload 6, 2) := by decide +kernel
theorem dX13_cell_62 : decode cX13_cell 62 = .ok (.iload 7, 2) := by decide +kernel
theorem dX13_cell_64 : decode cX13_cell 64 = .ok (.invokevirtual 82, 3) := by decide +kernel
theorem dX13_cell_67 : decode cX13_cell 67 = .ok (.ifCond .ne 7, 3) := by decide +kernel
theorem dX13_cell_70 : decode cX13_cell 70 = .ok (.iconst 1, 1) := by decide +kernel
theorem dX13_cell_71 : decode cX13_cell 71 = .ok (.goto 4, 3) := by decide +kernel
theorem dX13_cell_74 : decode cX13_cell 74 = .ok (.iconst 0, 1) := by decide +kernel
theorem dX13_cell_75 : decode cX13_cell 75 = .ok (.iconst 2, 1) := by decide +kernel
theorem dX13_cell_76 : decode cX13_cell 76 = .ok (.invokevirtual 36, 3) := by decide +kernel
theorem dX13_cell_79 : decode cX13_cell 79 = .ok (.ifCond .eq 5, 3) := by decide +kernel
theorem dX13_cell_82 : decode cX13_cell 82 = .ok (.lconst 0, 1) := by decide +kernel
theorem dX13_cell_83 : decode cX13_cell 83 = .ok (.lreturn, 1) := by decide +kernel
theorem dX13_cell_84 : decode cX13_cell 84 = .ok (.aload_n 0, 1) := by decide +kernel
theorem dX13_cell_85 : decode cX13_cell 85 = .ok (.aload 5, 2) := by decide +kernel
theorem dX13_cell_87 : decode cX13_cell 87 = .ok (.getfield 78, 3) := by decide +kernel
theorem dX13_cell_90 : decode cX13_cell 90 = .ok (.aload 5, 2) := by decide +kernel
theorem dX13_cell_92 : decode cX13_cell 92 = .ok (.iload_n 2, 1) := by decide +kernel
theorem dX13_cell_93 : decode cX13_cell 93 = .ok (.iload 6, 2) := by decide +kernel
theorem dX13_cell_95 : decode cX13_cell 95 = .ok (.iload 7, 2) := by decide +kernel
theorem dX13_cell_97 : decode cX13_cell 97 = .ok (.invokevirtual 86, 3) := by decide +kernel
theorem dX13_cell_100 : decode cX13_cell 100 = .ok (.baload, 1) := by decide +kernel
theorem dX13_cell_101 : decode cX13_cell 101 = .ok (.ifCond .ne 7, 3) := by decide +kernel
theorem dX13_cell_104 : decode cX13_cell 104 = .ok (.iconst 1, 1) := by decide +kernel
theorem dX13_cell_105 : decode cX13_cell 105 = .ok (.goto 4, 3) := by decide +kernel
theorem dX13_cell_108 : decode cX13_cell 108 = .ok (.iconst 0, 1) := by decide +kernel
theorem dX13_cell_109 : decode cX13_cell 109 = .ok (.iconst 3, 1) := by decide +kernel
theorem dX13_cell_110 : decode cX13_cell 110 = .ok (.invokevirtual 36, 3) := by decide +kernel
theorem dX13_cell_113 : decode cX13_cell 113 = .ok (.ifCond .eq 7, 3) := by decide +kernel
theorem dX13_cell_116 : decode cX13_cell 116 = .ok (.lconst 0, 1) := by decide +kernel
theorem dX13_cell_117 : decode cX13_cell 117 = .ok (.goto 19, 3) := by decide +kernel
theorem dX13_cell_120 : decode cX13_cell 120 = .ok (.aload 5, 2) := by decide +kernel
theorem dX13_cell_122 : decode cX13_cell 122 = .ok (.getfield 74, 3) := by decide +kernel
theorem dX13_cell_125 : decode cX13_cell 125 = .ok (.aload 5, 2) := by decide +kernel
theorem dX13_cell_127 : decode cX13_cell 127 = .ok (.iload_n 2, 1) := by decide +kernel
theorem dX13_cell_128 : decode cX13_cell 128 = .ok (.iload 6, 2) := by decide +kernel
theorem dX13_cell_130 : decode cX13_cell 130 = .ok (.iload 7, 2) := by decide +kernel
theorem dX13_cell_132 : decode cX13_cell 132 = .ok (.invokevirtual 86, 3) := by decide +kernel
theorem dX13_cell_135 : decode cX13_cell 135 = .ok (.laload, 1) := by decide +kernel
theorem dX13_cell_136 : decode cX13_cell 136 = .ok (.lreturn, 1) := by decide +kernel
theorem dX13_all_0 : decode cX13_all 0 = .ok (.aload_n 0, 1) := by decide +kernel
theorem dX13_all_1 : decode cX13_all 1 = .ok (.aload_n 0, 1) := by decide +kernel
theorem dX13_all_2 : decode cX13_all 2 = .ok (.iload_n 1, 1) := by decide +kernel
theorem dX13_all_3 : decode cX13_all 3 = .ok (.invokevirtual 158, 3) := by decide +kernel
theorem dX13_all_6 : decode cX13_all 6 = .ok (.ifCond .ne 12, 3) := by decide +kernel
theorem dX13_all_9 : decode cX13_all 9 = .ok (.iload_n 2, 1) := by decide +kernel
theorem dX13_all_10 : decode cX13_all 10 = .ok (.ifCond .lt 8, 3) := by decide +kernel
theorem dX13_all_13 : decode cX13_all 13 = .ok (.iload_n 2, 1) := by decide +kernel
theorem dX13_all_14 : decode cX13_all 14 = .ok (.iconst 3, 1) := by decide +kernel
theorem dX13_all_15 : decode cX13_all 15 = .ok (.if_icmp .le 7, 3) := by decide +kernel
theorem dX13_all_18 : decode cX13_all 18 = .ok (.iconst 1, 1) := by decide +kernel
theorem dX13_all_19 : decode cX13_all 19 = .ok (.goto 4, 3) := by decide +kernel
theorem dX13_all_22 : decode cX13_all 22 = .ok (.iconst 0, 1) := by decide +kernel
theorem dX13_all_23 : decode cX13_all 23 = .ok (.iconst 1, 1) := by decide +kernel
theorem dX13_all_24 : decode cX13_all 24 = .ok (.invokevirtual 36, 3) := by decide +kernel
theorem dX13_all_27 : decode cX13_all 27 = .ok (.ifCond .eq 5, 3) := by decide +kernel
theorem dX13_all_30 : decode cX13_all 30 = .ok (.lconst 0, 1) := by decide +kernel
theorem dX13_all_31 : decode cX13_all 31 = .ok (.lreturn, 1) := by decide +kernel
theorem dX13_all_32 : decode cX13_all 32 = .ok (.aload_n 0, 1) := by decide +kernel
theorem dX13_all_33 : decode cX13_all 33 = .ok (.getfield 15, 3) := by decide +kernel
theorem dX13_all_36 : decode cX13_all 36 = .ok (.iload_n 1, 1) := by decide +kernel
theorem dX13_all_37 : decode cX13_all 37 = .ok (.aaload, 1) := by decide +kernel
theorem dX13_all_38 : decode cX13_all 38 = .ok (.astore_n 3, 1) := by decide +kernel
theorem dX13_all_39 : decode cX13_all 39 = .ok (.aload_n 0, 1) := by decide +kernel
theorem dX13_all_40 : decode cX13_all 40 = .ok (.invokevirtual 207, 3) := by decide +kernel
theorem dX13_all_43 : decode cX13_all 43 = .ok (.aload_n 3, 1) := by decide +kernel
theorem dX13_all_44 : decode cX13_all 44 = .ok (.getfield 52, 3) := by decide +kernel
theorem dX13_all_47 : decode cX13_all 47 = .ok (.iconst 0, 1) := by decide +kernel
theorem dX13_all_48 : decode cX13_all 48 = .ok (.iaload, 1) := by decide +kernel
theorem dX13_all_49 : decode cX13_all 49 = .ok (.istore 4, 2) := by decide +kernel
theorem dX13_all_51 : decode cX13_all 51 = .ok (.iload 4, 2) := by decide +kernel
theorem dX13_all_53 : decode cX13_all 53 = .ok (.aload_n 3, 1) := by decide +kernel
theorem dX13_all_54 : decode cX13_all 54 = .ok (.getfield 55, 3) := by decide +kernel
theorem dX13_all_57 : decode cX13_all 57 = .ok (.iconst 0, 1) := by decide +kernel
theorem dX13_all_58 : decode cX13_all 58 = .ok (.iaload, 1) := by decide +kernel
theorem dX13_all_59 : decode cX13_all 59 = .ok (.if_icmp .gt 70, 3) := by decide +kernel
theorem dX13_all_62 : decode cX13_all 62 = .ok (.aload_n 3, 1) := by decide +kernel
theorem dX13_all_63 : decode cX13_all 63 = .ok (.getfield 52, 3) := by decide +kernel
theorem dX13_all_66 : decode cX13_all 66 = .ok (.iconst 1, 1) := by decide +kernel
theorem dX13_all_67 : decode cX13_all 67 = .ok (.iaload, 1) := by decide +kernel
theorem dX13_all_68 : decode cX13_all 68 = .ok (.istore 5, 2) := by decide +kernel
theorem dX13_all_70 : decode cX13_all 70 = .ok (.iload 5, 2) := by decide +kernel
theorem dX13_all_72 : decode cX13_all 72 = .ok (.aload_n 3, 1) := by decide +kernel
theorem dX13_all_73 : decode cX13_all 73 = .ok (.getfield 55, 3) := by decide +kernel
theorem dX13_all_76 : decode cX13_all 76 = .ok (.iconst 1, 1) := by decide +kernel
theorem dX13_all_77 : decode cX13_all 77 = .ok (.iaload, 1) := by decide +kernel
theorem dX13_all_78 : decode cX13_all 78 = .ok (.if_icmp .gt 45, 3) := by decide +kernel
theorem dX13_all_81 : decode cX13_all 81 = .ok (.aload_n 3, 1) := by decide +kernel
theorem dX13_all_82 : decode cX13_all 82 = .ok (.getfield 52, 3) := by decide +kernel
theorem dX13_all_85 : decode cX13_all 85 = .ok (.iconst 2, 1) := by decide +kernel
theorem dX13_all_86 : decode cX13_all 86 = .ok (.iaload, 1) := by decide +kernel
theorem dX13_all_87 : decode cX13_all 87 = .ok (.istore 6, 2) := by decide +kernel
theorem dX13_all_89 : decode cX13_all 89 = .ok (.iload 6, 2) := by decide +kernel
theorem dX13_all_91 : decode cX13_all 91 = .ok (.aload_n 3, 1) := by decide +kernel
theorem dX13_all_92 : decode cX13_all 92 = .ok (.getfield 55, 3) := by decide +kernel
theorem dX13_all_95 : decode cX13_all 95 = .ok (.iconst 2, 1) := by decide +kernel
theorem dX13_all_96 : decode cX13_all 96 = .ok (.iaload, 1) := by decide +kernel
theorem dX13_all_97 : decode cX13_all 97 = .ok (.if_icmp .gt 20, 3) := by decide +kernel
theorem dX13_all_100 : decode cX13_all 100 = .ok (.aload_n 0, 1) := by decide +kernel
theorem dX13_all_101 : decode cX13_all 101 = .ok (.aload_n 3, 1) := by decide +kernel
theorem dX13_all_102 : decode cX13_all 102 = .ok (.iload 4, 2) := by decide +kernel
theorem dX13_all_104 : decode cX13_all 104 = .ok (.iload 5, 2) := by decide +kernel
theorem dX13_all_106 : decode cX13_all 106 = .ok (.iload 6, 2) := by decide +kernel
theorem dX13_all_108 : decode cX13_all 108 = .ok (.invokevirtual 210, 3) := by decide +kernel
theorem dX13_all_111 : decode cX13_all 111 = .ok (.iinc 6 1, 3) := by decide +kernel
theorem dX13_all_114 : decode cX13_all 114 = .ok (.goto (-25), 3) := by decide +kernel
theorem dX13_all_117 : decode cX13_all 117 = .ok (.iinc 5 1, 3) := by decide +kernel
theorem dX13_all_120 : decode cX13_all 120 = .ok (.goto (-50), 3) := by decide +kernel
theorem dX13_all_123 : decode cX13_all 123 = .ok (.iinc 4 1, 3) := by decide +kernel
theorem dX13_all_126 : decode cX13_all 126 = .ok (.goto (-75), 3) := by decide +kernel
theorem dX13_all_129 : decode cX13_all 129 = .ok (.aload_n 0, 1) := by decide +kernel
theorem dX13_all_130 : decode cX13_all 130 = .ok (.aload_n 0, 1) := by decide +kernel
theorem dX13_all_131 : decode cX13_all 131 = .ok (.getfield 190, 3) := by decide +kernel
theorem dX13_all_134 : decode cX13_all 134 = .ok (.ifCond .ne 7, 3) := by decide +kernel
theorem dX13_all_137 : decode cX13_all 137 = .ok (.iconst 1, 1) := by decide +kernel
theorem dX13_all_138 : decode cX13_all 138 = .ok (.goto 4, 3) := by decide +kernel
theorem dX13_all_141 : decode cX13_all 141 = .ok (.iconst 0, 1) := by decide +kernel
theorem dX13_all_142 : decode cX13_all 142 = .ok (.iconst 2, 1) := by decide +kernel
theorem dX13_all_143 : decode cX13_all 143 = .ok (.invokevirtual 36, 3) := by decide +kernel
theorem dX13_all_146 : decode cX13_all 146 = .ok (.ifCond .eq 7, 3) := by decide +kernel
theorem dX13_all_149 : decode cX13_all 149 = .ok (.lconst 0, 1) := by decide +kernel
theorem dX13_all_150 : decode cX13_all 150 = .ok (.goto 8, 3) := by decide +kernel
theorem dX13_all_153 : decode cX13_all 153 = .ok (.aload_n 0, 1) := by decide +kernel
theorem dX13_all_154 : decode cX13_all 154 = .ok (.iload_n 2, 1) := by decide +kernel
theorem dX13_all_155 : decode cX13_all 155 = .ok (.invokevirtual 203, 3) := by decide +kernel
theorem dX13_all_158 : decode cX13_all 158 = .ok (.lreturn, 1) := by decide +kernel
theorem dX13_count_0 : decode cX13_count 0 = .ok (.aload_n 0, 1) := by decide +kernel
theorem dX13_count_1 : decode cX13_count 1 = .ok (.iload_n 1, 1) := by decide +kernel
theorem dX13_count_2 : decode cX13_count 2 = .ok (.ifCond .lt 8, 3) := by decide +kernel
theorem dX13_count_5 : decode cX13_count 5 = .ok (.iload_n 1, 1) := by decide +kernel
theorem dX13_count_6 : decode cX13_count 6 = .ok (.iconst 3, 1) := by decide +kernel
theorem dX13_count_7 : decode cX13_count 7 = .ok (.if_icmp .le 7, 3) := by decide +kernel
theorem dX13_count_10 : decode cX13_count 10 = .ok (.iconst 1, 1) := by decide +kernel
theorem dX13_count_11 : decode cX13_count 11 = .ok (.goto 4, 3) := by decide +kernel
theorem dX13_count_14 : decode cX13_count 14 = .ok (.iconst 0, 1) := by decide +kernel
theorem dX13_count_15 : decode cX13_count 15 = .ok (.iconst 1, 1) := by decide +kernel
theorem dX13_count_16 : decode cX13_count 16 = .ok (.invokevirtual 36, 3) := by decide +kernel
theorem dX13_count_19 : decode cX13_count 19 = .ok (.ifCond .eq 5, 3) := by decide +kernel
theorem dX13_count_22 : decode cX13_count 22 = .ok (.iconst 0, 1) := by decide +kernel
theorem dX13_count_23 : decode cX13_count 23 = .ok (.ireturn, 1) := by decide +kernel
theorem dX13_count_24 : decode cX13_count 24 = .ok (.iload_n 1, 1) := by decide +kernel
theorem dX13_count_25 : decode cX13_count 25 = .ok (.ifCond .ne 10, 3) := by decide +kernel
theorem dX13_count_28 : decode cX13_count 28 = .ok (.aload_n 0, 1) := by decide +kernel
theorem dX13_count_29 : decode cX13_count 29 = .ok (.getfield 65, 3) := by decide +kernel
theorem dX13_count_32 : decode cX13_count 32 = .ok (.goto 43, 3) := by decide +kernel
theorem dX13_count_35 : decode cX13_count 35 = .ok (.iload_n 1, 1) := by decide +kernel
theorem dX13_count_36 : decode cX13_count 36 = .ok (.iconst 1, 1) := by decide +kernel
theorem dX13_count_37 : decode cX13_count 37 = .ok (.if_icmp .ne 10, 3) := by decide +kernel
theorem dX13_count_40 : decode cX13_count 40 = .ok (.aload_n 0, 1) := by decide +kernel
theorem dX13_count_41 : decode cX13_count 41 = .ok (.getfield 68, 3) := by decide +kernel
theorem dX13_count_44 : decode cX13_count 44 = .ok (.goto 31, 3) := by decide +kernel
theorem dX13_count_47 : decode cX13_count 47 = .ok (.iload_n 1, 1) := by decide +kernel
theorem dX13_count_48 : decode cX13_count 48 = .ok (.iconst 2, 1) := by decide +kernel
theorem dX13_count_49 : decode cX13_count 49 = .ok (.if_icmp .ne 10, 3) := by decide +kernel
theorem dX13_count_52 : decode cX13_count 52 = .ok (.aload_n 0, 1) := by decide +kernel
theorem dX13_count_53 : decode cX13_count 53 = .ok (.getfield 71, 3) := by decide +kernel
theorem dX13_count_56 : decode cX13_count 56 = .ok (.goto 19, 3) := by decide +kernel
theorem dX13_count_59 : decode cX13_count 59 = .ok (.aload_n 0, 1) := by decide +kernel
theorem dX13_count_60 : decode cX13_count 60 = .ok (.getfield 45, 3) := by decide +kernel
theorem dX13_count_63 : decode cX13_count 63 = .ok (.aload_n 0, 1) := by decide +kernel
theorem dX13_count_64 : decode cX13_count 64 = .ok (.getfield 11, 3) := by decide +kernel
theorem dX13_count_67 : decode cX13_count 67 = .ok (.aload_n 0, 1) := by decide +kernel
theorem dX13_count_68 : decode cX13_count 68 = .ok (.getfield 71, 3) := by decide +kernel
