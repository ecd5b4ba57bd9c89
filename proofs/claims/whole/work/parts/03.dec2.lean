theorem dX11_fill_32 : decode cX11_fill 32 = .ok (.aload_n 0, 1) := by decide +kernel
theorem dX11_fill_33 : decode cX11_fill 33 = .ok (.getfield 68, 3) := by decide +kernel
theorem dX11_fill_36 : decode cX11_fill 36 = .ok (.iload 7, 2) := by decide +kernel
theorem dX11_fill_38 : decode cX11_fill 38 = .ok (.iload_n 1, 1) := by decide +kernel
theorem dX11_fill_39 : decode cX11_fill 39 = .ok (.invokevirtual 80, 3) := by decide +kernel
theorem dX11_fill_42 : decode cX11_fill 42 = .ok (.istore 8, 2) := by decide +kernel
theorem dX11_fill_44 : decode cX11_fill 44 = .ok (.iload 8, 2) := by decide +kernel
theorem dX11_fill_46 : decode cX11_fill 46 = .ok (.iload_n 2, 1) := by decide +kernel
theorem dX11_fill_47 : decode cX11_fill 47 = .ok (.if_icmp .lt 20, 3) := by decide +kernel
theorem dX11_fill_50 : decode cX11_fill 50 = .ok (.iload 8, 2) := by decide +kernel
theorem dX11_fill_52 : decode cX11_fill 52 = .ok (.iload_n 3, 1) := by decide +kernel
theorem dX11_fill_53 : decode cX11_fill 53 = .ok (.if_icmp .gt 14, 3) := by decide +kernel
theorem dX11_fill_56 : decode cX11_fill 56 = .ok (.aload_n 0, 1) := by decide +kernel
theorem dX11_fill_57 : decode cX11_fill 57 = .ok (.getfield 50, 3) := by decide +kernel
theorem dX11_fill_60 : decode cX11_fill 60 = .ok (.iload 7, 2) := by decide +kernel
theorem dX11_fill_62 : decode cX11_fill 62 = .ok (.lload 4, 2) := by decide +kernel
theorem dX11_fill_64 : decode cX11_fill 64 = .ok (.invokevirtual 58, 3) := by decide +kernel
theorem dX11_fill_67 : decode cX11_fill 67 = .ok (.iinc 7 1, 3) := by decide +kernel
theorem dX11_fill_70 : decode cX11_fill 70 = .ok (.goto (-45), 3) := by decide +kernel
theorem dX11_fill_73 : decode cX11_fill 73 = .ok (.return_, 1) := by decide +kernel
theorem dX11_commit_0 : decode cX11_commit 0 = .ok (.aload_n 0, 1) := by decide +kernel
theorem dX11_commit_1 : decode cX11_commit 1 = .ok (.getfield 10, 3) := by decide +kernel
theorem dX11_commit_4 : decode cX11_commit 4 = .ok (.invokeinterface 84 1, 5) := by decide +kernel
theorem dX11_commit_9 : decode cX11_commit 9 = .ok (.bipush 41, 2) := by decide +kernel
theorem dX11_commit_11 : decode cX11_commit 11 = .ok (.if_icmp .lt 13, 3) := by decide +kernel
theorem dX11_commit_14 : decode cX11_commit 14 = .ok (.new 87, 3) := by decide +kernel
theorem dX11_commit_17 : decode cX11_commit 17 = .ok (.dup, 1) := by decide +kernel
theorem dX11_commit_18 : decode cX11_commit 18 = .ok (.ldc 89, 2) := by decide +kernel
theorem dX11_commit_20 : decode cX11_commit 20 = .ok (.invokespecial 91, 3) := by decide +kernel
theorem dX11_commit_23 : decode cX11_commit 23 = .ok (.athrow, 1) := by decide +kernel
theorem dX11_commit_24 : decode cX11_commit 24 = .ok (.new 92, 3) := by decide +kernel
theorem dX11_commit_27 : decode cX11_commit 27 = .ok (.dup, 1) := by decide +kernel
theorem dX11_commit_28 : decode cX11_commit 28 = .ok (.aload_n 0, 1) := by decide +kernel
theorem dX11_commit_29 : decode cX11_commit 29 = .ok (.getfield 68, 3) := by decide +kernel
theorem dX11_commit_32 : decode cX11_commit 32 = .ok (.aload_n 0, 1) := by decide +kernel
theorem dX11_commit_33 : decode cX11_commit 33 = .ok (.getfield 94, 3) := by decide +kernel
theorem dX11_commit_36 : decode cX11_commit 36 = .ok (.invokespecial 97, 3) := by decide +kernel
theorem dX11_commit_39 : decode cX11_commit 39 = .ok (.astore_n 1, 1) := by decide +kernel
theorem dX11_commit_40 : decode cX11_commit 40 = .ok (.aload_n 1, 1) := by decide +kernel
theorem dX11_commit_41 : decode cX11_commit 41 = .ok (.aload_n 0, 1) := by decide +kernel
theorem dX11_commit_42 : decode cX11_commit 42 = .ok (.getfield 50, 3) := by decide +kernel
theorem dX11_commit_45 : decode cX11_commit 45 = .ok (.aload_n 0, 1) := by decide +kernel
theorem dX11_commit_46 : decode cX11_commit 46 = .ok (.aload_n 0, 1) := by decide +kernel
theorem dX11_commit_47 : decode cX11_commit 47 = .ok (.getfield 94, 3) := by decide +kernel
theorem dX11_commit_50 : decode cX11_commit 50 = .ok (.invokevirtual 100, 3) := by decide +kernel
theorem dX11_commit_53 : decode cX11_commit 53 = .ok (.aload_n 0, 1) := by decide +kernel
theorem dX11_commit_54 : decode cX11_commit 54 = .ok (.getfield 19, 3) := by decide +kernel
theorem dX11_commit_57 : decode cX11_commit 57 = .ok (.invokevirtual 104, 3) := by decide +kernel
theorem dX11_commit_60 : decode cX11_commit 60 = .ok (.aload_n 0, 1) := by decide +kernel
theorem dX11_commit_61 : decode cX11_commit 61 = .ok (.getfield 10, 3) := by decide +kernel
theorem dX11_commit_64 : decode cX11_commit 64 = .ok (.aload_n 1, 1) := by decide +kernel
theorem dX11_commit_65 : decode cX11_commit 65 = .ok (.invokeinterface 108 2, 5) := by decide +kernel
theorem dX11_commit_70 : decode cX11_commit 70 = .ok (.pop, 1) := by decide +kernel
theorem dX11_commit_71 : decode cX11_commit 71 = .ok (.aload_n 0, 1) := by decide +kernel
theorem dX11_commit_72 : decode cX11_commit 72 = .ok (.aload_n 0, 1) := by decide +kernel
theorem dX11_commit_73 : decode cX11_commit 73 = .ok (.getfield 10, 3) := by decide +kernel
theorem dX11_commit_76 : decode cX11_commit 76 = .ok (.invokeinterface 84 1, 5) := by decide +kernel
theorem dX11_commit_81 : decode cX11_commit 81 = .ok (.iconst 1, 1) := by decide +kernel
theorem dX11_commit_82 : decode cX11_commit 82 = .ok (.isub, 1) := by decide +kernel
theorem dX11_commit_83 : decode cX11_commit 83 = .ok (.putfield 94, 3) := by decide +kernel
theorem dX11_commit_86 : decode cX11_commit 86 = .ok (.aload_n 0, 1) := by decide +kernel
theorem dX11_commit_87 : decode cX11_commit 87 = .ok (.getfield 94, 3) := by decide +kernel
theorem dX11_commit_90 : decode cX11_commit 90 = .ok (.ireturn, 1) := by decide +kernel
theorem dX11_open_0 : decode cX11_open 0 = .ok (.aload_n 0, 1) := by decide +kernel
theorem dX11_open_1 : decode cX11_open 1 = .ok (.getfield 50, 3) := by decide +kernel
theorem dX11_open_4 : decode cX11_open 4 = .ok (.aload_n 0, 1) := by decide +kernel
theorem dX11_open_5 : decode cX11_open 5 = .ok (.iload_n 1, 1) := by decide +kernel
theorem dX11_open_6 : decode cX11_open 6 = .ok (.invokevirtual 100, 3) := by decide +kernel
theorem dX11_open_9 : decode cX11_open 9 = .ok (.invokevirtual 112, 3) := by decide +kernel
theorem dX11_open_12 : decode cX11_open 12 = .ok (.invokevirtual 116, 3) := by decide +kernel
theorem dX11_open_15 : decode cX11_open 15 = .ok (.aload_n 0, 1) := by decide +kernel
theorem dX11_open_16 : decode cX11_open 16 = .ok (.iload_n 1, 1) := by decide +kernel
theorem dX11_open_17 : decode cX11_open 17 = .ok (.putfield 94, 3) := by decide +kernel
theorem dX11_open_20 : decode cX11_open 20 = .ok (.return_, 1) := by decide +kernel
theorem dX11_version_0 : decode cX11_version 0 = .ok (.aload_n 0, 1) := by decide +kernel
theorem dX11_version_1 : decode cX11_version 1 = .ok (.iload_n 1, 1) := by decide +kernel
theorem dX11_version_2 : decode cX11_version 2 = .ok (.invokevirtual 100, 3) := by decide +kernel
theorem dX11_version_5 : decode cX11_version 5 = .ok (.astore_n 3, 1) := by decide +kernel
theorem dX11_version_6 : decode cX11_version 6 = .ok (.iload_n 2, 1) := by decide +kernel
theorem dX11_version_7 : decode cX11_version 7 = .ok (.tableswitch 52 0 3 #[29, 34, 39, 44], 29) := by decide +kernel
theorem dX11_version_36 : decode cX11_version 36 = .ok (.aload_n 3, 1) := by decide +kernel
theorem dX11_version_37 : decode cX11_version 37 = .ok (.invokevirtual 120, 3) := by decide +kernel
theorem dX11_version_40 : decode cX11_version 40 = .ok (.ireturn, 1) := by decide +kernel
theorem dX11_version_41 : decode cX11_version 41 = .ok (.aload_n 3, 1) := by decide +kernel
theorem dX11_version_42 : decode cX11_version 42 = .ok (.invokevirtual 123, 3) := by decide +kernel
theorem dX11_version_45 : decode cX11_version 45 = .ok (.ireturn, 1) := by decide +kernel
theorem dX11_version_46 : decode cX11_version 46 = .ok (.aload_n 3, 1) := by decide +kernel
theorem dX11_version_47 : decode cX11_version 47 = .ok (.invokevirtual 126, 3) := by decide +kernel
theorem dX11_version_50 : decode cX11_version 50 = .ok (.ireturn, 1) := by decide +kernel
theorem dX11_version_51 : decode cX11_version 51 = .ok (.aload_n 3, 1) := by decide +kernel
theorem dX11_version_52 : decode cX11_version 52 = .ok (.invokevirtual 112, 3) := by decide +kernel
theorem dX11_version_55 : decode cX11_version 55 = .ok (.invokevirtual 129, 3) := by decide +kernel
theorem dX11_version_58 : decode cX11_version 58 = .ok (.ireturn, 1) := by decide +kernel
theorem dX11_version_59 : decode cX11_version 59 = .ok (.new 132, 3) := by decide +kernel
theorem dX11_version_62 : decode cX11_version 62 = .ok (.dup, 1) := by decide +kernel
theorem dX11_version_63 : decode cX11_version 63 = .ok (.ldc 134, 2) := by decide +kernel
theorem dX11_version_65 : decode cX11_version 65 = .ok (.invokespecial 136, 3) := by decide +kernel
theorem dX11_version_68 : decode cX11_version 68 = .ok (.athrow, 1) := by decide +kernel
theorem dX11_differ_0 : decode cX11_differ 0 = .ok (.aload_n 0, 1) := by decide +kernel
theorem dX11_differ_1 : decode cX11_differ 1 = .ok (.iload_n 1, 1) := by decide +kernel
theorem dX11_differ_2 : decode cX11_differ 2 = .ok (.invokevirtual 100, 3) := by decide +kernel
theorem dX11_differ_5 : decode cX11_differ 5 = .ok (.invokevirtual 112, 3) := by decide +kernel
theorem dX11_differ_8 : decode cX11_differ 8 = .ok (.aload_n 0, 1) := by decide +kernel
theorem dX11_differ_9 : decode cX11_differ 9 = .ok (.iload_n 2, 1) := by decide +kernel
theorem dX11_differ_10 : decode cX11_differ 10 = .ok (.invokevirtual 100, 3) := by decide +kernel
theorem dX11_differ_13 : decode cX11_differ 13 = .ok (.invokevirtual 112, 3) := by decide +kernel
theorem dX11_differ_16 : decode cX11_differ 16 = .ok (.invokevirtual 137, 3) := by decide +kernel
theorem dX11_differ_19 : decode cX11_differ 19 = .ok (.ireturn, 1) := by decide +kernel
theorem dX11_read_0 : decode cX11_read 0 = .ok (.aload_n 0, 1) := by decide +kernel
theorem dX11_read_1 : decode cX11_read 1 = .ok (.invokevirtual 141, 3) := by decide +kernel
theorem dX11_read_4 : decode cX11_read 4 = .ok (.aload_n 0, 1) := by decide +kernel
theorem dX11_read_5 : decode cX11_read 5 = .ok (.aload_n 0, 1) := by decide +kernel
theorem dX11_read_6 : decode cX11_read 6 = .ok (.iload_n 1, 1) := by decide +kernel
theorem dX11_read_7 : decode cX11_read 7 = .ok (.invokevirtual 100, 3) := by decide +kernel
theorem dX11_read_10 : decode cX11_read 10 = .ok (.invokevirtual 144, 3) := by decide +kernel
theorem dX11_read_13 : decode cX11_read 13 = .ok (.ireturn, 1) := by decide +kernel
theorem dX11_sub_0 : decode cX11_sub 0 = .ok (.aload_n 0, 1) := by decide +kernel
theorem dX11_sub_1 : decode cX11_sub 1 = .ok (.invokevirtual 141, 3) := by decide +kernel
theorem dX11_sub_4 : decode cX11_sub 4 = .ok (.aload_n 0, 1) := by decide +kernel
theorem dX11_sub_5 : decode cX11_sub 5 = .ok (.iload_n 1, 1) := by decide +kernel
theorem dX11_sub_6 : decode cX11_sub 6 = .ok (.invokevirtual 148, 3) := by decide +kernel
theorem dX11_sub_9 : decode cX11_sub 9 = .ok (.astore 5, 2) := by decide +kernel
theorem dX11_sub_11 : decode cX11_sub 11 = .ok (.aload 5, 2) := by decide +kernel
theorem dX11_sub_13 : decode cX11_sub 13 = .ok (.invokevirtual 152, 3) := by decide +kernel
theorem dX11_sub_16 : decode cX11_sub 16 = .ok (.iload_n 2, 1) := by decide +kernel
theorem dX11_sub_17 : decode cX11_sub 17 = .ok (.iload_n 3, 1) := by decide +kernel
theorem dX11_sub_18 : decode cX11_sub 18 = .ok (.iload 4, 2) := by decide +kernel
theorem dX11_sub_20 : decode cX11_sub 20 = .ok (.invokevirtual 72, 3) := by decide +kernel
theorem dX11_sub_23 : decode cX11_sub 23 = .ok (.invokestatic 42, 3) := by decide +kernel
theorem dX11_sub_26 : decode cX11_sub 26 = .ok (.aload_n 0, 1) := by decide +kernel
theorem dX11_sub_27 : decode cX11_sub 27 = .ok (.aload 5, 2) := by decide +kernel
theorem dX11_sub_29 : decode cX11_sub 29 = .ok (.iload_n 2, 1) := by decide +kernel
theorem dX11_sub_30 : decode cX11_sub 30 = .ok (.iload_n 3, 1) := by decide +kernel
theorem dX11_sub_31 : decode cX11_sub 31 = .ok (.iload 4, 2) := by decide +kernel
theorem dX11_sub_33 : decode cX11_sub 33 = .ok (.invokevirtual 158, 3) := by decide +kernel
theorem dX11_sub_36 : decode cX11_sub 36 = .ok (.ireturn, 1) := by decide +kernel
theorem dX11_slice_0 : decode cX11_slice 0 = .ok (.aload_n 0, 1) := by decide +kernel
theorem dX11_slice_1 : decode cX11_slice 1 = .ok (.invokevirtual 141, 3) := by decide +kernel
theorem dX11_slice_4 : decode cX11_slice 4 = .ok (.aload_n 0, 1) := by decide +kernel
theorem dX11_slice_5 : decode cX11_slice 5 = .ok (.iload_n 1, 1) := by decide +kernel
theorem dX11_slice_6 : decode cX11_slice 6 = .ok (.invokevirtual 148, 3) := by decide +kernel
theorem dX11_slice_9 : decode cX11_slice 9 = .ok (.astore 4, 2) := by decide +kernel
theorem dX11_slice_11 : decode cX11_slice 11 = .ok (.aload 4, 2) := by decide +kernel
theorem dX11_slice_13 : decode cX11_slice 13 = .ok (.invokevirtual 152, 3) := by decide +kernel
theorem dX11_slice_16 : decode cX11_slice 16 = .ok (.invokevirtual 162, 3) := by decide +kernel
theorem dX11_slice_19 : decode cX11_slice 19 = .ok (.iconst 1, 1) := by decide +kernel
theorem dX11_slice_20 : decode cX11_slice 20 = .ok (.if_icmp .le 21, 3) := by decide +kernel
theorem dX11_slice_23 : decode cX11_slice 23 = .ok (.aload 4, 2) := by decide +kernel
theorem dX11_slice_25 : decode cX11_slice 25 = .ok (.invokevirtual 152, 3) := by decide +kernel
theorem dX11_slice_28 : decode cX11_slice 28 = .ok (.iload_n 2, 1) := by decide +kernel
theorem dX11_slice_29 : decode cX11_slice 29 = .ok (.iload_n 3, 1) := by decide +kernel
theorem dX11_slice_30 : decode cX11_slice 30 = .ok (.iload_n 3, 1) := by decide +kernel
theorem dX11_slice_31 : decode cX11_slice 31 = .ok (.invokevirtual 72, 3) := by decide +kernel
theorem dX11_slice_34 : decode cX11_slice 34 = .ok (.ifCond .eq 7, 3) := by decide +kernel
theorem dX11_slice_37 : decode cX11_slice 37 = .ok (.iconst 1, 1) := by decide +kernel
theorem dX11_slice_38 : decode cX11_slice 38 = .ok (.goto 4, 3) := by decide +kernel
theorem dX11_slice_41 : decode cX11_slice 41 = .ok (.iconst 0, 1) := by decide +kernel
theorem dX11_slice_42 : decode cX11_slice 42 = .ok (.invokestatic 42, 3) := by decide +kernel
theorem dX11_slice_45 : decode cX11_slice 45 = .ok (.aload 4, 2) := by decide +kernel
theorem dX11_slice_47 : decode cX11_slice 47 = .ok (.invokevirtual 152, 3) := by decide +kernel
theorem dX11_slice_50 : decode cX11_slice 50 = .ok (.iload_n 2, 1) := by decide +kernel
theorem dX11_slice_51 : decode cX11_slice 51 = .ok (.invokevirtual 165, 3) := by decide +kernel
theorem dX11_slice_54 : decode cX11_slice 54 = .ok (.astore 5, 2) := by decide +kernel
theorem dX11_slice_56 : decode cX11_slice 56 = .ok (.aload 5, 2) := by decide +kernel
theorem dX11_slice_58 : decode cX11_slice 58 = .ok (.aload 4, 2) := by decide +kernel
theorem dX11_slice_60 : decode cX11_slice 60 = .ok (.invokevirtual 169, 3) := by decide +kernel
theorem dX11_slice_63 : decode cX11_slice 63 = .ok (.invokestatic 172, 3) := by decide +kernel
theorem dX11_slice_66 : decode cX11_slice 66 = .ok (.aload_n 0, 1) := by decide +kernel
theorem dX11_slice_67 : decode cX11_slice 67 = .ok (.new 175, 3) := by decide +kernel
theorem dX11_slice_70 : decode cX11_slice 70 = .ok (.dup, 1) := by decide +kernel
theorem dX11_slice_71 : decode cX11_slice 71 = .ok (.aload 5, 2) := by decide +kernel
theorem dX11_slice_73 : decode cX11_slice 73 = .ok (.aload 4, 2) := by decide +kernel
theorem dX11_slice_75 : decode cX11_slice 75 = .ok (.iload_n 2, 1) := by decide +kernel
theorem dX11_slice_76 : decode cX11_slice 76 = .ok (.invokestatic 177, 3) := by decide +kernel
theorem dX11_slice_79 : decode cX11_slice 79 = .ok (.iload_n 3, 1) := by decide +kernel
theorem dX11_slice_80 : decode cX11_slice 80 = .ok (.invokespecial 181, 3) := by decide +kernel
theorem dX11_slice_83 : decode cX11_slice 83 = .ok (.invokevirtual 144, 3) := by decide +kernel
theorem dX11_slice_86 : decode cX11_slice 86 = .ok (.ireturn, 1) := by decide +kernel
theorem dX11_extend_0 : decode cX11_extend 0 = .ok (.aload_n 0, 1) := by decide +kernel
theorem dX11_extend_1 : decode cX11_extend 1 = .ok (.invokevirtual 141, 3) := by decide +kernel
theorem dX11_extend_4 : decode cX11_extend 4 = .ok (.aload_n 0, 1) := by decide +kernel
theorem dX11_extend_5 : decode cX11_extend 5 = .ok (.iload_n 1, 1) := by decide +kernel
theorem dX11_extend_6 : decode cX11_extend 6 = .ok (.invokevirtual 148, 3) := by decide +kernel
theorem dX11_extend_9 : decode cX11_extend 9 = .ok (.astore 5, 2) := by decide +kernel
theorem dX11_extend_11 : decode cX11_extend 11 = .ok (.aload 5, 2) := by decide +kernel
theorem dX11_extend_13 : decode cX11_extend 13 = .ok (.invokevirtual 152, 3) := by decide +kernel
theorem dX11_extend_16 : decode cX11_extend 16 = .ok (.astore 6, 2) := by decide +kernel
theorem dX11_extend_18 : decode cX11_extend 18 = .ok (.aload 6, 2) := by decide +kernel
theorem dX11_extend_20 : decode cX11_extend 20 = .ok (.iload_n 2, 1) := by decide +kernel
theorem dX11_extend_21 : decode cX11_extend 21 = .ok (.invokevirtual 184, 3) := by decide +kernel
theorem dX11_extend_24 : decode cX11_extend 24 = .ok (.ifCond .eq 28, 3) := by decide +kernel
theorem dX11_extend_27 : decode cX11_extend 27 = .ok (.iload_n 3, 1) := by decide +kernel
theorem dX11_extend_28 : decode cX11_extend 28 = .ok (.aload 6, 2) := by decide +kernel
theorem dX11_extend_30 : decode cX11_extend 30 = .ok (.iload_n 2, 1) := by decide +kernel
theorem dX11_extend_31 : decode cX11_extend 31 = .ok (.invokevirtual 188, 3) := by decide +kernel
theorem dX11_extend_34 : decode cX11_extend 34 = .ok (.if_icmp .gt 18, 3) := by decide +kernel
theorem dX11_extend_37 : decode cX11_extend 37 = .ok (.iload 4, 2) := by decide +kernel
theorem dX11_extend_39 : decode cX11_extend 39 = .ok (.aload 6, 2) := by decide +kernel
theorem dX11_extend_41 : decode cX11_extend 41 = .ok (.iload_n 2, 1) := by decide +kernel
theorem dX11_extend_42 : decode cX11_extend 42 = .ok (.invokevirtual 192, 3) := by decide +kernel
theorem dX11_extend_45 : decode cX11_extend 45 = .ok (.if_icmp .lt 7, 3) := by decide +kernel
theorem dX11_extend_48 : decode cX11_extend 48 = .ok (.iconst 1, 1) := by decide +kernel
theorem dX11_extend_49 : decode cX11_extend 49 = .ok (.goto 4, 3) := by decide +kernel
theorem dX11_extend_52 : decode cX11_extend 52 = .ok (.iconst 0, 1) := by decide +kernel
theorem dX11_extend_53 : decode cX11_extend 53 = .ok (.invokestatic 42, 3) := by decide +kernel
theorem dX11_extend_56 : decode cX11_extend 56 = .ok (.iload_n 3, 1) := by decide +kernel
theorem dX11_extend_57 : decode cX11_extend 57 = .ok (.sipush (-1000), 3) := by decide +kernel
theorem dX11_extend_60 : decode cX11_extend 60 = .ok (.if_icmp .lt 15, 3) := by decide +kernel
theorem dX11_extend_63 : decode cX11_extend 63 = .ok (.iload 4, 2) := by decide +kernel
theorem dX11_extend_65 : decode cX11_extend 65 = .ok (.sipush 1000, 3) := by decide +kernel
theorem dX11_extend_68 : decode cX11_extend 68 = .ok (.if_icmp .gt 7, 3) := by decide +kernel
theorem dX11_extend_71 : decode cX11_extend 71 = .ok (.iconst 1, 1) := by decide +kernel
theorem dX11_extend_72 : decode cX11_extend 72 = .ok (.goto 4, 3) := by decide +kernel
theorem dX11_extend_75 : decode cX11_extend 75 = .ok (.iconst 0, 1) := by decide +kernel
theorem dX11_extend_76 : decode cX11_extend 76 = .ok (.invokestatic 42, 3) := by decide +kernel
theorem dX11_extend_79 : decode cX11_extend 79 = .ok (.aload_n 0, 1) := by decide +kernel
theorem dX11_extend_80 : decode cX11_extend 80 = .ok (.aload 5, 2) := by decide +kernel
theorem dX11_extend_82 : decode cX11_extend 82 = .ok (.iload_n 2, 1) := by decide +kernel
theorem dX11_extend_83 : decode cX11_extend 83 = .ok (.iload_n 3, 1) := by decide +kernel
theorem dX11_extend_84 : decode cX11_extend 84 = .ok (.iload 4, 2) := by decide +kernel
theorem dX11_extend_86 : decode cX11_extend 86 = .ok (.invokevirtual 158, 3) := by decide +kernel
theorem dX11_extend_89 : decode cX11_extend 89 = .ok (.ireturn, 1) := by decide +kernel
theorem dX11_apply_0 : decode cX11_apply 0 = .ok (.aload_n 0, 1) := by decide +kernel
theorem dX11_apply_1 : decode cX11_apply 1 = .ok (.invokevirtual 141, 3) := by decide +kernel
theorem dX11_apply_4 : decode cX11_apply 4 = .ok (.aload_n 0, 1) := by decide +kernel
theorem dX11_apply_5 : decode cX11_apply 5 = .ok (.iload_n 1, 1) := by decide +kernel
theorem dX11_apply_6 : decode cX11_apply 6 = .ok (.invokevirtual 148, 3) := by decide +kernel
theorem dX11_apply_9 : decode cX11_apply 9 = .ok (.astore 5, 2) := by decide +kernel
theorem dX11_apply_11 : decode cX11_apply 11 = .ok (.iload_n 2, 1) := by decide +kernel
theorem dX11_apply_12 : decode cX11_apply 12 = .ok (.ifCond .lt 13, 3) := by decide +kernel
theorem dX11_apply_15 : decode cX11_apply 15 = .ok (.iload_n 2, 1) := by decide +kernel
theorem dX11_apply_16 : decode cX11_apply 16 = .ok (.bipush 6, 2) := by decide +kernel
theorem dX11_apply_18 : decode cX11_apply 18 = .ok (.if_icmp .ge 7, 3) := by decide +kernel
theorem dX11_apply_21 : decode cX11_apply 21 = .ok (.iconst 1, 1) := by decide +kernel
theorem dX11_apply_22 : decode cX11_apply 22 = .ok (.goto 4, 3) := by decide +kernel
theorem dX11_apply_25 : decode cX11_apply 25 = .ok (.iconst 0, 1) := by decide +kernel
theorem dX11_apply_26 : decode cX11_apply 26 = .ok (.invokestatic 42, 3) := by decide +kernel
theorem dX11_apply_29 : decode cX11_apply 29 = .ok (.aload 5, 2) := by decide +kernel
theorem dX11_apply_31 : decode cX11_apply 31 = .ok (.invokevirtual 152, 3) := by decide +kernel
theorem dX11_apply_34 : decode cX11_apply 34 = .ok (.aload 5, 2) := by decide +kernel
theorem dX11_apply_36 : decode cX11_apply 36 = .ok (.invokevirtual 169, 3) := by decide +kernel
theorem dX11_apply_39 : decode cX11_apply 39 = .ok (.invokestatic 172, 3) := by decide +kernel
theorem dX11_apply_42 : decode cX11_apply 42 = .ok (.aload_n 0, 1) := by decide +kernel
theorem dX11_apply_43 : decode cX11_apply 43 = .ok (.new 195, 3) := by decide +kernel
theorem dX11_apply_46 : decode cX11_apply 46 = .ok (.dup, 1) := by decide +kernel
theorem dX11_apply_47 : decode cX11_apply 47 = .ok (.aload 5, 2) := by decide +kernel
theorem dX11_apply_49 : decode cX11_apply 49 = .ok (.iload_n 2, 1) := by decide +kernel
theorem dX11_apply_50 : decode cX11_apply 50 = .ok (.lload_n 3, 1) := by decide +kernel
theorem dX11_apply_51 : decode cX11_apply 51 = .ok (.invokespecial 197, 3) := by decide +kernel
theorem dX11_apply_54 : decode cX11_apply 54 = .ok (.invokevirtual 144, 3) := by decide +kernel
theorem dX11_apply_57 : decode cX11_apply 57 = .ok (.ireturn, 1) := by decide +kernel
theorem dX11_filter_0 : decode cX11_filter 0 = .ok (.aload_n 0, 1) := by decide +kernel
theorem dX11_filter_1 : decode cX11_filter 1 = .ok (.invokevirtual 141, 3) := by decide +kernel
theorem dX11_filter_4 : decode cX11_filter 4 = .ok (.aload_n 0, 1) := by decide +kernel
theorem dX11_filter_5 : decode cX11_filter 5 = .ok (.iload_n 1, 1) := by decide +kernel
theorem dX11_filter_6 : decode cX11_filter 6 = .ok (.invokevirtual 148, 3) := by decide +kernel
theorem dX11_filter_9 : decode cX11_filter 9 = .ok (.astore 5, 2) := by decide +kernel
theorem dX11_filter_11 : decode cX11_filter 11 = .ok (.iload_n 2, 1) := by decide +kernel
theorem dX11_filter_12 : decode cX11_filter 12 = .ok (.ifCond .lt 12, 3) := by decide +kernel
theorem dX11_filter_15 : decode cX11_filter 15 = .ok (.iload_n 2, 1) := by decide +kernel
theorem dX11_filter_16 : decode cX11_filter 16 = .ok (.iconst 4, 1) := by decide +kernel
theorem dX11_filter_17 : decode cX11_filter 17 = .ok (.if_icmp .ge 7, 3) := by decide +kernel
theorem dX11_filter_20 : decode cX11_filter 20 = .ok (.iconst 1, 1) := by decide +kernel
theorem dX11_filter_21 : decode cX11_filter 21 = .ok (.goto 4, 3) := by decide +kernel
theorem dX11_filter_24 : decode cX11_filter 24 = .ok (.iconst 0, 1) := by decide +kernel
theorem dX11_filter_25 : decode cX11_filter 25 = .ok (.invokestatic 42, 3) := by decide +kernel
theorem dX11_filter_28 : decode cX11_filter 28 = .ok (.aload 5, 2) := by decide +kernel
theorem dX11_filter_30 : decode cX11_filter 30 = .ok (.invokevirtual 152, 3) := by decide +kernel
theorem dX11_filter_33 : decode cX11_filter 33 = .ok (.aload 5, 2) := by decide +kernel
theorem dX11_filter_35 : decode cX11_filter 35 = .ok (.invokevirtual 169, 3) := by decide +kernel
theorem dX11_filter_38 : decode cX11_filter 38 = .ok (.invokestatic 172, 3) := by decide +kernel
theorem dX11_filter_41 : decode cX11_filter 41 = .ok (.aload_n 0, 1) := by decide +kernel
theorem dX11_filter_42 : decode cX11_filter 42 = .ok (.new 195, 3) := by decide +kernel
theorem dX11_filter_45 : decode cX11_filter 45 = .ok (.dup, 1) := by decide +kernel
theorem dX11_filter_46 : decode cX11_filter 46 = .ok (.aload 5, 2) := by decide +kernel
theorem dX11_filter_48 : decode cX11_filter 48 = .ok (.bipush 6, 2) := by decide +kernel
theorem dX11_filter_50 : decode cX11_filter 50 = .ok (.iload_n 2, 1) := by decide +kernel
theorem dX11_filter_51 : decode cX11_filter 51 = .ok (.iadd, 1) := by decide +kernel
theorem dX11_filter_52 : decode cX11_filter 52 = .ok (.lload_n 3, 1) := by decide +kernel
theorem dX11_filter_53 : decode cX11_filter 53 = .ok (.invokespecial 197, 3) := by decide +kernel
theorem dX11_filter_56 : decode cX11_filter 56 = .ok (.invokevirtual 144, 3) := by decide +kernel
theorem dX11_filter_59 : decode cX11_filter 59 = .ok (.ireturn, 1) := by decide +kernel
theorem dX11_join_0 : decode cX11_join 0 = .ok (.aload_n 0, 1) := by decide +kernel
theorem dX11_join_1 : decode cX11_join 1 = .ok (.invokevirtual 141, 3) := by decide +kernel
theorem dX11_join_4 : decode cX11_join 4 = .ok (.aload_n 0, 1) := by decide +kernel
theorem dX11_join_5 : decode cX11_join 5 = .ok (.iload_n 1, 1) := by decide +kernel
theorem dX11_join_6 : decode cX11_join 6 = .ok (.invokevirtual 148, 3) := by decide +kernel
theorem dX11_join_9 : decode cX11_join 9 = .ok (.astore 4, 2) := by decide +kernel
theorem dX11_join_11 : decode cX11_join 11 = .ok (.aload_n 0, 1) := by decide +kernel
theorem dX11_join_12 : decode cX11_join 12 = .ok (.iload_n 2, 1) := by decide +kernel
theorem dX11_join_13 : decode cX11_join 13 = .ok (.invokevirtual 148, 3) := by decide +kernel
theorem dX11_join_16 : decode cX11_join 16 = .ok (.astore 5, 2) := by decide +kernel
theorem dX11_join_18 : decode cX11_join 18 = .ok (.iload_n 3, 1) := by decide +kernel
theorem dX11_join_19 : decode cX11_join 19 = .ok (.ifCond .lt 13, 3) := by decide +kernel
theorem dX11_join_22 : decode cX11_join 22 = .ok (.iload_n 3, 1) := by decide +kernel
theorem dX11_join_23 : decode cX11_join 23 = .ok (.bipush 6, 2) := by decide +kernel
theorem dX11_join_25 : decode cX11_join 25 = .ok (.if_icmp .ge 7, 3) := by decide +kernel
theorem dX11_join_28 : decode cX11_join 28 = .ok (.iconst 1, 1) := by decide +kernel
theorem dX11_join_29 : decode cX11_join 29 = .ok (.goto 4, 3) := by decide +kernel
theorem dX11_join_32 : decode cX11_join 32 = .ok (.iconst 0, 1) := by decide +kernel
theorem dX11_join_33 : decode cX11_join 33 = .ok (.invokestatic 42, 3) := by decide +kernel
theorem dX11_join_36 : decode cX11_join 36 = .ok (.aload 4, 2) := by decide +kernel
theorem dX11_join_38 : decode cX11_join 38 = .ok (.invokevirtual 152, 3) := by decide +kernel
theorem dX11_join_41 : decode cX11_join 41 = .ok (.aload 5, 2) := by decide +kernel
theorem dX11_join_43 : decode cX11_join 43 = .ok (.invokevirtual 152, 3) := by decide +kernel
theorem dX11_join_46 : decode cX11_join 46 = .ok (.invokevirtual 202, 3) := by decide +kernel
theorem dX11_join_49 : decode cX11_join 49 = .ok (.invokestatic 42, 3) := by decide +kernel
theorem dX11_join_52 : decode cX11_join 52 = .ok (.aload 4, 2) := by decide +kernel
theorem dX11_join_54 : decode cX11_join 54 = .ok (.invokevirtual 152, 3) := by decide +kernel
theorem dX11_join_57 : decode cX11_join 57 = .ok (.aload 5, 2) := by decide +kernel
theorem dX11_join_59 : decode cX11_join 59 = .ok (.invokevirtual 152, 3) := by decide +kernel
theorem dX11_join_62 : decode cX11_join 62 = .ok (.invokevirtual 206, 3) := by decide +kernel
theorem dX11_join_65 : decode cX11_join 65 = .ok (.astore 6, 2) := by decide +kernel
theorem dX11_join_67 : decode cX11_join 67 = .ok (.aload 6, 2) := by decide +kernel
theorem dX11_join_69 : decode cX11_join 69 = .ok (.aload 4, 2) := by decide +kernel
theorem dX11_join_71 : decode cX11_join 71 = .ok (.invokevirtual 169, 3) := by decide +kernel
theorem dX11_join_74 : decode cX11_join 74 = .ok (.aload 5, 2) := by decide +kernel
theorem dX11_join_76 : decode cX11_join 76 = .ok (.invokevirtual 169, 3) := by decide +kernel
theorem dX11_join_79 : decode cX11_join 79 = .ok (.invokestatic 210, 3) := by decide +kernel
theorem dX11_join_82 : decode cX11_join 82 = .ok (.invokestatic 172, 3) := by decide +kernel
theorem dX11_join_85 : decode cX11_join 85 = .ok (.aload_n 0, 1) := by decide +kernel
theorem dX11_join_86 : decode cX11_join 86 = .ok (.new 200, 3) := by decide +kernel
theorem dX11_join_89 : decode cX11_join 89 = .ok (.dup, 1) := by decide +kernel
theorem dX11_join_90 : decode cX11_join 90 = .ok (.aload 6, 2) := by decide +kernel
theorem dX11_join_92 : decode cX11_join 92 = .ok (.aload 4, 2) := by decide +kernel
theorem dX11_join_94 : decode cX11_join 94 = .ok (.aload 5, 2) := by decide +kernel
theorem dX11_join_96 : decode cX11_join 96 = .ok (.iload_n 3, 1) := by decide +kernel
theorem dX11_join_97 : decode cX11_join 97 = .ok (.invokespecial 215, 3) := by decide +kernel
theorem dX11_join_100 : decode cX11_join 100 = .ok (.invokevirtual 144, 3) := by decide +kernel
theorem dX11_join_103 : decode cX11_join 103 = .ok (.ireturn, 1) := by decide +kernel
theorem dX11_gather_0 : decode cX11_gather 0 = .ok (.aload_n 0, 1) := by decide +kernel
theorem dX11_gather_1 : decode cX11_gather 1 = .ok (.invokevirtual 141, 3) := by decide +kernel
theorem dX11_gather_4 : decode cX11_gather 4 = .ok (.aload_n 0, 1) := by decide +kernel
theorem dX11_gather_5 : decode cX11_gather 5 = .ok (.iload_n 1, 1) := by decide +kernel
theorem dX11_gather_6 : decode cX11_gather 6 = .ok (.invokevirtual 148, 3) := by decide +kernel
theorem dX11_gather_9 : decode cX11_gather 9 = .ok (.astore 4, 2) := by decide +kernel
theorem dX11_gather_11 : decode cX11_gather 11 = .ok (.aload 4, 2) := by decide +kernel
theorem dX11_gather_13 : decode cX11_gather 13 = .ok (.invokevirtual 152, 3) := by decide +kernel
theorem dX11_gather_16 : decode cX11_gather 16 = .ok (.astore 5, 2) := by decide +kernel
theorem dX11_gather_18 : decode cX11_gather 18 = .ok (.aload 5, 2) := by decide +kernel
theorem dX11_gather_20 : decode cX11_gather 20 = .ok (.iload_n 2, 1) := by decide +kernel
theorem dX11_gather_21 : decode cX11_gather 21 = .ok (.invokevirtual 184, 3) := by decide +kernel
theorem dX11_gather_24 : decode cX11_gather 24 = .ok (.ifCond .eq 23, 3) := by decide +kernel
theorem dX11_gather_27 : decode cX11_gather 27 = .ok (.aload 5, 2) := by decide +kernel
theorem dX11_gather_29 : decode cX11_gather 29 = .ok (.invokevirtual 162, 3) := by decide +kernel
theorem dX11_gather_32 : decode cX11_gather 32 = .ok (.iconst 1, 1) := by decide +kernel
theorem dX11_gather_33 : decode cX11_gather 33 = .ok (.if_icmp .le 14, 3) := by decide +kernel
theorem dX11_gather_36 : decode cX11_gather 36 = .ok (.iload_n 3, 1) := by decide +kernel
theorem dX11_gather_37 : decode cX11_gather 37 = .ok (.invokestatic 218, 3) := by decide +kernel
theorem dX11_gather_40 : decode cX11_gather 40 = .ok (.ifCond .eq 7, 3) := by decide +kernel
theorem dX11_gather_43 : decode cX11_gather 43 = .ok (.iconst 1, 1) := by decide +kernel
theorem dX11_gather_44 : decode cX11_gather 44 = .ok (.goto 4, 3) := by decide +kernel
theorem dX11_gather_47 : decode cX11_gather 47 = .ok (.iconst 0, 1) := by decide +kernel
theorem dX11_gather_48 : decode cX11_gather 48 = .ok (.invokestatic 42, 3) := by decide +kernel
theorem dX11_gather_51 : decode cX11_gather 51 = .ok (.aload_n 0, 1) := by decide +kernel
theorem dX11_gather_52 : decode cX11_gather 52 = .ok (.aload 5, 2) := by decide +kernel
theorem dX11_gather_54 : decode cX11_gather 54 = .ok (.iload_n 2, 1) := by decide +kernel
theorem dX11_gather_55 : decode cX11_gather 55 = .ok (.invokevirtual 165, 3) := by decide +kernel
theorem dX11_gather_58 : decode cX11_gather 58 = .ok (.aload 4, 2) := by decide +kernel
theorem dX11_gather_60 : decode cX11_gather 60 = .ok (.iload_n 2, 1) := by decide +kernel
theorem dX11_gather_61 : decode cX11_gather 61 = .ok (.iconst 0, 1) := by decide +kernel
theorem dX11_gather_62 : decode cX11_gather 62 = .ok (.iconst 0, 1) := by decide +kernel
theorem dX11_gather_63 : decode cX11_gather 63 = .ok (.iload_n 3, 1) := by decide +kernel
theorem dX11_gather_64 : decode cX11_gather 64 = .ok (.invokevirtual 225, 3) := by decide +kernel
theorem dX11_gather_67 : decode cX11_gather 67 = .ok (.ireturn, 1) := by decide +kernel
theorem dX11_regrid_0 : decode cX11_regrid 0 = .ok (.aload_n 0, 1) := by decide +kernel
theorem dX11_regrid_1 : decode cX11_regrid 1 = .ok (.invokevirtual 141, 3) := by decide +kernel
theorem dX11_regrid_4 : decode cX11_regrid 4 = .ok (.aload_n 0, 1) := by decide +kernel
theorem dX11_regrid_5 : decode cX11_regrid 5 = .ok (.iload_n 1, 1) := by decide +kernel
theorem dX11_regrid_6 : decode cX11_regrid 6 = .ok (.invokevirtual 148, 3) := by decide +kernel
theorem dX11_regrid_9 : decode cX11_regrid 9 = .ok (.astore 5, 2) := by decide +kernel
theorem dX11_regrid_11 : decode cX11_regrid 11 = .ok (.aload 5, 2) := by decide +kernel
theorem dX11_regrid_13 : decode cX11_regrid 13 = .ok (.invokevirtual 152, 3) := by decide +kernel
theorem dX11_regrid_16 : decode cX11_regrid 16 = .ok (.astore 6, 2) := by decide +kernel
theorem dX11_regrid_18 : decode cX11_regrid 18 = .ok (.aload 6, 2) := by decide +kernel
theorem dX11_regrid_20 : decode cX11_regrid 20 = .ok (.iload_n 2, 1) := by decide +kernel
theorem dX11_regrid_21 : decode cX11_regrid 21 = .ok (.invokevirtual 184, 3) := by decide +kernel
theorem dX11_regrid_24 : decode cX11_regrid 24 = .ok (.ifCond .eq 26, 3) := by decide +kernel
theorem dX11_regrid_27 : decode cX11_regrid 27 = .ok (.iload_n 3, 1) := by decide +kernel
theorem dX11_regrid_28 : decode cX11_regrid 28 = .ok (.iconst 1, 1) := by decide +kernel
theorem dX11_regrid_29 : decode cX11_regrid 29 = .ok (.if_icmp .lt 21, 3) := by decide +kernel
theorem dX11_regrid_32 : decode cX11_regrid 32 = .ok (.iload_n 3, 1) := by decide +kernel
theorem dX11_regrid_33 : decode cX11_regrid 33 = .ok (.bipush 40, 2) := by decide +kernel
theorem dX11_regrid_35 : decode cX11_regrid 35 = .ok (.if_icmp .gt 15, 3) := by decide +kernel
theorem dX11_regrid_38 : decode cX11_regrid 38 = .ok (.iload 4, 2) := by decide +kernel
theorem dX11_regrid_40 : decode cX11_regrid 40 = .ok (.invokestatic 218, 3) := by decide +kernel
theorem dX11_regrid_43 : decode cX11_regrid 43 = .ok (.ifCond .eq 7, 3) := by decide +kernel
theorem dX11_regrid_46 : decode cX11_regrid 46 = .ok (.iconst 1, 1) := by decide +kernel
theorem dX11_regrid_47 : decode cX11_regrid 47 = .ok (.goto 4, 3) := by decide +kernel
theorem dX11_regrid_50 : decode cX11_regrid 50 = .ok (.iconst 0, 1) := by decide +kernel
theorem dX11_regrid_51 : decode cX11_regrid 51 = .ok (.invokestatic 42, 3) := by decide +kernel
theorem dX11_regrid_54 : decode cX11_regrid 54 = .ok (.aload 6, 2) := by decide +kernel
theorem dX11_regrid_56 : decode cX11_regrid 56 = .ok (.iload_n 2, 1) := by decide +kernel
theorem dX11_regrid_57 : decode cX11_regrid 57 = .ok (.aload 6, 2) := by decide +kernel
theorem dX11_regrid_59 : decode cX11_regrid 59 = .ok (.iload_n 2, 1) := by decide +kernel
theorem dX11_regrid_60 : decode cX11_regrid 60 = .ok (.invokevirtual 188, 3) := by decide +kernel
theorem dX11_regrid_63 : decode cX11_regrid 63 = .ok (.iload_n 3, 1) := by decide +kernel
theorem dX11_regrid_64 : decode cX11_regrid 64 = .ok (.invokestatic 229, 3) := by decide +kernel
theorem dX11_regrid_67 : decode cX11_regrid 67 = .ok (.aload 6, 2) := by decide +kernel
theorem dX11_regrid_69 : decode cX11_regrid 69 = .ok (.iload_n 2, 1) := by decide +kernel
theorem dX11_regrid_70 : decode cX11_regrid 70 = .ok (.invokevirtual 192, 3) := by decide +kernel
theorem dX11_regrid_73 : decode cX11_regrid 73 = .ok (.iload_n 3, 1) := by decide +kernel
theorem dX11_regrid_74 : decode cX11_regrid 74 = .ok (.invokestatic 229, 3) := by decide +kernel
theorem dX11_regrid_77 : decode cX11_regrid 77 = .ok (.invokevirtual 232, 3) := by decide +kernel
theorem dX11_regrid_80 : decode cX11_regrid 80 = .ok (.astore 7, 2) := by decide +kernel
theorem dX11_regrid_82 : decode cX11_regrid 82 = .ok (.aload_n 0, 1) := by decide +kernel
theorem dX11_regrid_83 : decode cX11_regrid 83 = .ok (.aload 7, 2) := by decide +kernel
theorem dX11_regrid_85 : decode cX11_regrid 85 = .ok (.aload 5, 2) := by decide +kernel
theorem dX11_regrid_87 : decode cX11_regrid 87 = .ok (.iload_n 2, 1) := by decide +kernel
theorem dX11_regrid_88 : decode cX11_regrid 88 = .ok (.iconst 1, 1) := by decide +kernel
theorem dX11_regrid_89 : decode cX11_regrid 89 = .ok (.iload_n 3, 1) := by decide +kernel
theorem dX11_regrid_90 : decode cX11_regrid 90 = .ok (.iload 4, 2) := by decide +kernel
theorem dX11_regrid_92 : decode cX11_regrid 92 = .ok (.invokevirtual 225, 3) := by decide +kernel
theorem dX11_regrid_95 : decode cX11_regrid 95 = .ok (.ireturn, 1) := by decide +kernel
theorem dX11_window_0 : decode cX11_window 0 = .ok (.aload_n 0, 1) := by decide +kernel
theorem dX11_window_1 : decode cX11_window 1 = .ok (.invokevirtual 141, 3) := by decide +kernel
theorem dX11_window_4 : decode cX11_window 4 = .ok (.aload_n 0, 1) := by decide +kernel
theorem dX11_window_5 : decode cX11_window 5 = .ok (.iload_n 1, 1) := by decide +kernel
theorem dX11_window_6 : decode cX11_window 6 = .ok (.invokevirtual 148, 3) := by decide +kernel
theorem dX11_window_9 : decode cX11_window 9 = .ok (.astore 5, 2) := by decide +kernel
theorem dX11_window_11 : decode cX11_window 11 = .ok (.aload 5, 2) := by decide +kernel
theorem dX11_window_13 : decode cX11_window 13 = .ok (.invokevirtual 152, 3) := by decide +kernel
theorem dX11_window_16 : decode cX11_window 16 = .ok (.astore 6, 2) := by decide +kernel
theorem dX11_window_18 : decode cX11_window 18 = .ok (.aload 6, 2) := by decide +kernel
theorem dX11_window_20 : decode cX11_window 20 = .ok (.iload_n 2, 1) := by decide +kernel
theorem dX11_window_21 : decode cX11_window 21 = .ok (.invokevirtual 184, 3) := by decide +kernel
theorem dX11_window_24 : decode cX11_window 24 = .ok (.ifCond .eq 25, 3) := by decide +kernel
theorem dX11_window_27 : decode cX11_window 27 = .ok (.iload_n 3, 1) := by decide +kernel
theorem dX11_window_28 : decode cX11_window 28 = .ok (.ifCond .lt 21, 3) := by decide +kernel
theorem dX11_window_31 : decode cX11_window 31 = .ok (.iload_n 3, 1) := by decide +kernel
theorem dX11_window_32 : decode cX11_window 32 = .ok (.bipush 40, 2) := by decide +kernel
theorem dX11_window_34 : decode cX11_window 34 = .ok (.if_icmp .gt 15, 3) := by decide +kernel
theorem dX11_window_37 : decode cX11_window 37 = .ok (.iload 4, 2) := by decide +kernel
theorem dX11_window_39 : decode cX11_window 39 = .ok (.invokestatic 218, 3) := by decide +kernel
theorem dX11_window_42 : decode cX11_window 42 = .ok (.ifCond .eq 7, 3) := by decide +kernel
theorem dX11_window_45 : decode cX11_window 45 = .ok (.iconst 1, 1) := by decide +kernel
theorem dX11_window_46 : decode cX11_window 46 = .ok (.goto 4, 3) := by decide +kernel
theorem dX11_window_49 : decode cX11_window 49 = .ok (.iconst 0, 1) := by decide +kernel
theorem dX11_window_50 : decode cX11_window 50 = .ok (.invokestatic 42, 3) := by decide +kernel
theorem dX11_window_53 : decode cX11_window 53 = .ok (.aload_n 0, 1) := by decide +kernel
theorem dX11_window_54 : decode cX11_window 54 = .ok (.aload 6, 2) := by decide +kernel
theorem dX11_window_56 : decode cX11_window 56 = .ok (.aload 5, 2) := by decide +kernel
theorem dX11_window_58 : decode cX11_window 58 = .ok (.iload_n 2, 1) := by decide +kernel
theorem dX11_window_59 : decode cX11_window 59 = .ok (.iconst 2, 1) := by decide +kernel
theorem dX11_window_60 : decode cX11_window 60 = .ok (.iload_n 3, 1) := by decide +kernel
theorem dX11_window_61 : decode cX11_window 61 = .ok (.iload 4, 2) := by decide +kernel
theorem dX11_window_63 : decode cX11_window 63 = .ok (.invokevirtual 225, 3) := by decide +kernel
theorem dX11_window_66 : decode cX11_window 66 = .ok (.ireturn, 1) := by decide +kernel
theorem dX11_swap_0 : decode cX11_swap 0 = .ok (.aload_n 0, 1) := by decide +kernel
theorem dX11_swap_1 : decode cX11_swap 1 = .ok (.invokevirtual 141, 3) := by decide +kernel
theorem dX11_swap_4 : decode cX11_swap 4 = .ok (.aload_n 0, 1) := by decide +kernel
theorem dX11_swap_5 : decode cX11_swap 5 = .ok (.iload_n 1, 1) := by decide +kernel
theorem dX11_swap_6 : decode cX11_swap 6 = .ok (.invokevirtual 148, 3) := by decide +kernel
theorem dX11_swap_9 : decode cX11_swap 9 = .ok (.astore 4, 2) := by decide +kernel
theorem dX11_swap_11 : decode cX11_swap 11 = .ok (.aload 4, 2) := by decide +kernel
theorem dX11_swap_13 : decode cX11_swap 13 = .ok (.invokevirtual 152, 3) := by decide +kernel
theorem dX11_swap_16 : decode cX11_swap 16 = .ok (.iload_n 2, 1) := by decide +kernel
theorem dX11_swap_17 : decode cX11_swap 17 = .ok (.invokevirtual 184, 3) := by decide +kernel
theorem dX11_swap_20 : decode cX11_swap 20 = .ok (.ifCond .eq 19, 3) := by decide +kernel
theorem dX11_swap_23 : decode cX11_swap 23 = .ok (.aload 4, 2) := by decide +kernel
theorem dX11_swap_25 : decode cX11_swap 25 = .ok (.invokevirtual 152, 3) := by decide +kernel
theorem dX11_swap_28 : decode cX11_swap 28 = .ok (.iload_n 3, 1) := by decide +kernel
theorem dX11_swap_29 : decode cX11_swap 29 = .ok (.invokevirtual 184, 3) := by decide +kernel
theorem dX11_swap_32 : decode cX11_swap 32 = .ok (.ifCond .eq 7, 3) := by decide +kernel
theorem dX11_swap_35 : decode cX11_swap 35 = .ok (.iconst 1, 1) := by decide +kernel
theorem dX11_swap_36 : decode cX11_swap 36 = .ok (.goto 4, 3) := by decide +kernel
theorem dX11_swap_39 : decode cX11_swap 39 = .ok (.iconst 0, 1) := by decide +kernel
theorem dX11_swap_40 : decode cX11_swap 40 = .ok (.invokestatic 42, 3) := by decide +kernel
theorem dX11_swap_43 : decode cX11_swap 43 = .ok (.aload 4, 2) := by decide +kernel
theorem dX11_swap_45 : decode cX11_swap 45 = .ok (.invokevirtual 152, 3) := by decide +kernel
theorem dX11_swap_48 : decode cX11_swap 48 = .ok (.iload_n 2, 1) := by decide +kernel
theorem dX11_swap_49 : decode cX11_swap 49 = .ok (.iload_n 3, 1) := by decide +kernel
theorem dX11_swap_50 : decode cX11_swap 50 = .ok (.invokevirtual 236, 3) := by decide +kernel
theorem dX11_swap_53 : decode cX11_swap 53 = .ok (.astore 5, 2) := by decide +kernel
theorem dX11_swap_55 : decode cX11_swap 55 = .ok (.aload 5, 2) := by decide +kernel
theorem dX11_swap_57 : decode cX11_swap 57 = .ok (.aload 4, 2) := by decide +kernel
theorem dX11_swap_59 : decode cX11_swap 59 = .ok (.invokevirtual 169, 3) := by decide +kernel
theorem dX11_swap_62 : decode cX11_swap 62 = .ok (.invokestatic 172, 3) := by decide +kernel
theorem dX11_swap_65 : decode cX11_swap 65 = .ok (.aload_n 0, 1) := by decide +kernel
theorem dX11_swap_66 : decode cX11_swap 66 = .ok (.new 175, 3) := by decide +kernel
theorem dX11_swap_69 : decode cX11_swap 69 = .ok (.dup, 1) := by decide +kernel
theorem dX11_swap_70 : decode cX11_swap 70 = .ok (.aload 5, 2) := by decide +kernel
theorem dX11_swap_72 : decode cX11_swap 72 = .ok (.aload 4, 2) := by decide +kernel
theorem dX11_swap_74 : decode cX11_swap 74 = .ok (.iload_n 2, 1) := by decide +kernel
theorem dX11_swap_75 : decode cX11_swap 75 = .ok (.iload_n 3, 1) := by decide +kernel
theorem dX11_swap_76 : decode cX11_swap 76 = .ok (.invokestatic 240, 3) := by decide +kernel
theorem dX11_swap_79 : decode cX11_swap 79 = .ok (.iconst 0, 1) := by decide +kernel
theorem dX11_swap_80 : decode cX11_swap 80 = .ok (.invokespecial 181, 3) := by decide +kernel
theorem dX11_swap_83 : decode cX11_swap 83 = .ok (.invokevirtual 144, 3) := by decide +kernel
theorem dX11_swap_86 : decode cX11_swap 86 = .ok (.ireturn, 1) := by decide +kernel
theorem dX11_product_0 : decode cX11_product 0 = .ok (.aload_n 0, 1) := by decide +kernel
theorem dX11_product_1 : decode cX11_product 1 = .ok (.invokevirtual 141, 3) := by decide +kernel
theorem dX11_product_4 : decode cX11_product 4 = .ok (.aload_n 0, 1) := by decide +kernel
theorem dX11_product_5 : decode cX11_product 5 = .ok (.iload_n 1, 1) := by decide +kernel
theorem dX11_product_6 : decode cX11_product 6 = .ok (.invokevirtual 148, 3) := by decide +kernel
theorem dX11_product_9 : decode cX11_product 9 = .ok (.astore_n 3, 1) := by decide +kernel
theorem dX11_product_10 : decode cX11_product 10 = .ok (.aload_n 0, 1) := by decide +kernel
theorem dX11_product_11 : decode cX11_product 11 = .ok (.iload_n 2, 1) := by decide +kernel
theorem dX11_product_12 : decode cX11_product 12 = .ok (.invokevirtual 148, 3) := by decide +kernel
theorem dX11_product_15 : decode cX11_product 15 = .ok (.astore 4, 2) := by decide +kernel
theorem dX11_product_17 : decode cX11_product 17 = .ok (.aload_n 3, 1) := by decide +kernel
theorem dX11_product_18 : decode cX11_product 18 = .ok (.invokevirtual 152, 3) := by decide +kernel
theorem dX11_product_21 : decode cX11_product 21 = .ok (.invokevirtual 162, 3) := by decide +kernel
theorem dX11_product_24 : decode cX11_product 24 = .ok (.iconst 2, 1) := by decide +kernel
theorem dX11_product_25 : decode cX11_product 25 = .ok (.if_icmp .ne 19, 3) := by decide +kernel
theorem dX11_product_28 : decode cX11_product 28 = .ok (.aload 4, 2) := by decide +kernel
theorem dX11_product_30 : decode cX11_product 30 = .ok (.invokevirtual 152, 3) := by decide +kernel
theorem dX11_product_33 : decode cX11_product 33 = .ok (.invokevirtual 162, 3) := by decide +kernel
theorem dX11_product_36 : decode cX11_product 36 = .ok (.iconst 2, 1) := by decide +kernel
theorem dX11_product_37 : decode cX11_product 37 = .ok (.if_icmp .ne 7, 3) := by decide +kernel
theorem dX11_product_40 : decode cX11_product 40 = .ok (.iconst 1, 1) := by decide +kernel
theorem dX11_product_41 : decode cX11_product 41 = .ok (.goto 4, 3) := by decide +kernel
theorem dX11_product_44 : decode cX11_product 44 = .ok (.iconst 0, 1) := by decide +kernel
theorem dX11_product_45 : decode cX11_product 45 = .ok (.invokestatic 42, 3) := by decide +kernel
theorem dX11_product_48 : decode cX11_product 48 = .ok (.aload_n 3, 1) := by decide +kernel
theorem dX11_product_49 : decode cX11_product 49 = .ok (.invokevirtual 152, 3) := by decide +kernel
theorem dX11_product_52 : decode cX11_product 52 = .ok (.iconst 1, 1) := by decide +kernel
theorem dX11_product_53 : decode cX11_product 53 = .ok (.aload 4, 2) := by decide +kernel
theorem dX11_product_55 : decode cX11_product 55 = .ok (.invokevirtual 152, 3) := by decide +kernel
theorem dX11_product_58 : decode cX11_product 58 = .ok (.iconst 1, 1) := by decide +kernel
theorem dX11_product_59 : decode cX11_product 59 = .ok (.invokevirtual 188, 3) := by decide +kernel
theorem dX11_product_62 : decode cX11_product 62 = .ok (.aload 4, 2) := by decide +kernel
theorem dX11_product_64 : decode cX11_product 64 = .ok (.invokevirtual 152, 3) := by decide +kernel
theorem dX11_product_67 : decode cX11_product 67 = .ok (.iconst 1, 1) := by decide +kernel
theorem dX11_product_68 : decode cX11_product 68 = .ok (.invokevirtual 192, 3) := by decide +kernel
theorem dX11_product_71 : decode cX11_product 71 = .ok (.invokevirtual 232, 3) := by decide +kernel
theorem dX11_product_74 : decode cX11_product 74 = .ok (.astore 5, 2) := by decide +kernel
theorem dX11_product_76 : decode cX11_product 76 = .ok (.aload 5, 2) := by decide +kernel
theorem dX11_product_78 : decode cX11_product 78 = .ok (.aload_n 3, 1) := by decide +kernel
theorem dX11_product_79 : decode cX11_product 79 = .ok (.invokevirtual 169, 3) := by decide +kernel
theorem dX11_product_82 : decode cX11_product 82 = .ok (.aload 4, 2) := by decide +kernel
theorem dX11_product_84 : decode cX11_product 84 = .ok (.invokevirtual 169, 3) := by decide +kernel
theorem dX11_product_87 : decode cX11_product 87 = .ok (.invokestatic 210, 3) := by decide +kernel
theorem dX11_product_90 : decode cX11_product 90 = .ok (.invokestatic 172, 3) := by decide +kernel
theorem dX11_product_93 : decode cX11_product 93 = .ok (.aload_n 0, 1) := by decide +kernel
theorem dX11_product_94 : decode cX11_product 94 = .ok (.new 244, 3) := by decide +kernel
theorem dX11_product_97 : decode cX11_product 97 = .ok (.dup, 1) := by decide +kernel
theorem dX11_product_98 : decode cX11_product 98 = .ok (.aload 5, 2) := by decide +kernel
theorem dX11_product_100 : decode cX11_product 100 = .ok (.aload_n 3, 1) := by decide +kernel
theorem dX11_product_101 : decode cX11_product 101 = .ok (.aload 4, 2) := by decide +kernel
theorem dX11_product_103 : decode cX11_product 103 = .ok (.invokespecial 246, 3) := by decide +kernel
theorem dX11_product_106 : decode cX11_product 106 = .ok (.invokevirtual 144, 3) := by decide +kernel
theorem dX11_product_109 : decode cX11_product 109 = .ok (.ireturn, 1) := by decide +kernel
theorem dX11_shape_0 : decode cX11_shape 0 = .ok (.aload_n 0, 1) := by decide +kernel
theorem dX11_shape_1 : decode cX11_shape 1 = .ok (.iload_n 1, 1) := by decide +kernel
theorem dX11_shape_2 : decode cX11_shape 2 = .ok (.invokevirtual 148, 3) := by decide +kernel
theorem dX11_shape_5 : decode cX11_shape 5 = .ok (.astore_n 3, 1) := by decide +kernel
theorem dX11_shape_6 : decode cX11_shape 6 = .ok (.iload_n 2, 1) := by decide +kernel
theorem dX11_shape_7 : decode cX11_shape 7 = .ok (.ifCond .lt 13, 3) := by decide +kernel
theorem dX11_shape_10 : decode cX11_shape 10 = .ok (.iload_n 2, 1) := by decide +kernel
theorem dX11_shape_11 : decode cX11_shape 11 = .ok (.bipush 8, 2) := by decide +kernel
theorem dX11_shape_13 : decode cX11_shape 13 = .ok (.if_icmp .gt 7, 3) := by decide +kernel
theorem dX11_shape_16 : decode cX11_shape 16 = .ok (.iconst 1, 1) := by decide +kernel
theorem dX11_shape_17 : decode cX11_shape 17 = .ok (.goto 4, 3) := by decide +kernel
theorem dX11_shape_20 : decode cX11_shape 20 = .ok (.iconst 0, 1) := by decide +kernel
theorem dX11_shape_21 : decode cX11_shape 21 = .ok (.invokestatic 42, 3) := by decide +kernel
theorem dX11_shape_24 : decode cX11_shape 24 = .ok (.iload_n 2, 1) := by decide +kernel
theorem dX11_shape_25 : decode cX11_shape 25 = .ok (.ifCond .ne 11, 3) := by decide +kernel
theorem dX11_shape_28 : decode cX11_shape 28 = .ok (.aload_n 3, 1) := by decide +kernel
theorem dX11_shape_29 : decode cX11_shape 29 = .ok (.invokevirtual 152, 3) := by decide +kernel
theorem dX11_shape_32 : decode cX11_shape 32 = .ok (.invokevirtual 162, 3) := by decide +kernel
theorem dX11_shape_35 : decode cX11_shape 35 = .ok (.ireturn, 1) := by decide +kernel
theorem dX11_shape_36 : decode cX11_shape 36 = .ok (.iload_n 2, 1) := by decide +kernel
theorem dX11_shape_37 : decode cX11_shape 37 = .ok (.iconst 1, 1) := by decide +kernel
theorem dX11_shape_38 : decode cX11_shape 38 = .ok (.if_icmp .ne 8, 3) := by decide +kernel
theorem dX11_shape_41 : decode cX11_shape 41 = .ok (.aload_n 3, 1) := by decide +kernel
theorem dX11_shape_42 : decode cX11_shape 42 = .ok (.invokevirtual 169, 3) := by decide +kernel
theorem dX11_shape_45 : decode cX11_shape 45 = .ok (.ireturn, 1) := by decide +kernel
theorem dX11_shape_46 : decode cX11_shape 46 = .ok (.iload_n 2, 1) := by decide +kernel
theorem dX11_shape_47 : decode cX11_shape 47 = .ok (.bipush 8, 2) := by decide +kernel
theorem dX11_shape_49 : decode cX11_shape 49 = .ok (.if_icmp .ne 8, 3) := by decide +kernel
theorem dX11_shape_52 : decode cX11_shape 52 = .ok (.aload_n 3, 1) := by decide +kernel
theorem dX11_shape_53 : decode cX11_shape 53 = .ok (.invokevirtual 249, 3) := by decide +kernel
theorem dX11_shape_56 : decode cX11_shape 56 = .ok (.ireturn, 1) := by decide +kernel
theorem dX11_shape_57 : decode cX11_shape 57 = .ok (.iload_n 2, 1) := by decide +kernel
theorem dX11_shape_58 : decode cX11_shape 58 = .ok (.iconst 2, 1) := by decide +kernel
theorem dX11_shape_59 : decode cX11_shape 59 = .ok (.idiv, 1) := by decide +kernel
theorem dX11_shape_60 : decode cX11_shape 60 = .ok (.iconst 1, 1) := by decide +kernel
theorem dX11_shape_61 : decode cX11_shape 61 = .ok (.isub, 1) := by decide +kernel
theorem dX11_shape_62 : decode cX11_shape 62 = .ok (.istore 4, 2) := by decide +kernel
theorem dX11_shape_64 : decode cX11_shape 64 = .ok (.iload_n 2, 1) := by decide +kernel
theorem dX11_shape_65 : decode cX11_shape 65 = .ok (.iconst 2, 1) := by decide +kernel
theorem dX11_shape_66 : decode cX11_shape 66 = .ok (.irem, 1) := by decide +kernel
theorem dX11_shape_67 : decode cX11_shape 67 = .ok (.ifCond .ne 15, 3) := by decide +kernel
theorem dX11_shape_70 : decode cX11_shape 70 = .ok (.aload_n 3, 1) := by decide +kernel
theorem dX11_shape_71 : decode cX11_shape 71 = .ok (.invokevirtual 152, 3) := by decide +kernel
theorem dX11_shape_74 : decode cX11_shape 74 = .ok (.iload 4, 2) := by decide +kernel
theorem dX11_shape_76 : decode cX11_shape 76 = .ok (.invokevirtual 188, 3) := by decide +kernel
theorem dX11_shape_79 : decode cX11_shape 79 = .ok (.goto 12, 3) := by decide +kernel
theorem dX11_shape_82 : decode cX11_shape 82 = .ok (.aload_n 3, 1) := by decide +kernel
theorem dX11_shape_83 : decode cX11_shape 83 = .ok (.invokevirtual 152, 3) := by decide +kernel
theorem dX11_shape_86 : decode cX11_shape 86 = .ok (.iload 4, 2) := by decide +kernel
theorem dX11_shape_88 : decode cX11_shape 88 = .ok (.invokevirtual 192, 3) := by decide +kernel
theorem dX11_shape_91 : decode cX11_shape 91 = .ok (.ireturn, 1) := by decide +kernel
theorem dX11_cell_0 : decode cX11_cell 0 = .ok (.aload_n 0, 1) := by decide +kernel
theorem dX11_cell_1 : decode cX11_cell 1 = .ok (.iload_n 1, 1) := by decide +kernel
theorem dX11_cell_2 : decode cX11_cell 2 = .ok (.invokevirtual 148, 3) := by decide +kernel
theorem dX11_cell_5 : decode cX11_cell 5 = .ok (.astore 5, 2) := by decide +kernel
theorem dX11_cell_7 : decode cX11_cell 7 = .ok (.aload 5, 2) := by decide +kernel
theorem dX11_cell_9 : decode cX11_cell 9 = .ok (.invokevirtual 152, 3) := by decide +kernel
theorem dX11_cell_12 : decode cX11_cell 12 = .ok (.iload_n 2, 1) := by decide +kernel
theorem dX11_cell_13 : decode cX11_cell 13 = .ok (.iload_n 3, 1) := by decide +kernel
theorem dX11_cell_14 : decode cX11_cell 14 = .ok (.iload 4, 2) := by decide +kernel
theorem dX11_cell_16 : decode cX11_cell 16 = .ok (.invokevirtual 250, 3) := by decide +kernel
theorem dX11_cell_19 : decode cX11_cell 19 = .ok (.istore 6, 2) := by decide +kernel
theorem dX11_cell_21 : decode cX11_cell 21 = .ok (.iload 6, 2) := by decide +kernel
theorem dX11_cell_23 : decode cX11_cell 23 = .ok (.ifCond .ge 13, 3) := by decide +kernel
theorem dX11_cell_26 : decode cX11_cell 26 = .ok (.new 87, 3) := by decide +kernel
theorem dX11_cell_29 : decode cX11_cell 29 = .ok (.dup, 1) := by decide +kernel
theorem dX11_cell_30 : decode cX11_cell 30 = .ok (.ldc 253, 2) := by decide +kernel
theorem dX11_cell_32 : decode cX11_cell 32 = .ok (.invokespecial 91, 3) := by decide +kernel
theorem dX11_cell_35 : decode cX11_cell 35 = .ok (.athrow, 1) := by decide +kernel
theorem dX11_cell_36 : decode cX11_cell 36 = .ok (.aload 5, 2) := by decide +kernel
theorem dX11_cell_38 : decode cX11_cell 38 = .ok (.iload 6, 2) := by decide +kernel
theorem dX11_cell_40 : decode cX11_cell 40 = .ok (.invokevirtual 255, 3) := by decide +kernel
theorem dX11_cell_43 : decode cX11_cell 43 = .ok (.ifCond .ne 14, 3) := by decide +kernel
theorem dX11_cell_46 : decode cX11_cell 46 = .ok (.new 258, 3) := by decide +kernel
theorem dX11_cell_49 : decode cX11_cell 49 = .ok (.dup, 1) := by decide +kernel
theorem dX11_cell_50 : decode cX11_cell 50 = .ok (.ldc_w 260, 3) := by decide +kernel
theorem dX11_cell_53 : decode cX11_cell 53 = .ok (.invokespecial 262, 3) := by decide +kernel
theorem dX11_cell_56 : decode cX11_cell 56 = .ok (.athrow, 1) := by decide +kernel
theorem dX11_cell_57 : decode cX11_cell 57 = .ok (.aload 5, 2) := by decide +kernel
theorem dX11_cell_59 : decode cX11_cell 59 = .ok (.iload 6, 2) := by decide +kernel
theorem dX11_cell_61 : decode cX11_cell 61 = .ok (.invokevirtual 263, 3) := by decide +kernel
theorem dX11_cell_64 : decode cX11_cell 64 = .ok (.lreturn, 1) := by decide +kernel
theorem dX11_all_0 : decode cX11_all 0 = .ok (.aload_n 0, 1) := by decide +kernel
theorem dX11_all_1 : decode cX11_all 1 = .ok (.iload_n 1, 1) := by decide +kernel
theorem dX11_all_2 : decode cX11_all 2 = .ok (.invokevirtual 148, 3) := by decide +kernel
theorem dX11_all_5 : decode cX11_all 5 = .ok (.astore_n 3, 1) := by decide +kernel
theorem dX11_all_6 : decode cX11_all 6 = .ok (.iload_n 2, 1) := by decide +kernel
theorem dX11_all_7 : decode cX11_all 7 = .ok (.invokestatic 218, 3) := by decide +kernel
theorem dX11_all_10 : decode cX11_all 10 = .ok (.invokestatic 42, 3) := by decide +kernel
theorem dX11_all_13 : decode cX11_all 13 = .ok (.new 219, 3) := by decide +kernel
theorem dX11_all_16 : decode cX11_all 16 = .ok (.dup, 1) := by decide +kernel
theorem dX11_all_17 : decode cX11_all 17 = .ok (.iload_n 2, 1) := by decide +kernel
theorem dX11_all_18 : decode cX11_all 18 = .ok (.invokespecial 267, 3) := by decide +kernel
theorem dX11_all_21 : decode cX11_all 21 = .ok (.astore 4, 2) := by decide +kernel
theorem dX11_all_23 : decode cX11_all 23 = .ok (.aload 4, 2) := by decide +kernel
theorem dX11_all_25 : decode cX11_all 25 = .ok (.aload_n 3, 1) := by decide +kernel
theorem dX11_all_26 : decode cX11_all 26 = .ok (.iconst 0, 1) := by decide +kernel
theorem dX11_all_27 : decode cX11_all 27 = .ok (.iconst 1, 1) := by decide +kernel
theorem dX11_all_28 : decode cX11_all 28 = .ok (.aload_n 3, 1) := by decide +kernel
theorem dX11_all_29 : decode cX11_all 29 = .ok (.invokevirtual 152, 3) := by decide +kernel
theorem dX11_all_32 : decode cX11_all 32 = .ok (.invokevirtual 76, 3) := by decide +kernel
theorem dX11_all_35 : decode cX11_all 35 = .ok (.invokevirtual 269, 3) := by decide +kernel
theorem dX11_all_38 : decode cX11_all 38 = .ok (.aload 4, 2) := by decide +kernel
theorem dX11_all_40 : decode cX11_all 40 = .ok (.invokevirtual 273, 3) := by decide +kernel
theorem dX11_all_43 : decode cX11_all 43 = .ok (.ifCond .eq 14, 3) := by decide +kernel
theorem dX11_all_46 : decode cX11_all 46 = .ok (.new 258, 3) := by decide +kernel
theorem dX11_all_49 : decode cX11_all 49 = .ok (.dup, 1) := by decide +kernel
theorem dX11_all_50 : decode cX11_all 50 = .ok (.ldc_w 277, 3) := by decide +kernel
theorem dX11_all_53 : decode cX11_all 53 = .ok (.invokespecial 262, 3) := by decide +kernel
theorem dX11_all_56 : decode cX11_all 56 = .ok (.athrow, 1) := by decide +kernel
theorem dX11_all_57 : decode cX11_all 57 = .ok (.aload 4, 2) := by decide +kernel
theorem dX11_all_59 : decode cX11_all 59 = .ok (.invokevirtual 279, 3) := by decide +kernel
theorem dX11_all_62 : decode cX11_all 62 = .ok (.lreturn, 1) := by decide +kernel
theorem dX11_count_0 : decode cX11_count 0 = .ok (.iload_n 1, 1) := by decide +kernel
theorem dX11_count_1 : decode cX11_count 1 = .ok (.tableswitch 75 0 3 #[31, 41, 51, 56], 31) := by decide +kernel
theorem dX11_count_32 : decode cX11_count 32 = .ok (.aload_n 0, 1) := by decide +kernel
theorem dX11_count_33 : decode cX11_count 33 = .ok (.getfield 10, 3) := by decide +kernel
theorem dX11_count_36 : decode cX11_count 36 = .ok (.invokeinterface 84 1, 5) := by decide +kernel
theorem dX11_count_41 : decode cX11_count 41 = .ok (.ireturn, 1) := by decide +kernel
theorem dX11_count_42 : decode cX11_count 42 = .ok (.aload_n 0, 1) := by decide +kernel
theorem dX11_count_43 : decode cX11_count 43 = .ok (.getfield 16, 3) := by decide +kernel
theorem dX11_count_46 : decode cX11_count 46 = .ok (.invokeinterface 84 1, 5) := by decide +kernel
theorem dX11_count_51 : decode cX11_count 51 = .ok (.ireturn, 1) := by decide +kernel
theorem dX11_count_52 : decode cX11_count 52 = .ok (.aload_n 0, 1) := by decide +kernel
theorem dX11_count_53 : decode cX11_count 53 = .ok (.getfield 94, 3) := by decide +kernel
theorem dX11_count_56 : decode cX11_count 56 = .ok (.ireturn, 1) := by decide +kernel
theorem dX11_count_57 : decode cX11_count 57 = .ok (.aload_n 0, 1) := by decide +kernel
theorem dX11_count_58 : decode cX11_count 58 = .ok (.getfield 50, 3) := by decide +kernel
theorem dX11_count_61 : decode cX11_count 61 = .ok (.aload_n 0, 1) := by decide +kernel
theorem dX11_count_62 : decode cX11_count 62 = .ok (.aload_n 0, 1) := by decide +kernel
theorem dX11_count_63 : decode cX11_count 63 = .ok (.getfield 94, 3) := by decide +kernel
theorem dX11_count_66 : decode cX11_count 66 = .ok (.invokevirtual 100, 3) := by decide +kernel
theorem dX11_count_69 : decode cX11_count 69 = .ok (.invokevirtual 112, 3) := by decide +kernel
theorem dX11_count_72 : decode cX11_count 72 = .ok (.invokevirtual 137, 3) := by decide +kernel
theorem dX11_count_75 : decode cX11_count 75 = .ok (.ireturn, 1) := by decide +kernel
theorem dX11_count_76 : decode cX11_count 76 = .ok (.new 132, 3) := by decide +kernel
theorem dX11_count_79 : decode cX11_count 79 = .ok (.dup, 1) := by decide +kernel
theorem dX11_count_80 : decode cX11_count 80 = .ok (.ldc 134, 2) := by decide +kernel
theorem dX11_count_82 : decode cX11_count 82 = .ok (.invokespecial 136, 3) := by decide +kernel
theorem dX11_count_85 : decode cX11_count 85 = .ok (.athrow, 1) := by decide +kernel
theorem dX11_startAnew_0 : decode cX11_startAnew 0 = .ok (.aload_n 0, 1) := by decide +kernel
theorem dX11_startAnew_1 : decode cX11_startAnew 1 = .ok (.aload_n 1, 1) := by decide +kernel
theorem dX11_startAnew_2 : decode cX11_startAnew 2 = .ok (.putfield 68, 3) := by decide +kernel
theorem dX11_startAnew_5 : decode cX11_startAnew 5 = .ok (.aload_n 0, 1) := by decide +kernel
theorem dX11_startAnew_6 : decode cX11_startAnew 6 = .ok (.new 59, 3) := by decide +kernel
theorem dX11_startAnew_9 : decode cX11_startAnew 9 = .ok (.dup, 1) := by decide +kernel
theorem dX11_startAnew_10 : decode cX11_startAnew 10 = .ok (.aload_n 1, 1) := by decide +kernel
theorem dX11_startAnew_11 : decode cX11_startAnew 11 = .ok (.invokevirtual 76, 3) := by decide +kernel
theorem dX11_startAnew_14 : decode cX11_startAnew 14 = .ok (.invokespecial 283, 3) := by decide +kernel
theorem dX11_startAnew_17 : decode cX11_startAnew 17 = .ok (.putfield 50, 3) := by decide +kernel
theorem dX11_startAnew_20 : decode cX11_startAnew 20 = .ok (.aload_n 0, 1) := by decide +kernel
theorem dX11_startAnew_21 : decode cX11_startAnew 21 = .ok (.iconst 0, 1) := by decide +kernel
theorem dX11_startAnew_22 : decode cX11_startAnew 22 = .ok (.putfield 94, 3) := by decide +kernel
theorem dX11_startAnew_25 : decode cX11_startAnew 25 = .ok (.aload_n 0, 1) := by decide +kernel
theorem dX11_startAnew_26 : decode cX11_startAnew 26 = .ok (.getfield 16, 3) := by decide +kernel
theorem dX11_startAnew_29 : decode cX11_startAnew 29 = .ok (.invokeinterface 284 1, 5) := by decide +kernel
theorem dX11_startAnew_34 : decode cX11_startAnew 34 = .ok (.aload_n 0, 1) := by decide +kernel
theorem dX11_startAnew_35 : decode cX11_startAnew 35 = .ok (.getfield 10, 3) := by decide +kernel
theorem dX11_startAnew_38 : decode cX11_startAnew 38 = .ok (.invokeinterface 284 1, 5) := by decide +kernel
theorem dX11_startAnew_43 : decode cX11_startAnew 43 = .ok (.aload_n 0, 1) := by decide +kernel
theorem dX11_startAnew_44 : decode cX11_startAnew 44 = .ok (.getfield 10, 3) := by decide +kernel
theorem dX11_startAnew_47 : decode cX11_startAnew 47 = .ok (.new 92, 3) := by decide +kernel
theorem dX11_startAnew_50 : decode cX11_startAnew 50 = .ok (.dup, 1) := by decide +kernel
theorem dX11_startAnew_51 : decode cX11_startAnew 51 = .ok (.aload_n 1, 1) := by decide +kernel
theorem dX11_startAnew_52 : decode cX11_startAnew 52 = .ok (.iconst (-1), 1) := by decide +kernel
theorem dX11_startAnew_53 : decode cX11_startAnew 53 = .ok (.invokespecial 97, 3) := by decide +kernel
theorem dX11_startAnew_56 : decode cX11_startAnew 56 = .ok (.invokeinterface 108 2, 5) := by decide +kernel
theorem dX11_startAnew_61 : decode cX11_startAnew 61 = .ok (.pop, 1) := by decide +kernel
theorem dX11_startAnew_62 : decode cX11_startAnew 62 = .ok (.aload_n 0, 1) := by decide +kernel
theorem dX11_startAnew_63 : decode cX11_startAnew 63 = .ok (.invokevirtual 287, 3) := by decide +kernel
theorem dX11_startAnew_66 : decode cX11_startAnew 66 = .ok (.return_, 1) := by decide +kernel
theorem dX11_cutChunks_0 : decode cX11_cutChunks 0 = .ok (.aload_n 0, 1) := by decide +kernel
theorem dX11_cutChunks_1 : decode cX11_cutChunks 1 = .ok (.getfield 19, 3) := by decide +kernel
theorem dX11_cutChunks_4 : decode cX11_cutChunks 4 = .ok (.invokeinterface 284 1, 5) := by decide +kernel
theorem dX11_cutChunks_9 : decode cX11_cutChunks 9 = .ok (.aload_n 0, 1) := by decide +kernel
theorem dX11_cutChunks_10 : decode cX11_cutChunks 10 = .ok (.getfield 68, 3) := by decide +kernel
theorem dX11_cutChunks_13 : decode cX11_cutChunks 13 = .ok (.iconst 0, 1) := by decide +kernel
theorem dX11_cutChunks_14 : decode cX11_cutChunks 14 = .ok (.invokevirtual 188, 3) := by decide +kernel
theorem dX11_cutChunks_17 : decode cX11_cutChunks 17 = .ok (.istore_n 1, 1) := by decide +kernel
theorem dX11_cutChunks_18 : decode cX11_cutChunks 18 = .ok (.iload_n 1, 1) := by decide +kernel
theorem dX11_cutChunks_19 : decode cX11_cutChunks 19 = .ok (.aload_n 0, 1) := by decide +kernel
theorem dX11_cutChunks_20 : decode cX11_cutChunks 20 = .ok (.getfield 68, 3) := by decide +kernel
theorem dX11_cutChunks_23 : decode cX11_cutChunks 23 = .ok (.iconst 0, 1) := by decide +kernel
theorem dX11_cutChunks_24 : decode cX11_cutChunks 24 = .ok (.invokevirtual 192, 3) := by decide +kernel
theorem dX11_cutChunks_27 : decode cX11_cutChunks 27 = .ok (.if_icmp .gt 87, 3) := by decide +kernel
theorem dX11_cutChunks_30 : decode cX11_cutChunks 30 = .ok (.aload_n 0, 1) := by decide +kernel
theorem dX11_cutChunks_31 : decode cX11_cutChunks 31 = .ok (.getfield 68, 3) := by decide +kernel
theorem dX11_cutChunks_34 : decode cX11_cutChunks 34 = .ok (.iconst 1, 1) := by decide +kernel
theorem dX11_cutChunks_35 : decode cX11_cutChunks 35 = .ok (.invokevirtual 188, 3) := by decide +kernel
theorem dX11_cutChunks_38 : decode cX11_cutChunks 38 = .ok (.istore_n 2, 1) := by decide +kernel
theorem dX11_cutChunks_39 : decode cX11_cutChunks 39 = .ok (.iload_n 2, 1) := by decide +kernel
theorem dX11_cutChunks_40 : decode cX11_cutChunks 40 = .ok (.aload_n 0, 1) := by decide +kernel
theorem dX11_cutChunks_41 : decode cX11_cutChunks 41 = .ok (.getfield 68, 3) := by decide +kernel
theorem dX11_cutChunks_44 : decode cX11_cutChunks 44 = .ok (.iconst 1, 1) := by decide +kernel
theorem dX11_cutChunks_45 : decode cX11_cutChunks 45 = .ok (.invokevirtual 192, 3) := by decide +kernel
theorem dX11_cutChunks_48 : decode cX11_cutChunks 48 = .ok (.if_icmp .gt 60, 3) := by decide +kernel
theorem dX11_cutChunks_51 : decode cX11_cutChunks 51 = .ok (.aload_n 0, 1) := by decide +kernel
theorem dX11_cutChunks_52 : decode cX11_cutChunks 52 = .ok (.getfield 68, 3) := by decide +kernel
theorem dX11_cutChunks_55 : decode cX11_cutChunks 55 = .ok (.iconst 2, 1) := by decide +kernel
theorem dX11_cutChunks_56 : decode cX11_cutChunks 56 = .ok (.invokevirtual 188, 3) := by decide +kernel
theorem dX11_cutChunks_59 : decode cX11_cutChunks 59 = .ok (.istore_n 3, 1) := by decide +kernel
theorem dX11_cutChunks_60 : decode cX11_cutChunks 60 = .ok (.iload_n 3, 1) := by decide +kernel
theorem dX11_cutChunks_61 : decode cX11_cutChunks 61 = .ok (.aload_n 0, 1) := by decide +kernel
theorem dX11_cutChunks_62 : decode cX11_cutChunks 62 = .ok (.getfield 68, 3) := by decide +kernel
theorem dX11_cutChunks_65 : decode cX11_cutChunks 65 = .ok (.iconst 2, 1) := by decide +kernel
theorem dX11_cutChunks_66 : decode cX11_cutChunks 66 = .ok (.invokevirtual 192, 3) := by decide +kernel
theorem dX11_cutChunks_69 : decode cX11_cutChunks 69 = .ok (.if_icmp .gt 33, 3) := by decide +kernel
theorem dX11_cutChunks_72 : decode cX11_cutChunks 72 = .ok (.aload_n 0, 1) := by decide +kernel
theorem dX11_cutChunks_73 : decode cX11_cutChunks 73 = .ok (.getfield 19, 3) := by decide +kernel
theorem dX11_cutChunks_76 : decode cX11_cutChunks 76 = .ok (.new 290, 3) := by decide +kernel
theorem dX11_cutChunks_79 : decode cX11_cutChunks 79 = .ok (.dup, 1) := by decide +kernel
theorem dX11_cutChunks_80 : decode cX11_cutChunks 80 = .ok (.aload_n 0, 1) := by decide +kernel
theorem dX11_cutChunks_81 : decode cX11_cutChunks 81 = .ok (.getfield 68, 3) := by decide +kernel
theorem dX11_cutChunks_84 : decode cX11_cutChunks 84 = .ok (.iload_n 1, 1) := by decide +kernel
theorem dX11_cutChunks_85 : decode cX11_cutChunks 85 = .ok (.iload_n 2, 1) := by decide +kernel
theorem dX11_cutChunks_86 : decode cX11_cutChunks 86 = .ok (.iload_n 3, 1) := by decide +kernel
theorem dX11_cutChunks_87 : decode cX11_cutChunks 87 = .ok (.invokespecial 292, 3) := by decide +kernel
theorem dX11_cutChunks_90 : decode cX11_cutChunks 90 = .ok (.invokeinterface 108 2, 5) := by decide +kernel
theorem dX11_cutChunks_95 : decode cX11_cutChunks 95 = .ok (.pop, 1) := by decide +kernel
theorem dX11_cutChunks_96 : decode cX11_cutChunks 96 = .ok (.iinc 3 4, 3) := by decide +kernel
theorem dX11_cutChunks_99 : decode cX11_cutChunks 99 = .ok (.goto (-39), 3) := by decide +kernel
theorem dX11_cutChunks_102 : decode cX11_cutChunks 102 = .ok (.iinc 2 4, 3) := by decide +kernel
theorem dX11_cutChunks_105 : decode cX11_cutChunks 105 = .ok (.goto (-66), 3) := by decide +kernel
theorem dX11_cutChunks_108 : decode cX11_cutChunks 108 = .ok (.iinc 1 4, 3) := by decide +kernel
theorem dX11_cutChunks_111 : decode cX11_cutChunks 111 = .ok (.goto (-93), 3) := by decide +kernel
theorem dX11_cutChunks_114 : decode cX11_cutChunks 114 = .ok (.return_, 1) := by decide +kernel
theorem dX11_isArrayRange_0 : decode cX11_isArrayRange 0 = .ok (.iload_n 0, 1) := by decide +kernel
theorem dX11_isArrayRange_1 : decode cX11_isArrayRange 1 = .ok (.bipush (-100), 2) := by decide +kernel
theorem dX11_isArrayRange_3 : decode cX11_isArrayRange 3 = .ok (.if_icmp .lt 26, 3) := by decide +kernel
theorem dX11_isArrayRange_6 : decode cX11_isArrayRange 6 = .ok (.iload_n 1, 1) := by decide +kernel
theorem dX11_isArrayRange_7 : decode cX11_isArrayRange 7 = .ok (.bipush 100, 2) := by decide +kernel
theorem dX11_isArrayRange_9 : decode cX11_isArrayRange 9 = .ok (.if_icmp .gt 20, 3) := by decide +kernel
theorem dX11_isArrayRange_12 : decode cX11_isArrayRange 12 = .ok (.iload_n 0, 1) := by decide +kernel
theorem dX11_isArrayRange_13 : decode cX11_isArrayRange 13 = .ok (.iload_n 1, 1) := by decide +kernel
theorem dX11_isArrayRange_14 : decode cX11_isArrayRange 14 = .ok (.if_icmp .gt 15, 3) := by decide +kernel
theorem dX11_isArrayRange_17 : decode cX11_isArrayRange 17 = .ok (.iload_n 1, 1) := by decide +kernel
theorem dX11_isArrayRange_18 : decode cX11_isArrayRange 18 = .ok (.iload_n 0, 1) := by decide +kernel
theorem dX11_isArrayRange_19 : decode cX11_isArrayRange 19 = .ok (.isub, 1) := by decide +kernel
theorem dX11_isArrayRange_20 : decode cX11_isArrayRange 20 = .ok (.bipush 16, 2) := by decide +kernel
theorem dX11_isArrayRange_22 : decode cX11_isArrayRange 22 = .ok (.if_icmp .ge 7, 3) := by decide +kernel
theorem dX11_isArrayRange_25 : decode cX11_isArrayRange 25 = .ok (.iconst 1, 1) := by decide +kernel
theorem dX11_isArrayRange_26 : decode cX11_isArrayRange 26 = .ok (.goto 4, 3) := by decide +kernel
theorem dX11_isArrayRange_29 : decode cX11_isArrayRange 29 = .ok (.iconst 0, 1) := by decide +kernel
theorem dX11_isArrayRange_30 : decode cX11_isArrayRange 30 = .ok (.ireturn, 1) := by decide +kernel
theorem dX11_deskIndex_0 : decode cX11_deskIndex 0 = .ok (.aload_n 0, 1) := by decide +kernel
theorem dX11_deskIndex_1 : decode cX11_deskIndex 1 = .ok (.getfield 68, 3) := by decide +kernel
theorem dX11_deskIndex_4 : decode cX11_deskIndex 4 = .ok (.iload_n 1, 1) := by decide +kernel
theorem dX11_deskIndex_5 : decode cX11_deskIndex 5 = .ok (.iload_n 2, 1) := by decide +kernel
theorem dX11_deskIndex_6 : decode cX11_deskIndex 6 = .ok (.iload_n 3, 1) := by decide +kernel
theorem dX11_deskIndex_7 : decode cX11_deskIndex 7 = .ok (.invokevirtual 250, 3) := by decide +kernel
theorem dX11_deskIndex_10 : decode cX11_deskIndex 10 = .ok (.istore 4, 2) := by decide +kernel
theorem dX11_deskIndex_12 : decode cX11_deskIndex 12 = .ok (.iload 4, 2) := by decide +kernel
theorem dX11_deskIndex_14 : decode cX11_deskIndex 14 = .ok (.ifCond .ge 13, 3) := by decide +kernel
theorem dX11_deskIndex_17 : decode cX11_deskIndex 17 = .ok (.new 87, 3) := by decide +kernel
theorem dX11_deskIndex_20 : decode cX11_deskIndex 20 = .ok (.dup, 1) := by decide +kernel
theorem dX11_deskIndex_21 : decode cX11_deskIndex 21 = .ok (.ldc 253, 2) := by decide +kernel
theorem dX11_deskIndex_23 : decode cX11_deskIndex 23 = .ok (.invokespecial 91, 3) := by decide +kernel
theorem dX11_deskIndex_26 : decode cX11_deskIndex 26 = .ok (.athrow, 1) := by decide +kernel
theorem dX11_deskIndex_27 : decode cX11_deskIndex 27 = .ok (.iload 4, 2) := by decide +kernel
theorem dX11_deskIndex_29 : decode cX11_deskIndex 29 = .ok (.ireturn, 1) := by decide +kernel
theorem dX11_versionAt_0 : decode cX11_versionAt 0 = .ok (.iload_n 1, 1) := by decide +kernel
theorem dX11_versionAt_1 : decode cX11_versionAt 1 = .ok (.ifCond .lt 20, 3) := by decide +kernel
theorem dX11_versionAt_4 : decode cX11_versionAt 4 = .ok (.iload_n 1, 1) := by decide +kernel
theorem dX11_versionAt_5 : decode cX11_versionAt 5 = .ok (.aload_n 0, 1) := by decide +kernel
theorem dX11_versionAt_6 : decode cX11_versionAt 6 = .ok (.getfield 10, 3) := by decide +kernel
theorem dX11_versionAt_9 : decode cX11_versionAt 9 = .ok (.invokeinterface 84 1, 5) := by decide +kernel
theorem dX11_versionAt_14 : decode cX11_versionAt 14 = .ok (.if_icmp .ge 7, 3) := by decide +kernel
theorem dX11_versionAt_17 : decode cX11_versionAt 17 = .ok (.iconst 1, 1) := by decide +kernel
theorem dX11_versionAt_18 : decode cX11_versionAt 18 = .ok (.goto 4, 3) := by decide +kernel
theorem dX11_versionAt_21 : decode cX11_versionAt 21 = .ok (.iconst 0, 1) := by decide +kernel
theorem dX11_versionAt_22 : decode cX11_versionAt 22 = .ok (.invokestatic 42, 3) := by decide +kernel
theorem dX11_versionAt_25 : decode cX11_versionAt 25 = .ok (.aload_n 0, 1) := by decide +kernel
theorem dX11_versionAt_26 : decode cX11_versionAt 26 = .ok (.getfield 10, 3) := by decide +kernel
theorem dX11_versionAt_29 : decode cX11_versionAt 29 = .ok (.iload_n 1, 1) := by decide +kernel
theorem dX11_versionAt_30 : decode cX11_versionAt 30 = .ok (.invokeinterface 295 2, 5) := by decide +kernel
theorem dX11_versionAt_35 : decode cX11_versionAt 35 = .ok (.checkcast 92, 3) := by decide +kernel
theorem dX11_versionAt_38 : decode cX11_versionAt 38 = .ok (.areturn, 1) := by decide +kernel
theorem dX11_nodeAt_0 : decode cX11_nodeAt 0 = .ok (.iload_n 1, 1) := by decide +kernel
theorem dX11_nodeAt_1 : decode cX11_nodeAt 1 = .ok (.ifCond .lt 20, 3) := by decide +kernel
theorem dX11_nodeAt_4 : decode cX11_nodeAt 4 = .ok (.iload_n 1, 1) := by decide +kernel
theorem dX11_nodeAt_5 : decode cX11_nodeAt 5 = .ok (.aload_n 0, 1) := by decide +kernel
theorem dX11_nodeAt_6 : decode cX11_nodeAt 6 = .ok (.getfield 16, 3) := by decide +kernel
theorem dX11_nodeAt_9 : decode cX11_nodeAt 9 = .ok (.invokeinterface 84 1, 5) := by decide +kernel
theorem dX11_nodeAt_14 : decode cX11_nodeAt 14 = .ok (.if_icmp .ge 7, 3) := by decide +kernel
theorem dX11_nodeAt_17 : decode cX11_nodeAt 17 = .ok (.iconst 1, 1) := by decide +kernel
theorem dX11_nodeAt_18 : decode cX11_nodeAt 18 = .ok (.goto 4, 3) := by decide +kernel
theorem dX11_nodeAt_21 : decode cX11_nodeAt 21 = .ok (.iconst 0, 1) := by decide +kernel
theorem dX11_nodeAt_22 : decode cX11_nodeAt 22 = .ok (.invokestatic 42, 3) := by decide +kernel
theorem dX11_nodeAt_25 : decode cX11_nodeAt 25 = .ok (.aload_n 0, 1) := by decide +kernel
theorem dX11_nodeAt_26 : decode cX11_nodeAt 26 = .ok (.getfield 16, 3) := by decide +kernel
theorem dX11_nodeAt_29 : decode cX11_nodeAt 29 = .ok (.iload_n 1, 1) := by decide +kernel
theorem dX11_nodeAt_30 : decode cX11_nodeAt 30 = .ok (.invokeinterface 295 2, 5) := by decide +kernel
theorem dX11_nodeAt_35 : decode cX11_nodeAt 35 = .ok (.checkcast 153, 3) := by decide +kernel
theorem dX11_nodeAt_38 : decode cX11_nodeAt 38 = .ok (.areturn, 1) := by decide +kernel
theorem dX11_need_0 : decode cX11_need 0 = .ok (.iload_n 0, 1) := by decide +kernel
theorem dX11_need_1 : decode cX11_need 1 = .ok (.ifCond .ne 14, 3) := by decide +kernel
theorem dX11_need_4 : decode cX11_need 4 = .ok (.new 132, 3) := by decide +kernel
theorem dX11_need_7 : decode cX11_need 7 = .ok (.dup, 1) := by decide +kernel
theorem dX11_need_8 : decode cX11_need 8 = .ok (.ldc_w 299, 3) := by decide +kernel
theorem dX11_need_11 : decode cX11_need 11 = .ok (.invokespecial 136, 3) := by decide +kernel
theorem dX11_need_14 : decode cX11_need 14 = .ok (.athrow, 1) := by decide +kernel
theorem dX11_need_15 : decode cX11_need 15 = .ok (.return_, 1) := by decide +kernel
theorem dX11_needRoom_0 : decode cX11_needRoom 0 = .ok (.aload_n 0, 1) := by decide +kernel
theorem dX11_needRoom_1 : decode cX11_needRoom 1 = .ok (.getfield 16, 3) := by decide +kernel
theorem dX11_needRoom_4 : decode cX11_needRoom 4 = .ok (.invokeinterface 84 1, 5) := by decide +kernel
theorem dX11_needRoom_9 : decode cX11_needRoom 9 = .ok (.sipush 150, 3) := by decide +kernel
theorem dX11_needRoom_12 : decode cX11_needRoom 12 = .ok (.if_icmp .lt 14, 3) := by decide +kernel
theorem dX11_needRoom_15 : decode cX11_needRoom 15 = .ok (.new 87, 3) := by decide +kernel
theorem dX11_needRoom_18 : decode cX11_needRoom 18 = .ok (.dup, 1) := by decide +kernel
theorem dX11_needRoom_19 : decode cX11_needRoom 19 = .ok (.ldc_w 301, 3) := by decide +kernel
theorem dX11_needRoom_22 : decode cX11_needRoom 22 = .ok (.invokespecial 91, 3) := by decide +kernel
theorem dX11_needRoom_25 : decode cX11_needRoom 25 = .ok (.athrow, 1) := by decide +kernel
theorem dX11_needRoom_26 : decode cX11_needRoom 26 = .ok (.return_, 1) := by decide +kernel
theorem dX11_needLimits_0 : decode cX11_needLimits 0 = .ok (.aload_n 0, 1) := by decide +kernel
theorem dX11_needLimits_1 : decode cX11_needLimits 1 = .ok (.invokevirtual 303, 3) := by decide +kernel
theorem dX11_needLimits_4 : decode cX11_needLimits 4 = .ok (.ifCond .eq 9, 3) := by decide +kernel
theorem dX11_needLimits_7 : decode cX11_needLimits 7 = .ok (.iload_n 1, 1) := by decide +kernel
theorem dX11_needLimits_8 : decode cX11_needLimits 8 = .ok (.bipush 40, 2) := by decide +kernel
theorem dX11_needLimits_10 : decode cX11_needLimits 10 = .ok (.if_icmp .lt 14, 3) := by decide +kernel
theorem dX11_needLimits_13 : decode cX11_needLimits 13 = .ok (.new 258, 3) := by decide +kernel
theorem dX11_needLimits_16 : decode cX11_needLimits 16 = .ok (.dup, 1) := by decide +kernel
theorem dX11_needLimits_17 : decode cX11_needLimits 17 = .ok (.ldc_w 306, 3) := by decide +kernel
theorem dX11_needLimits_20 : decode cX11_needLimits 20 = .ok (.invokespecial 262, 3) := by decide +kernel
theorem dX11_needLimits_23 : decode cX11_needLimits 23 = .ok (.athrow, 1) := by decide +kernel
theorem dX11_needLimits_24 : decode cX11_needLimits 24 = .ok (.return_, 1) := by decide +kernel
theorem dX11_keep_0 : decode cX11_keep 0 = .ok (.aload_n 0, 1) := by decide +kernel
theorem dX11_keep_1 : decode cX11_keep 1 = .ok (.getfield 16, 3) := by decide +kernel
theorem dX11_keep_4 : decode cX11_keep 4 = .ok (.aload_n 1, 1) := by decide +kernel
theorem dX11_keep_5 : decode cX11_keep 5 = .ok (.invokeinterface 108 2, 5) := by decide +kernel
theorem dX11_keep_10 : decode cX11_keep 10 = .ok (.pop, 1) := by decide +kernel
theorem dX11_keep_11 : decode cX11_keep 11 = .ok (.aload_n 0, 1) := by decide +kernel
theorem dX11_keep_12 : decode cX11_keep 12 = .ok (.getfield 16, 3) := by decide +kernel
theorem dX11_keep_15 : decode cX11_keep 15 = .ok (.invokeinterface 84 1, 5) := by decide +kernel
theorem dX11_keep_20 : decode cX11_keep 20 = .ok (.iconst 1, 1) := by decide +kernel
theorem dX11_keep_21 : decode cX11_keep 21 = .ok (.isub, 1) := by decide +kernel
theorem dX11_keep_22 : decode cX11_keep 22 = .ok (.ireturn, 1) := by decide +kernel
theorem dX11_keepRanged_0 : decode cX11_keepRanged 0 = .ok (.aload_n 1, 1) := by decide +kernel
theorem dX11_keepRanged_1 : decode cX11_keepRanged 1 = .ok (.invokevirtual 152, 3) := by decide +kernel
theorem dX11_keepRanged_4 : decode cX11_keepRanged 4 = .ok (.iload_n 2, 1) := by decide +kernel
theorem dX11_keepRanged_5 : decode cX11_keepRanged 5 = .ok (.iload_n 3, 1) := by decide +kernel
theorem dX11_keepRanged_6 : decode cX11_keepRanged 6 = .ok (.iload 4, 2) := by decide +kernel
theorem dX11_keepRanged_8 : decode cX11_keepRanged 8 = .ok (.invokevirtual 232, 3) := by decide +kernel
theorem dX11_keepRanged_11 : decode cX11_keepRanged 11 = .ok (.astore 5, 2) := by decide +kernel
theorem dX11_keepRanged_13 : decode cX11_keepRanged 13 = .ok (.aload 5, 2) := by decide +kernel
theorem dX11_keepRanged_15 : decode cX11_keepRanged 15 = .ok (.aload_n 1, 1) := by decide +kernel
theorem dX11_keepRanged_16 : decode cX11_keepRanged 16 = .ok (.invokevirtual 169, 3) := by decide +kernel
theorem dX11_keepRanged_19 : decode cX11_keepRanged 19 = .ok (.invokestatic 172, 3) := by decide +kernel
theorem dX11_keepRanged_22 : decode cX11_keepRanged 22 = .ok (.aload_n 0, 1) := by decide +kernel
theorem dX11_keepRanged_23 : decode cX11_keepRanged 23 = .ok (.new 175, 3) := by decide +kernel
theorem dX11_keepRanged_26 : decode cX11_keepRanged 26 = .ok (.dup, 1) := by decide +kernel
theorem dX11_keepRanged_27 : decode cX11_keepRanged 27 = .ok (.aload 5, 2) := by decide +kernel
theorem dX11_keepRanged_29 : decode cX11_keepRanged 29 = .ok (.aload_n 1, 1) := by decide +kernel
theorem dX11_keepRanged_30 : decode cX11_keepRanged 30 = .ok (.invokestatic 308, 3) := by decide +kernel
theorem dX11_keepRanged_33 : decode cX11_keepRanged 33 = .ok (.iconst 0, 1) := by decide +kernel
theorem dX11_keepRanged_34 : decode cX11_keepRanged 34 = .ok (.invokespecial 181, 3) := by decide +kernel
theorem dX11_keepRanged_37 : decode cX11_keepRanged 37 = .ok (.invokevirtual 144, 3) := by decide +kernel
theorem dX11_keepRanged_40 : decode cX11_keepRanged 40 = .ok (.ireturn, 1) := by decide +kernel
theorem dX11_keepFolded_0 : decode cX11_keepFolded 0 = .ok (.aload_n 1, 1) := by decide +kernel
theorem dX11_keepFolded_1 : decode cX11_keepFolded 1 = .ok (.aload_n 2, 1) := by decide +kernel
theorem dX11_keepFolded_2 : decode cX11_keepFolded 2 = .ok (.invokevirtual 169, 3) := by decide +kernel
theorem dX11_keepFolded_5 : decode cX11_keepFolded 5 = .ok (.invokestatic 172, 3) := by decide +kernel
theorem dX11_keepFolded_8 : decode cX11_keepFolded 8 = .ok (.aload_n 0, 1) := by decide +kernel
theorem dX11_keepFolded_9 : decode cX11_keepFolded 9 = .ok (.new 223, 3) := by decide +kernel
theorem dX11_keepFolded_12 : decode cX11_keepFolded 12 = .ok (.dup, 1) := by decide +kernel
theorem dX11_keepFolded_13 : decode cX11_keepFolded 13 = .ok (.aload_n 1, 1) := by decide +kernel
theorem dX11_keepFolded_14 : decode cX11_keepFolded 14 = .ok (.aload_n 2, 1) := by decide +kernel
theorem dX11_keepFolded_15 : decode cX11_keepFolded 15 = .ok (.iload_n 3, 1) := by decide +kernel
theorem dX11_keepFolded_16 : decode cX11_keepFolded 16 = .ok (.iload 4, 2) := by decide +kernel
theorem dX11_keepFolded_18 : decode cX11_keepFolded 18 = .ok (.iload 5, 2) := by decide +kernel
theorem dX11_keepFolded_20 : decode cX11_keepFolded 20 = .ok (.new 219, 3) := by decide +kernel
theorem dX11_keepFolded_23 : decode cX11_keepFolded 23 = .ok (.dup, 1) := by decide +kernel
theorem dX11_keepFolded_24 : decode cX11_keepFolded 24 = .ok (.iload 6, 2) := by decide +kernel
theorem dX11_keepFolded_26 : decode cX11_keepFolded 26 = .ok (.invokespecial 267, 3) := by decide +kernel
theorem dX11_keepFolded_29 : decode cX11_keepFolded 29 = .ok (.invokespecial 312, 3) := by decide +kernel
theorem dX11_keepFolded_32 : decode cX11_keepFolded 32 = .ok (.invokevirtual 144, 3) := by decide +kernel
theorem dX11_keepFolded_35 : decode cX11_keepFolded 35 = .ok (.ireturn, 1) := by decide +kernel
theorem dX12_init_0 : decode cX12_init 0 = .ok (.aload_n 0, 1) := by decide +kernel
theorem dX12_init_1 : decode cX12_init 1 = .ok (.invokespecial 1, 3) := by decide +kernel
theorem dX12_init_4 : decode cX12_init 4 = .ok (.aload_n 0, 1) := by decide +kernel
theorem dX12_init_5 : decode cX12_init 5 = .ok (.iconst 3, 1) := by decide +kernel
theorem dX12_init_6 : decode cX12_init 6 = .ok (.newarray .int, 2) := by decide +kernel
theorem dX12_init_8 : decode cX12_init 8 = .ok (.putfield 7, 3) := by decide +kernel
theorem dX12_init_11 : decode cX12_init 11 = .ok (.aload_n 0, 1) := by decide +kernel
theorem dX12_init_12 : decode cX12_init 12 = .ok (.iconst 3, 1) := by decide +kernel
theorem dX12_init_13 : decode cX12_init 13 = .ok (.newarray .int, 2) := by decide +kernel
theorem dX12_init_15 : decode cX12_init 15 = .ok (.putfield 13, 3) := by decide +kernel
theorem dX12_init_18 : decode cX12_init 18 = .ok (.return_, 1) := by decide +kernel
theorem dX12_size_0 : decode cX12_size 0 = .ok (.aload_n 0, 1) := by decide +kernel
theorem dX12_size_1 : decode cX12_size 1 = .ok (.getfield 13, 3) := by decide +kernel
theorem dX12_size_4 : decode cX12_size 4 = .ok (.iload_n 1, 1) := by decide +kernel
theorem dX12_size_5 : decode cX12_size 5 = .ok (.iaload, 1) := by decide +kernel
theorem dX12_size_6 : decode cX12_size 6 = .ok (.aload_n 0, 1) := by decide +kernel
theorem dX12_size_7 : decode cX12_size 7 = .ok (.getfield 7, 3) := by decide +kernel
theorem dX12_size_10 : decode cX12_size 10 = .ok (.iload_n 1, 1) := by decide +kernel
theorem dX12_size_11 : decode cX12_size 11 = .ok (.iaload, 1) := by decide +kernel
theorem dX12_size_12 : decode cX12_size 12 = .ok (.isub, 1) := by decide +kernel
theorem dX12_size_13 : decode cX12_size 13 = .ok (.iconst 1, 1) := by decide +kernel
theorem dX12_size_14 : decode cX12_size 14 = .ok (.iadd, 1) := by decide +kernel
theorem dX12_size_15 : decode cX12_size 15 = .ok (.ireturn, 1) := by decide +kernel
theorem dX12_cells_0 : decode cX12_cells 0 = .ok (.aload_n 0, 1) := by decide +kernel
theorem dX12_cells_1 : decode cX12_cells 1 = .ok (.iconst 0, 1) := by decide +kernel
theorem dX12_cells_2 : decode cX12_cells 2 = .ok (.invokevirtual 16, 3) := by decide +kernel
theorem dX12_cells_5 : decode cX12_cells 5 = .ok (.aload_n 0, 1) := by decide +kernel
theorem dX12_cells_6 : decode cX12_cells 6 = .ok (.iconst 1, 1) := by decide +kernel
theorem dX12_cells_7 : decode cX12_cells 7 = .ok (.invokevirtual 16, 3) := by decide +kernel
theorem dX12_cells_10 : decode cX12_cells 10 = .ok (.imul, 1) := by decide +kernel
theorem dX12_cells_11 : decode cX12_cells 11 = .ok (.aload_n 0, 1) := by decide +kernel
theorem dX12_cells_12 : decode cX12_cells 12 = .ok (.iconst 2, 1) := by decide +kernel
theorem dX12_cells_13 : decode cX12_cells 13 = .ok (.invokevirtual 16, 3) := by decide +kernel
theorem dX12_cells_16 : decode cX12_cells 16 = .ok (.imul, 1) := by decide +kernel
theorem dX12_cells_17 : decode cX12_cells 17 = .ok (.ireturn, 1) := by decide +kernel
theorem dX12_make_0 : decode cX12_make 0 = .ok (.aload_n 0, 1) := by decide +kernel
theorem dX12_make_1 : decode cX12_make 1 = .ok (.aload_n 0, 1) := by decide +kernel
theorem dX12_make_2 : decode cX12_make 2 = .ok (.invokevirtual 20, 3) := by decide +kernel
theorem dX12_make_5 : decode cX12_make 5 = .ok (.newarray .long, 2) := by decide +kernel
theorem dX12_make_7 : decode cX12_make 7 = .ok (.putfield 24, 3) := by decide +kernel
theorem dX12_make_10 : decode cX12_make 10 = .ok (.aload_n 0, 1) := by decide +kernel
theorem dX12_make_11 : decode cX12_make 11 = .ok (.aload_n 0, 1) := by decide +kernel
theorem dX12_make_12 : decode cX12_make 12 = .ok (.invokevirtual 20, 3) := by decide +kernel
theorem dX12_make_15 : decode cX12_make 15 = .ok (.newarray .boolean, 2) := by decide +kernel
theorem dX12_make_17 : decode cX12_make 17 = .ok (.putfield 28, 3) := by decide +kernel
theorem dX12_make_20 : decode cX12_make 20 = .ok (.return_, 1) := by decide +kernel
theorem dX12_in_0 : decode cX12_in 0 = .ok (.iload_n 1, 1) := by decide +kernel
theorem dX12_in_1 : decode cX12_in 1 = .ok (.aload_n 0, 1) := by decide +kernel
theorem dX12_in_2 : decode cX12_in 2 = .ok (.getfield 7, 3) := by decide +kernel
theorem dX12_in_5 : decode cX12_in 5 = .ok (.iconst 0, 1) := by decide +kernel
theorem dX12_in_6 : decode cX12_in 6 = .ok (.iaload, 1) := by decide +kernel
theorem dX12_in_7 : decode cX12_in 7 = .ok (.if_icmp .lt 57, 3) := by decide +kernel
theorem dX12_in_10 : decode cX12_in 10 = .ok (.iload_n 1, 1) := by decide +kernel
theorem dX12_in_11 : decode cX12_in 11 = .ok (.aload_n 0, 1) := by decide +kernel
theorem dX12_in_12 : decode cX12_in 12 = .ok (.getfield 13, 3) := by decide +kernel
theorem dX12_in_15 : decode cX12_in 15 = .ok (.iconst 0, 1) := by decide +kernel
theorem dX12_in_16 : decode cX12_in 16 = .ok (.iaload, 1) := by decide +kernel
theorem dX12_in_17 : decode cX12_in 17 = .ok (.if_icmp .gt 47, 3) := by decide +kernel
theorem dX12_in_20 : decode cX12_in 20 = .ok (.iload_n 2, 1) := by decide +kernel
theorem dX12_in_21 : decode cX12_in 21 = .ok (.aload_n 0, 1) := by decide +kernel
theorem dX12_in_22 : decode cX12_in 22 = .ok (.getfield 7, 3) := by decide +kernel
theorem dX12_in_25 : decode cX12_in 25 = .ok (.iconst 1, 1) := by decide +kernel
theorem dX12_in_26 : decode cX12_in 26 = .ok (.iaload, 1) := by decide +kernel
theorem dX12_in_27 : decode cX12_in 27 = .ok (.if_icmp .lt 37, 3) := by decide +kernel
theorem dX12_in_30 : decode cX12_in 30 = .ok (.iload_n 2, 1) := by decide +kernel
theorem dX12_in_31 : decode cX12_in 31 = .ok (.aload_n 0, 1) := by decide +kernel
theorem dX12_in_32 : decode cX12_in 32 = .ok (.getfield 13, 3) := by decide +kernel
theorem dX12_in_35 : decode cX12_in 35 = .ok (.iconst 1, 1) := by decide +kernel
theorem dX12_in_36 : decode cX12_in 36 = .ok (.iaload, 1) := by decide +kernel
theorem dX12_in_37 : decode cX12_in 37 = .ok (.if_icmp .gt 27, 3) := by decide +kernel
theorem dX12_in_40 : decode cX12_in 40 = .ok (.iload_n 3, 1) := by decide +kernel
theorem dX12_in_41 : decode cX12_in 41 = .ok (.aload_n 0, 1) := by decide +kernel
theorem dX12_in_42 : decode cX12_in 42 = .ok (.getfield 7, 3) := by decide +kernel
theorem dX12_in_45 : decode cX12_in 45 = .ok (.iconst 2, 1) := by decide +kernel
theorem dX12_in_46 : decode cX12_in 46 = .ok (.iaload, 1) := by decide +kernel
theorem dX12_in_47 : decode cX12_in 47 = .ok (.if_icmp .lt 17, 3) := by decide +kernel
theorem dX12_in_50 : decode cX12_in 50 = .ok (.iload_n 3, 1) := by decide +kernel
theorem dX12_in_51 : decode cX12_in 51 = .ok (.aload_n 0, 1) := by decide +kernel
theorem dX12_in_52 : decode cX12_in 52 = .ok (.getfield 13, 3) := by decide +kernel
theorem dX12_in_55 : decode cX12_in 55 = .ok (.iconst 2, 1) := by decide +kernel
theorem dX12_in_56 : decode cX12_in 56 = .ok (.iaload, 1) := by decide +kernel
theorem dX12_in_57 : decode cX12_in 57 = .ok (.if_icmp .gt 7, 3) := by decide +kernel
theorem dX12_in_60 : decode cX12_in 60 = .ok (.iconst 1, 1) := by decide +kernel
theorem dX12_in_61 : decode cX12_in 61 = .ok (.goto 4, 3) := by decide +kernel
theorem dX12_in_64 : decode cX12_in 64 = .ok (.iconst 0, 1) := by decide +kernel
theorem dX12_in_65 : decode cX12_in 65 = .ok (.ireturn, 1) := by decide +kernel
theorem dX12_at_0 : decode cX12_at 0 = .ok (.iload_n 1, 1) := by decide +kernel
theorem dX12_at_1 : decode cX12_at 1 = .ok (.aload_n 0, 1) := by decide +kernel
theorem dX12_at_2 : decode cX12_at 2 = .ok (.getfield 7, 3) := by decide +kernel
theorem dX12_at_5 : decode cX12_at 5 = .ok (.iconst 0, 1) := by decide +kernel
theorem dX12_at_6 : decode cX12_at 6 = .ok (.iaload, 1) := by decide +kernel
theorem dX12_at_7 : decode cX12_at 7 = .ok (.isub, 1) := by decide +kernel
theorem dX12_at_8 : decode cX12_at 8 = .ok (.aload_n 0, 1) := by decide +kernel
theorem dX12_at_9 : decode cX12_at 9 = .ok (.iconst 1, 1) := by decide +kernel
theorem dX12_at_10 : decode cX12_at 10 = .ok (.invokevirtual 16, 3) := by decide +kernel
theorem dX12_at_13 : decode cX12_at 13 = .ok (.imul, 1) := by decide +kernel
theorem dX12_at_14 : decode cX12_at 14 = .ok (.iload_n 2, 1) := by decide +kernel
theorem dX12_at_15 : decode cX12_at 15 = .ok (.iadd, 1) := by decide +kernel
theorem dX12_at_16 : decode cX12_at 16 = .ok (.aload_n 0, 1) := by decide +kernel
theorem dX12_at_17 : decode cX12_at 17 = .ok (.getfield 7, 3) := by decide +kernel
theorem dX12_at_20 : decode cX12_at 20 = .ok (.iconst 1, 1) := by decide +kernel
theorem dX12_at_21 : decode cX12_at 21 = .ok (.iaload, 1) := by decide +kernel
theorem dX12_at_22 : decode cX12_at 22 = .ok (.isub, 1) := by decide +kernel
theorem dX12_at_23 : decode cX12_at 23 = .ok (.aload_n 0, 1) := by decide +kernel
theorem dX12_at_24 : decode cX12_at 24 = .ok (.iconst 2, 1) := by decide +kernel
theorem dX12_at_25 : decode cX12_at 25 = .ok (.invokevirtual 16, 3) := by decide +kernel
theorem dX12_at_28 : decode cX12_at 28 = .ok (.imul, 1) := by decide +kernel
theorem dX12_at_29 : decode cX12_at 29 = .ok (.iload_n 3, 1) := by decide +kernel
theorem dX12_at_30 : decode cX12_at 30 = .ok (.iadd, 1) := by decide +kernel
theorem dX12_at_31 : decode cX12_at 31 = .ok (.aload_n 0, 1) := by decide +kernel
theorem dX12_at_32 : decode cX12_at 32 = .ok (.getfield 7, 3) := by decide +kernel
theorem dX12_at_35 : decode cX12_at 35 = .ok (.iconst 2, 1) := by decide +kernel
theorem dX12_at_36 : decode cX12_at 36 = .ok (.iaload, 1) := by decide +kernel
theorem dX12_at_37 : decode cX12_at 37 = .ok (.isub, 1) := by decide +kernel
theorem dX12_at_38 : decode cX12_at 38 = .ok (.ireturn, 1) := by decide +kernel
theorem dX12_filled_0 : decode cX12_filled 0 = .ok (.iconst 0, 1) := by decide +kernel
theorem dX12_filled_1 : decode cX12_filled 1 = .ok (.istore_n 1, 1) := by decide +kernel
theorem dX12_filled_2 : decode cX12_filled 2 = .ok (.iconst 0, 1) := by decide +kernel
theorem dX12_filled_3 : decode cX12_filled 3 = .ok (.istore_n 2, 1) := by decide +kernel
theorem dX12_filled_4 : decode cX12_filled 4 = .ok (.iload_n 2, 1) := by decide +kernel
theorem dX12_filled_5 : decode cX12_filled 5 = .ok (.aload_n 0, 1) := by decide +kernel
theorem dX12_filled_6 : decode cX12_filled 6 = .ok (.getfield 28, 3) := by decide +kernel
theorem dX12_filled_9 : decode cX12_filled 9 = .ok (.arraylength, 1) := by decide +kernel
theorem dX12_filled_10 : decode cX12_filled 10 = .ok (.if_icmp .ge 21, 3) := by decide +kernel
theorem dX12_filled_13 : decode cX12_filled 13 = .ok (.aload_n 0, 1) := by decide +kernel
theorem dX12_filled_14 : decode cX12_filled 14 = .ok (.getfield 28, 3) := by decide +kernel
theorem dX12_filled_17 : decode cX12_filled 17 = .ok (.iload_n 2, 1) := by decide +kernel
theorem dX12_filled_18 : decode cX12_filled 18 = .ok (.baload, 1) := by decide +kernel
theorem dX12_filled_19 : decode cX12_filled 19 = .ok (.ifCond .eq 6, 3) := by decide +kernel
theorem dX12_filled_22 : decode cX12_filled 22 = .ok (.iinc 1 1, 3) := by decide +kernel
theorem dX12_filled_25 : decode cX12_filled 25 = .ok (.iinc 2 1, 3) := by decide +kernel
theorem dX12_filled_28 : decode cX12_filled 28 = .ok (.goto (-24), 3) := by decide +kernel
theorem dX12_filled_31 : decode cX12_filled 31 = .ok (.iload_n 1, 1) := by decide +kernel
theorem dX12_filled_32 : decode cX12_filled 32 = .ok (.ireturn, 1) := by decide +kernel
theorem dX13_init_0 : decode cX13_init 0 = .ok (.aload_n 0, 1) := by decide +kernel
theorem dX13_init_1 : decode cX13_init 1 = .ok (.invokespecial 1, 3) := by decide +kernel
theorem dX13_init_4 : decode cX13_init 4 = .ok (.aload_n 0, 1) := by decide +kernel
theorem dX13_init_5 : decode cX13_init 5 = .ok (.bipush 41, 2) := by decide +kernel
theorem dX13_init_7 : decode cX13_init 7 = .ok (.anewarray 9, 3) := by decide +kernel
theorem dX13_init_10 : decode cX13_init 10 = .ok (.putfield 11, 3) := by decide +kernel
theorem dX13_init_13 : decode cX13_init 13 = .ok (.aload_n 0, 1) := by decide +kernel
theorem dX13_init_14 : decode cX13_init 14 = .ok (.sipush 150, 3) := by decide +kernel
theorem dX13_init_17 : decode cX13_init 17 = .ok (.anewarray 9, 3) := by decide +kernel
theorem dX13_init_20 : decode cX13_init 20 = .ok (.putfield 15, 3) := by decide +kernel
theorem dX13_init_23 : decode cX13_init 23 = .ok (.aload_n 0, 1) := by decide +kernel
theorem dX13_init_24 : decode cX13_init 24 = .ok (.bipush 41, 2) := by decide +kernel
theorem dX13_init_26 : decode cX13_init 26 = .ok (.newarray .int, 2) := by decide +kernel
theorem dX13_init_28 : decode cX13_init 28 = .ok (.putfield 18, 3) := by decide +kernel
theorem dX13_init_31 : decode cX13_init 31 = .ok (.aload_n 0, 1) := by decide +kernel
theorem dX13_init_32 : decode cX13_init 32 = .ok (.iconst 3, 1) := by decide +kernel
theorem dX13_init_33 : decode cX13_init 33 = .ok (.newarray .int, 2) := by decide +kernel
theorem dX13_init_35 : decode cX13_init 35 = .ok (.putfield 22, 3) := by decide +kernel
theorem dX13_init_38 : decode cX13_init 38 = .ok (.aload_n 0, 1) := by decide +kernel
theorem dX13_init_39 : decode cX13_init 39 = .ok (.iconst 1, 1) := by decide +kernel
theorem dX13_init_40 : decode cX13_init 40 = .ok (.iconst 0, 1) := by decide +kernel
theorem dX13_init_41 : decode cX13_init 41 = .ok (.iconst 0, 1) := by decide +kernel
theorem dX13_init_42 : decode cX13_init 42 = .ok (.iconst 0, 1) := by decide +kernel
theorem dX13_init_43 : decode cX13_init 43 = .ok (.iconst 0, 1) := by decide +kernel
theorem dX13_init_44 : decode cX13_init 44 = .ok (.iconst 0, 1) := by decide +kernel
theorem dX13_init_45 : decode cX13_init 45 = .ok (.iconst 0, 1) := by decide +kernel
theorem dX13_init_46 : decode cX13_init 46 = .ok (.invokevirtual 25, 3) := by decide +kernel
theorem dX13_init_49 : decode cX13_init 49 = .ok (.return_, 1) := by decide +kernel
theorem dX13_thrown_0 : decode cX13_thrown 0 = .ok (.aload_n 0, 1) := by decide +kernel
theorem dX13_thrown_1 : decode cX13_thrown 1 = .ok (.getfield 29, 3) := by decide +kernel
theorem dX13_thrown_4 : decode cX13_thrown 4 = .ok (.ireturn, 1) := by decide +kernel
theorem dX13_fails_0 : decode cX13_fails 0 = .ok (.aload_n 0, 1) := by decide +kernel
theorem dX13_fails_1 : decode cX13_fails 1 = .ok (.iload_n 1, 1) := by decide +kernel
theorem dX13_fails_2 : decode cX13_fails 2 = .ok (.ifCond .eq 7, 3) := by decide +kernel
theorem dX13_fails_5 : decode cX13_fails 5 = .ok (.iload_n 2, 1) := by decide +kernel
theorem dX13_fails_6 : decode cX13_fails 6 = .ok (.goto 4, 3) := by decide +kernel
theorem dX13_fails_9 : decode cX13_fails 9 = .ok (.iconst 0, 1) := by decide +kernel
theorem dX13_fails_10 : decode cX13_fails 10 = .ok (.putfield 29, 3) := by decide +kernel
theorem dX13_fails_13 : decode cX13_fails 13 = .ok (.iload_n 1, 1) := by decide +kernel
theorem dX13_fails_14 : decode cX13_fails 14 = .ok (.ireturn, 1) := by decide +kernel
theorem dX13_good_0 : decode cX13_good 0 = .ok (.iload_n 0, 1) := by decide +kernel
theorem dX13_good_1 : decode cX13_good 1 = .ok (.bipush (-100), 2) := by decide +kernel
theorem dX13_good_3 : decode cX13_good 3 = .ok (.if_icmp .lt 26, 3) := by decide +kernel
theorem dX13_good_6 : decode cX13_good 6 = .ok (.iload_n 1, 1) := by decide +kernel
theorem dX13_good_7 : decode cX13_good 7 = .ok (.bipush 100, 2) := by decide +kernel
theorem dX13_good_9 : decode cX13_good 9 = .ok (.if_icmp .gt 20, 3) := by decide +kernel
theorem dX13_good_12 : decode cX13_good 12 = .ok (.iload_n 0, 1) := by decide +kernel
theorem dX13_good_13 : decode cX13_good 13 = .ok (.iload_n 1, 1) := by decide +kernel
theorem dX13_good_14 : decode cX13_good 14 = .ok (.if_icmp .gt 15, 3) := by decide +kernel
theorem dX13_good_17 : decode cX13_good 17 = .ok (.iload_n 1, 1) := by decide +kernel
theorem dX13_good_18 : decode cX13_good 18 = .ok (.iload_n 0, 1) := by decide +kernel
theorem dX13_good_19 : decode cX13_good 19 = .ok (.isub, 1) := by decide +kernel
theorem dX13_good_20 : decode cX13_good 20 = .ok (.bipush 16, 2) := by decide +kernel
theorem dX13_good_22 : decode cX13_good 22 = .ok (.if_icmp .ge 7, 3) := by decide +kernel
theorem dX13_good_25 : decode cX13_good 25 = .ok (.iconst 1, 1) := by decide +kernel
theorem dX13_good_26 : decode cX13_good 26 = .ok (.goto 4, 3) := by decide +kernel
theorem dX13_good_29 : decode cX13_good 29 = .ok (.iconst 0, 1) := by decide +kernel
theorem dX13_good_30 : decode cX13_good 30 = .ok (.ireturn, 1) := by decide +kernel
theorem dX13_begin_0 : decode cX13_begin 0 = .ok (.aload_n 0, 1) := by decide +kernel
theorem dX13_begin_1 : decode cX13_begin 1 = .ok (.aload_n 0, 1) := by decide +kernel
theorem dX13_begin_2 : decode cX13_begin 2 = .ok (.getfield 33, 3) := by decide +kernel
theorem dX13_begin_5 : decode cX13_begin 5 = .ok (.iconst 2, 1) := by decide +kernel
theorem dX13_begin_6 : decode cX13_begin 6 = .ok (.if_icmp .ne 7, 3) := by decide +kernel
theorem dX13_begin_9 : decode cX13_begin 9 = .ok (.iconst 1, 1) := by decide +kernel
theorem dX13_begin_10 : decode cX13_begin 10 = .ok (.goto 4, 3) := by decide +kernel
theorem dX13_begin_13 : decode cX13_begin 13 = .ok (.iconst 0, 1) := by decide +kernel
theorem dX13_begin_14 : decode cX13_begin 14 = .ok (.iconst 2, 1) := by decide +kernel
theorem dX13_begin_15 : decode cX13_begin 15 = .ok (.invokevirtual 36, 3) := by decide +kernel
theorem dX13_begin_18 : decode cX13_begin 18 = .ok (.ifCond .eq 4, 3) := by decide +kernel
theorem dX13_begin_21 : decode cX13_begin 21 = .ok (.return_, 1) := by decide +kernel
theorem dX13_begin_22 : decode cX13_begin 22 = .ok (.aload_n 0, 1) := by decide +kernel
theorem dX13_begin_23 : decode cX13_begin 23 = .ok (.iload_n 1, 1) := by decide +kernel
theorem dX13_begin_24 : decode cX13_begin 24 = .ok (.iconst 1, 1) := by decide +kernel
theorem dX13_begin_25 : decode cX13_begin 25 = .ok (.if_icmp .lt 46, 3) := by decide +kernel
theorem dX13_begin_28 : decode cX13_begin 28 = .ok (.iload_n 1, 1) := by decide +kernel
theorem dX13_begin_29 : decode cX13_begin 29 = .ok (.iconst 3, 1) := by decide +kernel
theorem dX13_begin_30 : decode cX13_begin 30 = .ok (.if_icmp .gt 41, 3) := by decide +kernel
theorem dX13_begin_33 : decode cX13_begin 33 = .ok (.iload_n 2, 1) := by decide +kernel
theorem dX13_begin_34 : decode cX13_begin 34 = .ok (.iload_n 3, 1) := by decide +kernel
theorem dX13_begin_35 : decode cX13_begin 35 = .ok (.invokestatic 40, 3) := by decide +kernel
theorem dX13_begin_38 : decode cX13_begin 38 = .ok (.ifCond .eq 33, 3) := by decide +kernel
theorem dX13_begin_41 : decode cX13_begin 41 = .ok (.iload_n 1, 1) := by decide +kernel
theorem dX13_begin_42 : decode cX13_begin 42 = .ok (.iconst 1, 1) := by decide +kernel
theorem dX13_begin_43 : decode cX13_begin 43 = .ok (.if_icmp .le 13, 3) := by decide +kernel
theorem dX13_begin_46 : decode cX13_begin 46 = .ok (.iload 4, 2) := by decide +kernel
theorem dX13_begin_48 : decode cX13_begin 48 = .ok (.iload 5, 2) := by decide +kernel
theorem dX13_begin_50 : decode cX13_begin 50 = .ok (.invokestatic 40, 3) := by decide +kernel
theorem dX13_begin_53 : decode cX13_begin 53 = .ok (.ifCond .eq 18, 3) := by decide +kernel
theorem dX13_begin_56 : decode cX13_begin 56 = .ok (.iload_n 1, 1) := by decide +kernel
theorem dX13_begin_57 : decode cX13_begin 57 = .ok (.iconst 2, 1) := by decide +kernel
theorem dX13_begin_58 : decode cX13_begin 58 = .ok (.if_icmp .le 17, 3) := by decide +kernel
theorem dX13_begin_61 : decode cX13_begin 61 = .ok (.iload 6, 2) := by decide +kernel
theorem dX13_begin_63 : decode cX13_begin 63 = .ok (.iload 7, 2) := by decide +kernel
theorem dX13_begin_65 : decode cX13_begin 65 = .ok (.invokestatic 40, 3) := by decide +kernel
theorem dX13_begin_68 : decode cX13_begin 68 = .ok (.ifCond .ne 7, 3) := by decide +kernel
theorem dX13_begin_71 : decode cX13_begin 71 = .ok (.iconst 1, 1) := by decide +kernel
theorem dX13_begin_72 : decode cX13_begin 72 = .ok (.goto 4, 3) := by decide +kernel
theorem dX13_begin_75 : decode cX13_begin 75 = .ok (.iconst 0, 1) := by decide +kernel
theorem dX13_begin_76 : decode cX13_begin 76 = .ok (.iconst 1, 1) := by decide +kernel
theorem dX13_begin_77 : decode cX13_begin 77 = .ok (.invokevirtual 36, 3) := by decide +kernel
theorem dX13_begin_80 : decode cX13_begin 80 = .ok (.ifCond .eq 4, 3) := by decide +kernel
theorem dX13_begin_83 : decode cX13_begin 83 = .ok (.return_, 1) := by decide +kernel
theorem dX13_begin_84 : decode cX13_begin 84 = .ok (.aload_n 0, 1) := by decide +kernel
theorem dX13_begin_85 : decode cX13_begin 85 = .ok (.dup, 1) := by decide +kernel
theorem dX13_begin_86 : decode cX13_begin 86 = .ok (.getfield 33, 3) := by decide +kernel
theorem dX13_begin_89 : decode cX13_begin 89 = .ok (.iconst 1, 1) := by decide +kernel
theorem dX13_begin_90 : decode cX13_begin 90 = .ok (.iadd, 1) := by decide +kernel
theorem dX13_begin_91 : decode cX13_begin 91 = .ok (.putfield 33, 3) := by decide +kernel
theorem dX13_begin_94 : decode cX13_begin 94 = .ok (.aload_n 0, 1) := by decide +kernel
theorem dX13_begin_95 : decode cX13_begin 95 = .ok (.iload_n 1, 1) := by decide +kernel
theorem dX13_begin_96 : decode cX13_begin 96 = .ok (.iload_n 2, 1) := by decide +kernel
theorem dX13_begin_97 : decode cX13_begin 97 = .ok (.iload_n 3, 1) := by decide +kernel
theorem dX13_begin_98 : decode cX13_begin 98 = .ok (.iload 4, 2) := by decide +kernel
theorem dX13_begin_100 : decode cX13_begin 100 = .ok (.iload 5, 2) := by decide +kernel
theorem dX13_begin_102 : decode cX13_begin 102 = .ok (.iload 6, 2) := by decide +kernel
theorem dX13_begin_104 : decode cX13_begin 104 = .ok (.iload 7, 2) := by decide +kernel
theorem dX13_begin_106 : decode cX13_begin 106 = .ok (.invokevirtual 25, 3) := by decide +kernel
theorem dX13_begin_109 : decode cX13_begin 109 = .ok (.return_, 1) := by decide +kernel
theorem dX13_start_0 : decode cX13_start 0 = .ok (.aload_n 0, 1) := by decide +kernel
theorem dX13_start_1 : decode cX13_start 1 = .ok (.new 9, 3) := by decide +kernel
theorem dX13_start_4 : decode cX13_start 4 = .ok (.dup, 1) := by decide +kernel
theorem dX13_start_5 : decode cX13_start 5 = .ok (.invokespecial 44, 3) := by decide +kernel
theorem dX13_start_8 : decode cX13_start 8 = .ok (.putfield 45, 3) := by decide +kernel
theorem dX13_start_11 : decode cX13_start 11 = .ok (.aload_n 0, 1) := by decide +kernel
theorem dX13_start_12 : decode cX13_start 12 = .ok (.getfield 45, 3) := by decide +kernel
theorem dX13_start_15 : decode cX13_start 15 = .ok (.iload_n 1, 1) := by decide +kernel
theorem dX13_start_16 : decode cX13_start 16 = .ok (.putfield 49, 3) := by decide +kernel
theorem dX13_start_19 : decode cX13_start 19 = .ok (.aload_n 0, 1) := by decide +kernel
theorem dX13_start_20 : decode cX13_start 20 = .ok (.getfield 45, 3) := by decide +kernel
theorem dX13_start_23 : decode cX13_start 23 = .ok (.getfield 52, 3) := by decide +kernel
theorem dX13_start_26 : decode cX13_start 26 = .ok (.iconst 0, 1) := by decide +kernel
theorem dX13_start_27 : decode cX13_start 27 = .ok (.iload_n 2, 1) := by decide +kernel
theorem dX13_start_28 : decode cX13_start 28 = .ok (.iastore, 1) := by decide +kernel
theorem dX13_start_29 : decode cX13_start 29 = .ok (.aload_n 0, 1) := by decide +kernel
theorem dX13_start_30 : decode cX13_start 30 = .ok (.getfield 45, 3) := by decide +kernel
theorem dX13_start_33 : decode cX13_start 33 = .ok (.getfield 55, 3) := by decide +kernel
theorem dX13_start_36 : decode cX13_start 36 = .ok (.iconst 0, 1) := by decide +kernel
theorem dX13_start_37 : decode cX13_start 37 = .ok (.iload_n 3, 1) := by decide +kernel
theorem dX13_start_38 : decode cX13_start 38 = .ok (.iastore, 1) := by decide +kernel
theorem dX13_start_39 : decode cX13_start 39 = .ok (.iload_n 1, 1) := by decide +kernel
theorem dX13_start_40 : decode cX13_start 40 = .ok (.iconst 1, 1) := by decide +kernel
theorem dX13_start_41 : decode cX13_start 41 = .ok (.if_icmp .le 25, 3) := by decide +kernel
theorem dX13_start_44 : decode cX13_start 44 = .ok (.aload_n 0, 1) := by decide +kernel
theorem dX13_start_45 : decode cX13_start 45 = .ok (.getfield 45, 3) := by decide +kernel
theorem dX13_start_48 : decode cX13_start 48 = .ok (.getfield 52, 3) := by decide +kernel
theorem dX13_start_51 : decode cX13_start 51 = .ok (.iconst 1, 1) := by decide +kernel
theorem dX13_start_52 : decode cX13_start 52 = .ok (.iload 4, 2) := by decide +kernel
theorem dX13_start_54 : decode cX13_start 54 = .ok (.iastore, 1) := by decide +kernel
theorem dX13_start_55 : decode cX13_start 55 = .ok (.aload_n 0, 1) := by decide +kernel
theorem dX13_start_56 : decode cX13_start 56 = .ok (.getfield 45, 3) := by decide +kernel
theorem dX13_start_59 : decode cX13_start 59 = .ok (.getfield 55, 3) := by decide +kernel
theorem dX13_start_62 : decode cX13_start 62 = .ok (.iconst 1, 1) := by decide +kernel
theorem dX13_start_63 : decode cX13_start 63 = .ok (.iload 5, 2) := by decide +kernel
theorem dX13_start_65 : decode cX13_start 65 = .ok (.iastore, 1) := by decide +kernel
theorem dX13_start_66 : decode cX13_start 66 = .ok (.iload_n 1, 1) := by decide +kernel
theorem dX13_start_67 : decode cX13_start 67 = .ok (.iconst 2, 1) := by decide +kernel
theorem dX13_start_68 : decode cX13_start 68 = .ok (.if_icmp .le 25, 3) := by decide +kernel
theorem dX13_start_71 : decode cX13_start 71 = .ok (.aload_n 0, 1) := by decide +kernel
theorem dX13_start_72 : decode cX13_start 72 = .ok (.getfield 45, 3) := by decide +kernel
theorem dX13_start_75 : decode cX13_start 75 = .ok (.getfield 52, 3) := by decide +kernel
theorem dX13_start_78 : decode cX13_start 78 = .ok (.iconst 2, 1) := by decide +kernel
theorem dX13_start_79 : decode cX13_start 79 = .ok (.iload 6, 2) := by decide +kernel
theorem dX13_start_81 : decode cX13_start 81 = .ok (.iastore, 1) := by decide +kernel
theorem dX13_start_82 : decode cX13_start 82 = .ok (.aload_n 0, 1) := by decide +kernel
theorem dX13_start_83 : decode cX13_start 83 = .ok (.getfield 45, 3) := by decide +kernel
theorem dX13_start_86 : decode cX13_start 86 = .ok (.getfield 55, 3) := by decide +kernel
theorem dX13_start_89 : decode cX13_start 89 = .ok (.iconst 2, 1) := by decide +kernel
theorem dX13_start_90 : decode cX13_start 90 = .ok (.iload 7, 2) := by decide +kernel
theorem dX13_start_92 : decode cX13_start 92 = .ok (.iastore, 1) := by decide +kernel
theorem dX13_start_93 : decode cX13_start 93 = .ok (.aload_n 0, 1) := by decide +kernel
theorem dX13_start_94 : decode cX13_start 94 = .ok (.getfield 45, 3) := by decide +kernel
theorem dX13_start_97 : decode cX13_start 97 = .ok (.invokevirtual 58, 3) := by decide +kernel
theorem dX13_start_100 : decode cX13_start 100 = .ok (.aload_n 0, 1) := by decide +kernel
theorem dX13_start_101 : decode cX13_start 101 = .ok (.getfield 11, 3) := by decide +kernel
theorem dX13_start_104 : decode cX13_start 104 = .ok (.iconst 0, 1) := by decide +kernel
theorem dX13_start_105 : decode cX13_start 105 = .ok (.aload_n 0, 1) := by decide +kernel
theorem dX13_start_106 : decode cX13_start 106 = .ok (.getfield 45, 3) := by decide +kernel
theorem dX13_start_109 : decode cX13_start 109 = .ok (.invokestatic 61, 3) := by decide +kernel
theorem dX13_start_112 : decode cX13_start 112 = .ok (.aastore, 1) := by decide +kernel
theorem dX13_start_113 : decode cX13_start 113 = .ok (.aload_n 0, 1) := by decide +kernel
theorem dX13_start_114 : decode cX13_start 114 = .ok (.getfield 18, 3) := by decide +kernel
theorem dX13_start_117 : decode cX13_start 117 = .ok (.iconst 0, 1) := by decide +kernel
theorem dX13_start_118 : decode cX13_start 118 = .ok (.iconst (-1), 1) := by decide +kernel
theorem dX13_start_119 : decode cX13_start 119 = .ok (.iastore, 1) := by decide +kernel
theorem dX13_start_120 : decode cX13_start 120 = .ok (.aload_n 0, 1) := by decide +kernel
theorem dX13_start_121 : decode cX13_start 121 = .ok (.iconst 1, 1) := by decide +kernel
theorem dX13_start_122 : decode cX13_start 122 = .ok (.putfield 65, 3) := by decide +kernel
theorem dX13_start_125 : decode cX13_start 125 = .ok (.aload_n 0, 1) := by decide +kernel
theorem dX13_start_126 : decode cX13_start 126 = .ok (.iconst 0, 1) := by decide +kernel
theorem dX13_start_127 : decode cX13_start 127 = .ok (.putfield 68, 3) := by decide +kernel
theorem dX13_start_130 : decode cX13_start 130 = .ok (.aload_n 0, 1) := by decide +kernel
theorem dX13_start_131 : decode cX13_start 131 = .ok (.iconst 0, 1) := by decide +kernel
theorem dX13_start_132 : decode cX13_start 132 = .ok (.putfield 71, 3) := by decide +kernel
theorem dX13_start_135 : decode cX13_start 135 = .ok (.return_, 1) := by decide +kernel
theorem dX13_copied_0 : decode cX13_copied 0 = .ok (.new 9, 3) := by decide +kernel
theorem dX13_copied_3 : decode cX13_copied 3 = .ok (.dup, 1) := by decide +kernel
theorem dX13_copied_4 : decode cX13_copied 4 = .ok (.invokespecial 44, 3) := by decide +kernel
theorem dX13_copied_7 : decode cX13_copied 7 = .ok (.astore_n 1, 1) := by decide +kernel
theorem dX13_copied_8 : decode cX13_copied 8 = .ok (.aload_n 1, 1) := by decide +kernel
theorem dX13_copied_9 : decode cX13_copied 9 = .ok (.aload_n 0, 1) := by decide +kernel
theorem dX13_copied_10 : decode cX13_copied 10 = .ok (.getfield 49, 3) := by decide +kernel
theorem dX13_copied_13 : decode cX13_copied 13 = .ok (.putfield 49, 3) := by decide +kernel
theorem dX13_copied_16 : decode cX13_copied 16 = .ok (.iconst 0, 1) := by decide +kernel
theorem dX13_copied_17 : decode cX13_copied 17 = .ok (.istore_n 2, 1) := by decide +kernel
theorem dX13_copied_18 : decode cX13_copied 18 = .ok (.iload_n 2, 1) := by decide +kernel
theorem dX13_copied_19 : decode cX13_copied 19 = .ok (.iconst 3, 1) := by decide +kernel
theorem dX13_copied_20 : decode cX13_copied 20 = .ok (.if_icmp .ge 33, 3) := by decide +kernel
theorem dX13_copied_23 : decode cX13_copied 23 = .ok (.aload_n 1, 1) := by decide +kernel
theorem dX13_copied_24 : decode cX13_copied 24 = .ok (.getfield 52, 3) := by decide +kernel
theorem dX13_copied_27 : decode cX13_copied 27 = .ok (.iload_n 2, 1) := by decide +kernel
theorem dX13_copied_28 : decode cX13_copied 28 = .ok (.aload_n 0, 1) := by decide +kernel
theorem dX13_copied_29 : decode cX13_copied 29 = .ok (.getfield 52, 3) := by decide +kernel
theorem dX13_copied_32 : decode cX13_copied 32 = .ok (.iload_n 2, 1) := by decide +kernel
theorem dX13_copied_33 : decode cX13_copied 33 = .ok (.iaload, 1) := by decide +kernel
theorem dX13_copied_34 : decode cX13_copied 34 = .ok (.iastore, 1) := by decide +kernel
theorem dX13_copied_35 : decode cX13_copied 35 = .ok (.aload_n 1, 1) := by decide +kernel
theorem dX13_copied_36 : decode cX13_copied 36 = .ok (.getfield 55, 3) := by decide +kernel
theorem dX13_copied_39 : decode cX13_copied 39 = .ok (.iload_n 2, 1) := by decide +kernel
theorem dX13_copied_40 : decode cX13_copied 40 = .ok (.aload_n 0, 1) := by decide +kernel
theorem dX13_copied_41 : decode cX13_copied 41 = .ok (.getfield 55, 3) := by decide +kernel
theorem dX13_copied_44 : decode cX13_copied 44 = .ok (.iload_n 2, 1) := by decide +kernel
theorem dX13_copied_45 : decode cX13_copied 45 = .ok (.iaload, 1) := by decide +kernel
theorem dX13_copied_46 : decode cX13_copied 46 = .ok (.iastore, 1) := by decide +kernel
theorem dX13_copied_47 : decode cX13_copied 47 = .ok (.iinc 2 1, 3) := by decide +kernel
theorem dX13_copied_50 : decode cX13_copied 50 = .ok (.goto (-32), 3) := by decide +kernel
theorem dX13_copied_53 : decode cX13_copied 53 = .ok (.aload_n 1, 1) := by decide +kernel
theorem dX13_copied_54 : decode cX13_copied 54 = .ok (.invokevirtual 58, 3) := by decide +kernel
theorem dX13_copied_57 : decode cX13_copied 57 = .ok (.iconst 0, 1) := by decide +kernel
theorem dX13_copied_58 : decode cX13_copied 58 = .ok (.istore_n 2, 1) := by decide +kernel
theorem dX13_copied_59 : decode cX13_copied 59 = .ok (.iload_n 2, 1) := by decide +kernel
theorem dX13_copied_60 : decode cX13_copied 60 = .ok (.aload_n 0, 1) := by decide +kernel
theorem dX13_copied_61 : decode cX13_copied 61 = .ok (.getfield 74, 3) := by decide +kernel
theorem dX13_copied_64 : decode cX13_copied 64 = .ok (.arraylength, 1) := by decide +kernel
theorem dX13_copied_65 : decode cX13_copied 65 = .ok (.if_icmp .ge 33, 3) := by decide +kernel
theorem dX13_copied_68 : decode cX13_copied 68 = .ok (.aload_n 1, 1) := by decide +kernel
theorem dX13_copied_69 : decode cX13_copied 69 = .ok (.getfield 74, 3) := by decide +kernel
theorem dX13_copied_72 : decode cX13_copied 72 = .ok (.iload_n 2, 1) := by decide +kernel
theorem dX13_copied_73 : decode cX13_copied 73 = .ok (.aload_n 0, 1) := by decide +kernel
theorem dX13_copied_74 : decode cX13_copied 74 = .ok (.getfield 74, 3) := by decide +kernel
theorem dX13_copied_77 : decode cX13_copied 77 = .ok (.iload_n 2, 1) := by decide +kernel
theorem dX13_copied_78 : decode cX13_copied 78 = .ok (.laload, 1) := by decide +kernel
theorem dX13_copied_79 : decode cX13_copied 79 = .ok (.lastore, 1) := by decide +kernel
theorem dX13_copied_80 : decode cX13_copied 80 = .ok (.aload_n 1, 1) := by decide +kernel
theorem dX13_copied_81 : decode cX13_copied 81 = .ok (.getfield 78, 3) := by decide +kernel
theorem dX13_copied_84 : decode cX13_copied 84 = .ok (.iload_n 2, 1) := by decide +kernel
theorem dX13_copied_85 : decode cX13_copied 85 = .ok (.aload_n 0, 1) := by decide +kernel
theorem dX13_copied_86 : decode cX13_copied 86 = .ok (.getfield 78, 3) := by decide +kernel
theorem dX13_copied_89 : decode cX13_copied 89 = .ok (.iload_n 2, 1) := by decide +kernel
theorem dX13_copied_90 : decode cX13_copied 90 = .ok (.baload, 1) := by decide +kernel
theorem dX13_copied_91 : decode cX13_copied 91 = .ok (.bastore, 1) := by decide +kernel
theorem dX13_copied_92 : decode cX13_copied 92 = .ok (.iinc 2 1, 3) := by decide +kernel
theorem dX13_copied_95 : decode cX13_copied 95 = .ok (.goto (-36), 3) := by decide +kernel
theorem dX13_copied_98 : decode cX13_copied 98 = .ok (.aload_n 1, 1) := by decide +kernel
theorem dX13_copied_99 : decode cX13_copied 99 = .ok (.areturn, 1) := by decide +kernel
theorem dX13_here_0 : decode cX13_here 0 = .ok (.aload_n 0, 1) := by decide +kernel
theorem dX13_here_1 : decode cX13_here 1 = .ok (.getfield 45, 3) := by decide +kernel
theorem dX13_here_4 : decode cX13_here 4 = .ok (.iload_n 1, 1) := by decide +kernel
theorem dX13_here_5 : decode cX13_here 5 = .ok (.aload_n 0, 1) := by decide +kernel
theorem dX13_here_6 : decode cX13_here 6 = .ok (.getfield 45, 3) := by decide +kernel
theorem dX13_here_9 : decode cX13_here 9 = .ok (.getfield 49, 3) := by decide +kernel
theorem dX13_here_12 : decode cX13_here 12 = .ok (.iconst 1, 1) := by decide +kernel
theorem dX13_here_13 : decode cX13_here 13 = .ok (.if_icmp .le 7, 3) := by decide +kernel
theorem dX13_here_16 : decode cX13_here 16 = .ok (.iload_n 2, 1) := by decide +kernel
theorem dX13_here_17 : decode cX13_here 17 = .ok (.goto 4, 3) := by decide +kernel
theorem dX13_here_20 : decode cX13_here 20 = .ok (.iconst 0, 1) := by decide +kernel
theorem dX13_here_21 : decode cX13_here 21 = .ok (.aload_n 0, 1) := by decide +kernel
theorem dX13_here_22 : decode cX13_here 22 = .ok (.getfield 45, 3) := by decide +kernel
theorem dX13_here_25 : decode cX13_here 25 = .ok (.getfield 49, 3) := by decide +kernel
theorem dX13_here_28 : decode cX13_here 28 = .ok (.iconst 2, 1) := by decide +kernel
theorem dX13_here_29 : decode cX13_here 29 = .ok (.if_icmp .le 7, 3) := by decide +kernel
theorem dX13_here_32 : decode cX13_here 32 = .ok (.iload_n 3, 1) := by decide +kernel
theorem dX13_here_33 : decode cX13_here 33 = .ok (.goto 4, 3) := by decide +kernel
theorem dX13_here_36 : decode cX13_here 36 = .ok (.iconst 0, 1) := by decide +kernel
theorem dX13_here_37 : decode cX13_here 37 = .ok (.invokevirtual 82, 3) := by decide +kernel
theorem dX13_here_40 : decode cX13_here 40 = .ok (.ireturn, 1) := by decide +kernel
theorem dX13_atDesk_0 : decode cX13_atDesk 0 = .ok (.aload_n 0, 1) := by decide +kernel
theorem dX13_atDesk_1 : decode cX13_atDesk 1 = .ok (.getfield 45, 3) := by decide +kernel
theorem dX13_atDesk_4 : decode cX13_atDesk 4 = .ok (.iload_n 1, 1) := by decide +kernel
theorem dX13_atDesk_5 : decode cX13_atDesk 5 = .ok (.aload_n 0, 1) := by decide +kernel
theorem dX13_atDesk_6 : decode cX13_atDesk 6 = .ok (.getfield 45, 3) := by decide +kernel
theorem dX13_atDesk_9 : decode cX13_atDesk 9 = .ok (.getfield 49, 3) := by decide +kernel
theorem dX13_atDesk_12 : decode cX13_atDesk 12 = .ok (.iconst 1, 1) := by decide +kernel
theorem dX13_atDesk_13 : decode cX13_atDesk 13 = .ok (.if_icmp .le 7, 3) := by decide +kernel
theorem dX13_atDesk_16 : decode cX13_atDesk 16 = .ok (.iload_n 2, 1) := by decide +kernel
theorem dX13_atDesk_17 : decode cX13_atDesk 17 = .ok (.goto 4, 3) := by decide +kernel
theorem dX13_atDesk_20 : decode cX13_atDesk 20 = .ok (.iconst 0, 1) := by decide +kernel
theorem dX13_atDesk_21 : decode cX13_atDesk 21 = .ok (.aload_n 0, 1) := by decide +kernel
theorem dX13_atDesk_22 : decode cX13_atDesk 22 = .ok (.getfield 45, 3) := by decide +kernel
theorem dX13_atDesk_25 : decode cX13_atDesk 25 = .ok (.getfield 49, 3) := by decide +kernel
theorem dX13_atDesk_28 : decode cX13_atDesk 28 = .ok (.iconst 2, 1) := by decide +kernel
theorem dX13_atDesk_29 : decode cX13_atDesk 29 = .ok (.if_icmp .le 7, 3) := by decide +kernel
theorem dX13_atDesk_32 : decode cX13_atDesk 32 = .ok (.iload_n 3, 1) := by decide +kernel
theorem dX13_atDesk_33 : decode cX13_atDesk 33 = .ok (.goto 4, 3) := by decide +kernel
theorem dX13_atDesk_36 : decode cX13_atDesk 36 = .ok (.iconst 0, 1) := by decide +kernel
theorem dX13_atDesk_37 : decode cX13_atDesk 37 = .ok (.invokevirtual 86, 3) := by decide +kernel
theorem dX13_atDesk_40 : decode cX13_atDesk 40 = .ok (.ireturn, 1) := by decide +kernel
theorem dX13_put_0 : decode cX13_put 0 = .ok (.aload_n 0, 1) := by decide +kernel
theorem dX13_put_1 : decode cX13_put 1 = .ok (.aload_n 0, 1) := by decide +kernel
theorem dX13_put_2 : decode cX13_put 2 = .ok (.iload_n 1, 1) := by decide +kernel
theorem dX13_put_3 : decode cX13_put 3 = .ok (.iload_n 2, 1) := by decide +kernel
theorem dX13_put_4 : decode cX13_put 4 = .ok (.iload_n 3, 1) := by decide +kernel
theorem dX13_put_5 : decode cX13_put 5 = .ok (.invokevirtual 90, 3) := by decide +kernel
theorem dX13_put_8 : decode cX13_put 8 = .ok (.ifCond .ne 7, 3) := by decide +kernel
theorem dX13_put_11 : decode cX13_put 11 = .ok (.iconst 1, 1) := by decide +kernel
theorem dX13_put_12 : decode cX13_put 12 = .ok (.goto 4, 3) := by decide +kernel
theorem dX13_put_15 : decode cX13_put 15 = .ok (.iconst 0, 1) := by decide +kernel
theorem dX13_put_16 : decode cX13_put 16 = .ok (.iconst 1, 1) := by decide +kernel
theorem dX13_put_17 : decode cX13_put 17 = .ok (.invokevirtual 36, 3) := by decide +kernel
theorem dX13_put_20 : decode cX13_put 20 = .ok (.ifCond .eq 4, 3) := by decide +kernel
theorem dX13_put_23 : decode cX13_put 23 = .ok (.return_, 1) := by decide +kernel
theorem dX13_put_24 : decode cX13_put 24 = .ok (.aload_n 0, 1) := by decide +kernel
theorem dX13_put_25 : decode cX13_put 25 = .ok (.getfield 45, 3) := by decide +kernel
theorem dX13_put_28 : decode cX13_put 28 = .ok (.getfield 74, 3) := by decide +kernel
theorem dX13_put_31 : decode cX13_put 31 = .ok (.aload_n 0, 1) := by decide +kernel
theorem dX13_put_32 : decode cX13_put 32 = .ok (.iload_n 1, 1) := by decide +kernel
theorem dX13_put_33 : decode cX13_put 33 = .ok (.iload_n 2, 1) := by decide +kernel
theorem dX13_put_34 : decode cX13_put 34 = .ok (.iload_n 3, 1) := by decide +kernel
theorem dX13_put_35 : decode cX13_put 35 = .ok (.invokevirtual 93, 3) := by decide +kernel
theorem dX13_put_38 : decode cX13_put 38 = .ok (.lload 4, 2) := by decide +kernel
theorem dX13_put_40 : decode cX13_put 40 = .ok (.lastore, 1) := by decide +kernel
theorem dX13_put_41 : decode cX13_put 41 = .ok (.aload_n 0, 1) := by decide +kernel
theorem dX13_put_42 : decode cX13_put 42 = .ok (.getfield 45, 3) := by decide +kernel
theorem dX13_put_45 : decode cX13_put 45 = .ok (.getfield 78, 3) := by decide +kernel
theorem dX13_put_48 : decode cX13_put 48 = .ok (.aload_n 0, 1) := by decide +kernel
theorem dX13_put_49 : decode cX13_put 49 = .ok (.iload_n 1, 1) := by decide +kernel
theorem dX13_put_50 : decode cX13_put 50 = .ok (.iload_n 2, 1) := by decide +kernel
theorem dX13_put_51 : decode cX13_put 51 = .ok (.iload_n 3, 1) := by decide +kernel
theorem dX13_put_52 : decode cX13_put 52 = .ok (.invokevirtual 93, 3) := by decide +kernel
theorem dX13_put_55 : decode cX13_put 55 = .ok (.iconst 1, 1) := by decide +kernel
theorem dX13_put_56 : decode cX13_put 56 = .ok (.bastore, 1) := by decide +kernel
theorem dX13_put_57 : decode cX13_put 57 = .ok (.return_, 1) := by decide +kernel
theorem dX13_erase_0 : decode cX13_erase 0 = .ok (.aload_n 0, 1) := by decide +kernel
theorem dX13_erase_1 : decode cX13_erase 1 = .ok (.aload_n 0, 1) := by decide +kernel
theorem dX13_erase_2 : decode cX13_erase 2 = .ok (.iload_n 1, 1) := by decide +kernel
theorem dX13_erase_3 : decode cX13_erase 3 = .ok (.iload_n 2, 1) := by decide +kernel
theorem dX13_erase_4 : decode cX13_erase 4 = .ok (.iload_n 3, 1) := by decide +kernel
theorem dX13_erase_5 : decode cX13_erase 5 = .ok (.invokevirtual 90, 3) := by decide +kernel
theorem dX13_erase_8 : decode cX13_erase 8 = .ok (.ifCond .ne 7, 3) := by decide +kernel
theorem dX13_erase_11 : decode cX13_erase 11 = .ok (.iconst 1, 1) := by decide +kernel
theorem dX13_erase_12 : decode cX13_erase 12 = .ok (.goto 4, 3) := by decide +kernel
theorem dX13_erase_15 : decode cX13_erase 15 = .ok (.iconst 0, 1) := by decide +kernel
theorem dX13_erase_16 : decode cX13_erase 16 = .ok (.iconst 1, 1) := by decide +kernel
theorem dX13_erase_17 : decode cX13_erase 17 = .ok (.invokevirtual 36, 3) := by decide +kernel
theorem dX13_erase_20 : decode cX13_erase 20 = .ok (.ifCond .eq 4, 3) := by decide +kernel
theorem dX13_erase_23 : decode cX13_erase 23 = .ok (.return_, 1) := by decide +kernel
theorem dX13_erase_24 : decode cX13_erase 24 = .ok (.aload_n 0, 1) := by decide +kernel
theorem dX13_erase_25 : decode cX13_erase 25 = .ok (.getfield 45, 3) := by decide +kernel
theorem dX13_erase_28 : decode cX13_erase 28 = .ok (.getfield 78, 3) := by decide +kernel
theorem dX13_erase_31 : decode cX13_erase 31 = .ok (.aload_n 0, 1) := by decide +kernel
theorem dX13_erase_32 : decode cX13_erase 32 = .ok (.iload_n 1, 1) := by decide +kernel
theorem dX13_erase_33 : decode cX13_erase 33 = .ok (.iload_n 2, 1) := by decide +kernel
theorem dX13_erase_34 : decode cX13_erase 34 = .ok (.iload_n 3, 1) := by decide +kernel
theorem dX13_erase_35 : decode cX13_erase 35 = .ok (.invokevirtual 93, 3) := by decide +kernel
theorem dX13_erase_38 : decode cX13_erase 38 = .ok (.iconst 0, 1) := by decide +kernel
theorem dX13_erase_39 : decode cX13_erase 39 = .ok (.bastore, 1) := by decide +kernel
theorem dX13_erase_40 : decode cX13_erase 40 = .ok (.return_, 1) := by decide +kernel
theorem dX13_pick_0 : decode cX13_pick 0 = .ok (.iload_n 0, 1) := by decide +kernel
theorem dX13_pick_1 : decode cX13_pick 1 = .ok (.ifCond .ne 7, 3) := by decide +kernel
theorem dX13_pick_4 : decode cX13_pick 4 = .ok (.iload_n 1, 1) := by decide +kernel
theorem dX13_pick_5 : decode cX13_pick 5 = .ok (.goto 13, 3) := by decide +kernel
theorem dX13_pick_8 : decode cX13_pick 8 = .ok (.iload_n 0, 1) := by decide +kernel
theorem dX13_pick_9 : decode cX13_pick 9 = .ok (.iconst 1, 1) := by decide +kernel
theorem dX13_pick_10 : decode cX13_pick 10 = .ok (.if_icmp .ne 7, 3) := by decide +kernel
theorem dX13_pick_13 : decode cX13_pick 13 = .ok (.iload_n 2, 1) := by decide +kernel
theorem dX13_pick_14 : decode cX13_pick 14 = .ok (.goto 4, 3) := by decide +kernel
theorem dX13_pick_17 : decode cX13_pick 17 = .ok (.iload_n 3, 1) := by decide +kernel
theorem dX13_pick_18 : decode cX13_pick 18 = .ok (.ireturn, 1) := by decide +kernel
theorem dX13_fill_0 : decode cX13_fill 0 = .ok (.aload_n 0, 1) := by decide +kernel
theorem dX13_fill_1 : decode cX13_fill 1 = .ok (.iload_n 1, 1) := by decide +kernel
theorem dX13_fill_2 : decode cX13_fill 2 = .ok (.ifCond .lt 45, 3) := by decide +kernel
theorem dX13_fill_5 : decode cX13_fill 5 = .ok (.iload_n 1, 1) := by decide +kernel
theorem dX13_fill_6 : decode cX13_fill 6 = .ok (.aload_n 0, 1) := by decide +kernel
theorem dX13_fill_7 : decode cX13_fill 7 = .ok (.getfield 45, 3) := by decide +kernel
theorem dX13_fill_10 : decode cX13_fill 10 = .ok (.getfield 49, 3) := by decide +kernel
theorem dX13_fill_13 : decode cX13_fill 13 = .ok (.if_icmp .ge 34, 3) := by decide +kernel
theorem dX13_fill_16 : decode cX13_fill 16 = .ok (.iload_n 2, 1) := by decide +kernel
theorem dX13_fill_17 : decode cX13_fill 17 = .ok (.iload_n 3, 1) := by decide +kernel
theorem dX13_fill_18 : decode cX13_fill 18 = .ok (.if_icmp .gt 29, 3) := by decide +kernel
theorem dX13_fill_21 : decode cX13_fill 21 = .ok (.iload_n 2, 1) := by decide +kernel
theorem dX13_fill_22 : decode cX13_fill 22 = .ok (.aload_n 0, 1) := by decide +kernel
theorem dX13_fill_23 : decode cX13_fill 23 = .ok (.getfield 45, 3) := by decide +kernel
theorem dX13_fill_26 : decode cX13_fill 26 = .ok (.getfield 52, 3) := by decide +kernel
theorem dX13_fill_29 : decode cX13_fill 29 = .ok (.iload_n 1, 1) := by decide +kernel
theorem dX13_fill_30 : decode cX13_fill 30 = .ok (.iaload, 1) := by decide +kernel
theorem dX13_fill_31 : decode cX13_fill 31 = .ok (.if_icmp .lt 16, 3) := by decide +kernel
theorem dX13_fill_34 : decode cX13_fill 34 = .ok (.iload_n 3, 1) := by decide +kernel
theorem dX13_fill_35 : decode cX13_fill 35 = .ok (.aload_n 0, 1) := by decide +kernel
theorem dX13_fill_36 : decode cX13_fill 36 = .ok (.getfield 45, 3) := by decide +kernel
theorem dX13_fill_39 : decode cX13_fill 39 = .ok (.getfield 55, 3) := by decide +kernel
theorem dX13_fill_42 : decode cX13_fill 42 = .ok (.iload_n 1, 1) := by decide +kernel
theorem dX13_fill_43 : decode cX13_fill 43 = .ok (.iaload, 1) := by decide +kernel
theorem dX13_fill_44 : decode cX13_fill 44 = .ok (.if_icmp .le 7, 3) := by decide +kernel
theorem dX13_fill_47 : decode cX13_fill 47 = .ok (.iconst 1, 1) := by decide +kernel
theorem dX13_fill_48 : decode cX13_fill 48 = .ok (.goto 4, 3) := by decide +kernel
theorem dX13_fill_51 : decode cX13_fill 51 = .ok (.iconst 0, 1) := by decide +kernel
theorem dX13_fill_52 : decode cX13_fill 52 = .ok (.iconst 1, 1) := by decide +kernel
theorem dX13_fill_53 : decode cX13_fill 53 = .ok (.invokevirtual 36, 3) := by decide +kernel
theorem dX13_fill_56 : decode cX13_fill 56 = .ok (.ifCond .eq 4, 3) := by decide +kernel
theorem dX13_fill_59 : decode cX13_fill 59 = .ok (.return_, 1) := by decide +kernel
theorem dX13_fill_60 : decode cX13_fill 60 = .ok (.aload_n 0, 1) := by decide +kernel
theorem dX13_fill_61 : decode cX13_fill 61 = .ok (.getfield 45, 3) := by decide +kernel
theorem dX13_fill_64 : decode cX13_fill 64 = .ok (.getfield 52, 3) := by decide +kernel
theorem dX13_fill_67 : decode cX13_fill 67 = .ok (.iconst 0, 1) := by decide +kernel
theorem dX13_fill_68 : decode cX13_fill 68 = .ok (.iaload, 1) := by decide +kernel
theorem dX13_fill_69 : decode cX13_fill 69 = .ok (.istore 6, 2) := by decide +kernel
theorem dX13_fill_71 : decode cX13_fill 71 = .ok (.iload 6, 2) := by decide +kernel
theorem dX13_fill_73 : decode cX13_fill 73 = .ok (.aload_n 0, 1) := by decide +kernel
theorem dX13_fill_74 : decode cX13_fill 74 = .ok (.getfield 45, 3) := by decide +kernel
theorem dX13_fill_77 : decode cX13_fill 77 = .ok (.getfield 55, 3) := by decide +kernel
theorem dX13_fill_80 : decode cX13_fill 80 = .ok (.iconst 0, 1) := by decide +kernel
theorem dX13_fill_81 : decode cX13_fill 81 = .ok (.iaload, 1) := by decide +kernel
theorem dX13_fill_82 : decode cX13_fill 82 = .ok (.if_icmp .gt 143, 3) := by decide +kernel
theorem dX13_fill_85 : decode cX13_fill 85 = .ok (.aload_n 0, 1) := by decide +kernel
theorem dX13_fill_86 : decode cX13_fill 86 = .ok (.getfield 45, 3) := by decide +kernel
theorem dX13_fill_89 : decode cX13_fill 89 = .ok (.getfield 52, 3) := by decide +kernel
theorem dX13_fill_92 : decode cX13_fill 92 = .ok (.iconst 1, 1) := by decide +kernel
theorem dX13_fill_93 : decode cX13_fill 93 = .ok (.iaload, 1) := by decide +kernel
theorem dX13_fill_94 : decode cX13_fill 94 = .ok (.istore 7, 2) := by decide +kernel
theorem dX13_fill_96 : decode cX13_fill 96 = .ok (.iload 7, 2) := by decide +kernel
theorem dX13_fill_98 : decode cX13_fill 98 = .ok (.aload_n 0, 1) := by decide +kernel
theorem dX13_fill_99 : decode cX13_fill 99 = .ok (.getfield 45, 3) := by decide +kernel
theorem dX13_fill_102 : decode cX13_fill 102 = .ok (.getfield 55, 3) := by decide +kernel
theorem dX13_fill_105 : decode cX13_fill 105 = .ok (.iconst 1, 1) := by decide +kernel
theorem dX13_fill_106 : decode cX13_fill 106 = .ok (.iaload, 1) := by decide +kernel
theorem dX13_fill_107 : decode cX13_fill 107 = .ok (.if_icmp .gt 112, 3) := by decide +kernel
theorem dX13_fill_110 : decode cX13_fill 110 = .ok (.aload_n 0, 1) := by decide +kernel
theorem dX13_fill_111 : decode cX13_fill 111 = .ok (.getfield 45, 3) := by decide +kernel
theorem dX13_fill_114 : decode cX13_fill 114 = .ok (.getfield 52, 3) := by decide +kernel
theorem dX13_fill_117 : decode cX13_fill 117 = .ok (.iconst 2, 1) := by decide +kernel
theorem dX13_fill_118 : decode cX13_fill 118 = .ok (.iaload, 1) := by decide +kernel
theorem dX13_fill_119 : decode cX13_fill 119 = .ok (.istore 8, 2) := by decide +kernel
theorem dX13_fill_121 : decode cX13_fill 121 = .ok (.iload 8, 2) := by decide +kernel
theorem dX13_fill_123 : decode cX13_fill 123 = .ok (.aload_n 0, 1) := by decide +kernel
theorem dX13_fill_124 : decode cX13_fill 124 = .ok (.getfield 45, 3) := by decide +kernel
theorem dX13_fill_127 : decode cX13_fill 127 = .ok (.getfield 55, 3) := by decide +kernel
theorem dX13_fill_130 : decode cX13_fill 130 = .ok (.iconst 2, 1) := by decide +kernel
theorem dX13_fill_131 : decode cX13_fill 131 = .ok (.iaload, 1) := by decide +kernel
theorem dX13_fill_132 : decode cX13_fill 132 = .ok (.if_icmp .gt 81, 3) := by decide +kernel
theorem dX13_fill_135 : decode cX13_fill 135 = .ok (.iload_n 1, 1) := by decide +kernel
theorem dX13_fill_136 : decode cX13_fill 136 = .ok (.iload 6, 2) := by decide +kernel
theorem dX13_fill_138 : decode cX13_fill 138 = .ok (.iload 7, 2) := by decide +kernel
theorem dX13_fill_140 : decode cX13_fill 140 = .ok (.iload 8, 2) := by decide +kernel
theorem dX13_fill_142 : decode cX13_fill 142 = .ok (.invokestatic 96, 3) := by decide +kernel
theorem dX13_fill_145 : decode cX13_fill 145 = .ok (.istore 9, 2) := by decide +kernel
theorem dX13_fill_147 : decode cX13_fill 147 = .ok (.iload 9, 2) := by decide +kernel
theorem dX13_fill_149 : decode cX13_fill 149 = .ok (.iload_n 2, 1) := by decide +kernel
theorem dX13_fill_150 : decode cX13_fill 150 = .ok (.if_icmp .lt 57, 3) := by decide +kernel
theorem dX13_fill_153 : decode cX13_fill 153 = .ok (.iload 9, 2) := by decide +kernel
theorem dX13_fill_155 : decode cX13_fill 155 = .ok (.iload_n 3, 1) := by decide +kernel
theorem dX13_fill_156 : decode cX13_fill 156 = .ok (.if_icmp .le 6, 3) := by decide +kernel
theorem dX13_fill_159 : decode cX13_fill 159 = .ok (.goto 48, 3) := by decide +kernel
theorem dX13_fill_162 : decode cX13_fill 162 = .ok (.aload_n 0, 1) := by decide +kernel
theorem dX13_fill_163 : decode cX13_fill 163 = .ok (.getfield 45, 3) := by decide +kernel
theorem dX13_fill_166 : decode cX13_fill 166 = .ok (.getfield 74, 3) := by decide +kernel
theorem dX13_fill_169 : decode cX13_fill 169 = .ok (.aload_n 0, 1) := by decide +kernel
theorem dX13_fill_170 : decode cX13_fill 170 = .ok (.getfield 45, 3) := by decide +kernel
theorem dX13_fill_173 : decode cX13_fill 173 = .ok (.iload 6, 2) := by decide +kernel
theorem dX13_fill_175 : decode cX13_fill 175 = .ok (.iload 7, 2) := by decide +kernel
theorem dX13_fill_177 : decode cX13_fill 177 = .ok (.iload 8, 2) := by decide +kernel
theorem dX13_fill_179 : decode cX13_fill 179 = .ok (.invokevirtual 86, 3) := by decide +kernel
theorem dX13_fill_182 : decode cX13_fill 182 = .ok (.lload 4, 2) := by decide +kernel
theorem dX13_fill_184 : decode cX13_fill 184 = .ok (.lastore, 1) := by decide +kernel
theorem dX13_fill_185 : decode cX13_fill 185 = .ok (.aload_n 0, 1) := by decide +kernel
theorem dX13_fill_186 : decode cX13_fill 186 = .ok (.getfield 45, 3) := by decide +kernel
theorem dX13_fill_189 : decode cX13_fill 189 = .ok (.getfield 78, 3) := by decide +kernel
theorem dX13_fill_192 : decode cX13_fill 192 = .ok (.aload_n 0, 1) := by decide +kernel
theorem dX13_fill_193 : decode cX13_fill 193 = .ok (.getfield 45, 3) := by decide +kernel
theorem dX13_fill_196 : decode cX13_fill 196 = .ok (.iload 6, 2) := by decide +kernel
theorem dX13_fill_198 : decode cX13_fill 198 = .ok (.iload 7, 2) := by decide +kernel
theorem dX13_fill_200 : decode cX13_fill 200 = .ok (.iload 8, 2) := by decide +kernel
theorem dX13_fill_202 : decode cX13_fill 202 = .ok (.invokevirtual 86, 3) := by decide +kernel
theorem dX13_fill_205 : decode cX13_fill 205 = .ok (.iconst 1, 1) := by decide +kernel
theorem dX13_fill_206 : decode cX13_fill 206 = .ok (.bastore, 1) := by decide +kernel
theorem dX13_fill_207 : decode cX13_fill 207 = .ok (.iinc 8 1, 3) := by decide +kernel
theorem dX13_fill_210 : decode cX13_fill 210 = .ok (.goto (-89), 3) := by decide +kernel
theorem dX13_fill_213 : decode cX13_fill 213 = .ok (.iinc 7 1, 3) := by decide +kernel
theorem dX13_fill_216 : decode cX13_fill 216 = .ok (.goto (-120), 3) := by decide +kernel
theorem dX13_fill_219 : decode cX13_fill 219 = .ok (.iinc 6 1, 3) := by decide +kernel
theorem dX13_fill_222 : decode cX13_fill 222 = .ok (.goto (-151), 3) := by decide +kernel
theorem dX13_fill_225 : decode cX13_fill 225 = .ok (.return_, 1) := by decide +kernel
theorem dX13_commit_0 : decode cX13_commit 0 = .ok (.aload_n 0, 1) := by decide +kernel
theorem dX13_commit_1 : decode cX13_commit 1 = .ok (.aload_n 0, 1) := by decide +kernel
theorem dX13_commit_2 : decode cX13_commit 2 = .ok (.getfield 65, 3) := by decide +kernel
theorem dX13_commit_5 : decode cX13_commit 5 = .ok (.bipush 41, 2) := by decide +kernel
theorem dX13_commit_7 : decode cX13_commit 7 = .ok (.if_icmp .ne 7, 3) := by decide +kernel
theorem dX13_commit_10 : decode cX13_commit 10 = .ok (.iconst 1, 1) := by decide +kernel
theorem dX13_commit_11 : decode cX13_commit 11 = .ok (.goto 4, 3) := by decide +kernel
theorem dX13_commit_14 : decode cX13_commit 14 = .ok (.iconst 0, 1) := by decide +kernel
theorem dX13_commit_15 : decode cX13_commit 15 = .ok (.iconst 1, 1) := by decide +kernel
theorem dX13_commit_16 : decode cX13_commit 16 = .ok (.invokevirtual 36, 3) := by decide +kernel
theorem dX13_commit_19 : decode cX13_commit 19 = .ok (.ifCond .eq 5, 3) := by decide +kernel
theorem dX13_commit_22 : decode cX13_commit 22 = .ok (.iconst 0, 1) := by decide +kernel
theorem dX13_commit_23 : decode cX13_commit 23 = .ok (.ireturn, 1) := by decide +kernel
theorem dX13_commit_24 : decode cX13_commit 24 = .ok (.aload_n 0, 1) := by decide +kernel
theorem dX13_commit_25 : decode cX13_commit 25 = .ok (.getfield 11, 3) := by decide +kernel
theorem dX13_commit_28 : decode cX13_commit 28 = .ok (.aload_n 0, 1) := by decide +kernel
theorem dX13_commit_29 : decode cX13_commit 29 = .ok (.getfield 65, 3) := by decide +kernel
theorem dX13_commit_32 : decode cX13_commit 32 = .ok (.aload_n 0, 1) := by decide +kernel
theorem dX13_commit_33 : decode cX13_commit 33 = .ok (.getfield 45, 3) := by decide +kernel
theorem dX13_commit_36 : decode cX13_commit 36 = .ok (.invokestatic 61, 3) := by decide +kernel
theorem dX13_commit_39 : decode cX13_commit 39 = .ok (.aastore, 1) := by decide +kernel
theorem dX13_commit_40 : decode cX13_commit 40 = .ok (.aload_n 0, 1) := by decide +kernel
theorem dX13_commit_41 : decode cX13_commit 41 = .ok (.getfield 18, 3) := by decide +kernel
theorem dX13_commit_44 : decode cX13_commit 44 = .ok (.aload_n 0, 1) := by decide +kernel
theorem dX13_commit_45 : decode cX13_commit 45 = .ok (.getfield 65, 3) := by decide +kernel
theorem dX13_commit_48 : decode cX13_commit 48 = .ok (.aload_n 0, 1) := by decide +kernel
theorem dX13_commit_49 : decode cX13_commit 49 = .ok (.getfield 71, 3) := by decide +kernel
theorem dX13_commit_52 : decode cX13_commit 52 = .ok (.iastore, 1) := by decide +kernel
theorem dX13_commit_53 : decode cX13_commit 53 = .ok (.aload_n 0, 1) := by decide +kernel
theorem dX13_commit_54 : decode cX13_commit 54 = .ok (.aload_n 0, 1) := by decide +kernel
theorem dX13_commit_55 : decode cX13_commit 55 = .ok (.getfield 65, 3) := by decide +kernel
theorem dX13_commit_58 : decode cX13_commit 58 = .ok (.putfield 71, 3) := by decide +kernel
theorem dX13_commit_61 : decode cX13_commit 61 = .ok (.aload_n 0, 1) := by decide +kernel
theorem dX13_commit_62 : decode cX13_commit 62 = .ok (.dup, 1) := by decide +kernel
theorem dX13_commit_63 : decode cX13_commit 63 = .ok (.getfield 65, 3) := by decide +kernel
theorem dX13_commit_66 : decode cX13_commit 66 = .ok (.dup_x1, 1) := by decide +kernel
theorem dX13_commit_67 : decode cX13_commit 67 = .ok (.iconst 1, 1) := by decide +kernel
theorem dX13_commit_68 : decode cX13_commit 68 = .ok (.iadd, 1) := by decide +kernel
theorem dX13_commit_69 : decode cX13_commit 69 = .ok (.putfield 65, 3) := by decide +kernel
theorem dX13_commit_72 : decode cX13_commit 72 = .ok (.ireturn, 1) := by decide +kernel
theorem dX13_noVersion_0 : decode cX13_noVersion 0 = .ok (.iload_n 1, 1) := by decide +kernel
theorem dX13_noVersion_1 : decode cX13_noVersion 1 = .ok (.ifCond .lt 11, 3) := by decide +kernel
theorem dX13_noVersion_4 : decode cX13_noVersion 4 = .ok (.iload_n 1, 1) := by decide +kernel
theorem dX13_noVersion_5 : decode cX13_noVersion 5 = .ok (.aload_n 0, 1) := by decide +kernel
theorem dX13_noVersion_6 : decode cX13_noVersion 6 = .ok (.getfield 65, 3) := by decide +kernel
theorem dX13_noVersion_9 : decode cX13_noVersion 9 = .ok (.if_icmp .lt 7, 3) := by decide +kernel
theorem dX13_noVersion_12 : decode cX13_noVersion 12 = .ok (.iconst 1, 1) := by decide +kernel
theorem dX13_noVersion_13 : decode cX13_noVersion 13 = .ok (.goto 4, 3) := by decide +kernel
theorem dX13_noVersion_16 : decode cX13_noVersion 16 = .ok (.iconst 0, 1) := by decide +kernel
theorem dX13_noVersion_17 : decode cX13_noVersion 17 = .ok (.ireturn, 1) := by decide +kernel
theorem dX13_open_0 : decode cX13_open 0 = .ok (.aload_n 0, 1) := by decide +kernel
theorem dX13_open_1 : decode cX13_open 1 = .ok (.aload_n 0, 1) := by decide +kernel
theorem dX13_open_2 : decode cX13_open 2 = .ok (.iload_n 1, 1) := by decide +kernel
theorem dX13_open_3 : decode cX13_open 3 = .ok (.invokevirtual 100, 3) := by decide +kernel
theorem dX13_open_6 : decode cX13_open 6 = .ok (.iconst 1, 1) := by decide +kernel
theorem dX13_open_7 : decode cX13_open 7 = .ok (.invokevirtual 36, 3) := by decide +kernel
theorem dX13_open_10 : decode cX13_open 10 = .ok (.ifCond .eq 4, 3) := by decide +kernel
theorem dX13_open_13 : decode cX13_open 13 = .ok (.return_, 1) := by decide +kernel
theorem dX13_open_14 : decode cX13_open 14 = .ok (.aload_n 0, 1) := by decide +kernel
theorem dX13_open_15 : decode cX13_open 15 = .ok (.getfield 11, 3) := by decide +kernel
theorem dX13_open_18 : decode cX13_open 18 = .ok (.iload_n 1, 1) := by decide +kernel
theorem dX13_open_19 : decode cX13_open 19 = .ok (.aaload, 1) := by decide +kernel
theorem dX13_open_20 : decode cX13_open 20 = .ok (.astore_n 2, 1) := by decide +kernel
theorem dX13_open_21 : decode cX13_open 21 = .ok (.iconst 0, 1) := by decide +kernel
theorem dX13_open_22 : decode cX13_open 22 = .ok (.istore_n 3, 1) := by decide +kernel
theorem dX13_open_23 : decode cX13_open 23 = .ok (.iload_n 3, 1) := by decide +kernel
theorem dX13_open_24 : decode cX13_open 24 = .ok (.aload_n 2, 1) := by decide +kernel
theorem dX13_open_25 : decode cX13_open 25 = .ok (.getfield 74, 3) := by decide +kernel
theorem dX13_open_28 : decode cX13_open 28 = .ok (.arraylength, 1) := by decide +kernel
theorem dX13_open_29 : decode cX13_open 29 = .ok (.if_icmp .ge 39, 3) := by decide +kernel
theorem dX13_open_32 : decode cX13_open 32 = .ok (.aload_n 0, 1) := by decide +kernel
theorem dX13_open_33 : decode cX13_open 33 = .ok (.getfield 45, 3) := by decide +kernel
theorem dX13_open_36 : decode cX13_open 36 = .ok (.getfield 74, 3) := by decide +kernel
theorem dX13_open_39 : decode cX13_open 39 = .ok (.iload_n 3, 1) := by decide +kernel
theorem dX13_open_40 : decode cX13_open 40 = .ok (.aload_n 2, 1) := by decide +kernel
theorem dX13_open_41 : decode cX13_open 41 = .ok (.getfield 74, 3) := by decide +kernel
theorem dX13_open_44 : decode cX13_open 44 = .ok (.iload_n 3, 1) := by decide +kernel
theorem dX13_open_45 : decode cX13_open 45 = .ok (.laload, 1) := by decide +kernel
theorem dX13_open_46 : decode cX13_open 46 = .ok (.lastore, 1) := by decide +kernel
theorem dX13_open_47 : decode cX13_open 47 = .ok (.aload_n 0, 1) := by decide +kernel
theorem dX13_open_48 : decode cX13_open 48 = .ok (.getfield 45, 3) := by decide +kernel
theorem dX13_open_51 : decode cX13_open 51 = .ok (.getfield 78, 3) := by decide +kernel
theorem dX13_open_54 : decode cX13_open 54 = .ok (.iload_n 3, 1) := by decide +kernel
theorem dX13_open_55 : decode cX13_open 55 = .ok (.aload_n 2, 1) := by decide +kernel
theorem dX13_open_56 : decode cX13_open 56 = .ok (.getfield 78, 3) := by decide +kernel
theorem dX13_open_59 : decode cX13_open 59 = .ok (.iload_n 3, 1) := by decide +kernel
theorem dX13_open_60 : decode cX13_open 60 = .ok (.baload, 1) := by decide +kernel
theorem dX13_open_61 : decode cX13_open 61 = .ok (.bastore, 1) := by decide +kernel
theorem dX13_open_62 : decode cX13_open 62 = .ok (.iinc 3 1, 3) := by decide +kernel
theorem dX13_open_65 : decode cX13_open 65 = .ok (.goto (-42), 3) := by decide +kernel
theorem dX13_open_68 : decode cX13_open 68 = .ok (.aload_n 0, 1) := by decide +kernel
theorem dX13_open_69 : decode cX13_open 69 = .ok (.iload_n 1, 1) := by decide +kernel
theorem dX13_open_70 : decode cX13_open 70 = .ok (.putfield 71, 3) := by decide +kernel
theorem dX13_open_73 : decode cX13_open 73 = .ok (.return_, 1) := by decide +kernel
theorem dX13_same_0 : decode cX13_same 0 = .ok (.aload_n 0, 1) := by decide +kernel
theorem dX13_same_1 : decode cX13_same 1 = .ok (.getfield 78, 3) := by decide +kernel
theorem dX13_same_4 : decode cX13_same 4 = .ok (.iload_n 2, 1) := by decide +kernel
theorem dX13_same_5 : decode cX13_same 5 = .ok (.baload, 1) := by decide +kernel
theorem dX13_same_6 : decode cX13_same 6 = .ok (.aload_n 1, 1) := by decide +kernel
theorem dX13_same_7 : decode cX13_same 7 = .ok (.getfield 78, 3) := by decide +kernel
theorem dX13_same_10 : decode cX13_same 10 = .ok (.iload_n 2, 1) := by decide +kernel
theorem dX13_same_11 : decode cX13_same 11 = .ok (.baload, 1) := by decide +kernel
theorem dX13_same_12 : decode cX13_same 12 = .ok (.if_icmp .ne 32, 3) := by decide +kernel
theorem dX13_same_15 : decode cX13_same 15 = .ok (.aload_n 0, 1) := by decide +kernel
theorem dX13_same_16 : decode cX13_same 16 = .ok (.getfield 78, 3) := by decide +kernel
theorem dX13_same_19 : decode cX13_same 19 = .ok (.iload_n 2, 1) := by decide +kernel
theorem dX13_same_20 : decode cX13_same 20 = .ok (.baload, 1) := by decide +kernel
theorem dX13_same_21 : decode cX13_same 21 = .ok (.ifCond .eq 19, 3) := by decide +kernel
theorem dX13_same_24 : decode cX13_same 24 = .ok (.aload_n 0, 1) := by decide +kernel
theorem dX13_same_25 : decode cX13_same 25 = .ok (.getfield 74, 3) := by decide +kernel
theorem dX13_same_28 : decode cX13_same 28 = .ok (.iload_n 2, 1) := by decide +kernel
theorem dX13_same_29 : decode cX13_same 29 = .ok (.laload, 1) := by decide +kernel
theorem dX13_same_30 : decode cX13_same 30 = .ok (.aload_n 1, 1) := by decide +kernel
theorem dX13_same_31 : decode cX13_same 31 = .ok (.getfield 74, 3) := by decide +kernel
theorem dX13_same_34 : decode cX13_same 34 = .ok (.iload_n 2, 1) := by decide +kernel
theorem dX13_same_35 : decode cX13_same 35 = .ok (.laload, 1) := by decide +kernel
theorem dX13_same_36 : decode cX13_same 36 = .ok (.lcmp, 1) := by decide +kernel
theorem dX13_same_37 : decode cX13_same 37 = .ok (.ifCond .ne 7, 3) := by decide +kernel
theorem dX13_same_40 : decode cX13_same 40 = .ok (.iconst 1, 1) := by decide +kernel
theorem dX13_same_41 : decode cX13_same 41 = .ok (.goto 4, 3) := by decide +kernel
theorem dX13_same_44 : decode cX13_same 44 = .ok (.iconst 0, 1) := by decide +kernel
theorem dX13_same_45 : decode cX13_same 45 = .ok (.ireturn, 1) := by decide +kernel
theorem dX13_differing_0 : decode cX13_differing 0 = .ok (.iconst 0, 1) := by decide +kernel
theorem dX13_differing_1 : decode cX13_differing 1 = .ok (.istore_n 2, 1) := by decide +kernel
theorem dX13_differing_2 : decode cX13_differing 2 = .ok (.iconst 0, 1) := by decide +kernel
theorem dX13_differing_3 : decode cX13_differing 3 = .ok (.istore_n 3, 1) := by decide +kernel
theorem dX13_differing_4 : decode cX13_differing 4 = .ok (.iload_n 3, 1) := by decide +kernel
theorem dX13_differing_5 : decode cX13_differing 5 = .ok (.aload_n 0, 1) := by decide +kernel
theorem dX13_differing_6 : decode cX13_differing 6 = .ok (.getfield 74, 3) := by decide +kernel
theorem dX13_differing_9 : decode cX13_differing 9 = .ok (.arraylength, 1) := by decide +kernel
theorem dX13_differing_10 : decode cX13_differing 10 = .ok (.if_icmp .ge 21, 3) := by decide +kernel
theorem dX13_differing_13 : decode cX13_differing 13 = .ok (.aload_n 0, 1) := by decide +kernel
theorem dX13_differing_14 : decode cX13_differing 14 = .ok (.aload_n 1, 1) := by decide +kernel
theorem dX13_differing_15 : decode cX13_differing 15 = .ok (.iload_n 3, 1) := by decide +kernel
theorem dX13_differing_16 : decode cX13_differing 16 = .ok (.invokestatic 104, 3) := by decide +kernel
theorem dX13_differing_19 : decode cX13_differing 19 = .ok (.ifCond .ne 6, 3) := by decide +kernel
theorem dX13_differing_22 : decode cX13_differing 22 = .ok (.iinc 2 1, 3) := by decide +kernel
theorem dX13_differing_25 : decode cX13_differing 25 = .ok (.iinc 3 1, 3) := by decide +kernel
theorem dX13_differing_28 : decode cX13_differing 28 = .ok (.goto (-24), 3) := by decide +kernel
theorem dX13_differing_31 : decode cX13_differing 31 = .ok (.iload_n 2, 1) := by decide +kernel
theorem dX13_differing_32 : decode cX13_differing 32 = .ok (.ireturn, 1) := by decide +kernel
theorem dX13_differ_0 : decode cX13_differ 0 = .ok (.aload_n 0, 1) := by decide +kernel
theorem dX13_differ_1 : decode cX13_differ 1 = .ok (.aload_n 0, 1) := by decide +kernel
theorem dX13_differ_2 : decode cX13_differ 2 = .ok (.iload_n 1, 1) := by decide +kernel
theorem dX13_differ_3 : decode cX13_differ 3 = .ok (.invokevirtual 100, 3) := by decide +kernel
theorem dX13_differ_6 : decode cX13_differ 6 = .ok (.ifCond .ne 11, 3) := by decide +kernel
theorem dX13_differ_9 : decode cX13_differ 9 = .ok (.aload_n 0, 1) := by decide +kernel
theorem dX13_differ_10 : decode cX13_differ 10 = .ok (.iload_n 2, 1) := by decide +kernel
theorem dX13_differ_11 : decode cX13_differ 11 = .ok (.invokevirtual 100, 3) := by decide +kernel
theorem dX13_differ_14 : decode cX13_differ 14 = .ok (.ifCond .eq 7, 3) := by decide +kernel
theorem dX13_differ_17 : decode cX13_differ 17 = .ok (.iconst 1, 1) := by decide +kernel
theorem dX13_differ_18 : decode cX13_differ 18 = .ok (.goto 4, 3) := by decide +kernel
theorem dX13_differ_21 : decode cX13_differ 21 = .ok (.iconst 0, 1) := by decide +kernel
theorem dX13_differ_22 : decode cX13_differ 22 = .ok (.iconst 1, 1) := by decide +kernel
theorem dX13_differ_23 : decode cX13_differ 23 = .ok (.invokevirtual 36, 3) := by decide +kernel
theorem dX13_differ_26 : decode cX13_differ 26 = .ok (.ifCond .eq 7, 3) := by decide +kernel
theorem dX13_differ_29 : decode cX13_differ 29 = .ok (.iconst 0, 1) := by decide +kernel
theorem dX13_differ_30 : decode cX13_differ 30 = .ok (.goto 18, 3) := by decide +kernel
theorem dX13_differ_33 : decode cX13_differ 33 = .ok (.aload_n 0, 1) := by decide +kernel
theorem dX13_differ_34 : decode cX13_differ 34 = .ok (.getfield 11, 3) := by decide +kernel
theorem dX13_differ_37 : decode cX13_differ 37 = .ok (.iload_n 1, 1) := by decide +kernel
theorem dX13_differ_38 : decode cX13_differ 38 = .ok (.aaload, 1) := by decide +kernel
theorem dX13_differ_39 : decode cX13_differ 39 = .ok (.aload_n 0, 1) := by decide +kernel
theorem dX13_differ_40 : decode cX13_differ 40 = .ok (.getfield 11, 3) := by decide +kernel
theorem dX13_differ_43 : decode cX13_differ 43 = .ok (.iload_n 2, 1) := by decide +kernel
theorem dX13_differ_44 : decode cX13_differ 44 = .ok (.aaload, 1) := by decide +kernel
theorem dX13_differ_45 : decode cX13_differ 45 = .ok (.invokestatic 108, 3) := by decide +kernel
theorem dX13_differ_48 : decode cX13_differ 48 = .ok (.ireturn, 1) := by decide +kernel
theorem dX13_version_0 : decode cX13_version 0 = .ok (.aload_n 0, 1) := by decide +kernel
theorem dX13_version_1 : decode cX13_version 1 = .ok (.aload_n 0, 1) := by decide +kernel
theorem dX13_version_2 : decode cX13_version 2 = .ok (.iload_n 1, 1) := by decide +kernel
theorem dX13_version_3 : decode cX13_version 3 = .ok (.invokevirtual 100, 3) := by decide +kernel
theorem dX13_version_6 : decode cX13_version 6 = .ok (.ifCond .ne 12, 3) := by decide +kernel
theorem dX13_version_9 : decode cX13_version 9 = .ok (.iload_n 2, 1) := by decide +kernel
theorem dX13_version_10 : decode cX13_version 10 = .ok (.ifCond .lt 8, 3) := by decide +kernel
theorem dX13_version_13 : decode cX13_version 13 = .ok (.iload_n 2, 1) := by decide +kernel
theorem dX13_version_14 : decode cX13_version 14 = .ok (.iconst 3, 1) := by decide +kernel
theorem dX13_version_15 : decode cX13_version 15 = .ok (.if_icmp .le 7, 3) := by decide +kernel
theorem dX13_version_18 : decode cX13_version 18 = .ok (.iconst 1, 1) := by decide +kernel
theorem dX13_version_19 : decode cX13_version 19 = .ok (.goto 4, 3) := by decide +kernel
theorem dX13_version_22 : decode cX13_version 22 = .ok (.iconst 0, 1) := by decide +kernel
theorem dX13_version_23 : decode cX13_version 23 = .ok (.iconst 1, 1) := by decide +kernel
theorem dX13_version_24 : decode cX13_version 24 = .ok (.invokevirtual 36, 3) := by decide +kernel
theorem dX13_version_27 : decode cX13_version 27 = .ok (.ifCond .eq 5, 3) := by decide +kernel
theorem dX13_version_30 : decode cX13_version 30 = .ok (.iconst 0, 1) := by decide +kernel
theorem dX13_version_31 : decode cX13_version 31 = .ok (.ireturn, 1) := by decide +kernel
theorem dX13_version_32 : decode cX13_version 32 = .ok (.aload_n 0, 1) := by decide +kernel
theorem dX13_version_33 : decode cX13_version 33 = .ok (.getfield 11, 3) := by decide +kernel
theorem dX13_version_36 : decode cX13_version 36 = .ok (.iload_n 1, 1) := by decide +kernel
theorem dX13_version_37 : decode cX13_version 37 = .ok (.aaload, 1) := by decide +kernel
theorem dX13_version_38 : decode cX13_version 38 = .ok (.astore_n 3, 1) := by decide +kernel
theorem dX13_version_39 : decode cX13_version 39 = .ok (.iload_n 2, 1) := by decide +kernel
theorem dX13_version_40 : decode cX13_version 40 = .ok (.ifCond .ne 10, 3) := by decide +kernel
theorem dX13_version_43 : decode cX13_version 43 = .ok (.aload_n 0, 1) := by decide +kernel
theorem dX13_version_44 : decode cX13_version 44 = .ok (.getfield 18, 3) := by decide +kernel
theorem dX13_version_47 : decode cX13_version 47 = .ok (.iload_n 1, 1) := by decide +kernel
theorem dX13_version_48 : decode cX13_version 48 = .ok (.iaload, 1) := by decide +kernel
theorem dX13_version_49 : decode cX13_version 49 = .ok (.ireturn, 1) := by decide +kernel
theorem dX13_version_50 : decode cX13_version 50 = .ok (.iload_n 2, 1) := by decide +kernel
theorem dX13_version_51 : decode cX13_version 51 = .ok (.iconst 3, 1) := by decide +kernel
theorem dX13_version_52 : decode cX13_version 52 = .ok (.if_icmp .ne 8, 3) := by decide +kernel
theorem dX13_version_55 : decode cX13_version 55 = .ok (.aload_n 3, 1) := by decide +kernel
theorem dX13_version_56 : decode cX13_version 56 = .ok (.invokevirtual 112, 3) := by decide +kernel
theorem dX13_version_59 : decode cX13_version 59 = .ok (.ireturn, 1) := by decide +kernel
theorem dX13_version_60 : decode cX13_version 60 = .ok (.iload_n 1, 1) := by decide +kernel
theorem dX13_version_61 : decode cX13_version 61 = .ok (.ifCond .ne 5, 3) := by decide +kernel
theorem dX13_version_64 : decode cX13_version 64 = .ok (.iconst 0, 1) := by decide +kernel
theorem dX13_version_65 : decode cX13_version 65 = .ok (.ireturn, 1) := by decide +kernel
theorem dX13_version_66 : decode cX13_version 66 = .ok (.aload_n 0, 1) := by decide +kernel
theorem dX13_version_67 : decode cX13_version 67 = .ok (.getfield 11, 3) := by decide +kernel
theorem dX13_version_70 : decode cX13_version 70 = .ok (.aload_n 0, 1) := by decide +kernel
theorem dX13_version_71 : decode cX13_version 71 = .ok (.getfield 18, 3) := by decide +kernel
theorem dX13_version_74 : decode cX13_version 74 = .ok (.iload_n 1, 1) := by decide +kernel
theorem dX13_version_75 : decode cX13_version 75 = .ok (.iaload, 1) := by decide +kernel
theorem dX13_version_76 : decode cX13_version 76 = .ok (.aaload, 1) := by decide +kernel
theorem dX13_version_77 : decode cX13_version 77 = .ok (.astore 4, 2) := by decide +kernel
theorem dX13_version_79 : decode cX13_version 79 = .ok (.iconst 0, 1) := by decide +kernel
theorem dX13_version_80 : decode cX13_version 80 = .ok (.istore 5, 2) := by decide +kernel
theorem dX13_version_82 : decode cX13_version 82 = .ok (.iconst 0, 1) := by decide +kernel
theorem dX13_version_83 : decode cX13_version 83 = .ok (.istore 6, 2) := by decide +kernel
theorem dX13_version_85 : decode cX13_version 85 = .ok (.iconst 0, 1) := by decide +kernel
theorem dX13_version_86 : decode cX13_version 86 = .ok (.istore 7, 2) := by decide +kernel
theorem dX13_version_88 : decode cX13_version 88 = .ok (.iload 7, 2) := by decide +kernel
theorem dX13_version_90 : decode cX13_version 90 = .ok (.aload_n 3, 1) := by decide +kernel
theorem dX13_version_91 : decode cX13_version 91 = .ok (.iconst 0, 1) := by decide +kernel
theorem dX13_version_92 : decode cX13_version 92 = .ok (.invokevirtual 116, 3) := by decide +kernel
theorem dX13_version_95 : decode cX13_version 95 = .ok (.if_icmp .ge 83, 3) := by decide +kernel
theorem dX13_version_98 : decode cX13_version 98 = .ok (.iconst 0, 1) := by decide +kernel
theorem dX13_version_99 : decode cX13_version 99 = .ok (.istore 8, 2) := by decide +kernel
theorem dX13_version_101 : decode cX13_version 101 = .ok (.iload 8, 2) := by decide +kernel
theorem dX13_version_103 : decode cX13_version 103 = .ok (.aload_n 3, 1) := by decide +kernel
theorem dX13_version_104 : decode cX13_version 104 = .ok (.iconst 1, 1) := by decide +kernel
theorem dX13_version_105 : decode cX13_version 105 = .ok (.invokevirtual 116, 3) := by decide +kernel
theorem dX13_version_108 : decode cX13_version 108 = .ok (.if_icmp .ge 64, 3) := by decide +kernel
theorem dX13_version_111 : decode cX13_version 111 = .ok (.iconst 0, 1) := by decide +kernel
theorem dX13_version_112 : decode cX13_version 112 = .ok (.istore 9, 2) := by decide +kernel
theorem dX13_version_114 : decode cX13_version 114 = .ok (.iload 9, 2) := by decide +kernel
theorem dX13_version_116 : decode cX13_version 116 = .ok (.aload_n 3, 1) := by decide +kernel
theorem dX13_version_117 : decode cX13_version 117 = .ok (.iconst 2, 1) := by decide +kernel
theorem dX13_version_118 : decode cX13_version 118 = .ok (.invokevirtual 116, 3) := by decide +kernel
theorem dX13_version_121 : decode cX13_version 121 = .ok (.if_icmp .ge 45, 3) := by decide +kernel
theorem dX13_version_124 : decode cX13_version 124 = .ok (.aload_n 3, 1) := by decide +kernel
theorem dX13_version_125 : decode cX13_version 125 = .ok (.aload 4, 2) := by decide +kernel
theorem dX13_version_127 : decode cX13_version 127 = .ok (.iload 7, 2) := by decide +kernel
theorem dX13_version_129 : decode cX13_version 129 = .ok (.iload 8, 2) := by decide +kernel
theorem dX13_version_131 : decode cX13_version 131 = .ok (.iload 9, 2) := by decide +kernel
theorem dX13_version_133 : decode cX13_version 133 = .ok (.invokestatic 120, 3) := by decide +kernel
theorem dX13_version_136 : decode cX13_version 136 = .ok (.ifCond .ne 6, 3) := by decide +kernel
theorem dX13_version_139 : decode cX13_version 139 = .ok (.goto 21, 3) := by decide +kernel
theorem dX13_version_142 : decode cX13_version 142 = .ok (.iinc 5 1, 3) := by decide +kernel
theorem dX13_version_145 : decode cX13_version 145 = .ok (.iload 6, 2) := by decide +kernel
theorem dX13_version_147 : decode cX13_version 147 = .ok (.aload_n 3, 1) := by decide +kernel
theorem dX13_version_148 : decode cX13_version 148 = .ok (.iload 7, 2) := by decide +kernel
theorem dX13_version_150 : decode cX13_version 150 = .ok (.iload 8, 2) := by decide +kernel
theorem dX13_version_152 : decode cX13_version 152 = .ok (.iload 9, 2) := by decide +kernel
theorem dX13_version_154 : decode cX13_version 154 = .ok (.invokestatic 124, 3) := by decide +kernel
theorem dX13_version_157 : decode cX13_version 157 = .ok (.iadd, 1) := by decide +kernel
theorem dX13_version_158 : decode cX13_version 158 = .ok (.istore 6, 2) := by decide +kernel
theorem dX13_version_160 : decode cX13_version 160 = .ok (.iinc 9 4, 3) := by decide +kernel
theorem dX13_version_163 : decode cX13_version 163 = .ok (.goto (-49), 3) := by decide +kernel
theorem dX13_version_166 : decode cX13_version 166 = .ok (.iinc 8 4, 3) := by decide +kernel
theorem dX13_version_169 : decode cX13_version 169 = .ok (.goto (-68), 3) := by decide +kernel
theorem dX13_version_172 : decode cX13_version 172 = .ok (.iinc 7 4, 3) := by decide +kernel
theorem dX13_version_175 : decode cX13_version 175 = .ok (.goto (-87), 3) := by decide +kernel
theorem dX13_version_178 : decode cX13_version 178 = .ok (.iload_n 2, 1) := by decide +kernel
theorem dX13_version_179 : decode cX13_version 179 = .ok (.iconst 1, 1) := by decide +kernel
theorem dX13_version_180 : decode cX13_version 180 = .ok (.if_icmp .ne 8, 3) := by decide +kernel
theorem dX13_version_183 : decode cX13_version 183 = .ok (.iload 5, 2) := by decide +kernel
theorem dX13_version_185 : decode cX13_version 185 = .ok (.goto 5, 3) := by decide +kernel
theorem dX13_version_188 : decode cX13_version 188 = .ok (.iload 6, 2) := by decide +kernel
theorem dX13_version_190 : decode cX13_version 190 = .ok (.ireturn, 1) := by decide +kernel
theorem dX13_end_0 : decode cX13_end 0 = .ok (.iload_n 2, 1) := by decide +kernel
theorem dX13_end_1 : decode cX13_end 1 = .ok (.iconst 4, 1) := by decide +kernel
theorem dX13_end_2 : decode cX13_end 2 = .ok (.iadd, 1) := by decide +kernel
theorem dX13_end_3 : decode cX13_end 3 = .ok (.aload_n 0, 1) := by decide +kernel
theorem dX13_end_4 : decode cX13_end 4 = .ok (.iload_n 1, 1) := by decide +kernel
theorem dX13_end_5 : decode cX13_end 5 = .ok (.invokevirtual 116, 3) := by decide +kernel
theorem dX13_end_8 : decode cX13_end 8 = .ok (.invokestatic 128, 3) := by decide +kernel
theorem dX13_end_11 : decode cX13_end 11 = .ok (.ireturn, 1) := by decide +kernel
theorem dX13_number_0 : decode cX13_number 0 = .ok (.iload_n 1, 1) := by decide +kernel
theorem dX13_number_1 : decode cX13_number 1 = .ok (.aload_n 0, 1) := by decide +kernel
theorem dX13_number_2 : decode cX13_number 2 = .ok (.iconst 1, 1) := by decide +kernel
theorem dX13_number_3 : decode cX13_number 3 = .ok (.invokevirtual 116, 3) := by decide +kernel
theorem dX13_number_6 : decode cX13_number 6 = .ok (.imul, 1) := by decide +kernel
theorem dX13_number_7 : decode cX13_number 7 = .ok (.iload_n 2, 1) := by decide +kernel
theorem dX13_number_8 : decode cX13_number 8 = .ok (.iadd, 1) := by decide +kernel
theorem dX13_number_9 : decode cX13_number 9 = .ok (.aload_n 0, 1) := by decide +kernel
theorem dX13_number_10 : decode cX13_number 10 = .ok (.iconst 2, 1) := by decide +kernel
theorem dX13_number_11 : decode cX13_number 11 = .ok (.invokevirtual 116, 3) := by decide +kernel
theorem dX13_number_14 : decode cX13_number 14 = .ok (.imul, 1) := by decide +kernel
theorem dX13_number_15 : decode cX13_number 15 = .ok (.iload_n 3, 1) := by decide +kernel
theorem dX13_number_16 : decode cX13_number 16 = .ok (.iadd, 1) := by decide +kernel
theorem dX13_number_17 : decode cX13_number 17 = .ok (.ireturn, 1) := by decide +kernel
theorem dX13_changed_0 : decode cX13_changed 0 = .ok (.iload_n 2, 1) := by decide +kernel
theorem dX13_changed_1 : decode cX13_changed 1 = .ok (.istore 5, 2) := by decide +kernel
theorem dX13_changed_3 : decode cX13_changed 3 = .ok (.iload 5, 2) := by decide +kernel
theorem dX13_changed_5 : decode cX13_changed 5 = .ok (.aload_n 0, 1) := by decide +kernel
theorem dX13_changed_6 : decode cX13_changed 6 = .ok (.iconst 0, 1) := by decide +kernel
theorem dX13_changed_7 : decode cX13_changed 7 = .ok (.iload_n 2, 1) := by decide +kernel
theorem dX13_changed_8 : decode cX13_changed 8 = .ok (.invokestatic 134, 3) := by decide +kernel
theorem dX13_changed_11 : decode cX13_changed 11 = .ok (.if_icmp .ge 71, 3) := by decide +kernel
theorem dX13_changed_14 : decode cX13_changed 14 = .ok (.iload_n 3, 1) := by decide +kernel
theorem dX13_changed_15 : decode cX13_changed 15 = .ok (.istore 6, 2) := by decide +kernel
theorem dX13_changed_17 : decode cX13_changed 17 = .ok (.iload 6, 2) := by decide +kernel
theorem dX13_changed_19 : decode cX13_changed 19 = .ok (.aload_n 0, 1) := by decide +kernel
theorem dX13_changed_20 : decode cX13_changed 20 = .ok (.iconst 1, 1) := by decide +kernel
theorem dX13_changed_21 : decode cX13_changed 21 = .ok (.iload_n 3, 1) := by decide +kernel
theorem dX13_changed_22 : decode cX13_changed 22 = .ok (.invokestatic 134, 3) := by decide +kernel
theorem dX13_changed_25 : decode cX13_changed 25 = .ok (.if_icmp .ge 51, 3) := by decide +kernel
theorem dX13_changed_28 : decode cX13_changed 28 = .ok (.iload 4, 2) := by decide +kernel
theorem dX13_changed_30 : decode cX13_changed 30 = .ok (.istore 7, 2) := by decide +kernel
theorem dX13_changed_32 : decode cX13_changed 32 = .ok (.iload 7, 2) := by decide +kernel
theorem dX13_changed_34 : decode cX13_changed 34 = .ok (.aload_n 0, 1) := by decide +kernel
theorem dX13_changed_35 : decode cX13_changed 35 = .ok (.iconst 2, 1) := by decide +kernel
theorem dX13_changed_36 : decode cX13_changed 36 = .ok (.iload 4, 2) := by decide +kernel
theorem dX13_changed_38 : decode cX13_changed 38 = .ok (.invokestatic 134, 3) := by decide +kernel
theorem dX13_changed_41 : decode cX13_changed 41 = .ok (.if_icmp .ge 29, 3) := by decide +kernel
theorem dX13_changed_44 : decode cX13_changed 44 = .ok (.aload_n 0, 1) := by decide +kernel
theorem dX13_changed_45 : decode cX13_changed 45 = .ok (.aload_n 1, 1) := by decide +kernel
theorem dX13_changed_46 : decode cX13_changed 46 = .ok (.aload_n 0, 1) := by decide +kernel
theorem dX13_changed_47 : decode cX13_changed 47 = .ok (.iload 5, 2) := by decide +kernel
theorem dX13_changed_49 : decode cX13_changed 49 = .ok (.iload 6, 2) := by decide +kernel
theorem dX13_changed_51 : decode cX13_changed 51 = .ok (.iload 7, 2) := by decide +kernel
theorem dX13_changed_53 : decode cX13_changed 53 = .ok (.invokestatic 138, 3) := by decide +kernel
theorem dX13_changed_56 : decode cX13_changed 56 = .ok (.invokestatic 104, 3) := by decide +kernel
theorem dX13_changed_59 : decode cX13_changed 59 = .ok (.ifCond .ne 5, 3) := by decide +kernel
theorem dX13_changed_62 : decode cX13_changed 62 = .ok (.iconst 1, 1) := by decide +kernel
theorem dX13_changed_63 : decode cX13_changed 63 = .ok (.ireturn, 1) := by decide +kernel
theorem dX13_changed_64 : decode cX13_changed 64 = .ok (.iinc 7 1, 3) := by decide +kernel
theorem dX13_changed_67 : decode cX13_changed 67 = .ok (.goto (-35), 3) := by decide +kernel
theorem dX13_changed_70 : decode cX13_changed 70 = .ok (.iinc 6 1, 3) := by decide +kernel
theorem dX13_changed_73 : decode cX13_changed 73 = .ok (.goto (-56), 3) := by decide +kernel
theorem dX13_changed_76 : decode cX13_changed 76 = .ok (.iinc 5 1, 3) := by decide +kernel
theorem dX13_changed_79 : decode cX13_changed 79 = .ok (.goto (-76), 3) := by decide +kernel
theorem dX13_changed_82 : decode cX13_changed 82 = .ok (.iconst 0, 1) := by decide +kernel
theorem dX13_changed_83 : decode cX13_changed 83 = .ok (.ireturn, 1) := by decide +kernel
theorem dX13_octets_0 : decode cX13_octets 0 = .ok (.bipush 8, 2) := by decide +kernel
theorem dX13_octets_2 : decode cX13_octets 2 = .ok (.istore 4, 2) := by decide +kernel
theorem dX13_octets_4 : decode cX13_octets 4 = .ok (.iconst 0, 1) := by decide +kernel
theorem dX13_octets_5 : decode cX13_octets 5 = .ok (.istore 5, 2) := by decide +kernel
theorem dX13_octets_7 : decode cX13_octets 7 = .ok (.lconst 0, 1) := by decide +kernel
theorem dX13_octets_8 : decode cX13_octets 8 = .ok (.lstore 6, 2) := by decide +kernel
theorem dX13_octets_10 : decode cX13_octets 10 = .ok (.iload_n 1, 1) := by decide +kernel
theorem dX13_octets_11 : decode cX13_octets 11 = .ok (.istore 8, 2) := by decide +kernel
theorem dX13_octets_13 : decode cX13_octets 13 = .ok (.iload 8, 2) := by decide +kernel
theorem dX13_octets_15 : decode cX13_octets 15 = .ok (.aload_n 0, 1) := by decide +kernel
theorem dX13_octets_16 : decode cX13_octets 16 = .ok (.iconst 0, 1) := by decide +kernel
theorem dX13_octets_17 : decode cX13_octets 17 = .ok (.iload_n 1, 1) := by decide +kernel
theorem dX13_octets_18 : decode cX13_octets 18 = .ok (.invokestatic 134, 3) := by decide +kernel
theorem dX13_octets_21 : decode cX13_octets 21 = .ok (.if_icmp .ge 158, 3) := by decide +kernel
theorem dX13_octets_24 : decode cX13_octets 24 = .ok (.iload_n 2, 1) := by decide +kernel
theorem dX13_octets_25 : decode cX13_octets 25 = .ok (.istore 9, 2) := by decide +kernel
theorem dX13_octets_27 : decode cX13_octets 27 = .ok (.iload 9, 2) := by decide +kernel
theorem dX13_octets_29 : decode cX13_octets 29 = .ok (.aload_n 0, 1) := by decide +kernel
theorem dX13_octets_30 : decode cX13_octets 30 = .ok (.iconst 1, 1) := by decide +kernel
theorem dX13_octets_31 : decode cX13_octets 31 = .ok (.iload_n 2, 1) := by decide +kernel
theorem dX13_octets_32 : decode cX13_octets 32 = .ok (.invokestatic 134, 3) := by decide +kernel
theorem dX13_octets_35 : decode cX13_octets 35 = .ok (.if_icmp .ge 138, 3) := by decide +kernel
theorem dX13_octets_38 : decode cX13_octets 38 = .ok (.iload_n 3, 1) := by decide +kernel
theorem dX13_octets_39 : decode cX13_octets 39 = .ok (.istore 10, 2) := by decide +kernel
theorem dX13_octets_41 : decode cX13_octets 41 = .ok (.iload 10, 2) := by decide +kernel
theorem dX13_octets_43 : decode cX13_octets 43 = .ok (.aload_n 0, 1) := by decide +kernel
theorem dX13_octets_44 : decode cX13_octets 44 = .ok (.iconst 2, 1) := by decide +kernel
theorem dX13_octets_45 : decode cX13_octets 45 = .ok (.iload_n 3, 1) := by decide +kernel
theorem dX13_octets_46 : decode cX13_octets 46 = .ok (.invokestatic 134, 3) := by decide +kernel
theorem dX13_octets_49 : decode cX13_octets 49 = .ok (.if_icmp .ge 118, 3) := by decide +kernel
theorem dX13_octets_52 : decode cX13_octets 52 = .ok (.aload_n 0, 1) := by decide +kernel
theorem dX13_octets_53 : decode cX13_octets 53 = .ok (.iload 8, 2) := by decide +kernel
theorem dX13_octets_55 : decode cX13_octets 55 = .ok (.iload 9, 2) := by decide +kernel
theorem dX13_octets_57 : decode cX13_octets 57 = .ok (.iload 10, 2) := by decide +kernel
theorem dX13_octets_59 : decode cX13_octets 59 = .ok (.invokestatic 138, 3) := by decide +kernel
theorem dX13_octets_62 : decode cX13_octets 62 = .ok (.istore 11, 2) := by decide +kernel
theorem dX13_octets_64 : decode cX13_octets 64 = .ok (.aload_n 0, 1) := by decide +kernel
theorem dX13_octets_65 : decode cX13_octets 65 = .ok (.getfield 78, 3) := by decide +kernel
theorem dX13_octets_68 : decode cX13_octets 68 = .ok (.iload 11, 2) := by decide +kernel
theorem dX13_octets_70 : decode cX13_octets 70 = .ok (.baload, 1) := by decide +kernel
theorem dX13_octets_71 : decode cX13_octets 71 = .ok (.ifCond .eq 90, 3) := by decide +kernel
theorem dX13_octets_74 : decode cX13_octets 74 = .ok (.iload 5, 2) := by decide +kernel
theorem dX13_octets_76 : decode cX13_octets 76 = .ok (.ifCond .eq 19, 3) := by decide +kernel
theorem dX13_octets_79 : decode cX13_octets 79 = .ok (.aload_n 0, 1) := by decide +kernel
theorem dX13_octets_80 : decode cX13_octets 80 = .ok (.getfield 74, 3) := by decide +kernel
theorem dX13_octets_83 : decode cX13_octets 83 = .ok (.iload 11, 2) := by decide +kernel
theorem dX13_octets_85 : decode cX13_octets 85 = .ok (.laload, 1) := by decide +kernel
theorem dX13_octets_86 : decode cX13_octets 86 = .ok (.lload 6, 2) := by decide +kernel
theorem dX13_octets_88 : decode cX13_octets 88 = .ok (.lcmp, 1) := by decide +kernel
theorem dX13_octets_89 : decode cX13_octets 89 = .ok (.ifCond .ne 6, 3) := by decide +kernel
theorem dX13_octets_92 : decode cX13_octets 92 = .ok (.goto 69, 3) := by decide +kernel
theorem dX13_octets_95 : decode cX13_octets 95 = .ok (.aload_n 0, 1) := by decide +kernel
theorem dX13_octets_96 : decode cX13_octets 96 = .ok (.getfield 74, 3) := by decide +kernel
theorem dX13_octets_99 : decode cX13_octets 99 = .ok (.iload 11, 2) := by decide +kernel
theorem dX13_octets_101 : decode cX13_octets 101 = .ok (.laload, 1) := by decide +kernel
theorem dX13_octets_102 : decode cX13_octets 102 = .ok (.lload 6, 2) := by decide +kernel
theorem dX13_octets_104 : decode cX13_octets 104 = .ok (.lsub, 1) := by decide +kernel
theorem dX13_octets_105 : decode cX13_octets 105 = .ok (.lstore 12, 2) := by decide +kernel
theorem dX13_octets_107 : decode cX13_octets 107 = .ok (.lload 12, 2) := by decide +kernel
theorem dX13_octets_109 : decode cX13_octets 109 = .ok (.iconst 1, 1) := by decide +kernel
theorem dX13_octets_110 : decode cX13_octets 110 = .ok (.lshl, 1) := by decide +kernel
theorem dX13_octets_111 : decode cX13_octets 111 = .ok (.lload 12, 2) := by decide +kernel
theorem dX13_octets_113 : decode cX13_octets 113 = .ok (.bipush 63, 2) := by decide +kernel
theorem dX13_octets_115 : decode cX13_octets 115 = .ok (.lshr, 1) := by decide +kernel
theorem dX13_octets_116 : decode cX13_octets 116 = .ok (.lxor, 1) := by decide +kernel
theorem dX13_octets_117 : decode cX13_octets 117 = .ok (.lstore 14, 2) := by decide +kernel
theorem dX13_octets_119 : decode cX13_octets 119 = .ok (.iinc 4 2, 3) := by decide +kernel
theorem dX13_octets_122 : decode cX13_octets 122 = .ok (.lload 14, 2) := by decide +kernel
theorem dX13_octets_124 : decode cX13_octets 124 = .ok (.bipush 7, 2) := by decide +kernel
theorem dX13_octets_126 : decode cX13_octets 126 = .ok (.lushr, 1) := by decide +kernel
theorem dX13_octets_127 : decode cX13_octets 127 = .ok (.lstore 14, 2) := by decide +kernel
theorem dX13_octets_129 : decode cX13_octets 129 = .ok (.lload 14, 2) := by decide +kernel
theorem dX13_octets_131 : decode cX13_octets 131 = .ok (.lconst 0, 1) := by decide +kernel
theorem dX13_octets_132 : decode cX13_octets 132 = .ok (.lcmp, 1) := by decide +kernel
theorem dX13_octets_133 : decode cX13_octets 133 = .ok (.ifCond .eq 16, 3) := by decide +kernel
theorem dX13_octets_136 : decode cX13_octets 136 = .ok (.iinc 4 1, 3) := by decide +kernel
theorem dX13_octets_139 : decode cX13_octets 139 = .ok (.lload 14, 2) := by decide +kernel
theorem dX13_octets_141 : decode cX13_octets 141 = .ok (.bipush 7, 2) := by decide +kernel
theorem dX13_octets_143 : decode cX13_octets 143 = .ok (.lushr, 1) := by decide +kernel
theorem dX13_octets_144 : decode cX13_octets 144 = .ok (.lstore 14, 2) := by decide +kernel
theorem dX13_octets_146 : decode cX13_octets 146 = .ok (.goto (-17), 3) := by decide +kernel
theorem dX13_octets_149 : decode cX13_octets 149 = .ok (.iconst 1, 1) := by decide +kernel
theorem dX13_octets_150 : decode cX13_octets 150 = .ok (.istore 5, 2) := by decide +kernel
theorem dX13_octets_152 : decode cX13_octets 152 = .ok (.aload_n 0, 1) := by decide +kernel
theorem dX13_octets_153 : decode cX13_octets 153 = .ok (.getfield 74, 3) := by decide +kernel
theorem dX13_octets_156 : decode cX13_octets 156 = .ok (.iload 11, 2) := by decide +kernel
theorem dX13_octets_158 : decode cX13_octets 158 = .ok (.laload, 1) := by decide +kernel
theorem dX13_octets_159 : decode cX13_octets 159 = .ok (.lstore 6, 2) := by decide +kernel
theorem dX13_octets_161 : decode cX13_octets 161 = .ok (.iinc 10 1, 3) := by decide +kernel
theorem dX13_octets_164 : decode cX13_octets 164 = .ok (.goto (-123), 3) := by decide +kernel
theorem dX13_octets_167 : decode cX13_octets 167 = .ok (.iinc 9 1, 3) := by decide +kernel
theorem dX13_octets_170 : decode cX13_octets 170 = .ok (.goto (-143), 3) := by decide +kernel
theorem dX13_octets_173 : decode cX13_octets 173 = .ok (.iinc 8 1, 3) := by decide +kernel
theorem dX13_octets_176 : decode cX13_octets 176 = .ok (.goto (-163), 3) := by decide +kernel
theorem dX13_octets_179 : decode cX13_octets 179 = .ok (.iload 4, 2) := by decide +kernel
theorem dX13_octets_181 : decode cX13_octets 181 = .ok (.ireturn, 1) := by decide +kernel
theorem dX13_none_0 : decode cX13_none 0 = .ok (.iload_n 1, 1) := by decide +kernel
theorem dX13_none_1 : decode cX13_none 1 = .ok (.ifCond .lt 11, 3) := by decide +kernel
theorem dX13_none_4 : decode cX13_none 4 = .ok (.iload_n 1, 1) := by decide +kernel
theorem dX13_none_5 : decode cX13_none 5 = .ok (.aload_n 0, 1) := by decide +kernel
theorem dX13_none_6 : decode cX13_none 6 = .ok (.getfield 68, 3) := by decide +kernel
theorem dX13_none_9 : decode cX13_none 9 = .ok (.if_icmp .lt 7, 3) := by decide +kernel
theorem dX13_none_12 : decode cX13_none 12 = .ok (.iconst 1, 1) := by decide +kernel
theorem dX13_none_13 : decode cX13_none 13 = .ok (.goto 4, 3) := by decide +kernel
theorem dX13_none_16 : decode cX13_none 16 = .ok (.iconst 0, 1) := by decide +kernel
theorem dX13_none_17 : decode cX13_none 17 = .ok (.ireturn, 1) := by decide +kernel
theorem dX13_full_0 : decode cX13_full 0 = .ok (.aload_n 0, 1) := by decide +kernel
theorem dX13_full_1 : decode cX13_full 1 = .ok (.aload_n 0, 1) := by decide +kernel
theorem dX13_full_2 : decode cX13_full 2 = .ok (.getfield 68, 3) := by decide +kernel
theorem dX13_full_5 : decode cX13_full 5 = .ok (.sipush 150, 3) := by decide +kernel
theorem dX13_full_8 : decode cX13_full 8 = .ok (.if_icmp .ne 7, 3) := by decide +kernel
theorem dX13_full_11 : decode cX13_full 11 = .ok (.iconst 1, 1) := by decide +kernel
theorem dX13_full_12 : decode cX13_full 12 = .ok (.goto 4, 3) := by decide +kernel
theorem dX13_full_15 : decode cX13_full 15 = .ok (.iconst 0, 1) := by decide +kernel
theorem dX13_full_16 : decode cX13_full 16 = .ok (.iconst 2, 1) := by decide +kernel
theorem dX13_full_17 : decode cX13_full 17 = .ok (.invokevirtual 36, 3) := by decide +kernel
theorem dX13_full_20 : decode cX13_full 20 = .ok (.ireturn, 1) := by decide +kernel
theorem dX13_like_0 : decode cX13_like 0 = .ok (.new 9, 3) := by decide +kernel
theorem dX13_like_3 : decode cX13_like 3 = .ok (.dup, 1) := by decide +kernel
theorem dX13_like_4 : decode cX13_like 4 = .ok (.invokespecial 44, 3) := by decide +kernel
theorem dX13_like_7 : decode cX13_like 7 = .ok (.astore_n 2, 1) := by decide +kernel
theorem dX13_like_8 : decode cX13_like 8 = .ok (.aload_n 2, 1) := by decide +kernel
theorem dX13_like_9 : decode cX13_like 9 = .ok (.aload_n 0, 1) := by decide +kernel
theorem dX13_like_10 : decode cX13_like 10 = .ok (.getfield 49, 3) := by decide +kernel
theorem dX13_like_13 : decode cX13_like 13 = .ok (.putfield 49, 3) := by decide +kernel
theorem dX13_like_16 : decode cX13_like 16 = .ok (.aload_n 2, 1) := by decide +kernel
theorem dX13_like_17 : decode cX13_like 17 = .ok (.iload_n 1, 1) := by decide +kernel
theorem dX13_like_18 : decode cX13_like 18 = .ok (.putfield 141, 3) := by decide +kernel
theorem dX13_like_21 : decode cX13_like 21 = .ok (.iconst 0, 1) := by decide +kernel
theorem dX13_like_22 : decode cX13_like 22 = .ok (.istore_n 3, 1) := by decide +kernel
theorem dX13_like_23 : decode cX13_like 23 = .ok (.iload_n 3, 1) := by decide +kernel
theorem dX13_like_24 : decode cX13_like 24 = .ok (.iconst 3, 1) := by decide +kernel
theorem dX13_like_25 : decode cX13_like 25 = .ok (.if_icmp .ge 33, 3) := by decide +kernel
theorem dX13_like_28 : decode cX13_like 28 = .ok (.aload_n 2, 1) := by decide +kernel
theorem dX13_like_29 : decode cX13_like 29 = .ok (.getfield 52, 3) := by decide +kernel
theorem dX13_like_32 : decode cX13_like 32 = .ok (.iload_n 3, 1) := by decide +kernel
theorem dX13_like_33 : decode cX13_like 33 = .ok (.aload_n 0, 1) := by decide +kernel
theorem dX13_like_34 : decode cX13_like 34 = .ok (.getfield 52, 3) := by decide +kernel
theorem dX13_like_37 : decode cX13_like 37 = .ok (.iload_n 3, 1) := by decide +kernel
theorem dX13_like_38 : decode cX13_like 38 = .ok (.iaload, 1) := by decide +kernel
theorem dX13_like_39 : decode cX13_like 39 = .ok (.iastore, 1) := by decide +kernel
theorem dX13_like_40 : decode cX13_like 40 = .ok (.aload_n 2, 1) := by decide +kernel
theorem dX13_like_41 : decode cX13_like 41 = .ok (.getfield 55, 3) := by decide +kernel
theorem dX13_like_44 : decode cX13_like 44 = .ok (.iload_n 3, 1) := by decide +kernel
theorem dX13_like_45 : decode cX13_like 45 = .ok (.aload_n 0, 1) := by decide +kernel
theorem dX13_like_46 : decode cX13_like 46 = .ok (.getfield 55, 3) := by decide +kernel
theorem dX13_like_49 : decode cX13_like 49 = .ok (.iload_n 3, 1) := by decide +kernel
theorem dX13_like_50 : decode cX13_like 50 = .ok (.iaload, 1) := by decide +kernel
theorem dX13_like_51 : decode cX13_like 51 = .ok (.iastore, 1) := by decide +kernel
theorem dX13_like_52 : decode cX13_like 52 = .ok (.iinc 3 1, 3) := by decide +kernel
theorem dX13_like_55 : decode cX13_like 55 = .ok (.goto (-32), 3) := by decide +kernel
theorem dX13_like_58 : decode cX13_like 58 = .ok (.aload_n 2, 1) := by decide +kernel
theorem dX13_like_59 : decode cX13_like 59 = .ok (.areturn, 1) := by decide +kernel
theorem dX13_less_0 : decode cX13_less 0 = .ok (.new 9, 3) := by decide +kernel
theorem dX13_less_3 : decode cX13_less 3 = .ok (.dup, 1) := by decide +kernel
theorem dX13_less_4 : decode cX13_less 4 = .ok (.invokespecial 44, 3) := by decide +kernel
theorem dX13_less_7 : decode cX13_less 7 = .ok (.astore_n 2, 1) := by decide +kernel
theorem dX13_less_8 : decode cX13_less 8 = .ok (.aload_n 2, 1) := by decide +kernel
theorem dX13_less_9 : decode cX13_less 9 = .ok (.aload_n 0, 1) := by decide +kernel
theorem dX13_less_10 : decode cX13_less 10 = .ok (.getfield 49, 3) := by decide +kernel
theorem dX13_less_13 : decode cX13_less 13 = .ok (.iconst 1, 1) := by decide +kernel
theorem dX13_less_14 : decode cX13_less 14 = .ok (.isub, 1) := by decide +kernel
theorem dX13_less_15 : decode cX13_less 15 = .ok (.putfield 49, 3) := by decide +kernel
theorem dX13_less_18 : decode cX13_less 18 = .ok (.aload_n 2, 1) := by decide +kernel
theorem dX13_less_19 : decode cX13_less 19 = .ok (.aload_n 0, 1) := by decide +kernel
theorem dX13_less_20 : decode cX13_less 20 = .ok (.getfield 141, 3) := by decide +kernel
theorem dX13_less_23 : decode cX13_less 23 = .ok (.iconst 1, 1) := by decide +kernel
theorem dX13_less_24 : decode cX13_less 24 = .ok (.iadd, 1) := by decide +kernel
theorem dX13_less_25 : decode cX13_less 25 = .ok (.putfield 141, 3) := by decide +kernel
theorem dX13_less_28 : decode cX13_less 28 = .ok (.iconst 0, 1) := by decide +kernel
theorem dX13_less_29 : decode cX13_less 29 = .ok (.istore_n 3, 1) := by decide +kernel
theorem dX13_less_30 : decode cX13_less 30 = .ok (.iconst 0, 1) := by decide +kernel
theorem dX13_less_31 : decode cX13_less 31 = .ok (.istore 4, 2) := by decide +kernel
theorem dX13_less_33 : decode cX13_less 33 = .ok (.iload 4, 2) := by decide +kernel
theorem dX13_less_35 : decode cX13_less 35 = .ok (.aload_n 0, 1) := by decide +kernel
theorem dX13_less_36 : decode cX13_less 36 = .ok (.getfield 49, 3) := by decide +kernel
theorem dX13_less_39 : decode cX13_less 39 = .ok (.if_icmp .ge 44, 3) := by decide +kernel
theorem dX13_less_42 : decode cX13_less 42 = .ok (.iload 4, 2) := by decide +kernel
theorem dX13_less_44 : decode cX13_less 44 = .ok (.iload_n 1, 1) := by decide +kernel
theorem dX13_less_45 : decode cX13_less 45 = .ok (.if_icmp .eq 32, 3) := by decide +kernel
theorem dX13_less_48 : decode cX13_less 48 = .ok (.aload_n 2, 1) := by decide +kernel
theorem dX13_less_49 : decode cX13_less 49 = .ok (.getfield 52, 3) := by decide +kernel
theorem dX13_less_52 : decode cX13_less 52 = .ok (.iload_n 3, 1) := by decide +kernel
theorem dX13_less_53 : decode cX13_less 53 = .ok (.aload_n 0, 1) := by decide +kernel
theorem dX13_less_54 : decode cX13_less 54 = .ok (.getfield 52, 3) := by decide +kernel
theorem dX13_less_57 : decode cX13_less 57 = .ok (.iload 4, 2) := by decide +kernel
theorem dX13_less_59 : decode cX13_less 59 = .ok (.iaload, 1) := by decide +kernel
theorem dX13_less_60 : decode cX13_less 60 = .ok (.iastore, 1) := by decide +kernel
theorem dX13_less_61 : decode cX13_less 61 = .ok (.aload_n 2, 1) := by decide +kernel
theorem dX13_less_62 : decode cX13_less 62 = .ok (.getfield 55, 3) := by decide +kernel
theorem dX13_less_65 : decode cX13_less 65 = .ok (.iload_n 3, 1) := by decide +kernel
