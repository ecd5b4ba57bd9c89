/-! the law: decode rows of its helpers -/
theorem dL_begin_0 : decode cL_begin 0 = .ok (.aload_n 0, 1) := by decide +kernel
theorem dL_begin_1 : decode cL_begin 1 = .ok (.iload_n 1, 1) := by decide +kernel
theorem dL_begin_2 : decode cL_begin 2 = .ok (.iload_n 2, 1) := by decide +kernel
theorem dL_begin_3 : decode cL_begin 3 = .ok (.iload_n 3, 1) := by decide +kernel
theorem dL_begin_4 : decode cL_begin 4 = .ok (.iload 4, 2) := by decide +kernel
theorem dL_begin_6 : decode cL_begin 6 = .ok (.iload 5, 2) := by decide +kernel
theorem dL_begin_8 : decode cL_begin 8 = .ok (.iload 6, 2) := by decide +kernel
theorem dL_begin_10 : decode cL_begin 10 = .ok (.iload 7, 2) := by decide +kernel
theorem dL_begin_12 : decode cL_begin 12 = .ok (.invokevirtual 7, 3) := by decide +kernel
theorem dL_begin_15 : decode cL_begin 15 = .ok (.goto 11, 3) := by decide +kernel
theorem dL_begin_18 : decode cL_begin 18 = .ok (.astore 8, 2) := by decide +kernel
theorem dL_begin_20 : decode cL_begin 20 = .ok (.iconst 1, 1) := by decide +kernel
theorem dL_begin_21 : decode cL_begin 21 = .ok (.ireturn, 1) := by decide +kernel
theorem dL_begin_22 : decode cL_begin 22 = .ok (.astore 8, 2) := by decide +kernel
theorem dL_begin_24 : decode cL_begin 24 = .ok (.iconst 2, 1) := by decide +kernel
theorem dL_begin_25 : decode cL_begin 25 = .ok (.ireturn, 1) := by decide +kernel
theorem dL_begin_26 : decode cL_begin 26 = .ok (.iconst 0, 1) := by decide +kernel
theorem dL_begin_27 : decode cL_begin 27 = .ok (.ireturn, 1) := by decide +kernel
theorem dL_put_0 : decode cL_put 0 = .ok (.aload_n 0, 1) := by decide +kernel
theorem dL_put_1 : decode cL_put 1 = .ok (.iload_n 1, 1) := by decide +kernel
theorem dL_put_2 : decode cL_put 2 = .ok (.iload_n 2, 1) := by decide +kernel
theorem dL_put_3 : decode cL_put 3 = .ok (.iload_n 3, 1) := by decide +kernel
theorem dL_put_4 : decode cL_put 4 = .ok (.lload 4, 2) := by decide +kernel
theorem dL_put_6 : decode cL_put 6 = .ok (.invokevirtual 17, 3) := by decide +kernel
theorem dL_put_9 : decode cL_put 9 = .ok (.goto 7, 3) := by decide +kernel
theorem dL_put_12 : decode cL_put 12 = .ok (.astore 6, 2) := by decide +kernel
theorem dL_put_14 : decode cL_put 14 = .ok (.iconst 1, 1) := by decide +kernel
theorem dL_put_15 : decode cL_put 15 = .ok (.ireturn, 1) := by decide +kernel
theorem dL_put_16 : decode cL_put 16 = .ok (.iconst 0, 1) := by decide +kernel
theorem dL_put_17 : decode cL_put 17 = .ok (.ireturn, 1) := by decide +kernel
theorem dL_erase_0 : decode cL_erase 0 = .ok (.aload_n 0, 1) := by decide +kernel
theorem dL_erase_1 : decode cL_erase 1 = .ok (.iload_n 1, 1) := by decide +kernel
theorem dL_erase_2 : decode cL_erase 2 = .ok (.iload_n 2, 1) := by decide +kernel
theorem dL_erase_3 : decode cL_erase 3 = .ok (.iload_n 3, 1) := by decide +kernel
theorem dL_erase_4 : decode cL_erase 4 = .ok (.invokevirtual 23, 3) := by decide +kernel
theorem dL_erase_7 : decode cL_erase 7 = .ok (.goto 7, 3) := by decide +kernel
theorem dL_erase_10 : decode cL_erase 10 = .ok (.astore 4, 2) := by decide +kernel
theorem dL_erase_12 : decode cL_erase 12 = .ok (.iconst 1, 1) := by decide +kernel
theorem dL_erase_13 : decode cL_erase 13 = .ok (.ireturn, 1) := by decide +kernel
theorem dL_erase_14 : decode cL_erase 14 = .ok (.iconst 0, 1) := by decide +kernel
theorem dL_erase_15 : decode cL_erase 15 = .ok (.ireturn, 1) := by decide +kernel
theorem dL_fill_0 : decode cL_fill 0 = .ok (.aload_n 0, 1) := by decide +kernel
theorem dL_fill_1 : decode cL_fill 1 = .ok (.iload_n 1, 1) := by decide +kernel
theorem dL_fill_2 : decode cL_fill 2 = .ok (.iload_n 2, 1) := by decide +kernel
theorem dL_fill_3 : decode cL_fill 3 = .ok (.iload_n 3, 1) := by decide +kernel
theorem dL_fill_4 : decode cL_fill 4 = .ok (.lload 4, 2) := by decide +kernel
theorem dL_fill_6 : decode cL_fill 6 = .ok (.invokevirtual 27, 3) := by decide +kernel
theorem dL_fill_9 : decode cL_fill 9 = .ok (.goto 7, 3) := by decide +kernel
theorem dL_fill_12 : decode cL_fill 12 = .ok (.astore 6, 2) := by decide +kernel
theorem dL_fill_14 : decode cL_fill 14 = .ok (.iconst 1, 1) := by decide +kernel
theorem dL_fill_15 : decode cL_fill 15 = .ok (.ireturn, 1) := by decide +kernel
theorem dL_fill_16 : decode cL_fill 16 = .ok (.iconst 0, 1) := by decide +kernel
theorem dL_fill_17 : decode cL_fill 17 = .ok (.ireturn, 1) := by decide +kernel
theorem dL_commit_0 : decode cL_commit 0 = .ok (.aload_n 1, 1) := by decide +kernel
theorem dL_commit_1 : decode cL_commit 1 = .ok (.iconst 0, 1) := by decide +kernel
theorem dL_commit_2 : decode cL_commit 2 = .ok (.aload_n 0, 1) := by decide +kernel
theorem dL_commit_3 : decode cL_commit 3 = .ok (.invokevirtual 30, 3) := by decide +kernel
theorem dL_commit_6 : decode cL_commit 6 = .ok (.i2l, 1) := by decide +kernel
theorem dL_commit_7 : decode cL_commit 7 = .ok (.lastore, 1) := by decide +kernel
theorem dL_commit_8 : decode cL_commit 8 = .ok (.goto 6, 3) := by decide +kernel
theorem dL_commit_11 : decode cL_commit 11 = .ok (.astore_n 2, 1) := by decide +kernel
theorem dL_commit_12 : decode cL_commit 12 = .ok (.iconst 1, 1) := by decide +kernel
theorem dL_commit_13 : decode cL_commit 13 = .ok (.ireturn, 1) := by decide +kernel
theorem dL_commit_14 : decode cL_commit 14 = .ok (.iconst 0, 1) := by decide +kernel
theorem dL_commit_15 : decode cL_commit 15 = .ok (.ireturn, 1) := by decide +kernel
theorem dL_open_0 : decode cL_open 0 = .ok (.aload_n 0, 1) := by decide +kernel
theorem dL_open_1 : decode cL_open 1 = .ok (.iload_n 1, 1) := by decide +kernel
theorem dL_open_2 : decode cL_open 2 = .ok (.invokevirtual 34, 3) := by decide +kernel
theorem dL_open_5 : decode cL_open 5 = .ok (.goto 6, 3) := by decide +kernel
theorem dL_open_8 : decode cL_open 8 = .ok (.astore_n 2, 1) := by decide +kernel
theorem dL_open_9 : decode cL_open 9 = .ok (.iconst 1, 1) := by decide +kernel
theorem dL_open_10 : decode cL_open 10 = .ok (.ireturn, 1) := by decide +kernel
theorem dL_open_11 : decode cL_open 11 = .ok (.iconst 0, 1) := by decide +kernel
theorem dL_open_12 : decode cL_open 12 = .ok (.ireturn, 1) := by decide +kernel
theorem dL_version_0 : decode cL_version 0 = .ok (.aload_n 3, 1) := by decide +kernel
theorem dL_version_1 : decode cL_version 1 = .ok (.iconst 0, 1) := by decide +kernel
theorem dL_version_2 : decode cL_version 2 = .ok (.aload_n 0, 1) := by decide +kernel
theorem dL_version_3 : decode cL_version 3 = .ok (.iload_n 1, 1) := by decide +kernel
theorem dL_version_4 : decode cL_version 4 = .ok (.iload_n 2, 1) := by decide +kernel
theorem dL_version_5 : decode cL_version 5 = .ok (.invokevirtual 38, 3) := by decide +kernel
theorem dL_version_8 : decode cL_version 8 = .ok (.i2l, 1) := by decide +kernel
theorem dL_version_9 : decode cL_version 9 = .ok (.lastore, 1) := by decide +kernel
theorem dL_version_10 : decode cL_version 10 = .ok (.goto 7, 3) := by decide +kernel
theorem dL_version_13 : decode cL_version 13 = .ok (.astore 4, 2) := by decide +kernel
theorem dL_version_15 : decode cL_version 15 = .ok (.iconst 1, 1) := by decide +kernel
theorem dL_version_16 : decode cL_version 16 = .ok (.ireturn, 1) := by decide +kernel
theorem dL_version_17 : decode cL_version 17 = .ok (.iconst 0, 1) := by decide +kernel
theorem dL_version_18 : decode cL_version 18 = .ok (.ireturn, 1) := by decide +kernel
theorem dL_differ_0 : decode cL_differ 0 = .ok (.aload_n 3, 1) := by decide +kernel
theorem dL_differ_1 : decode cL_differ 1 = .ok (.iconst 0, 1) := by decide +kernel
theorem dL_differ_2 : decode cL_differ 2 = .ok (.aload_n 0, 1) := by decide +kernel
theorem dL_differ_3 : decode cL_differ 3 = .ok (.iload_n 1, 1) := by decide +kernel
theorem dL_differ_4 : decode cL_differ 4 = .ok (.iload_n 2, 1) := by decide +kernel
theorem dL_differ_5 : decode cL_differ 5 = .ok (.invokevirtual 42, 3) := by decide +kernel
theorem dL_differ_8 : decode cL_differ 8 = .ok (.i2l, 1) := by decide +kernel
theorem dL_differ_9 : decode cL_differ 9 = .ok (.lastore, 1) := by decide +kernel
theorem dL_differ_10 : decode cL_differ 10 = .ok (.goto 7, 3) := by decide +kernel
theorem dL_differ_13 : decode cL_differ 13 = .ok (.astore 4, 2) := by decide +kernel
theorem dL_differ_15 : decode cL_differ 15 = .ok (.iconst 1, 1) := by decide +kernel
theorem dL_differ_16 : decode cL_differ 16 = .ok (.ireturn, 1) := by decide +kernel
theorem dL_differ_17 : decode cL_differ 17 = .ok (.iconst 0, 1) := by decide +kernel
theorem dL_differ_18 : decode cL_differ 18 = .ok (.ireturn, 1) := by decide +kernel
theorem dL_read_0 : decode cL_read 0 = .ok (.aload_n 2, 1) := by decide +kernel
theorem dL_read_1 : decode cL_read 1 = .ok (.iconst 0, 1) := by decide +kernel
theorem dL_read_2 : decode cL_read 2 = .ok (.aload_n 0, 1) := by decide +kernel
theorem dL_read_3 : decode cL_read 3 = .ok (.iload_n 1, 1) := by decide +kernel
theorem dL_read_4 : decode cL_read 4 = .ok (.invokevirtual 45, 3) := by decide +kernel
theorem dL_read_7 : decode cL_read 7 = .ok (.i2l, 1) := by decide +kernel
theorem dL_read_8 : decode cL_read 8 = .ok (.lastore, 1) := by decide +kernel
theorem dL_read_9 : decode cL_read 9 = .ok (.goto 9, 3) := by decide +kernel
theorem dL_read_12 : decode cL_read 12 = .ok (.astore_n 3, 1) := by decide +kernel
theorem dL_read_13 : decode cL_read 13 = .ok (.iconst 1, 1) := by decide +kernel
theorem dL_read_14 : decode cL_read 14 = .ok (.ireturn, 1) := by decide +kernel
theorem dL_read_15 : decode cL_read 15 = .ok (.astore_n 3, 1) := by decide +kernel
theorem dL_read_16 : decode cL_read 16 = .ok (.iconst 2, 1) := by decide +kernel
theorem dL_read_17 : decode cL_read 17 = .ok (.ireturn, 1) := by decide +kernel
theorem dL_read_18 : decode cL_read 18 = .ok (.iconst 0, 1) := by decide +kernel
theorem dL_read_19 : decode cL_read 19 = .ok (.ireturn, 1) := by decide +kernel
theorem dL_sub_0 : decode cL_sub 0 = .ok (.aload 5, 2) := by decide +kernel
theorem dL_sub_2 : decode cL_sub 2 = .ok (.iconst 0, 1) := by decide +kernel
theorem dL_sub_3 : decode cL_sub 3 = .ok (.aload_n 0, 1) := by decide +kernel
theorem dL_sub_4 : decode cL_sub 4 = .ok (.iload_n 1, 1) := by decide +kernel
theorem dL_sub_5 : decode cL_sub 5 = .ok (.iload_n 2, 1) := by decide +kernel
theorem dL_sub_6 : decode cL_sub 6 = .ok (.iload_n 3, 1) := by decide +kernel
theorem dL_sub_7 : decode cL_sub 7 = .ok (.iload 4, 2) := by decide +kernel
theorem dL_sub_9 : decode cL_sub 9 = .ok (.invokevirtual 49, 3) := by decide +kernel
theorem dL_sub_12 : decode cL_sub 12 = .ok (.i2l, 1) := by decide +kernel
theorem dL_sub_13 : decode cL_sub 13 = .ok (.lastore, 1) := by decide +kernel
theorem dL_sub_14 : decode cL_sub 14 = .ok (.goto 15, 3) := by decide +kernel
theorem dL_sub_17 : decode cL_sub 17 = .ok (.astore 6, 2) := by decide +kernel
theorem dL_sub_19 : decode cL_sub 19 = .ok (.iconst 1, 1) := by decide +kernel
theorem dL_sub_20 : decode cL_sub 20 = .ok (.ireturn, 1) := by decide +kernel
theorem dL_sub_21 : decode cL_sub 21 = .ok (.astore 6, 2) := by decide +kernel
theorem dL_sub_23 : decode cL_sub 23 = .ok (.iconst 2, 1) := by decide +kernel
theorem dL_sub_24 : decode cL_sub 24 = .ok (.ireturn, 1) := by decide +kernel
theorem dL_sub_25 : decode cL_sub 25 = .ok (.astore 6, 2) := by decide +kernel
theorem dL_sub_27 : decode cL_sub 27 = .ok (.iconst 3, 1) := by decide +kernel
theorem dL_sub_28 : decode cL_sub 28 = .ok (.ireturn, 1) := by decide +kernel
theorem dL_sub_29 : decode cL_sub 29 = .ok (.iconst 0, 1) := by decide +kernel
theorem dL_sub_30 : decode cL_sub 30 = .ok (.ireturn, 1) := by decide +kernel
theorem dL_slice_0 : decode cL_slice 0 = .ok (.aload 4, 2) := by decide +kernel
theorem dL_slice_2 : decode cL_slice 2 = .ok (.iconst 0, 1) := by decide +kernel
theorem dL_slice_3 : decode cL_slice 3 = .ok (.aload_n 0, 1) := by decide +kernel
theorem dL_slice_4 : decode cL_slice 4 = .ok (.iload_n 1, 1) := by decide +kernel
theorem dL_slice_5 : decode cL_slice 5 = .ok (.iload_n 2, 1) := by decide +kernel
theorem dL_slice_6 : decode cL_slice 6 = .ok (.iload_n 3, 1) := by decide +kernel
theorem dL_slice_7 : decode cL_slice 7 = .ok (.invokevirtual 55, 3) := by decide +kernel
theorem dL_slice_10 : decode cL_slice 10 = .ok (.i2l, 1) := by decide +kernel
theorem dL_slice_11 : decode cL_slice 11 = .ok (.lastore, 1) := by decide +kernel
theorem dL_slice_12 : decode cL_slice 12 = .ok (.goto 15, 3) := by decide +kernel
theorem dL_slice_15 : decode cL_slice 15 = .ok (.astore 5, 2) := by decide +kernel
theorem dL_slice_17 : decode cL_slice 17 = .ok (.iconst 1, 1) := by decide +kernel
theorem dL_slice_18 : decode cL_slice 18 = .ok (.ireturn, 1) := by decide +kernel
theorem dL_slice_19 : decode cL_slice 19 = .ok (.astore 5, 2) := by decide +kernel
theorem dL_slice_21 : decode cL_slice 21 = .ok (.iconst 2, 1) := by decide +kernel
theorem dL_slice_22 : decode cL_slice 22 = .ok (.ireturn, 1) := by decide +kernel
theorem dL_slice_23 : decode cL_slice 23 = .ok (.astore 5, 2) := by decide +kernel
theorem dL_slice_25 : decode cL_slice 25 = .ok (.iconst 3, 1) := by decide +kernel
theorem dL_slice_26 : decode cL_slice 26 = .ok (.ireturn, 1) := by decide +kernel
theorem dL_slice_27 : decode cL_slice 27 = .ok (.iconst 0, 1) := by decide +kernel
theorem dL_slice_28 : decode cL_slice 28 = .ok (.ireturn, 1) := by decide +kernel
theorem dL_extend_0 : decode cL_extend 0 = .ok (.aload 5, 2) := by decide +kernel
theorem dL_extend_2 : decode cL_extend 2 = .ok (.iconst 0, 1) := by decide +kernel
theorem dL_extend_3 : decode cL_extend 3 = .ok (.aload_n 0, 1) := by decide +kernel
theorem dL_extend_4 : decode cL_extend 4 = .ok (.iload_n 1, 1) := by decide +kernel
theorem dL_extend_5 : decode cL_extend 5 = .ok (.iload_n 2, 1) := by decide +kernel
theorem dL_extend_6 : decode cL_extend 6 = .ok (.iload_n 3, 1) := by decide +kernel
theorem dL_extend_7 : decode cL_extend 7 = .ok (.iload 4, 2) := by decide +kernel
theorem dL_extend_9 : decode cL_extend 9 = .ok (.invokevirtual 59, 3) := by decide +kernel
theorem dL_extend_12 : decode cL_extend 12 = .ok (.i2l, 1) := by decide +kernel
theorem dL_extend_13 : decode cL_extend 13 = .ok (.lastore, 1) := by decide +kernel
theorem dL_extend_14 : decode cL_extend 14 = .ok (.goto 15, 3) := by decide +kernel
theorem dL_extend_17 : decode cL_extend 17 = .ok (.astore 6, 2) := by decide +kernel
theorem dL_extend_19 : decode cL_extend 19 = .ok (.iconst 1, 1) := by decide +kernel
theorem dL_extend_20 : decode cL_extend 20 = .ok (.ireturn, 1) := by decide +kernel
theorem dL_extend_21 : decode cL_extend 21 = .ok (.astore 6, 2) := by decide +kernel
theorem dL_extend_23 : decode cL_extend 23 = .ok (.iconst 2, 1) := by decide +kernel
theorem dL_extend_24 : decode cL_extend 24 = .ok (.ireturn, 1) := by decide +kernel
theorem dL_extend_25 : decode cL_extend 25 = .ok (.astore 6, 2) := by decide +kernel
theorem dL_extend_27 : decode cL_extend 27 = .ok (.iconst 3, 1) := by decide +kernel
theorem dL_extend_28 : decode cL_extend 28 = .ok (.ireturn, 1) := by decide +kernel
theorem dL_extend_29 : decode cL_extend 29 = .ok (.iconst 0, 1) := by decide +kernel
theorem dL_extend_30 : decode cL_extend 30 = .ok (.ireturn, 1) := by decide +kernel
theorem dL_apply_0 : decode cL_apply 0 = .ok (.aload 5, 2) := by decide +kernel
theorem dL_apply_2 : decode cL_apply 2 = .ok (.iconst 0, 1) := by decide +kernel
theorem dL_apply_3 : decode cL_apply 3 = .ok (.aload_n 0, 1) := by decide +kernel
theorem dL_apply_4 : decode cL_apply 4 = .ok (.iload_n 1, 1) := by decide +kernel
theorem dL_apply_5 : decode cL_apply 5 = .ok (.iload_n 2, 1) := by decide +kernel
theorem dL_apply_6 : decode cL_apply 6 = .ok (.lload_n 3, 1) := by decide +kernel
theorem dL_apply_7 : decode cL_apply 7 = .ok (.invokevirtual 62, 3) := by decide +kernel
theorem dL_apply_10 : decode cL_apply 10 = .ok (.i2l, 1) := by decide +kernel
theorem dL_apply_11 : decode cL_apply 11 = .ok (.lastore, 1) := by decide +kernel
theorem dL_apply_12 : decode cL_apply 12 = .ok (.goto 15, 3) := by decide +kernel
theorem dL_apply_15 : decode cL_apply 15 = .ok (.astore 6, 2) := by decide +kernel
theorem dL_apply_17 : decode cL_apply 17 = .ok (.iconst 1, 1) := by decide +kernel
theorem dL_apply_18 : decode cL_apply 18 = .ok (.ireturn, 1) := by decide +kernel
theorem dL_apply_19 : decode cL_apply 19 = .ok (.astore 6, 2) := by decide +kernel
theorem dL_apply_21 : decode cL_apply 21 = .ok (.iconst 2, 1) := by decide +kernel
theorem dL_apply_22 : decode cL_apply 22 = .ok (.ireturn, 1) := by decide +kernel
theorem dL_apply_23 : decode cL_apply 23 = .ok (.astore 6, 2) := by decide +kernel
theorem dL_apply_25 : decode cL_apply 25 = .ok (.iconst 3, 1) := by decide +kernel
theorem dL_apply_26 : decode cL_apply 26 = .ok (.ireturn, 1) := by decide +kernel
theorem dL_apply_27 : decode cL_apply 27 = .ok (.iconst 0, 1) := by decide +kernel
theorem dL_apply_28 : decode cL_apply 28 = .ok (.ireturn, 1) := by decide +kernel
theorem dL_filter_0 : decode cL_filter 0 = .ok (.aload 5, 2) := by decide +kernel
theorem dL_filter_2 : decode cL_filter 2 = .ok (.iconst 0, 1) := by decide +kernel
theorem dL_filter_3 : decode cL_filter 3 = .ok (.aload_n 0, 1) := by decide +kernel
theorem dL_filter_4 : decode cL_filter 4 = .ok (.iload_n 1, 1) := by decide +kernel
theorem dL_filter_5 : decode cL_filter 5 = .ok (.iload_n 2, 1) := by decide +kernel
theorem dL_filter_6 : decode cL_filter 6 = .ok (.lload_n 3, 1) := by decide +kernel
theorem dL_filter_7 : decode cL_filter 7 = .ok (.invokevirtual 66, 3) := by decide +kernel
theorem dL_filter_10 : decode cL_filter 10 = .ok (.i2l, 1) := by decide +kernel
theorem dL_filter_11 : decode cL_filter 11 = .ok (.lastore, 1) := by decide +kernel
theorem dL_filter_12 : decode cL_filter 12 = .ok (.goto 15, 3) := by decide +kernel
theorem dL_filter_15 : decode cL_filter 15 = .ok (.astore 6, 2) := by decide +kernel
theorem dL_filter_17 : decode cL_filter 17 = .ok (.iconst 1, 1) := by decide +kernel
theorem dL_filter_18 : decode cL_filter 18 = .ok (.ireturn, 1) := by decide +kernel
theorem dL_filter_19 : decode cL_filter 19 = .ok (.astore 6, 2) := by decide +kernel
theorem dL_filter_21 : decode cL_filter 21 = .ok (.iconst 2, 1) := by decide +kernel
theorem dL_filter_22 : decode cL_filter 22 = .ok (.ireturn, 1) := by decide +kernel
theorem dL_filter_23 : decode cL_filter 23 = .ok (.astore 6, 2) := by decide +kernel
theorem dL_filter_25 : decode cL_filter 25 = .ok (.iconst 3, 1) := by decide +kernel
theorem dL_filter_26 : decode cL_filter 26 = .ok (.ireturn, 1) := by decide +kernel
theorem dL_filter_27 : decode cL_filter 27 = .ok (.iconst 0, 1) := by decide +kernel
theorem dL_filter_28 : decode cL_filter 28 = .ok (.ireturn, 1) := by decide +kernel
theorem dL_join_0 : decode cL_join 0 = .ok (.aload 4, 2) := by decide +kernel
theorem dL_join_2 : decode cL_join 2 = .ok (.iconst 0, 1) := by decide +kernel
theorem dL_join_3 : decode cL_join 3 = .ok (.aload_n 0, 1) := by decide +kernel
theorem dL_join_4 : decode cL_join 4 = .ok (.iload_n 1, 1) := by decide +kernel
theorem dL_join_5 : decode cL_join 5 = .ok (.iload_n 2, 1) := by decide +kernel
theorem dL_join_6 : decode cL_join 6 = .ok (.iload_n 3, 1) := by decide +kernel
theorem dL_join_7 : decode cL_join 7 = .ok (.invokevirtual 69, 3) := by decide +kernel
theorem dL_join_10 : decode cL_join 10 = .ok (.i2l, 1) := by decide +kernel
theorem dL_join_11 : decode cL_join 11 = .ok (.lastore, 1) := by decide +kernel
theorem dL_join_12 : decode cL_join 12 = .ok (.goto 15, 3) := by decide +kernel
theorem dL_join_15 : decode cL_join 15 = .ok (.astore 5, 2) := by decide +kernel
theorem dL_join_17 : decode cL_join 17 = .ok (.iconst 1, 1) := by decide +kernel
theorem dL_join_18 : decode cL_join 18 = .ok (.ireturn, 1) := by decide +kernel
theorem dL_join_19 : decode cL_join 19 = .ok (.astore 5, 2) := by decide +kernel
theorem dL_join_21 : decode cL_join 21 = .ok (.iconst 2, 1) := by decide +kernel
theorem dL_join_22 : decode cL_join 22 = .ok (.ireturn, 1) := by decide +kernel
theorem dL_join_23 : decode cL_join 23 = .ok (.astore 5, 2) := by decide +kernel
theorem dL_join_25 : decode cL_join 25 = .ok (.iconst 3, 1) := by decide +kernel
theorem dL_join_26 : decode cL_join 26 = .ok (.ireturn, 1) := by decide +kernel
theorem dL_join_27 : decode cL_join 27 = .ok (.iconst 0, 1) := by decide +kernel
theorem dL_join_28 : decode cL_join 28 = .ok (.ireturn, 1) := by decide +kernel
theorem dL_gather_0 : decode cL_gather 0 = .ok (.aload 4, 2) := by decide +kernel
theorem dL_gather_2 : decode cL_gather 2 = .ok (.iconst 0, 1) := by decide +kernel
theorem dL_gather_3 : decode cL_gather 3 = .ok (.aload_n 0, 1) := by decide +kernel
theorem dL_gather_4 : decode cL_gather 4 = .ok (.iload_n 1, 1) := by decide +kernel
theorem dL_gather_5 : decode cL_gather 5 = .ok (.iload_n 2, 1) := by decide +kernel
theorem dL_gather_6 : decode cL_gather 6 = .ok (.iload_n 3, 1) := by decide +kernel
theorem dL_gather_7 : decode cL_gather 7 = .ok (.invokevirtual 72, 3) := by decide +kernel
theorem dL_gather_10 : decode cL_gather 10 = .ok (.i2l, 1) := by decide +kernel
theorem dL_gather_11 : decode cL_gather 11 = .ok (.lastore, 1) := by decide +kernel
theorem dL_gather_12 : decode cL_gather 12 = .ok (.goto 15, 3) := by decide +kernel
theorem dL_gather_15 : decode cL_gather 15 = .ok (.astore 5, 2) := by decide +kernel
theorem dL_gather_17 : decode cL_gather 17 = .ok (.iconst 1, 1) := by decide +kernel
theorem dL_gather_18 : decode cL_gather 18 = .ok (.ireturn, 1) := by decide +kernel
theorem dL_gather_19 : decode cL_gather 19 = .ok (.astore 5, 2) := by decide +kernel
theorem dL_gather_21 : decode cL_gather 21 = .ok (.iconst 2, 1) := by decide +kernel
theorem dL_gather_22 : decode cL_gather 22 = .ok (.ireturn, 1) := by decide +kernel
theorem dL_gather_23 : decode cL_gather 23 = .ok (.astore 5, 2) := by decide +kernel
theorem dL_gather_25 : decode cL_gather 25 = .ok (.iconst 3, 1) := by decide +kernel
theorem dL_gather_26 : decode cL_gather 26 = .ok (.ireturn, 1) := by decide +kernel
theorem dL_gather_27 : decode cL_gather 27 = .ok (.iconst 0, 1) := by decide +kernel
theorem dL_gather_28 : decode cL_gather 28 = .ok (.ireturn, 1) := by decide +kernel
theorem dL_regrid_0 : decode cL_regrid 0 = .ok (.aload 5, 2) := by decide +kernel
theorem dL_regrid_2 : decode cL_regrid 2 = .ok (.iconst 0, 1) := by decide +kernel
theorem dL_regrid_3 : decode cL_regrid 3 = .ok (.aload_n 0, 1) := by decide +kernel
theorem dL_regrid_4 : decode cL_regrid 4 = .ok (.iload_n 1, 1) := by decide +kernel
theorem dL_regrid_5 : decode cL_regrid 5 = .ok (.iload_n 2, 1) := by decide +kernel
theorem dL_regrid_6 : decode cL_regrid 6 = .ok (.iload_n 3, 1) := by decide +kernel
theorem dL_regrid_7 : decode cL_regrid 7 = .ok (.iload 4, 2) := by decide +kernel
theorem dL_regrid_9 : decode cL_regrid 9 = .ok (.invokevirtual 75, 3) := by decide +kernel
theorem dL_regrid_12 : decode cL_regrid 12 = .ok (.i2l, 1) := by decide +kernel
theorem dL_regrid_13 : decode cL_regrid 13 = .ok (.lastore, 1) := by decide +kernel
theorem dL_regrid_14 : decode cL_regrid 14 = .ok (.goto 15, 3) := by decide +kernel
theorem dL_regrid_17 : decode cL_regrid 17 = .ok (.astore 6, 2) := by decide +kernel
theorem dL_regrid_19 : decode cL_regrid 19 = .ok (.iconst 1, 1) := by decide +kernel
theorem dL_regrid_20 : decode cL_regrid 20 = .ok (.ireturn, 1) := by decide +kernel
theorem dL_regrid_21 : decode cL_regrid 21 = .ok (.astore 6, 2) := by decide +kernel
theorem dL_regrid_23 : decode cL_regrid 23 = .ok (.iconst 2, 1) := by decide +kernel
theorem dL_regrid_24 : decode cL_regrid 24 = .ok (.ireturn, 1) := by decide +kernel
theorem dL_regrid_25 : decode cL_regrid 25 = .ok (.astore 6, 2) := by decide +kernel
theorem dL_regrid_27 : decode cL_regrid 27 = .ok (.iconst 3, 1) := by decide +kernel
theorem dL_regrid_28 : decode cL_regrid 28 = .ok (.ireturn, 1) := by decide +kernel
theorem dL_regrid_29 : decode cL_regrid 29 = .ok (.iconst 0, 1) := by decide +kernel
theorem dL_regrid_30 : decode cL_regrid 30 = .ok (.ireturn, 1) := by decide +kernel
theorem dL_window_0 : decode cL_window 0 = .ok (.aload 5, 2) := by decide +kernel
theorem dL_window_2 : decode cL_window 2 = .ok (.iconst 0, 1) := by decide +kernel
theorem dL_window_3 : decode cL_window 3 = .ok (.aload_n 0, 1) := by decide +kernel
theorem dL_window_4 : decode cL_window 4 = .ok (.iload_n 1, 1) := by decide +kernel
theorem dL_window_5 : decode cL_window 5 = .ok (.iload_n 2, 1) := by decide +kernel
theorem dL_window_6 : decode cL_window 6 = .ok (.iload_n 3, 1) := by decide +kernel
theorem dL_window_7 : decode cL_window 7 = .ok (.iload 4, 2) := by decide +kernel
theorem dL_window_9 : decode cL_window 9 = .ok (.invokevirtual 78, 3) := by decide +kernel
theorem dL_window_12 : decode cL_window 12 = .ok (.i2l, 1) := by decide +kernel
theorem dL_window_13 : decode cL_window 13 = .ok (.lastore, 1) := by decide +kernel
theorem dL_window_14 : decode cL_window 14 = .ok (.goto 15, 3) := by decide +kernel
theorem dL_window_17 : decode cL_window 17 = .ok (.astore 6, 2) := by decide +kernel
theorem dL_window_19 : decode cL_window 19 = .ok (.iconst 1, 1) := by decide +kernel
theorem dL_window_20 : decode cL_window 20 = .ok (.ireturn, 1) := by decide +kernel
theorem dL_window_21 : decode cL_window 21 = .ok (.astore 6, 2) := by decide +kernel
theorem dL_window_23 : decode cL_window 23 = .ok (.iconst 2, 1) := by decide +kernel
theorem dL_window_24 : decode cL_window 24 = .ok (.ireturn, 1) := by decide +kernel
theorem dL_window_25 : decode cL_window 25 = .ok (.astore 6, 2) := by decide +kernel
theorem dL_window_27 : decode cL_window 27 = .ok (.iconst 3, 1) := by decide +kernel
theorem dL_window_28 : decode cL_window 28 = .ok (.ireturn, 1) := by decide +kernel
theorem dL_window_29 : decode cL_window 29 = .ok (.iconst 0, 1) := by decide +kernel
theorem dL_window_30 : decode cL_window 30 = .ok (.ireturn, 1) := by decide +kernel
theorem dL_swap_0 : decode cL_swap 0 = .ok (.aload 4, 2) := by decide +kernel
theorem dL_swap_2 : decode cL_swap 2 = .ok (.iconst 0, 1) := by decide +kernel
theorem dL_swap_3 : decode cL_swap 3 = .ok (.aload_n 0, 1) := by decide +kernel
theorem dL_swap_4 : decode cL_swap 4 = .ok (.iload_n 1, 1) := by decide +kernel
theorem dL_swap_5 : decode cL_swap 5 = .ok (.iload_n 2, 1) := by decide +kernel
theorem dL_swap_6 : decode cL_swap 6 = .ok (.iload_n 3, 1) := by decide +kernel
theorem dL_swap_7 : decode cL_swap 7 = .ok (.invokevirtual 81, 3) := by decide +kernel
theorem dL_swap_10 : decode cL_swap 10 = .ok (.i2l, 1) := by decide +kernel
theorem dL_swap_11 : decode cL_swap 11 = .ok (.lastore, 1) := by decide +kernel
theorem dL_swap_12 : decode cL_swap 12 = .ok (.goto 15, 3) := by decide +kernel
theorem dL_swap_15 : decode cL_swap 15 = .ok (.astore 5, 2) := by decide +kernel
theorem dL_swap_17 : decode cL_swap 17 = .ok (.iconst 1, 1) := by decide +kernel
theorem dL_swap_18 : decode cL_swap 18 = .ok (.ireturn, 1) := by decide +kernel
theorem dL_swap_19 : decode cL_swap 19 = .ok (.astore 5, 2) := by decide +kernel
theorem dL_swap_21 : decode cL_swap 21 = .ok (.iconst 2, 1) := by decide +kernel
theorem dL_swap_22 : decode cL_swap 22 = .ok (.ireturn, 1) := by decide +kernel
theorem dL_swap_23 : decode cL_swap 23 = .ok (.astore 5, 2) := by decide +kernel
theorem dL_swap_25 : decode cL_swap 25 = .ok (.iconst 3, 1) := by decide +kernel
theorem dL_swap_26 : decode cL_swap 26 = .ok (.ireturn, 1) := by decide +kernel
theorem dL_swap_27 : decode cL_swap 27 = .ok (.iconst 0, 1) := by decide +kernel
theorem dL_swap_28 : decode cL_swap 28 = .ok (.ireturn, 1) := by decide +kernel
theorem dL_product_0 : decode cL_product 0 = .ok (.aload_n 3, 1) := by decide +kernel
theorem dL_product_1 : decode cL_product 1 = .ok (.iconst 0, 1) := by decide +kernel
theorem dL_product_2 : decode cL_product 2 = .ok (.aload_n 0, 1) := by decide +kernel
theorem dL_product_3 : decode cL_product 3 = .ok (.iload_n 1, 1) := by decide +kernel
theorem dL_product_4 : decode cL_product 4 = .ok (.iload_n 2, 1) := by decide +kernel
theorem dL_product_5 : decode cL_product 5 = .ok (.invokevirtual 84, 3) := by decide +kernel
theorem dL_product_8 : decode cL_product 8 = .ok (.i2l, 1) := by decide +kernel
theorem dL_product_9 : decode cL_product 9 = .ok (.lastore, 1) := by decide +kernel
theorem dL_product_10 : decode cL_product 10 = .ok (.goto 15, 3) := by decide +kernel
theorem dL_product_13 : decode cL_product 13 = .ok (.astore 4, 2) := by decide +kernel
theorem dL_product_15 : decode cL_product 15 = .ok (.iconst 1, 1) := by decide +kernel
theorem dL_product_16 : decode cL_product 16 = .ok (.ireturn, 1) := by decide +kernel
theorem dL_product_17 : decode cL_product 17 = .ok (.astore 4, 2) := by decide +kernel
theorem dL_product_19 : decode cL_product 19 = .ok (.iconst 2, 1) := by decide +kernel
theorem dL_product_20 : decode cL_product 20 = .ok (.ireturn, 1) := by decide +kernel
theorem dL_product_21 : decode cL_product 21 = .ok (.astore 4, 2) := by decide +kernel
theorem dL_product_23 : decode cL_product 23 = .ok (.iconst 3, 1) := by decide +kernel
theorem dL_product_24 : decode cL_product 24 = .ok (.ireturn, 1) := by decide +kernel
theorem dL_product_25 : decode cL_product 25 = .ok (.iconst 0, 1) := by decide +kernel
theorem dL_product_26 : decode cL_product 26 = .ok (.ireturn, 1) := by decide +kernel
theorem dL_shape_0 : decode cL_shape 0 = .ok (.aload_n 3, 1) := by decide +kernel
theorem dL_shape_1 : decode cL_shape 1 = .ok (.iconst 0, 1) := by decide +kernel
theorem dL_shape_2 : decode cL_shape 2 = .ok (.aload_n 0, 1) := by decide +kernel
theorem dL_shape_3 : decode cL_shape 3 = .ok (.iload_n 1, 1) := by decide +kernel
theorem dL_shape_4 : decode cL_shape 4 = .ok (.iload_n 2, 1) := by decide +kernel
theorem dL_shape_5 : decode cL_shape 5 = .ok (.invokevirtual 87, 3) := by decide +kernel
theorem dL_shape_8 : decode cL_shape 8 = .ok (.i2l, 1) := by decide +kernel
theorem dL_shape_9 : decode cL_shape 9 = .ok (.lastore, 1) := by decide +kernel
theorem dL_shape_10 : decode cL_shape 10 = .ok (.goto 7, 3) := by decide +kernel
theorem dL_shape_13 : decode cL_shape 13 = .ok (.astore 4, 2) := by decide +kernel
theorem dL_shape_15 : decode cL_shape 15 = .ok (.iconst 1, 1) := by decide +kernel
theorem dL_shape_16 : decode cL_shape 16 = .ok (.ireturn, 1) := by decide +kernel
theorem dL_shape_17 : decode cL_shape 17 = .ok (.iconst 0, 1) := by decide +kernel
theorem dL_shape_18 : decode cL_shape 18 = .ok (.ireturn, 1) := by decide +kernel
theorem dL_cell_0 : decode cL_cell 0 = .ok (.aload 5, 2) := by decide +kernel
theorem dL_cell_2 : decode cL_cell 2 = .ok (.iconst 0, 1) := by decide +kernel
theorem dL_cell_3 : decode cL_cell 3 = .ok (.aload_n 0, 1) := by decide +kernel
theorem dL_cell_4 : decode cL_cell 4 = .ok (.iload_n 1, 1) := by decide +kernel
theorem dL_cell_5 : decode cL_cell 5 = .ok (.iload_n 2, 1) := by decide +kernel
theorem dL_cell_6 : decode cL_cell 6 = .ok (.iload_n 3, 1) := by decide +kernel
theorem dL_cell_7 : decode cL_cell 7 = .ok (.iload 4, 2) := by decide +kernel
theorem dL_cell_9 : decode cL_cell 9 = .ok (.invokevirtual 90, 3) := by decide +kernel
theorem dL_cell_12 : decode cL_cell 12 = .ok (.lastore, 1) := by decide +kernel
theorem dL_cell_13 : decode cL_cell 13 = .ok (.goto 15, 3) := by decide +kernel
theorem dL_cell_16 : decode cL_cell 16 = .ok (.astore 6, 2) := by decide +kernel
theorem dL_cell_18 : decode cL_cell 18 = .ok (.iconst 1, 1) := by decide +kernel
theorem dL_cell_19 : decode cL_cell 19 = .ok (.ireturn, 1) := by decide +kernel
theorem dL_cell_20 : decode cL_cell 20 = .ok (.astore 6, 2) := by decide +kernel
theorem dL_cell_22 : decode cL_cell 22 = .ok (.iconst 2, 1) := by decide +kernel
theorem dL_cell_23 : decode cL_cell 23 = .ok (.ireturn, 1) := by decide +kernel
theorem dL_cell_24 : decode cL_cell 24 = .ok (.astore 6, 2) := by decide +kernel
theorem dL_cell_26 : decode cL_cell 26 = .ok (.iconst 3, 1) := by decide +kernel
theorem dL_cell_27 : decode cL_cell 27 = .ok (.ireturn, 1) := by decide +kernel
theorem dL_cell_28 : decode cL_cell 28 = .ok (.iconst 0, 1) := by decide +kernel
theorem dL_cell_29 : decode cL_cell 29 = .ok (.ireturn, 1) := by decide +kernel
theorem dL_all_0 : decode cL_all 0 = .ok (.aload_n 3, 1) := by decide +kernel
theorem dL_all_1 : decode cL_all 1 = .ok (.iconst 0, 1) := by decide +kernel
theorem dL_all_2 : decode cL_all 2 = .ok (.aload_n 0, 1) := by decide +kernel
theorem dL_all_3 : decode cL_all 3 = .ok (.iload_n 1, 1) := by decide +kernel
theorem dL_all_4 : decode cL_all 4 = .ok (.iload_n 2, 1) := by decide +kernel
theorem dL_all_5 : decode cL_all 5 = .ok (.invokevirtual 94, 3) := by decide +kernel
theorem dL_all_8 : decode cL_all 8 = .ok (.lastore, 1) := by decide +kernel
theorem dL_all_9 : decode cL_all 9 = .ok (.goto 11, 3) := by decide +kernel
theorem dL_all_12 : decode cL_all 12 = .ok (.astore 4, 2) := by decide +kernel
theorem dL_all_14 : decode cL_all 14 = .ok (.iconst 1, 1) := by decide +kernel
theorem dL_all_15 : decode cL_all 15 = .ok (.ireturn, 1) := by decide +kernel
theorem dL_all_16 : decode cL_all 16 = .ok (.astore 4, 2) := by decide +kernel
theorem dL_all_18 : decode cL_all 18 = .ok (.iconst 2, 1) := by decide +kernel
theorem dL_all_19 : decode cL_all 19 = .ok (.ireturn, 1) := by decide +kernel
theorem dL_all_20 : decode cL_all 20 = .ok (.iconst 0, 1) := by decide +kernel
theorem dL_all_21 : decode cL_all 21 = .ok (.ireturn, 1) := by decide +kernel
theorem dL_count_0 : decode cL_count 0 = .ok (.aload_n 2, 1) := by decide +kernel
theorem dL_count_1 : decode cL_count 1 = .ok (.iconst 0, 1) := by decide +kernel
theorem dL_count_2 : decode cL_count 2 = .ok (.aload_n 0, 1) := by decide +kernel
theorem dL_count_3 : decode cL_count 3 = .ok (.iload_n 1, 1) := by decide +kernel
theorem dL_count_4 : decode cL_count 4 = .ok (.invokevirtual 98, 3) := by decide +kernel
theorem dL_count_7 : decode cL_count 7 = .ok (.i2l, 1) := by decide +kernel
theorem dL_count_8 : decode cL_count 8 = .ok (.lastore, 1) := by decide +kernel
theorem dL_count_9 : decode cL_count 9 = .ok (.goto 6, 3) := by decide +kernel
theorem dL_count_12 : decode cL_count 12 = .ok (.astore_n 3, 1) := by decide +kernel
theorem dL_count_13 : decode cL_count 13 = .ok (.iconst 1, 1) := by decide +kernel
theorem dL_count_14 : decode cL_count 14 = .ok (.ireturn, 1) := by decide +kernel
theorem dL_count_15 : decode cL_count 15 = .ok (.iconst 0, 1) := by decide +kernel
theorem dL_count_16 : decode cL_count 16 = .ok (.ireturn, 1) := by decide +kernel
