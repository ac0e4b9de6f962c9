theorem dL_begin_0 : decode cL_begin 0 = .ok (.aload_n 2, 1) := by decide +kernel
theorem dL_begin_1 : decode cL_begin 1 = .ok (.iconst 0, 1) := by decide +kernel
theorem dL_begin_2 : decode cL_begin 2 = .ok (.aload_n 0, 1) := by decide +kernel
theorem dL_begin_3 : decode cL_begin 3 = .ok (.iload_n 1, 1) := by decide +kernel
theorem dL_begin_4 : decode cL_begin 4 = .ok (.invokevirtual 7, 3) := by decide +kernel
theorem dL_begin_7 : decode cL_begin 7 = .ok (.i2l, 1) := by decide +kernel
theorem dL_begin_8 : decode cL_begin 8 = .ok (.lastore, 1) := by decide +kernel
theorem dL_begin_9 : decode cL_begin 9 = .ok (.goto 9, 3) := by decide +kernel
theorem dL_begin_12 : decode cL_begin 12 = .ok (.astore_n 3, 1) := by decide +kernel
theorem dL_begin_13 : decode cL_begin 13 = .ok (.iconst 1, 1) := by decide +kernel
theorem dL_begin_14 : decode cL_begin 14 = .ok (.ireturn, 1) := by decide +kernel
theorem dL_begin_15 : decode cL_begin 15 = .ok (.astore_n 3, 1) := by decide +kernel
theorem dL_begin_16 : decode cL_begin 16 = .ok (.iconst 2, 1) := by decide +kernel
theorem dL_begin_17 : decode cL_begin 17 = .ok (.ireturn, 1) := by decide +kernel
theorem dL_begin_18 : decode cL_begin 18 = .ok (.iconst 0, 1) := by decide +kernel
theorem dL_begin_19 : decode cL_begin 19 = .ok (.ireturn, 1) := by decide +kernel
theorem dL_paint_0 : decode cL_paint 0 = .ok (.aload 7, 2) := by decide +kernel
theorem dL_paint_2 : decode cL_paint 2 = .ok (.iconst 0, 1) := by decide +kernel
theorem dL_paint_3 : decode cL_paint 3 = .ok (.aload_n 0, 1) := by decide +kernel
theorem dL_paint_4 : decode cL_paint 4 = .ok (.iload_n 1, 1) := by decide +kernel
theorem dL_paint_5 : decode cL_paint 5 = .ok (.iload_n 2, 1) := by decide +kernel
theorem dL_paint_6 : decode cL_paint 6 = .ok (.iload_n 3, 1) := by decide +kernel
theorem dL_paint_7 : decode cL_paint 7 = .ok (.iload 4, 2) := by decide +kernel
theorem dL_paint_9 : decode cL_paint 9 = .ok (.iload 5, 2) := by decide +kernel
theorem dL_paint_11 : decode cL_paint 11 = .ok (.iload 6, 2) := by decide +kernel
theorem dL_paint_13 : decode cL_paint 13 = .ok (.invokevirtual 17, 3) := by decide +kernel
theorem dL_paint_16 : decode cL_paint 16 = .ok (.i2l, 1) := by decide +kernel
theorem dL_paint_17 : decode cL_paint 17 = .ok (.lastore, 1) := by decide +kernel
theorem dL_paint_18 : decode cL_paint 18 = .ok (.goto 15, 3) := by decide +kernel
theorem dL_paint_21 : decode cL_paint 21 = .ok (.astore 8, 2) := by decide +kernel
theorem dL_paint_23 : decode cL_paint 23 = .ok (.iconst 1, 1) := by decide +kernel
theorem dL_paint_24 : decode cL_paint 24 = .ok (.ireturn, 1) := by decide +kernel
theorem dL_paint_25 : decode cL_paint 25 = .ok (.astore 8, 2) := by decide +kernel
theorem dL_paint_27 : decode cL_paint 27 = .ok (.iconst 2, 1) := by decide +kernel
theorem dL_paint_28 : decode cL_paint 28 = .ok (.ireturn, 1) := by decide +kernel
theorem dL_paint_29 : decode cL_paint 29 = .ok (.astore 8, 2) := by decide +kernel
theorem dL_paint_31 : decode cL_paint 31 = .ok (.iconst 3, 1) := by decide +kernel
theorem dL_paint_32 : decode cL_paint 32 = .ok (.ireturn, 1) := by decide +kernel
theorem dL_paint_33 : decode cL_paint 33 = .ok (.iconst 0, 1) := by decide +kernel
theorem dL_paint_34 : decode cL_paint 34 = .ok (.ireturn, 1) := by decide +kernel
theorem dL_split_0 : decode cL_split 0 = .ok (.aload 6, 2) := by decide +kernel
theorem dL_split_2 : decode cL_split 2 = .ok (.iconst 0, 1) := by decide +kernel
theorem dL_split_3 : decode cL_split 3 = .ok (.aload_n 0, 1) := by decide +kernel
theorem dL_split_4 : decode cL_split 4 = .ok (.iload_n 1, 1) := by decide +kernel
theorem dL_split_5 : decode cL_split 5 = .ok (.iload_n 2, 1) := by decide +kernel
theorem dL_split_6 : decode cL_split 6 = .ok (.iload_n 3, 1) := by decide +kernel
theorem dL_split_7 : decode cL_split 7 = .ok (.iload 4, 2) := by decide +kernel
theorem dL_split_9 : decode cL_split 9 = .ok (.iload 5, 2) := by decide +kernel
theorem dL_split_11 : decode cL_split 11 = .ok (.invokevirtual 23, 3) := by decide +kernel
theorem dL_split_14 : decode cL_split 14 = .ok (.i2l, 1) := by decide +kernel
theorem dL_split_15 : decode cL_split 15 = .ok (.lastore, 1) := by decide +kernel
theorem dL_split_16 : decode cL_split 16 = .ok (.goto 19, 3) := by decide +kernel
theorem dL_split_19 : decode cL_split 19 = .ok (.astore 7, 2) := by decide +kernel
theorem dL_split_21 : decode cL_split 21 = .ok (.iconst 1, 1) := by decide +kernel
theorem dL_split_22 : decode cL_split 22 = .ok (.ireturn, 1) := by decide +kernel
theorem dL_split_23 : decode cL_split 23 = .ok (.astore 7, 2) := by decide +kernel
theorem dL_split_25 : decode cL_split 25 = .ok (.iconst 2, 1) := by decide +kernel
theorem dL_split_26 : decode cL_split 26 = .ok (.ireturn, 1) := by decide +kernel
theorem dL_split_27 : decode cL_split 27 = .ok (.astore 7, 2) := by decide +kernel
theorem dL_split_29 : decode cL_split 29 = .ok (.iconst 3, 1) := by decide +kernel
theorem dL_split_30 : decode cL_split 30 = .ok (.ireturn, 1) := by decide +kernel
theorem dL_split_31 : decode cL_split 31 = .ok (.astore 7, 2) := by decide +kernel
theorem dL_split_33 : decode cL_split 33 = .ok (.iconst 4, 1) := by decide +kernel
theorem dL_split_34 : decode cL_split 34 = .ok (.ireturn, 1) := by decide +kernel
theorem dL_split_35 : decode cL_split 35 = .ok (.iconst 0, 1) := by decide +kernel
theorem dL_split_36 : decode cL_split 36 = .ok (.ireturn, 1) := by decide +kernel
theorem dL_merge_0 : decode cL_merge 0 = .ok (.aload 4, 2) := by decide +kernel
theorem dL_merge_2 : decode cL_merge 2 = .ok (.iconst 0, 1) := by decide +kernel
theorem dL_merge_3 : decode cL_merge 3 = .ok (.aload_n 0, 1) := by decide +kernel
theorem dL_merge_4 : decode cL_merge 4 = .ok (.iload_n 1, 1) := by decide +kernel
theorem dL_merge_5 : decode cL_merge 5 = .ok (.iload_n 2, 1) := by decide +kernel
theorem dL_merge_6 : decode cL_merge 6 = .ok (.iload_n 3, 1) := by decide +kernel
theorem dL_merge_7 : decode cL_merge 7 = .ok (.invokevirtual 29, 3) := by decide +kernel
theorem dL_merge_10 : decode cL_merge 10 = .ok (.i2l, 1) := by decide +kernel
theorem dL_merge_11 : decode cL_merge 11 = .ok (.lastore, 1) := by decide +kernel
theorem dL_merge_12 : decode cL_merge 12 = .ok (.goto 15, 3) := by decide +kernel
theorem dL_merge_15 : decode cL_merge 15 = .ok (.astore 5, 2) := by decide +kernel
theorem dL_merge_17 : decode cL_merge 17 = .ok (.iconst 1, 1) := by decide +kernel
theorem dL_merge_18 : decode cL_merge 18 = .ok (.ireturn, 1) := by decide +kernel
theorem dL_merge_19 : decode cL_merge 19 = .ok (.astore 5, 2) := by decide +kernel
theorem dL_merge_21 : decode cL_merge 21 = .ok (.iconst 2, 1) := by decide +kernel
theorem dL_merge_22 : decode cL_merge 22 = .ok (.ireturn, 1) := by decide +kernel
theorem dL_merge_23 : decode cL_merge 23 = .ok (.astore 5, 2) := by decide +kernel
theorem dL_merge_25 : decode cL_merge 25 = .ok (.iconst 3, 1) := by decide +kernel
theorem dL_merge_26 : decode cL_merge 26 = .ok (.ireturn, 1) := by decide +kernel
theorem dL_merge_27 : decode cL_merge 27 = .ok (.iconst 0, 1) := by decide +kernel
theorem dL_merge_28 : decode cL_merge 28 = .ok (.ireturn, 1) := by decide +kernel
theorem dL_setValue_0 : decode cL_setValue 0 = .ok (.aload 4, 2) := by decide +kernel
theorem dL_setValue_2 : decode cL_setValue 2 = .ok (.iconst 0, 1) := by decide +kernel
theorem dL_setValue_3 : decode cL_setValue 3 = .ok (.aload_n 0, 1) := by decide +kernel
theorem dL_setValue_4 : decode cL_setValue 4 = .ok (.iload_n 1, 1) := by decide +kernel
theorem dL_setValue_5 : decode cL_setValue 5 = .ok (.iload_n 2, 1) := by decide +kernel
theorem dL_setValue_6 : decode cL_setValue 6 = .ok (.iload_n 3, 1) := by decide +kernel
theorem dL_setValue_7 : decode cL_setValue 7 = .ok (.invokevirtual 33, 3) := by decide +kernel
theorem dL_setValue_10 : decode cL_setValue 10 = .ok (.i2l, 1) := by decide +kernel
theorem dL_setValue_11 : decode cL_setValue 11 = .ok (.lastore, 1) := by decide +kernel
theorem dL_setValue_12 : decode cL_setValue 12 = .ok (.goto 19, 3) := by decide +kernel
theorem dL_setValue_15 : decode cL_setValue 15 = .ok (.astore 5, 2) := by decide +kernel
theorem dL_setValue_17 : decode cL_setValue 17 = .ok (.iconst 1, 1) := by decide +kernel
theorem dL_setValue_18 : decode cL_setValue 18 = .ok (.ireturn, 1) := by decide +kernel
theorem dL_setValue_19 : decode cL_setValue 19 = .ok (.astore 5, 2) := by decide +kernel
theorem dL_setValue_21 : decode cL_setValue 21 = .ok (.iconst 2, 1) := by decide +kernel
theorem dL_setValue_22 : decode cL_setValue 22 = .ok (.ireturn, 1) := by decide +kernel
theorem dL_setValue_23 : decode cL_setValue 23 = .ok (.astore 5, 2) := by decide +kernel
theorem dL_setValue_25 : decode cL_setValue 25 = .ok (.iconst 3, 1) := by decide +kernel
theorem dL_setValue_26 : decode cL_setValue 26 = .ok (.ireturn, 1) := by decide +kernel
theorem dL_setValue_27 : decode cL_setValue 27 = .ok (.astore 5, 2) := by decide +kernel
theorem dL_setValue_29 : decode cL_setValue 29 = .ok (.iconst 4, 1) := by decide +kernel
theorem dL_setValue_30 : decode cL_setValue 30 = .ok (.ireturn, 1) := by decide +kernel
theorem dL_setValue_31 : decode cL_setValue 31 = .ok (.iconst 0, 1) := by decide +kernel
theorem dL_setValue_32 : decode cL_setValue 32 = .ok (.ireturn, 1) := by decide +kernel
theorem dL_setDivides_0 : decode cL_setDivides 0 = .ok (.aload_n 3, 1) := by decide +kernel
theorem dL_setDivides_1 : decode cL_setDivides 1 = .ok (.iconst 0, 1) := by decide +kernel
theorem dL_setDivides_2 : decode cL_setDivides 2 = .ok (.aload_n 0, 1) := by decide +kernel
theorem dL_setDivides_3 : decode cL_setDivides 3 = .ok (.iload_n 1, 1) := by decide +kernel
theorem dL_setDivides_4 : decode cL_setDivides 4 = .ok (.iload_n 2, 1) := by decide +kernel
theorem dL_setDivides_5 : decode cL_setDivides 5 = .ok (.invokevirtual 36, 3) := by decide +kernel
theorem dL_setDivides_8 : decode cL_setDivides 8 = .ok (.ifCond .eq 7, 3) := by decide +kernel
theorem dL_setDivides_11 : decode cL_setDivides 11 = .ok (.lconst 1, 1) := by decide +kernel
theorem dL_setDivides_12 : decode cL_setDivides 12 = .ok (.goto 4, 3) := by decide +kernel
theorem dL_setDivides_15 : decode cL_setDivides 15 = .ok (.lconst 0, 1) := by decide +kernel
theorem dL_setDivides_16 : decode cL_setDivides 16 = .ok (.lastore, 1) := by decide +kernel
theorem dL_setDivides_17 : decode cL_setDivides 17 = .ok (.goto 7, 3) := by decide +kernel
theorem dL_setDivides_20 : decode cL_setDivides 20 = .ok (.astore 4, 2) := by decide +kernel
theorem dL_setDivides_22 : decode cL_setDivides 22 = .ok (.iconst 1, 1) := by decide +kernel
theorem dL_setDivides_23 : decode cL_setDivides 23 = .ok (.ireturn, 1) := by decide +kernel
theorem dL_setDivides_24 : decode cL_setDivides 24 = .ok (.iconst 0, 1) := by decide +kernel
theorem dL_setDivides_25 : decode cL_setDivides 25 = .ok (.ireturn, 1) := by decide +kernel
theorem dL_sign_0 : decode cL_sign 0 = .ok (.aload_n 2, 1) := by decide +kernel
theorem dL_sign_1 : decode cL_sign 1 = .ok (.iconst 0, 1) := by decide +kernel
theorem dL_sign_2 : decode cL_sign 2 = .ok (.aload_n 0, 1) := by decide +kernel
theorem dL_sign_3 : decode cL_sign 3 = .ok (.iload_n 1, 1) := by decide +kernel
theorem dL_sign_4 : decode cL_sign 4 = .ok (.invokevirtual 40, 3) := by decide +kernel
theorem dL_sign_7 : decode cL_sign 7 = .ok (.i2l, 1) := by decide +kernel
theorem dL_sign_8 : decode cL_sign 8 = .ok (.lastore, 1) := by decide +kernel
theorem dL_sign_9 : decode cL_sign 9 = .ok (.goto 9, 3) := by decide +kernel
theorem dL_sign_12 : decode cL_sign 12 = .ok (.astore_n 3, 1) := by decide +kernel
theorem dL_sign_13 : decode cL_sign 13 = .ok (.iconst 1, 1) := by decide +kernel
theorem dL_sign_14 : decode cL_sign 14 = .ok (.ireturn, 1) := by decide +kernel
theorem dL_sign_15 : decode cL_sign 15 = .ok (.astore_n 3, 1) := by decide +kernel
theorem dL_sign_16 : decode cL_sign 16 = .ok (.iconst 2, 1) := by decide +kernel
theorem dL_sign_17 : decode cL_sign 17 = .ok (.ireturn, 1) := by decide +kernel
theorem dL_sign_18 : decode cL_sign 18 = .ok (.iconst 0, 1) := by decide +kernel
theorem dL_sign_19 : decode cL_sign 19 = .ok (.ireturn, 1) := by decide +kernel
theorem dL_keep_0 : decode cL_keep 0 = .ok (.aload_n 1, 1) := by decide +kernel
theorem dL_keep_1 : decode cL_keep 1 = .ok (.iconst 0, 1) := by decide +kernel
theorem dL_keep_2 : decode cL_keep 2 = .ok (.aload_n 0, 1) := by decide +kernel
theorem dL_keep_3 : decode cL_keep 3 = .ok (.invokevirtual 45, 3) := by decide +kernel
theorem dL_keep_6 : decode cL_keep 6 = .ok (.i2l, 1) := by decide +kernel
theorem dL_keep_7 : decode cL_keep 7 = .ok (.lastore, 1) := by decide +kernel
theorem dL_keep_8 : decode cL_keep 8 = .ok (.goto 9, 3) := by decide +kernel
theorem dL_keep_11 : decode cL_keep 11 = .ok (.astore_n 2, 1) := by decide +kernel
theorem dL_keep_12 : decode cL_keep 12 = .ok (.iconst 1, 1) := by decide +kernel
theorem dL_keep_13 : decode cL_keep 13 = .ok (.ireturn, 1) := by decide +kernel
theorem dL_keep_14 : decode cL_keep 14 = .ok (.astore_n 2, 1) := by decide +kernel
theorem dL_keep_15 : decode cL_keep 15 = .ok (.iconst 2, 1) := by decide +kernel
theorem dL_keep_16 : decode cL_keep 16 = .ok (.ireturn, 1) := by decide +kernel
theorem dL_keep_17 : decode cL_keep 17 = .ok (.iconst 0, 1) := by decide +kernel
theorem dL_keep_18 : decode cL_keep 18 = .ok (.ireturn, 1) := by decide +kernel
theorem dL_drop_0 : decode cL_drop 0 = .ok (.aload_n 1, 1) := by decide +kernel
theorem dL_drop_1 : decode cL_drop 1 = .ok (.iconst 0, 1) := by decide +kernel
theorem dL_drop_2 : decode cL_drop 2 = .ok (.aload_n 0, 1) := by decide +kernel
theorem dL_drop_3 : decode cL_drop 3 = .ok (.invokevirtual 49, 3) := by decide +kernel
theorem dL_drop_6 : decode cL_drop 6 = .ok (.i2l, 1) := by decide +kernel
theorem dL_drop_7 : decode cL_drop 7 = .ok (.lastore, 1) := by decide +kernel
theorem dL_drop_8 : decode cL_drop 8 = .ok (.goto 6, 3) := by decide +kernel
theorem dL_drop_11 : decode cL_drop 11 = .ok (.astore_n 2, 1) := by decide +kernel
theorem dL_drop_12 : decode cL_drop 12 = .ok (.iconst 1, 1) := by decide +kernel
theorem dL_drop_13 : decode cL_drop 13 = .ok (.ireturn, 1) := by decide +kernel
theorem dL_drop_14 : decode cL_drop 14 = .ok (.iconst 0, 1) := by decide +kernel
theorem dL_drop_15 : decode cL_drop 15 = .ok (.ireturn, 1) := by decide +kernel
theorem dL_addRule_0 : decode cL_addRule 0 = .ok (.aload 4, 2) := by decide +kernel
theorem dL_addRule_2 : decode cL_addRule 2 = .ok (.iconst 0, 1) := by decide +kernel
theorem dL_addRule_3 : decode cL_addRule 3 = .ok (.aload_n 0, 1) := by decide +kernel
theorem dL_addRule_4 : decode cL_addRule 4 = .ok (.iload_n 1, 1) := by decide +kernel
theorem dL_addRule_5 : decode cL_addRule 5 = .ok (.iload_n 2, 1) := by decide +kernel
theorem dL_addRule_6 : decode cL_addRule 6 = .ok (.iload_n 3, 1) := by decide +kernel
theorem dL_addRule_7 : decode cL_addRule 7 = .ok (.invokevirtual 52, 3) := by decide +kernel
theorem dL_addRule_10 : decode cL_addRule 10 = .ok (.i2l, 1) := by decide +kernel
theorem dL_addRule_11 : decode cL_addRule 11 = .ok (.lastore, 1) := by decide +kernel
theorem dL_addRule_12 : decode cL_addRule 12 = .ok (.goto 15, 3) := by decide +kernel
theorem dL_addRule_15 : decode cL_addRule 15 = .ok (.astore 5, 2) := by decide +kernel
theorem dL_addRule_17 : decode cL_addRule 17 = .ok (.iconst 1, 1) := by decide +kernel
theorem dL_addRule_18 : decode cL_addRule 18 = .ok (.ireturn, 1) := by decide +kernel
theorem dL_addRule_19 : decode cL_addRule 19 = .ok (.astore 5, 2) := by decide +kernel
theorem dL_addRule_21 : decode cL_addRule 21 = .ok (.iconst 2, 1) := by decide +kernel
theorem dL_addRule_22 : decode cL_addRule 22 = .ok (.ireturn, 1) := by decide +kernel
theorem dL_addRule_23 : decode cL_addRule 23 = .ok (.astore 5, 2) := by decide +kernel
theorem dL_addRule_25 : decode cL_addRule 25 = .ok (.iconst 3, 1) := by decide +kernel
theorem dL_addRule_26 : decode cL_addRule 26 = .ok (.ireturn, 1) := by decide +kernel
theorem dL_addRule_27 : decode cL_addRule 27 = .ok (.iconst 0, 1) := by decide +kernel
theorem dL_addRule_28 : decode cL_addRule 28 = .ok (.ireturn, 1) := by decide +kernel
theorem dL_broken_0 : decode cL_broken 0 = .ok (.aload_n 2, 1) := by decide +kernel
theorem dL_broken_1 : decode cL_broken 1 = .ok (.iconst 0, 1) := by decide +kernel
theorem dL_broken_2 : decode cL_broken 2 = .ok (.aload_n 0, 1) := by decide +kernel
theorem dL_broken_3 : decode cL_broken 3 = .ok (.iload_n 1, 1) := by decide +kernel
theorem dL_broken_4 : decode cL_broken 4 = .ok (.invokevirtual 56, 3) := by decide +kernel
theorem dL_broken_7 : decode cL_broken 7 = .ok (.i2l, 1) := by decide +kernel
theorem dL_broken_8 : decode cL_broken 8 = .ok (.lastore, 1) := by decide +kernel
theorem dL_broken_9 : decode cL_broken 9 = .ok (.goto 6, 3) := by decide +kernel
theorem dL_broken_12 : decode cL_broken 12 = .ok (.astore_n 3, 1) := by decide +kernel
theorem dL_broken_13 : decode cL_broken 13 = .ok (.iconst 1, 1) := by decide +kernel
theorem dL_broken_14 : decode cL_broken 14 = .ok (.ireturn, 1) := by decide +kernel
theorem dL_broken_15 : decode cL_broken 15 = .ok (.iconst 0, 1) := by decide +kernel
theorem dL_broken_16 : decode cL_broken 16 = .ok (.ireturn, 1) := by decide +kernel
theorem dL_leastBroken_0 : decode cL_leastBroken 0 = .ok (.aload_n 1, 1) := by decide +kernel
theorem dL_leastBroken_1 : decode cL_leastBroken 1 = .ok (.iconst 0, 1) := by decide +kernel
theorem dL_leastBroken_2 : decode cL_leastBroken 2 = .ok (.aload_n 0, 1) := by decide +kernel
theorem dL_leastBroken_3 : decode cL_leastBroken 3 = .ok (.invokevirtual 59, 3) := by decide +kernel
theorem dL_leastBroken_6 : decode cL_leastBroken 6 = .ok (.i2l, 1) := by decide +kernel
theorem dL_leastBroken_7 : decode cL_leastBroken 7 = .ok (.lastore, 1) := by decide +kernel
theorem dL_leastBroken_8 : decode cL_leastBroken 8 = .ok (.goto 6, 3) := by decide +kernel
theorem dL_leastBroken_11 : decode cL_leastBroken 11 = .ok (.astore_n 2, 1) := by decide +kernel
theorem dL_leastBroken_12 : decode cL_leastBroken 12 = .ok (.iconst 1, 1) := by decide +kernel
theorem dL_leastBroken_13 : decode cL_leastBroken 13 = .ok (.ireturn, 1) := by decide +kernel
theorem dL_leastBroken_14 : decode cL_leastBroken 14 = .ok (.iconst 0, 1) := by decide +kernel
theorem dL_leastBroken_15 : decode cL_leastBroken 15 = .ok (.ireturn, 1) := by decide +kernel
theorem dL_areaAt_0 : decode cL_areaAt 0 = .ok (.aload_n 3, 1) := by decide +kernel
theorem dL_areaAt_1 : decode cL_areaAt 1 = .ok (.iconst 0, 1) := by decide +kernel
theorem dL_areaAt_2 : decode cL_areaAt 2 = .ok (.aload_n 0, 1) := by decide +kernel
theorem dL_areaAt_3 : decode cL_areaAt 3 = .ok (.iload_n 1, 1) := by decide +kernel
theorem dL_areaAt_4 : decode cL_areaAt 4 = .ok (.iload_n 2, 1) := by decide +kernel
theorem dL_areaAt_5 : decode cL_areaAt 5 = .ok (.invokevirtual 62, 3) := by decide +kernel
theorem dL_areaAt_8 : decode cL_areaAt 8 = .ok (.i2l, 1) := by decide +kernel
theorem dL_areaAt_9 : decode cL_areaAt 9 = .ok (.lastore, 1) := by decide +kernel
theorem dL_areaAt_10 : decode cL_areaAt 10 = .ok (.goto 7, 3) := by decide +kernel
theorem dL_areaAt_13 : decode cL_areaAt 13 = .ok (.astore 4, 2) := by decide +kernel
theorem dL_areaAt_15 : decode cL_areaAt 15 = .ok (.iconst 1, 1) := by decide +kernel
theorem dL_areaAt_16 : decode cL_areaAt 16 = .ok (.ireturn, 1) := by decide +kernel
theorem dL_areaAt_17 : decode cL_areaAt 17 = .ok (.iconst 0, 1) := by decide +kernel
theorem dL_areaAt_18 : decode cL_areaAt 18 = .ok (.ireturn, 1) := by decide +kernel
theorem dL_areaThen_0 : decode cL_areaThen 0 = .ok (.aload 4, 2) := by decide +kernel
theorem dL_areaThen_2 : decode cL_areaThen 2 = .ok (.iconst 0, 1) := by decide +kernel
theorem dL_areaThen_3 : decode cL_areaThen 3 = .ok (.aload_n 0, 1) := by decide +kernel
theorem dL_areaThen_4 : decode cL_areaThen 4 = .ok (.iload_n 1, 1) := by decide +kernel
theorem dL_areaThen_5 : decode cL_areaThen 5 = .ok (.iload_n 2, 1) := by decide +kernel
theorem dL_areaThen_6 : decode cL_areaThen 6 = .ok (.iload_n 3, 1) := by decide +kernel
theorem dL_areaThen_7 : decode cL_areaThen 7 = .ok (.invokevirtual 66, 3) := by decide +kernel
theorem dL_areaThen_10 : decode cL_areaThen 10 = .ok (.i2l, 1) := by decide +kernel
theorem dL_areaThen_11 : decode cL_areaThen 11 = .ok (.lastore, 1) := by decide +kernel
theorem dL_areaThen_12 : decode cL_areaThen 12 = .ok (.goto 11, 3) := by decide +kernel
theorem dL_areaThen_15 : decode cL_areaThen 15 = .ok (.astore 5, 2) := by decide +kernel
theorem dL_areaThen_17 : decode cL_areaThen 17 = .ok (.iconst 1, 1) := by decide +kernel
theorem dL_areaThen_18 : decode cL_areaThen 18 = .ok (.ireturn, 1) := by decide +kernel
theorem dL_areaThen_19 : decode cL_areaThen 19 = .ok (.astore 5, 2) := by decide +kernel
theorem dL_areaThen_21 : decode cL_areaThen 21 = .ok (.iconst 2, 1) := by decide +kernel
theorem dL_areaThen_22 : decode cL_areaThen 22 = .ok (.ireturn, 1) := by decide +kernel
theorem dL_areaThen_23 : decode cL_areaThen 23 = .ok (.iconst 0, 1) := by decide +kernel
theorem dL_areaThen_24 : decode cL_areaThen 24 = .ok (.ireturn, 1) := by decide +kernel
theorem dL_authorOf_0 : decode cL_authorOf 0 = .ok (.aload 4, 2) := by decide +kernel
theorem dL_authorOf_2 : decode cL_authorOf 2 = .ok (.iconst 0, 1) := by decide +kernel
theorem dL_authorOf_3 : decode cL_authorOf 3 = .ok (.aload_n 0, 1) := by decide +kernel
theorem dL_authorOf_4 : decode cL_authorOf 4 = .ok (.iload_n 1, 1) := by decide +kernel
theorem dL_authorOf_5 : decode cL_authorOf 5 = .ok (.iload_n 2, 1) := by decide +kernel
theorem dL_authorOf_6 : decode cL_authorOf 6 = .ok (.iload_n 3, 1) := by decide +kernel
theorem dL_authorOf_7 : decode cL_authorOf 7 = .ok (.invokevirtual 69, 3) := by decide +kernel
theorem dL_authorOf_10 : decode cL_authorOf 10 = .ok (.i2l, 1) := by decide +kernel
theorem dL_authorOf_11 : decode cL_authorOf 11 = .ok (.lastore, 1) := by decide +kernel
theorem dL_authorOf_12 : decode cL_authorOf 12 = .ok (.goto 15, 3) := by decide +kernel
theorem dL_authorOf_15 : decode cL_authorOf 15 = .ok (.astore 5, 2) := by decide +kernel
theorem dL_authorOf_17 : decode cL_authorOf 17 = .ok (.iconst 1, 1) := by decide +kernel
theorem dL_authorOf_18 : decode cL_authorOf 18 = .ok (.ireturn, 1) := by decide +kernel
theorem dL_authorOf_19 : decode cL_authorOf 19 = .ok (.astore 5, 2) := by decide +kernel
theorem dL_authorOf_21 : decode cL_authorOf 21 = .ok (.iconst 2, 1) := by decide +kernel
theorem dL_authorOf_22 : decode cL_authorOf 22 = .ok (.ireturn, 1) := by decide +kernel
theorem dL_authorOf_23 : decode cL_authorOf 23 = .ok (.astore 5, 2) := by decide +kernel
theorem dL_authorOf_25 : decode cL_authorOf 25 = .ok (.iconst 3, 1) := by decide +kernel
theorem dL_authorOf_26 : decode cL_authorOf 26 = .ok (.ireturn, 1) := by decide +kernel
theorem dL_authorOf_27 : decode cL_authorOf 27 = .ok (.iconst 0, 1) := by decide +kernel
theorem dL_authorOf_28 : decode cL_authorOf 28 = .ok (.ireturn, 1) := by decide +kernel
theorem dL_size_0 : decode cL_size 0 = .ok (.aload_n 3, 1) := by decide +kernel
theorem dL_size_1 : decode cL_size 1 = .ok (.iconst 0, 1) := by decide +kernel
theorem dL_size_2 : decode cL_size 2 = .ok (.aload_n 0, 1) := by decide +kernel
theorem dL_size_3 : decode cL_size 3 = .ok (.iload_n 1, 1) := by decide +kernel
theorem dL_size_4 : decode cL_size 4 = .ok (.iload_n 2, 1) := by decide +kernel
theorem dL_size_5 : decode cL_size 5 = .ok (.invokevirtual 72, 3) := by decide +kernel
theorem dL_size_8 : decode cL_size 8 = .ok (.i2l, 1) := by decide +kernel
theorem dL_size_9 : decode cL_size 9 = .ok (.lastore, 1) := by decide +kernel
theorem dL_size_10 : decode cL_size 10 = .ok (.goto 11, 3) := by decide +kernel
theorem dL_size_13 : decode cL_size 13 = .ok (.astore 4, 2) := by decide +kernel
theorem dL_size_15 : decode cL_size 15 = .ok (.iconst 1, 1) := by decide +kernel
theorem dL_size_16 : decode cL_size 16 = .ok (.ireturn, 1) := by decide +kernel
theorem dL_size_17 : decode cL_size 17 = .ok (.astore 4, 2) := by decide +kernel
theorem dL_size_19 : decode cL_size 19 = .ok (.iconst 2, 1) := by decide +kernel
theorem dL_size_20 : decode cL_size 20 = .ok (.ireturn, 1) := by decide +kernel
theorem dL_size_21 : decode cL_size 21 = .ok (.iconst 0, 1) := by decide +kernel
theorem dL_size_22 : decode cL_size 22 = .ok (.ireturn, 1) := by decide +kernel
theorem dL_value_0 : decode cL_value 0 = .ok (.aload_n 3, 1) := by decide +kernel
theorem dL_value_1 : decode cL_value 1 = .ok (.iconst 0, 1) := by decide +kernel
theorem dL_value_2 : decode cL_value 2 = .ok (.aload_n 0, 1) := by decide +kernel
theorem dL_value_3 : decode cL_value 3 = .ok (.iload_n 1, 1) := by decide +kernel
theorem dL_value_4 : decode cL_value 4 = .ok (.iload_n 2, 1) := by decide +kernel
theorem dL_value_5 : decode cL_value 5 = .ok (.invokevirtual 75, 3) := by decide +kernel
theorem dL_value_8 : decode cL_value 8 = .ok (.i2l, 1) := by decide +kernel
theorem dL_value_9 : decode cL_value 9 = .ok (.lastore, 1) := by decide +kernel
theorem dL_value_10 : decode cL_value 10 = .ok (.goto 11, 3) := by decide +kernel
theorem dL_value_13 : decode cL_value 13 = .ok (.astore 4, 2) := by decide +kernel
theorem dL_value_15 : decode cL_value 15 = .ok (.iconst 1, 1) := by decide +kernel
theorem dL_value_16 : decode cL_value 16 = .ok (.ireturn, 1) := by decide +kernel
theorem dL_value_17 : decode cL_value 17 = .ok (.astore 4, 2) := by decide +kernel
theorem dL_value_19 : decode cL_value 19 = .ok (.iconst 2, 1) := by decide +kernel
theorem dL_value_20 : decode cL_value 20 = .ok (.ireturn, 1) := by decide +kernel
theorem dL_value_21 : decode cL_value 21 = .ok (.iconst 0, 1) := by decide +kernel
theorem dL_value_22 : decode cL_value 22 = .ok (.ireturn, 1) := by decide +kernel
theorem dL_rim_0 : decode cL_rim 0 = .ok (.aload_n 3, 1) := by decide +kernel
theorem dL_rim_1 : decode cL_rim 1 = .ok (.iconst 0, 1) := by decide +kernel
theorem dL_rim_2 : decode cL_rim 2 = .ok (.aload_n 0, 1) := by decide +kernel
theorem dL_rim_3 : decode cL_rim 3 = .ok (.iload_n 1, 1) := by decide +kernel
theorem dL_rim_4 : decode cL_rim 4 = .ok (.iload_n 2, 1) := by decide +kernel
theorem dL_rim_5 : decode cL_rim 5 = .ok (.invokevirtual 78, 3) := by decide +kernel
theorem dL_rim_8 : decode cL_rim 8 = .ok (.i2l, 1) := by decide +kernel
theorem dL_rim_9 : decode cL_rim 9 = .ok (.lastore, 1) := by decide +kernel
theorem dL_rim_10 : decode cL_rim 10 = .ok (.goto 11, 3) := by decide +kernel
theorem dL_rim_13 : decode cL_rim 13 = .ok (.astore 4, 2) := by decide +kernel
theorem dL_rim_15 : decode cL_rim 15 = .ok (.iconst 1, 1) := by decide +kernel
theorem dL_rim_16 : decode cL_rim 16 = .ok (.ireturn, 1) := by decide +kernel
theorem dL_rim_17 : decode cL_rim 17 = .ok (.astore 4, 2) := by decide +kernel
theorem dL_rim_19 : decode cL_rim 19 = .ok (.iconst 2, 1) := by decide +kernel
theorem dL_rim_20 : decode cL_rim 20 = .ok (.ireturn, 1) := by decide +kernel
theorem dL_rim_21 : decode cL_rim 21 = .ok (.iconst 0, 1) := by decide +kernel
theorem dL_rim_22 : decode cL_rim 22 = .ok (.ireturn, 1) := by decide +kernel
theorem dL_border_0 : decode cL_border 0 = .ok (.aload 4, 2) := by decide +kernel
theorem dL_border_2 : decode cL_border 2 = .ok (.iconst 0, 1) := by decide +kernel
theorem dL_border_3 : decode cL_border 3 = .ok (.aload_n 0, 1) := by decide +kernel
theorem dL_border_4 : decode cL_border 4 = .ok (.iload_n 1, 1) := by decide +kernel
theorem dL_border_5 : decode cL_border 5 = .ok (.iload_n 2, 1) := by decide +kernel
theorem dL_border_6 : decode cL_border 6 = .ok (.iload_n 3, 1) := by decide +kernel
theorem dL_border_7 : decode cL_border 7 = .ok (.invokevirtual 81, 3) := by decide +kernel
theorem dL_border_10 : decode cL_border 10 = .ok (.i2l, 1) := by decide +kernel
theorem dL_border_11 : decode cL_border 11 = .ok (.lastore, 1) := by decide +kernel
theorem dL_border_12 : decode cL_border 12 = .ok (.goto 11, 3) := by decide +kernel
theorem dL_border_15 : decode cL_border 15 = .ok (.astore 5, 2) := by decide +kernel
theorem dL_border_17 : decode cL_border 17 = .ok (.iconst 1, 1) := by decide +kernel
theorem dL_border_18 : decode cL_border 18 = .ok (.ireturn, 1) := by decide +kernel
theorem dL_border_19 : decode cL_border 19 = .ok (.astore 5, 2) := by decide +kernel
theorem dL_border_21 : decode cL_border 21 = .ok (.iconst 2, 1) := by decide +kernel
theorem dL_border_22 : decode cL_border 22 = .ok (.ireturn, 1) := by decide +kernel
theorem dL_border_23 : decode cL_border 23 = .ok (.iconst 0, 1) := by decide +kernel
theorem dL_border_24 : decode cL_border 24 = .ok (.ireturn, 1) := by decide +kernel
theorem dL_distance_0 : decode cL_distance 0 = .ok (.aload 4, 2) := by decide +kernel
theorem dL_distance_2 : decode cL_distance 2 = .ok (.iconst 0, 1) := by decide +kernel
theorem dL_distance_3 : decode cL_distance 3 = .ok (.aload_n 0, 1) := by decide +kernel
theorem dL_distance_4 : decode cL_distance 4 = .ok (.iload_n 1, 1) := by decide +kernel
theorem dL_distance_5 : decode cL_distance 5 = .ok (.iload_n 2, 1) := by decide +kernel
theorem dL_distance_6 : decode cL_distance 6 = .ok (.iload_n 3, 1) := by decide +kernel
theorem dL_distance_7 : decode cL_distance 7 = .ok (.invokevirtual 84, 3) := by decide +kernel
theorem dL_distance_10 : decode cL_distance 10 = .ok (.i2l, 1) := by decide +kernel
theorem dL_distance_11 : decode cL_distance 11 = .ok (.lastore, 1) := by decide +kernel
theorem dL_distance_12 : decode cL_distance 12 = .ok (.goto 15, 3) := by decide +kernel
theorem dL_distance_15 : decode cL_distance 15 = .ok (.astore 5, 2) := by decide +kernel
theorem dL_distance_17 : decode cL_distance 17 = .ok (.iconst 1, 1) := by decide +kernel
theorem dL_distance_18 : decode cL_distance 18 = .ok (.ireturn, 1) := by decide +kernel
theorem dL_distance_19 : decode cL_distance 19 = .ok (.astore 5, 2) := by decide +kernel
theorem dL_distance_21 : decode cL_distance 21 = .ok (.iconst 2, 1) := by decide +kernel
theorem dL_distance_22 : decode cL_distance 22 = .ok (.ireturn, 1) := by decide +kernel
theorem dL_distance_23 : decode cL_distance 23 = .ok (.astore 5, 2) := by decide +kernel
theorem dL_distance_25 : decode cL_distance 25 = .ok (.iconst 3, 1) := by decide +kernel
theorem dL_distance_26 : decode cL_distance 26 = .ok (.ireturn, 1) := by decide +kernel
theorem dL_distance_27 : decode cL_distance 27 = .ok (.iconst 0, 1) := by decide +kernel
theorem dL_distance_28 : decode cL_distance 28 = .ok (.ireturn, 1) := by decide +kernel
theorem dL_nearest_0 : decode cL_nearest 0 = .ok (.aload_n 3, 1) := by decide +kernel
theorem dL_nearest_1 : decode cL_nearest 1 = .ok (.iconst 0, 1) := by decide +kernel
theorem dL_nearest_2 : decode cL_nearest 2 = .ok (.aload_n 0, 1) := by decide +kernel
theorem dL_nearest_3 : decode cL_nearest 3 = .ok (.iload_n 1, 1) := by decide +kernel
theorem dL_nearest_4 : decode cL_nearest 4 = .ok (.iload_n 2, 1) := by decide +kernel
theorem dL_nearest_5 : decode cL_nearest 5 = .ok (.invokevirtual 87, 3) := by decide +kernel
theorem dL_nearest_8 : decode cL_nearest 8 = .ok (.i2l, 1) := by decide +kernel
theorem dL_nearest_9 : decode cL_nearest 9 = .ok (.lastore, 1) := by decide +kernel
theorem dL_nearest_10 : decode cL_nearest 10 = .ok (.goto 15, 3) := by decide +kernel
theorem dL_nearest_13 : decode cL_nearest 13 = .ok (.astore 4, 2) := by decide +kernel
theorem dL_nearest_15 : decode cL_nearest 15 = .ok (.iconst 1, 1) := by decide +kernel
theorem dL_nearest_16 : decode cL_nearest 16 = .ok (.ireturn, 1) := by decide +kernel
theorem dL_nearest_17 : decode cL_nearest 17 = .ok (.astore 4, 2) := by decide +kernel
theorem dL_nearest_19 : decode cL_nearest 19 = .ok (.iconst 2, 1) := by decide +kernel
theorem dL_nearest_20 : decode cL_nearest 20 = .ok (.ireturn, 1) := by decide +kernel
theorem dL_nearest_21 : decode cL_nearest 21 = .ok (.astore 4, 2) := by decide +kernel
theorem dL_nearest_23 : decode cL_nearest 23 = .ok (.iconst 3, 1) := by decide +kernel
theorem dL_nearest_24 : decode cL_nearest 24 = .ok (.ireturn, 1) := by decide +kernel
theorem dL_nearest_25 : decode cL_nearest 25 = .ok (.iconst 0, 1) := by decide +kernel
theorem dL_nearest_26 : decode cL_nearest 26 = .ok (.ireturn, 1) := by decide +kernel
theorem dL_belt_0 : decode cL_belt 0 = .ok (.aload 4, 2) := by decide +kernel
theorem dL_belt_2 : decode cL_belt 2 = .ok (.iconst 0, 1) := by decide +kernel
theorem dL_belt_3 : decode cL_belt 3 = .ok (.aload_n 0, 1) := by decide +kernel
theorem dL_belt_4 : decode cL_belt 4 = .ok (.iload_n 1, 1) := by decide +kernel
theorem dL_belt_5 : decode cL_belt 5 = .ok (.iload_n 2, 1) := by decide +kernel
theorem dL_belt_6 : decode cL_belt 6 = .ok (.iload_n 3, 1) := by decide +kernel
theorem dL_belt_7 : decode cL_belt 7 = .ok (.invokevirtual 90, 3) := by decide +kernel
theorem dL_belt_10 : decode cL_belt 10 = .ok (.i2l, 1) := by decide +kernel
theorem dL_belt_11 : decode cL_belt 11 = .ok (.lastore, 1) := by decide +kernel
theorem dL_belt_12 : decode cL_belt 12 = .ok (.goto 11, 3) := by decide +kernel
theorem dL_belt_15 : decode cL_belt 15 = .ok (.astore 5, 2) := by decide +kernel
theorem dL_belt_17 : decode cL_belt 17 = .ok (.iconst 1, 1) := by decide +kernel
theorem dL_belt_18 : decode cL_belt 18 = .ok (.ireturn, 1) := by decide +kernel
theorem dL_belt_19 : decode cL_belt 19 = .ok (.astore 5, 2) := by decide +kernel
theorem dL_belt_21 : decode cL_belt 21 = .ok (.iconst 2, 1) := by decide +kernel
theorem dL_belt_22 : decode cL_belt 22 = .ok (.ireturn, 1) := by decide +kernel
theorem dL_belt_23 : decode cL_belt 23 = .ok (.iconst 0, 1) := by decide +kernel
theorem dL_belt_24 : decode cL_belt 24 = .ok (.ireturn, 1) := by decide +kernel
theorem dL_checkOut_0 : decode cL_checkOut 0 = .ok (.aload 6, 2) := by decide +kernel
theorem dL_checkOut_2 : decode cL_checkOut 2 = .ok (.iconst 0, 1) := by decide +kernel
theorem dL_checkOut_3 : decode cL_checkOut 3 = .ok (.aload_n 0, 1) := by decide +kernel
theorem dL_checkOut_4 : decode cL_checkOut 4 = .ok (.iload_n 1, 1) := by decide +kernel
theorem dL_checkOut_5 : decode cL_checkOut 5 = .ok (.iload_n 2, 1) := by decide +kernel
theorem dL_checkOut_6 : decode cL_checkOut 6 = .ok (.iload_n 3, 1) := by decide +kernel
theorem dL_checkOut_7 : decode cL_checkOut 7 = .ok (.iload 4, 2) := by decide +kernel
theorem dL_checkOut_9 : decode cL_checkOut 9 = .ok (.iload 5, 2) := by decide +kernel
theorem dL_checkOut_11 : decode cL_checkOut 11 = .ok (.invokevirtual 93, 3) := by decide +kernel
theorem dL_checkOut_14 : decode cL_checkOut 14 = .ok (.i2l, 1) := by decide +kernel
theorem dL_checkOut_15 : decode cL_checkOut 15 = .ok (.lastore, 1) := by decide +kernel
theorem dL_checkOut_16 : decode cL_checkOut 16 = .ok (.goto 15, 3) := by decide +kernel
theorem dL_checkOut_19 : decode cL_checkOut 19 = .ok (.astore 7, 2) := by decide +kernel
theorem dL_checkOut_21 : decode cL_checkOut 21 = .ok (.iconst 1, 1) := by decide +kernel
theorem dL_checkOut_22 : decode cL_checkOut 22 = .ok (.ireturn, 1) := by decide +kernel
theorem dL_checkOut_23 : decode cL_checkOut 23 = .ok (.astore 7, 2) := by decide +kernel
theorem dL_checkOut_25 : decode cL_checkOut 25 = .ok (.iconst 2, 1) := by decide +kernel
theorem dL_checkOut_26 : decode cL_checkOut 26 = .ok (.ireturn, 1) := by decide +kernel
theorem dL_checkOut_27 : decode cL_checkOut 27 = .ok (.astore 7, 2) := by decide +kernel
theorem dL_checkOut_29 : decode cL_checkOut 29 = .ok (.iconst 3, 1) := by decide +kernel
theorem dL_checkOut_30 : decode cL_checkOut 30 = .ok (.ireturn, 1) := by decide +kernel
theorem dL_checkOut_31 : decode cL_checkOut 31 = .ok (.iconst 0, 1) := by decide +kernel
theorem dL_checkOut_32 : decode cL_checkOut 32 = .ok (.ireturn, 1) := by decide +kernel
theorem dL_change_0 : decode cL_change 0 = .ok (.aload 4, 2) := by decide +kernel
theorem dL_change_2 : decode cL_change 2 = .ok (.iconst 0, 1) := by decide +kernel
theorem dL_change_3 : decode cL_change 3 = .ok (.aload_n 0, 1) := by decide +kernel
theorem dL_change_4 : decode cL_change 4 = .ok (.iload_n 1, 1) := by decide +kernel
theorem dL_change_5 : decode cL_change 5 = .ok (.iload_n 2, 1) := by decide +kernel
theorem dL_change_6 : decode cL_change 6 = .ok (.iload_n 3, 1) := by decide +kernel
theorem dL_change_7 : decode cL_change 7 = .ok (.invokevirtual 97, 3) := by decide +kernel
theorem dL_change_10 : decode cL_change 10 = .ok (.i2l, 1) := by decide +kernel
theorem dL_change_11 : decode cL_change 11 = .ok (.lastore, 1) := by decide +kernel
theorem dL_change_12 : decode cL_change 12 = .ok (.goto 15, 3) := by decide +kernel
theorem dL_change_15 : decode cL_change 15 = .ok (.astore 5, 2) := by decide +kernel
theorem dL_change_17 : decode cL_change 17 = .ok (.iconst 1, 1) := by decide +kernel
theorem dL_change_18 : decode cL_change 18 = .ok (.ireturn, 1) := by decide +kernel
theorem dL_change_19 : decode cL_change 19 = .ok (.astore 5, 2) := by decide +kernel
theorem dL_change_21 : decode cL_change 21 = .ok (.iconst 2, 1) := by decide +kernel
theorem dL_change_22 : decode cL_change 22 = .ok (.ireturn, 1) := by decide +kernel
theorem dL_change_23 : decode cL_change 23 = .ok (.astore 5, 2) := by decide +kernel
theorem dL_change_25 : decode cL_change 25 = .ok (.iconst 3, 1) := by decide +kernel
theorem dL_change_26 : decode cL_change 26 = .ok (.ireturn, 1) := by decide +kernel
theorem dL_change_27 : decode cL_change 27 = .ok (.iconst 0, 1) := by decide +kernel
theorem dL_change_28 : decode cL_change 28 = .ok (.ireturn, 1) := by decide +kernel
theorem dL_conflicts_0 : decode cL_conflicts 0 = .ok (.aload_n 2, 1) := by decide +kernel
theorem dL_conflicts_1 : decode cL_conflicts 1 = .ok (.iconst 0, 1) := by decide +kernel
theorem dL_conflicts_2 : decode cL_conflicts 2 = .ok (.aload_n 0, 1) := by decide +kernel
theorem dL_conflicts_3 : decode cL_conflicts 3 = .ok (.iload_n 1, 1) := by decide +kernel
theorem dL_conflicts_4 : decode cL_conflicts 4 = .ok (.invokevirtual 100, 3) := by decide +kernel
theorem dL_conflicts_7 : decode cL_conflicts 7 = .ok (.i2l, 1) := by decide +kernel
theorem dL_conflicts_8 : decode cL_conflicts 8 = .ok (.lastore, 1) := by decide +kernel
theorem dL_conflicts_9 : decode cL_conflicts 9 = .ok (.goto 6, 3) := by decide +kernel
theorem dL_conflicts_12 : decode cL_conflicts 12 = .ok (.astore_n 3, 1) := by decide +kernel
theorem dL_conflicts_13 : decode cL_conflicts 13 = .ok (.iconst 1, 1) := by decide +kernel
theorem dL_conflicts_14 : decode cL_conflicts 14 = .ok (.ireturn, 1) := by decide +kernel
theorem dL_conflicts_15 : decode cL_conflicts 15 = .ok (.iconst 0, 1) := by decide +kernel
theorem dL_conflicts_16 : decode cL_conflicts 16 = .ok (.ireturn, 1) := by decide +kernel
theorem dL_clashes_0 : decode cL_clashes 0 = .ok (.aload_n 2, 1) := by decide +kernel
theorem dL_clashes_1 : decode cL_clashes 1 = .ok (.iconst 0, 1) := by decide +kernel
theorem dL_clashes_2 : decode cL_clashes 2 = .ok (.aload_n 0, 1) := by decide +kernel
theorem dL_clashes_3 : decode cL_clashes 3 = .ok (.iload_n 1, 1) := by decide +kernel
theorem dL_clashes_4 : decode cL_clashes 4 = .ok (.invokevirtual 103, 3) := by decide +kernel
theorem dL_clashes_7 : decode cL_clashes 7 = .ok (.i2l, 1) := by decide +kernel
theorem dL_clashes_8 : decode cL_clashes 8 = .ok (.lastore, 1) := by decide +kernel
theorem dL_clashes_9 : decode cL_clashes 9 = .ok (.goto 6, 3) := by decide +kernel
theorem dL_clashes_12 : decode cL_clashes 12 = .ok (.astore_n 3, 1) := by decide +kernel
theorem dL_clashes_13 : decode cL_clashes 13 = .ok (.iconst 1, 1) := by decide +kernel
theorem dL_clashes_14 : decode cL_clashes 14 = .ok (.ireturn, 1) := by decide +kernel
theorem dL_clashes_15 : decode cL_clashes 15 = .ok (.iconst 0, 1) := by decide +kernel
theorem dL_clashes_16 : decode cL_clashes 16 = .ok (.ireturn, 1) := by decide +kernel
theorem dL_reconcile_0 : decode cL_reconcile 0 = .ok (.aload_n 3, 1) := by decide +kernel
theorem dL_reconcile_1 : decode cL_reconcile 1 = .ok (.iconst 0, 1) := by decide +kernel
theorem dL_reconcile_2 : decode cL_reconcile 2 = .ok (.aload_n 0, 1) := by decide +kernel
theorem dL_reconcile_3 : decode cL_reconcile 3 = .ok (.iload_n 1, 1) := by decide +kernel
theorem dL_reconcile_4 : decode cL_reconcile 4 = .ok (.iload_n 2, 1) := by decide +kernel
theorem dL_reconcile_5 : decode cL_reconcile 5 = .ok (.invokevirtual 106, 3) := by decide +kernel
theorem dL_reconcile_8 : decode cL_reconcile 8 = .ok (.i2l, 1) := by decide +kernel
theorem dL_reconcile_9 : decode cL_reconcile 9 = .ok (.lastore, 1) := by decide +kernel
theorem dL_reconcile_10 : decode cL_reconcile 10 = .ok (.goto 15, 3) := by decide +kernel
theorem dL_reconcile_13 : decode cL_reconcile 13 = .ok (.astore 4, 2) := by decide +kernel
theorem dL_reconcile_15 : decode cL_reconcile 15 = .ok (.iconst 1, 1) := by decide +kernel
theorem dL_reconcile_16 : decode cL_reconcile 16 = .ok (.ireturn, 1) := by decide +kernel
theorem dL_reconcile_17 : decode cL_reconcile 17 = .ok (.astore 4, 2) := by decide +kernel
theorem dL_reconcile_19 : decode cL_reconcile 19 = .ok (.iconst 2, 1) := by decide +kernel
theorem dL_reconcile_20 : decode cL_reconcile 20 = .ok (.ireturn, 1) := by decide +kernel
theorem dL_reconcile_21 : decode cL_reconcile 21 = .ok (.astore 4, 2) := by decide +kernel
theorem dL_reconcile_23 : decode cL_reconcile 23 = .ok (.iconst 3, 1) := by decide +kernel
theorem dL_reconcile_24 : decode cL_reconcile 24 = .ok (.ireturn, 1) := by decide +kernel
theorem dL_reconcile_25 : decode cL_reconcile 25 = .ok (.iconst 0, 1) := by decide +kernel
theorem dL_reconcile_26 : decode cL_reconcile 26 = .ok (.ireturn, 1) := by decide +kernel
theorem dL_pieces_0 : decode cL_pieces 0 = .ok (.aload_n 3, 1) := by decide +kernel
theorem dL_pieces_1 : decode cL_pieces 1 = .ok (.iconst 0, 1) := by decide +kernel
theorem dL_pieces_2 : decode cL_pieces 2 = .ok (.aload_n 0, 1) := by decide +kernel
theorem dL_pieces_3 : decode cL_pieces 3 = .ok (.iload_n 1, 1) := by decide +kernel
theorem dL_pieces_4 : decode cL_pieces 4 = .ok (.iload_n 2, 1) := by decide +kernel
theorem dL_pieces_5 : decode cL_pieces 5 = .ok (.invokevirtual 110, 3) := by decide +kernel
theorem dL_pieces_8 : decode cL_pieces 8 = .ok (.i2l, 1) := by decide +kernel
theorem dL_pieces_9 : decode cL_pieces 9 = .ok (.lastore, 1) := by decide +kernel
theorem dL_pieces_10 : decode cL_pieces 10 = .ok (.goto 7, 3) := by decide +kernel
theorem dL_pieces_13 : decode cL_pieces 13 = .ok (.astore 4, 2) := by decide +kernel
theorem dL_pieces_15 : decode cL_pieces 15 = .ok (.iconst 1, 1) := by decide +kernel
theorem dL_pieces_16 : decode cL_pieces 16 = .ok (.ireturn, 1) := by decide +kernel
theorem dL_pieces_17 : decode cL_pieces 17 = .ok (.iconst 0, 1) := by decide +kernel
theorem dL_pieces_18 : decode cL_pieces 18 = .ok (.ireturn, 1) := by decide +kernel
theorem dL_pieceSize_0 : decode cL_pieceSize 0 = .ok (.aload 4, 2) := by decide +kernel
theorem dL_pieceSize_2 : decode cL_pieceSize 2 = .ok (.iconst 0, 1) := by decide +kernel
theorem dL_pieceSize_3 : decode cL_pieceSize 3 = .ok (.aload_n 0, 1) := by decide +kernel
theorem dL_pieceSize_4 : decode cL_pieceSize 4 = .ok (.iload_n 1, 1) := by decide +kernel
theorem dL_pieceSize_5 : decode cL_pieceSize 5 = .ok (.iload_n 2, 1) := by decide +kernel
theorem dL_pieceSize_6 : decode cL_pieceSize 6 = .ok (.iload_n 3, 1) := by decide +kernel
theorem dL_pieceSize_7 : decode cL_pieceSize 7 = .ok (.invokevirtual 113, 3) := by decide +kernel
theorem dL_pieceSize_10 : decode cL_pieceSize 10 = .ok (.i2l, 1) := by decide +kernel
theorem dL_pieceSize_11 : decode cL_pieceSize 11 = .ok (.lastore, 1) := by decide +kernel
theorem dL_pieceSize_12 : decode cL_pieceSize 12 = .ok (.goto 11, 3) := by decide +kernel
theorem dL_pieceSize_15 : decode cL_pieceSize 15 = .ok (.astore 5, 2) := by decide +kernel
theorem dL_pieceSize_17 : decode cL_pieceSize 17 = .ok (.iconst 1, 1) := by decide +kernel
theorem dL_pieceSize_18 : decode cL_pieceSize 18 = .ok (.ireturn, 1) := by decide +kernel
theorem dL_pieceSize_19 : decode cL_pieceSize 19 = .ok (.astore 5, 2) := by decide +kernel
theorem dL_pieceSize_21 : decode cL_pieceSize 21 = .ok (.iconst 2, 1) := by decide +kernel
theorem dL_pieceSize_22 : decode cL_pieceSize 22 = .ok (.ireturn, 1) := by decide +kernel
theorem dL_pieceSize_23 : decode cL_pieceSize 23 = .ok (.iconst 0, 1) := by decide +kernel
theorem dL_pieceSize_24 : decode cL_pieceSize 24 = .ok (.ireturn, 1) := by decide +kernel
theorem dL_parent_0 : decode cL_parent 0 = .ok (.aload 5, 2) := by decide +kernel
theorem dL_parent_2 : decode cL_parent 2 = .ok (.iconst 0, 1) := by decide +kernel
theorem dL_parent_3 : decode cL_parent 3 = .ok (.aload_n 0, 1) := by decide +kernel
theorem dL_parent_4 : decode cL_parent 4 = .ok (.iload_n 1, 1) := by decide +kernel
theorem dL_parent_5 : decode cL_parent 5 = .ok (.iload_n 2, 1) := by decide +kernel
theorem dL_parent_6 : decode cL_parent 6 = .ok (.iload_n 3, 1) := by decide +kernel
theorem dL_parent_7 : decode cL_parent 7 = .ok (.iload 4, 2) := by decide +kernel
theorem dL_parent_9 : decode cL_parent 9 = .ok (.invokevirtual 116, 3) := by decide +kernel
theorem dL_parent_12 : decode cL_parent 12 = .ok (.i2l, 1) := by decide +kernel
theorem dL_parent_13 : decode cL_parent 13 = .ok (.lastore, 1) := by decide +kernel
theorem dL_parent_14 : decode cL_parent 14 = .ok (.goto 11, 3) := by decide +kernel
theorem dL_parent_17 : decode cL_parent 17 = .ok (.astore 6, 2) := by decide +kernel
theorem dL_parent_19 : decode cL_parent 19 = .ok (.iconst 1, 1) := by decide +kernel
theorem dL_parent_20 : decode cL_parent 20 = .ok (.ireturn, 1) := by decide +kernel
theorem dL_parent_21 : decode cL_parent 21 = .ok (.astore 6, 2) := by decide +kernel
theorem dL_parent_23 : decode cL_parent 23 = .ok (.iconst 2, 1) := by decide +kernel
theorem dL_parent_24 : decode cL_parent 24 = .ok (.ireturn, 1) := by decide +kernel
theorem dL_parent_25 : decode cL_parent 25 = .ok (.iconst 0, 1) := by decide +kernel
theorem dL_parent_26 : decode cL_parent 26 = .ok (.ireturn, 1) := by decide +kernel
theorem dL_match_0 : decode cL_match 0 = .ok (.aload 4, 2) := by decide +kernel
theorem dL_match_2 : decode cL_match 2 = .ok (.iconst 0, 1) := by decide +kernel
theorem dL_match_3 : decode cL_match 3 = .ok (.aload_n 0, 1) := by decide +kernel
theorem dL_match_4 : decode cL_match 4 = .ok (.iload_n 1, 1) := by decide +kernel
theorem dL_match_5 : decode cL_match 5 = .ok (.iload_n 2, 1) := by decide +kernel
theorem dL_match_6 : decode cL_match 6 = .ok (.iload_n 3, 1) := by decide +kernel
theorem dL_match_7 : decode cL_match 7 = .ok (.invokevirtual 120, 3) := by decide +kernel
theorem dL_match_10 : decode cL_match 10 = .ok (.i2l, 1) := by decide +kernel
theorem dL_match_11 : decode cL_match 11 = .ok (.lastore, 1) := by decide +kernel
theorem dL_match_12 : decode cL_match 12 = .ok (.goto 15, 3) := by decide +kernel
theorem dL_match_15 : decode cL_match 15 = .ok (.astore 5, 2) := by decide +kernel
theorem dL_match_17 : decode cL_match 17 = .ok (.iconst 1, 1) := by decide +kernel
theorem dL_match_18 : decode cL_match 18 = .ok (.ireturn, 1) := by decide +kernel
theorem dL_match_19 : decode cL_match 19 = .ok (.astore 5, 2) := by decide +kernel
theorem dL_match_21 : decode cL_match 21 = .ok (.iconst 2, 1) := by decide +kernel
theorem dL_match_22 : decode cL_match 22 = .ok (.ireturn, 1) := by decide +kernel
theorem dL_match_23 : decode cL_match 23 = .ok (.astore 5, 2) := by decide +kernel
theorem dL_match_25 : decode cL_match 25 = .ok (.iconst 3, 1) := by decide +kernel
theorem dL_match_26 : decode cL_match 26 = .ok (.ireturn, 1) := by decide +kernel
theorem dL_match_27 : decode cL_match 27 = .ok (.iconst 0, 1) := by decide +kernel
theorem dL_match_28 : decode cL_match 28 = .ok (.ireturn, 1) := by decide +kernel
theorem dL_matchKind_0 : decode cL_matchKind 0 = .ok (.aload 4, 2) := by decide +kernel
theorem dL_matchKind_2 : decode cL_matchKind 2 = .ok (.iconst 0, 1) := by decide +kernel
theorem dL_matchKind_3 : decode cL_matchKind 3 = .ok (.aload_n 0, 1) := by decide +kernel
theorem dL_matchKind_4 : decode cL_matchKind 4 = .ok (.iload_n 1, 1) := by decide +kernel
theorem dL_matchKind_5 : decode cL_matchKind 5 = .ok (.iload_n 2, 1) := by decide +kernel
theorem dL_matchKind_6 : decode cL_matchKind 6 = .ok (.iload_n 3, 1) := by decide +kernel
theorem dL_matchKind_7 : decode cL_matchKind 7 = .ok (.invokevirtual 123, 3) := by decide +kernel
theorem dL_matchKind_10 : decode cL_matchKind 10 = .ok (.i2l, 1) := by decide +kernel
theorem dL_matchKind_11 : decode cL_matchKind 11 = .ok (.lastore, 1) := by decide +kernel
theorem dL_matchKind_12 : decode cL_matchKind 12 = .ok (.goto 11, 3) := by decide +kernel
theorem dL_matchKind_15 : decode cL_matchKind 15 = .ok (.astore 5, 2) := by decide +kernel
theorem dL_matchKind_17 : decode cL_matchKind 17 = .ok (.iconst 1, 1) := by decide +kernel
theorem dL_matchKind_18 : decode cL_matchKind 18 = .ok (.ireturn, 1) := by decide +kernel
theorem dL_matchKind_19 : decode cL_matchKind 19 = .ok (.astore 5, 2) := by decide +kernel
theorem dL_matchKind_21 : decode cL_matchKind 21 = .ok (.iconst 2, 1) := by decide +kernel
theorem dL_matchKind_22 : decode cL_matchKind 22 = .ok (.ireturn, 1) := by decide +kernel
theorem dL_matchKind_23 : decode cL_matchKind 23 = .ok (.iconst 0, 1) := by decide +kernel
theorem dL_matchKind_24 : decode cL_matchKind 24 = .ok (.ireturn, 1) := by decide +kernel
theorem dL_coarse_0 : decode cL_coarse 0 = .ok (.aload 4, 2) := by decide +kernel
theorem dL_coarse_2 : decode cL_coarse 2 = .ok (.iconst 0, 1) := by decide +kernel
theorem dL_coarse_3 : decode cL_coarse 3 = .ok (.aload_n 0, 1) := by decide +kernel
theorem dL_coarse_4 : decode cL_coarse 4 = .ok (.iload_n 1, 1) := by decide +kernel
theorem dL_coarse_5 : decode cL_coarse 5 = .ok (.iload_n 2, 1) := by decide +kernel
theorem dL_coarse_6 : decode cL_coarse 6 = .ok (.iload_n 3, 1) := by decide +kernel
theorem dL_coarse_7 : decode cL_coarse 7 = .ok (.invokevirtual 127, 3) := by decide +kernel
theorem dL_coarse_10 : decode cL_coarse 10 = .ok (.i2l, 1) := by decide +kernel
theorem dL_coarse_11 : decode cL_coarse 11 = .ok (.lastore, 1) := by decide +kernel
theorem dL_coarse_12 : decode cL_coarse 12 = .ok (.goto 15, 3) := by decide +kernel
theorem dL_coarse_15 : decode cL_coarse 15 = .ok (.astore 5, 2) := by decide +kernel
theorem dL_coarse_17 : decode cL_coarse 17 = .ok (.iconst 1, 1) := by decide +kernel
theorem dL_coarse_18 : decode cL_coarse 18 = .ok (.ireturn, 1) := by decide +kernel
theorem dL_coarse_19 : decode cL_coarse 19 = .ok (.astore 5, 2) := by decide +kernel
theorem dL_coarse_21 : decode cL_coarse 21 = .ok (.iconst 2, 1) := by decide +kernel
theorem dL_coarse_22 : decode cL_coarse 22 = .ok (.ireturn, 1) := by decide +kernel
theorem dL_coarse_23 : decode cL_coarse 23 = .ok (.astore 5, 2) := by decide +kernel
theorem dL_coarse_25 : decode cL_coarse 25 = .ok (.iconst 3, 1) := by decide +kernel
theorem dL_coarse_26 : decode cL_coarse 26 = .ok (.ireturn, 1) := by decide +kernel
theorem dL_coarse_27 : decode cL_coarse 27 = .ok (.iconst 0, 1) := by decide +kernel
theorem dL_coarse_28 : decode cL_coarse 28 = .ok (.ireturn, 1) := by decide +kernel
theorem dL_coarseAreas_0 : decode cL_coarseAreas 0 = .ok (.aload_n 3, 1) := by decide +kernel
theorem dL_coarseAreas_1 : decode cL_coarseAreas 1 = .ok (.iconst 0, 1) := by decide +kernel
theorem dL_coarseAreas_2 : decode cL_coarseAreas 2 = .ok (.aload_n 0, 1) := by decide +kernel
theorem dL_coarseAreas_3 : decode cL_coarseAreas 3 = .ok (.iload_n 1, 1) := by decide +kernel
theorem dL_coarseAreas_4 : decode cL_coarseAreas 4 = .ok (.iload_n 2, 1) := by decide +kernel
theorem dL_coarseAreas_5 : decode cL_coarseAreas 5 = .ok (.invokevirtual 130, 3) := by decide +kernel
theorem dL_coarseAreas_8 : decode cL_coarseAreas 8 = .ok (.i2l, 1) := by decide +kernel
theorem dL_coarseAreas_9 : decode cL_coarseAreas 9 = .ok (.lastore, 1) := by decide +kernel
theorem dL_coarseAreas_10 : decode cL_coarseAreas 10 = .ok (.goto 11, 3) := by decide +kernel
theorem dL_coarseAreas_13 : decode cL_coarseAreas 13 = .ok (.astore 4, 2) := by decide +kernel
theorem dL_coarseAreas_15 : decode cL_coarseAreas 15 = .ok (.iconst 1, 1) := by decide +kernel
theorem dL_coarseAreas_16 : decode cL_coarseAreas 16 = .ok (.ireturn, 1) := by decide +kernel
theorem dL_coarseAreas_17 : decode cL_coarseAreas 17 = .ok (.astore 4, 2) := by decide +kernel
theorem dL_coarseAreas_19 : decode cL_coarseAreas 19 = .ok (.iconst 2, 1) := by decide +kernel
theorem dL_coarseAreas_20 : decode cL_coarseAreas 20 = .ok (.ireturn, 1) := by decide +kernel
theorem dL_coarseAreas_21 : decode cL_coarseAreas 21 = .ok (.iconst 0, 1) := by decide +kernel
theorem dL_coarseAreas_22 : decode cL_coarseAreas 22 = .ok (.ireturn, 1) := by decide +kernel
theorem dL_name_0 : decode cL_name 0 = .ok (.aload 4, 2) := by decide +kernel
theorem dL_name_2 : decode cL_name 2 = .ok (.iconst 0, 1) := by decide +kernel
theorem dL_name_3 : decode cL_name 3 = .ok (.aload_n 0, 1) := by decide +kernel
theorem dL_name_4 : decode cL_name 4 = .ok (.iload_n 1, 1) := by decide +kernel
theorem dL_name_5 : decode cL_name 5 = .ok (.iload_n 2, 1) := by decide +kernel
theorem dL_name_6 : decode cL_name 6 = .ok (.iload_n 3, 1) := by decide +kernel
theorem dL_name_7 : decode cL_name 7 = .ok (.invokevirtual 133, 3) := by decide +kernel
theorem dL_name_10 : decode cL_name 10 = .ok (.i2l, 1) := by decide +kernel
theorem dL_name_11 : decode cL_name 11 = .ok (.lastore, 1) := by decide +kernel
theorem dL_name_12 : decode cL_name 12 = .ok (.goto 11, 3) := by decide +kernel
theorem dL_name_15 : decode cL_name 15 = .ok (.astore 5, 2) := by decide +kernel
theorem dL_name_17 : decode cL_name 17 = .ok (.iconst 1, 1) := by decide +kernel
theorem dL_name_18 : decode cL_name 18 = .ok (.ireturn, 1) := by decide +kernel
theorem dL_name_19 : decode cL_name 19 = .ok (.astore 5, 2) := by decide +kernel
theorem dL_name_21 : decode cL_name 21 = .ok (.iconst 2, 1) := by decide +kernel
theorem dL_name_22 : decode cL_name 22 = .ok (.ireturn, 1) := by decide +kernel
theorem dL_name_23 : decode cL_name 23 = .ok (.iconst 0, 1) := by decide +kernel
theorem dL_name_24 : decode cL_name 24 = .ok (.ireturn, 1) := by decide +kernel
theorem dL_placeOf_0 : decode cL_placeOf 0 = .ok (.aload_n 3, 1) := by decide +kernel
theorem dL_placeOf_1 : decode cL_placeOf 1 = .ok (.iconst 0, 1) := by decide +kernel
theorem dL_placeOf_2 : decode cL_placeOf 2 = .ok (.aload_n 0, 1) := by decide +kernel
theorem dL_placeOf_3 : decode cL_placeOf 3 = .ok (.iload_n 1, 1) := by decide +kernel
theorem dL_placeOf_4 : decode cL_placeOf 4 = .ok (.iload_n 2, 1) := by decide +kernel
theorem dL_placeOf_5 : decode cL_placeOf 5 = .ok (.invokevirtual 136, 3) := by decide +kernel
theorem dL_placeOf_8 : decode cL_placeOf 8 = .ok (.i2l, 1) := by decide +kernel
theorem dL_placeOf_9 : decode cL_placeOf 9 = .ok (.lastore, 1) := by decide +kernel
theorem dL_placeOf_10 : decode cL_placeOf 10 = .ok (.goto 15, 3) := by decide +kernel
theorem dL_placeOf_13 : decode cL_placeOf 13 = .ok (.astore 4, 2) := by decide +kernel
theorem dL_placeOf_15 : decode cL_placeOf 15 = .ok (.iconst 1, 1) := by decide +kernel
theorem dL_placeOf_16 : decode cL_placeOf 16 = .ok (.ireturn, 1) := by decide +kernel
theorem dL_placeOf_17 : decode cL_placeOf 17 = .ok (.astore 4, 2) := by decide +kernel
theorem dL_placeOf_19 : decode cL_placeOf 19 = .ok (.iconst 2, 1) := by decide +kernel
theorem dL_placeOf_20 : decode cL_placeOf 20 = .ok (.ireturn, 1) := by decide +kernel
theorem dL_placeOf_21 : decode cL_placeOf 21 = .ok (.astore 4, 2) := by decide +kernel
theorem dL_placeOf_23 : decode cL_placeOf 23 = .ok (.iconst 3, 1) := by decide +kernel
theorem dL_placeOf_24 : decode cL_placeOf 24 = .ok (.ireturn, 1) := by decide +kernel
theorem dL_placeOf_25 : decode cL_placeOf 25 = .ok (.iconst 0, 1) := by decide +kernel
theorem dL_placeOf_26 : decode cL_placeOf 26 = .ok (.ireturn, 1) := by decide +kernel
theorem dL_values_0 : decode cL_values 0 = .ok (.aload_n 2, 1) := by decide +kernel
theorem dL_values_1 : decode cL_values 1 = .ok (.iconst 0, 1) := by decide +kernel
theorem dL_values_2 : decode cL_values 2 = .ok (.aload_n 0, 1) := by decide +kernel
theorem dL_values_3 : decode cL_values 3 = .ok (.iload_n 1, 1) := by decide +kernel
theorem dL_values_4 : decode cL_values 4 = .ok (.invokevirtual 139, 3) := by decide +kernel
theorem dL_values_7 : decode cL_values 7 = .ok (.lastore, 1) := by decide +kernel
theorem dL_values_8 : decode cL_values 8 = .ok (.goto 6, 3) := by decide +kernel
theorem dL_values_11 : decode cL_values 11 = .ok (.astore_n 3, 1) := by decide +kernel
theorem dL_values_12 : decode cL_values 12 = .ok (.iconst 1, 1) := by decide +kernel
theorem dL_values_13 : decode cL_values 13 = .ok (.ireturn, 1) := by decide +kernel
theorem dL_values_14 : decode cL_values 14 = .ok (.iconst 0, 1) := by decide +kernel
theorem dL_values_15 : decode cL_values 15 = .ok (.ireturn, 1) := by decide +kernel
theorem dL_covered_0 : decode cL_covered 0 = .ok (.aload_n 2, 1) := by decide +kernel
theorem dL_covered_1 : decode cL_covered 1 = .ok (.iconst 0, 1) := by decide +kernel
theorem dL_covered_2 : decode cL_covered 2 = .ok (.aload_n 0, 1) := by decide +kernel
theorem dL_covered_3 : decode cL_covered 3 = .ok (.iload_n 1, 1) := by decide +kernel
theorem dL_covered_4 : decode cL_covered 4 = .ok (.invokevirtual 143, 3) := by decide +kernel
theorem dL_covered_7 : decode cL_covered 7 = .ok (.f2d, 1) := by decide +kernel
theorem dL_covered_8 : decode cL_covered 8 = .ok (.dastore, 1) := by decide +kernel
theorem dL_covered_9 : decode cL_covered 9 = .ok (.goto 6, 3) := by decide +kernel
theorem dL_covered_12 : decode cL_covered 12 = .ok (.astore_n 3, 1) := by decide +kernel
theorem dL_covered_13 : decode cL_covered 13 = .ok (.iconst 1, 1) := by decide +kernel
theorem dL_covered_14 : decode cL_covered 14 = .ok (.ireturn, 1) := by decide +kernel
theorem dL_covered_15 : decode cL_covered 15 = .ok (.iconst 0, 1) := by decide +kernel
theorem dL_covered_16 : decode cL_covered 16 = .ok (.ireturn, 1) := by decide +kernel
theorem dL_meanPiece_0 : decode cL_meanPiece 0 = .ok (.aload_n 3, 1) := by decide +kernel
theorem dL_meanPiece_1 : decode cL_meanPiece 1 = .ok (.iconst 0, 1) := by decide +kernel
theorem dL_meanPiece_2 : decode cL_meanPiece 2 = .ok (.aload_n 0, 1) := by decide +kernel
theorem dL_meanPiece_3 : decode cL_meanPiece 3 = .ok (.iload_n 1, 1) := by decide +kernel
theorem dL_meanPiece_4 : decode cL_meanPiece 4 = .ok (.iload_n 2, 1) := by decide +kernel
theorem dL_meanPiece_5 : decode cL_meanPiece 5 = .ok (.invokevirtual 147, 3) := by decide +kernel
theorem dL_meanPiece_8 : decode cL_meanPiece 8 = .ok (.dastore, 1) := by decide +kernel
theorem dL_meanPiece_9 : decode cL_meanPiece 9 = .ok (.goto 11, 3) := by decide +kernel
theorem dL_meanPiece_12 : decode cL_meanPiece 12 = .ok (.astore 4, 2) := by decide +kernel
theorem dL_meanPiece_14 : decode cL_meanPiece 14 = .ok (.iconst 1, 1) := by decide +kernel
theorem dL_meanPiece_15 : decode cL_meanPiece 15 = .ok (.ireturn, 1) := by decide +kernel
theorem dL_meanPiece_16 : decode cL_meanPiece 16 = .ok (.astore 4, 2) := by decide +kernel
theorem dL_meanPiece_18 : decode cL_meanPiece 18 = .ok (.iconst 2, 1) := by decide +kernel
theorem dL_meanPiece_19 : decode cL_meanPiece 19 = .ok (.ireturn, 1) := by decide +kernel
theorem dL_meanPiece_20 : decode cL_meanPiece 20 = .ok (.iconst 0, 1) := by decide +kernel
theorem dL_meanPiece_21 : decode cL_meanPiece 21 = .ok (.ireturn, 1) := by decide +kernel
