theorem dX0_init_0 : decode cX0_init 0 = .ok (.aload_n 0, 1) := by decide +kernel
theorem dX0_init_1 : decode cX0_init 1 = .ok (.invokespecial 3, 3) := by decide +kernel
theorem dX0_init_4 : decode cX0_init 4 = .ok (.aload_n 0, 1) := by decide +kernel
theorem dX0_init_5 : decode cX0_init 5 = .ok (.bipush 10, 2) := by decide +kernel
theorem dX0_init_7 : decode cX0_init 7 = .ok (.newarray .int, 2) := by decide +kernel
theorem dX0_init_9 : decode cX0_init 9 = .ok (.putfield 9, 3) := by decide +kernel
theorem dX0_init_12 : decode cX0_init 12 = .ok (.aload_n 0, 1) := by decide +kernel
theorem dX0_init_13 : decode cX0_init 13 = .ok (.bipush 10, 2) := by decide +kernel
theorem dX0_init_15 : decode cX0_init 15 = .ok (.newarray .int, 2) := by decide +kernel
theorem dX0_init_17 : decode cX0_init 17 = .ok (.putfield 15, 3) := by decide +kernel
theorem dX0_init_20 : decode cX0_init 20 = .ok (.aload_n 0, 1) := by decide +kernel
theorem dX0_init_21 : decode cX0_init 21 = .ok (.bipush 10, 2) := by decide +kernel
theorem dX0_init_23 : decode cX0_init 23 = .ok (.bipush 10, 2) := by decide +kernel
theorem dX0_init_25 : decode cX0_init 25 = .ok (.multianewarray 18 2, 4) := by decide +kernel
theorem dX0_init_29 : decode cX0_init 29 = .ok (.putfield 20, 3) := by decide +kernel
theorem dX0_init_32 : decode cX0_init 32 = .ok (.return_, 1) := by decide +kernel
theorem dX0_draw_0 : decode cX0_draw 0 = .ok (.iconst 0, 1) := by decide +kernel
theorem dX0_draw_1 : decode cX0_draw 1 = .ok (.istore_n 3, 1) := by decide +kernel
theorem dX0_draw_2 : decode cX0_draw 2 = .ok (.iload_n 3, 1) := by decide +kernel
theorem dX0_draw_3 : decode cX0_draw 3 = .ok (.bipush 10, 2) := by decide +kernel
theorem dX0_draw_5 : decode cX0_draw 5 = .ok (.if_icmp .ge 38, 3) := by decide +kernel
theorem dX0_draw_8 : decode cX0_draw 8 = .ok (.aload_n 0, 1) := by decide +kernel
theorem dX0_draw_9 : decode cX0_draw 9 = .ok (.getfield 9, 3) := by decide +kernel
theorem dX0_draw_12 : decode cX0_draw 12 = .ok (.iload_n 3, 1) := by decide +kernel
theorem dX0_draw_13 : decode cX0_draw 13 = .ok (.iload_n 3, 1) := by decide +kernel
theorem dX0_draw_14 : decode cX0_draw 14 = .ok (.iastore, 1) := by decide +kernel
theorem dX0_draw_15 : decode cX0_draw 15 = .ok (.aload_n 0, 1) := by decide +kernel
theorem dX0_draw_16 : decode cX0_draw 16 = .ok (.getfield 15, 3) := by decide +kernel
theorem dX0_draw_19 : decode cX0_draw 19 = .ok (.iload_n 3, 1) := by decide +kernel
theorem dX0_draw_20 : decode cX0_draw 20 = .ok (.aload_n 1, 1) := by decide +kernel
theorem dX0_draw_21 : decode cX0_draw 21 = .ok (.getfield 23, 3) := by decide +kernel
theorem dX0_draw_24 : decode cX0_draw 24 = .ok (.iload_n 3, 1) := by decide +kernel
theorem dX0_draw_25 : decode cX0_draw 25 = .ok (.iaload, 1) := by decide +kernel
theorem dX0_draw_26 : decode cX0_draw 26 = .ok (.iastore, 1) := by decide +kernel
theorem dX0_draw_27 : decode cX0_draw 27 = .ok (.aload_n 0, 1) := by decide +kernel
theorem dX0_draw_28 : decode cX0_draw 28 = .ok (.getfield 20, 3) := by decide +kernel
theorem dX0_draw_31 : decode cX0_draw 31 = .ok (.iload_n 3, 1) := by decide +kernel
theorem dX0_draw_32 : decode cX0_draw 32 = .ok (.aaload, 1) := by decide +kernel
theorem dX0_draw_33 : decode cX0_draw 33 = .ok (.iconst 0, 1) := by decide +kernel
theorem dX0_draw_34 : decode cX0_draw 34 = .ok (.invokestatic 26, 3) := by decide +kernel
theorem dX0_draw_37 : decode cX0_draw 37 = .ok (.iinc 3 1, 3) := by decide +kernel
theorem dX0_draw_40 : decode cX0_draw 40 = .ok (.goto (-38), 3) := by decide +kernel
theorem dX0_draw_43 : decode cX0_draw 43 = .ok (.aload_n 0, 1) := by decide +kernel
theorem dX0_draw_44 : decode cX0_draw 44 = .ok (.aload_n 1, 1) := by decide +kernel
theorem dX0_draw_45 : decode cX0_draw 45 = .ok (.invokevirtual 32, 3) := by decide +kernel
theorem dX0_draw_48 : decode cX0_draw 48 = .ok (.iconst 0, 1) := by decide +kernel
theorem dX0_draw_49 : decode cX0_draw 49 = .ok (.istore_n 3, 1) := by decide +kernel
theorem dX0_draw_50 : decode cX0_draw 50 = .ok (.iload_n 3, 1) := by decide +kernel
theorem dX0_draw_51 : decode cX0_draw 51 = .ok (.bipush 10, 2) := by decide +kernel
theorem dX0_draw_53 : decode cX0_draw 53 = .ok (.if_icmp .ge 61, 3) := by decide +kernel
theorem dX0_draw_56 : decode cX0_draw 56 = .ok (.aload_n 0, 1) := by decide +kernel
theorem dX0_draw_57 : decode cX0_draw 57 = .ok (.iload_n 2, 1) := by decide +kernel
theorem dX0_draw_58 : decode cX0_draw 58 = .ok (.invokevirtual 36, 3) := by decide +kernel
theorem dX0_draw_61 : decode cX0_draw 61 = .ok (.istore 4, 2) := by decide +kernel
theorem dX0_draw_63 : decode cX0_draw 63 = .ok (.iload 4, 2) := by decide +kernel
theorem dX0_draw_65 : decode cX0_draw 65 = .ok (.invokestatic 40, 3) := by decide +kernel
theorem dX0_draw_68 : decode cX0_draw 68 = .ok (.ifCond .eq 12, 3) := by decide +kernel
theorem dX0_draw_71 : decode cX0_draw 71 = .ok (.aload_n 0, 1) := by decide +kernel
theorem dX0_draw_72 : decode cX0_draw 72 = .ok (.iload 4, 2) := by decide +kernel
theorem dX0_draw_74 : decode cX0_draw 74 = .ok (.invokevirtual 44, 3) := by decide +kernel
theorem dX0_draw_77 : decode cX0_draw 77 = .ok (.goto 4, 3) := by decide +kernel
theorem dX0_draw_80 : decode cX0_draw 80 = .ok (.iconst (-1), 1) := by decide +kernel
theorem dX0_draw_81 : decode cX0_draw 81 = .ok (.istore 5, 2) := by decide +kernel
theorem dX0_draw_83 : decode cX0_draw 83 = .ok (.iload 4, 2) := by decide +kernel
theorem dX0_draw_85 : decode cX0_draw 85 = .ok (.invokestatic 40, 3) := by decide +kernel
theorem dX0_draw_88 : decode cX0_draw 88 = .ok (.ifCond .eq 11, 3) := by decide +kernel
theorem dX0_draw_91 : decode cX0_draw 91 = .ok (.iload 5, 2) := by decide +kernel
theorem dX0_draw_93 : decode cX0_draw 93 = .ok (.invokestatic 40, 3) := by decide +kernel
theorem dX0_draw_96 : decode cX0_draw 96 = .ok (.ifCond .ne 4, 3) := by decide +kernel
theorem dX0_draw_99 : decode cX0_draw 99 = .ok (.return_, 1) := by decide +kernel
theorem dX0_draw_100 : decode cX0_draw 100 = .ok (.aload_n 0, 1) := by decide +kernel
theorem dX0_draw_101 : decode cX0_draw 101 = .ok (.iload 4, 2) := by decide +kernel
theorem dX0_draw_103 : decode cX0_draw 103 = .ok (.iload 5, 2) := by decide +kernel
theorem dX0_draw_105 : decode cX0_draw 105 = .ok (.invokevirtual 47, 3) := by decide +kernel
theorem dX0_draw_108 : decode cX0_draw 108 = .ok (.iinc 3 1, 3) := by decide +kernel
theorem dX0_draw_111 : decode cX0_draw 111 = .ok (.goto (-61), 3) := by decide +kernel
theorem dX0_draw_114 : decode cX0_draw 114 = .ok (.return_, 1) := by decide +kernel
theorem dX0_countAreas_0 : decode cX0_countAreas 0 = .ok (.iconst 0, 1) := by decide +kernel
theorem dX0_countAreas_1 : decode cX0_countAreas 1 = .ok (.istore_n 1, 1) := by decide +kernel
theorem dX0_countAreas_2 : decode cX0_countAreas 2 = .ok (.iconst 0, 1) := by decide +kernel
theorem dX0_countAreas_3 : decode cX0_countAreas 3 = .ok (.istore_n 2, 1) := by decide +kernel
theorem dX0_countAreas_4 : decode cX0_countAreas 4 = .ok (.iload_n 2, 1) := by decide +kernel
theorem dX0_countAreas_5 : decode cX0_countAreas 5 = .ok (.bipush 10, 2) := by decide +kernel
theorem dX0_countAreas_7 : decode cX0_countAreas 7 = .ok (.if_icmp .ge 21, 3) := by decide +kernel
theorem dX0_countAreas_10 : decode cX0_countAreas 10 = .ok (.aload_n 0, 1) := by decide +kernel
theorem dX0_countAreas_11 : decode cX0_countAreas 11 = .ok (.getfield 15, 3) := by decide +kernel
theorem dX0_countAreas_14 : decode cX0_countAreas 14 = .ok (.iload_n 2, 1) := by decide +kernel
theorem dX0_countAreas_15 : decode cX0_countAreas 15 = .ok (.iaload, 1) := by decide +kernel
theorem dX0_countAreas_16 : decode cX0_countAreas 16 = .ok (.ifCond .le 6, 3) := by decide +kernel
theorem dX0_countAreas_19 : decode cX0_countAreas 19 = .ok (.iinc 1 1, 3) := by decide +kernel
theorem dX0_countAreas_22 : decode cX0_countAreas 22 = .ok (.iinc 2 1, 3) := by decide +kernel
theorem dX0_countAreas_25 : decode cX0_countAreas 25 = .ok (.goto (-21), 3) := by decide +kernel
theorem dX0_countAreas_28 : decode cX0_countAreas 28 = .ok (.iload_n 1, 1) := by decide +kernel
theorem dX0_countAreas_29 : decode cX0_countAreas 29 = .ok (.ireturn, 1) := by decide +kernel
theorem dX0_countBorders_0 : decode cX0_countBorders 0 = .ok (.iconst 0, 1) := by decide +kernel
theorem dX0_countBorders_1 : decode cX0_countBorders 1 = .ok (.istore_n 2, 1) := by decide +kernel
theorem dX0_countBorders_2 : decode cX0_countBorders 2 = .ok (.iload_n 2, 1) := by decide +kernel
theorem dX0_countBorders_3 : decode cX0_countBorders 3 = .ok (.sipush 256, 3) := by decide +kernel
theorem dX0_countBorders_6 : decode cX0_countBorders 6 = .ok (.if_icmp .ge 52, 3) := by decide +kernel
theorem dX0_countBorders_9 : decode cX0_countBorders 9 = .ok (.iconst 0, 1) := by decide +kernel
theorem dX0_countBorders_10 : decode cX0_countBorders 10 = .ok (.istore_n 3, 1) := by decide +kernel
theorem dX0_countBorders_11 : decode cX0_countBorders 11 = .ok (.iload_n 3, 1) := by decide +kernel
theorem dX0_countBorders_12 : decode cX0_countBorders 12 = .ok (.iconst 2, 1) := by decide +kernel
theorem dX0_countBorders_13 : decode cX0_countBorders 13 = .ok (.if_icmp .ge 39, 3) := by decide +kernel
theorem dX0_countBorders_16 : decode cX0_countBorders 16 = .ok (.iload_n 2, 1) := by decide +kernel
theorem dX0_countBorders_17 : decode cX0_countBorders 17 = .ok (.iload_n 3, 1) := by decide +kernel
theorem dX0_countBorders_18 : decode cX0_countBorders 18 = .ok (.invokestatic 51, 3) := by decide +kernel
theorem dX0_countBorders_21 : decode cX0_countBorders 21 = .ok (.istore 4, 2) := by decide +kernel
theorem dX0_countBorders_23 : decode cX0_countBorders 23 = .ok (.iload 4, 2) := by decide +kernel
theorem dX0_countBorders_25 : decode cX0_countBorders 25 = .ok (.iconst (-1), 1) := by decide +kernel
theorem dX0_countBorders_26 : decode cX0_countBorders 26 = .ok (.if_icmp .eq 20, 3) := by decide +kernel
theorem dX0_countBorders_29 : decode cX0_countBorders 29 = .ok (.aload_n 0, 1) := by decide +kernel
theorem dX0_countBorders_30 : decode cX0_countBorders 30 = .ok (.aload_n 1, 1) := by decide +kernel
theorem dX0_countBorders_31 : decode cX0_countBorders 31 = .ok (.getfield 55, 3) := by decide +kernel
theorem dX0_countBorders_34 : decode cX0_countBorders 34 = .ok (.iload_n 2, 1) := by decide +kernel
theorem dX0_countBorders_35 : decode cX0_countBorders 35 = .ok (.iaload, 1) := by decide +kernel
theorem dX0_countBorders_36 : decode cX0_countBorders 36 = .ok (.aload_n 1, 1) := by decide +kernel
theorem dX0_countBorders_37 : decode cX0_countBorders 37 = .ok (.getfield 55, 3) := by decide +kernel
theorem dX0_countBorders_40 : decode cX0_countBorders 40 = .ok (.iload 4, 2) := by decide +kernel
theorem dX0_countBorders_42 : decode cX0_countBorders 42 = .ok (.iaload, 1) := by decide +kernel
theorem dX0_countBorders_43 : decode cX0_countBorders 43 = .ok (.invokevirtual 58, 3) := by decide +kernel
theorem dX0_countBorders_46 : decode cX0_countBorders 46 = .ok (.iinc 3 1, 3) := by decide +kernel
theorem dX0_countBorders_49 : decode cX0_countBorders 49 = .ok (.goto (-38), 3) := by decide +kernel
theorem dX0_countBorders_52 : decode cX0_countBorders 52 = .ok (.iinc 2 1, 3) := by decide +kernel
theorem dX0_countBorders_55 : decode cX0_countBorders 55 = .ok (.goto (-53), 3) := by decide +kernel
theorem dX0_countBorders_58 : decode cX0_countBorders 58 = .ok (.return_, 1) := by decide +kernel
theorem dX0_countPair_0 : decode cX0_countPair 0 = .ok (.iload_n 1, 1) := by decide +kernel
theorem dX0_countPair_1 : decode cX0_countPair 1 = .ok (.invokestatic 40, 3) := by decide +kernel
theorem dX0_countPair_4 : decode cX0_countPair 4 = .ok (.ifCond .eq 39, 3) := by decide +kernel
theorem dX0_countPair_7 : decode cX0_countPair 7 = .ok (.iload_n 2, 1) := by decide +kernel
theorem dX0_countPair_8 : decode cX0_countPair 8 = .ok (.invokestatic 40, 3) := by decide +kernel
theorem dX0_countPair_11 : decode cX0_countPair 11 = .ok (.ifCond .eq 32, 3) := by decide +kernel
theorem dX0_countPair_14 : decode cX0_countPair 14 = .ok (.iload_n 1, 1) := by decide +kernel
theorem dX0_countPair_15 : decode cX0_countPair 15 = .ok (.iload_n 2, 1) := by decide +kernel
theorem dX0_countPair_16 : decode cX0_countPair 16 = .ok (.if_icmp .eq 27, 3) := by decide +kernel
theorem dX0_countPair_19 : decode cX0_countPair 19 = .ok (.aload_n 0, 1) := by decide +kernel
theorem dX0_countPair_20 : decode cX0_countPair 20 = .ok (.getfield 20, 3) := by decide +kernel
theorem dX0_countPair_23 : decode cX0_countPair 23 = .ok (.iload_n 1, 1) := by decide +kernel
theorem dX0_countPair_24 : decode cX0_countPair 24 = .ok (.aaload, 1) := by decide +kernel
theorem dX0_countPair_25 : decode cX0_countPair 25 = .ok (.iload_n 2, 1) := by decide +kernel
theorem dX0_countPair_26 : decode cX0_countPair 26 = .ok (.dup2, 1) := by decide +kernel
theorem dX0_countPair_27 : decode cX0_countPair 27 = .ok (.iaload, 1) := by decide +kernel
theorem dX0_countPair_28 : decode cX0_countPair 28 = .ok (.iconst 1, 1) := by decide +kernel
theorem dX0_countPair_29 : decode cX0_countPair 29 = .ok (.iadd, 1) := by decide +kernel
theorem dX0_countPair_30 : decode cX0_countPair 30 = .ok (.iastore, 1) := by decide +kernel
theorem dX0_countPair_31 : decode cX0_countPair 31 = .ok (.aload_n 0, 1) := by decide +kernel
theorem dX0_countPair_32 : decode cX0_countPair 32 = .ok (.getfield 20, 3) := by decide +kernel
theorem dX0_countPair_35 : decode cX0_countPair 35 = .ok (.iload_n 2, 1) := by decide +kernel
theorem dX0_countPair_36 : decode cX0_countPair 36 = .ok (.aaload, 1) := by decide +kernel
theorem dX0_countPair_37 : decode cX0_countPair 37 = .ok (.iload_n 1, 1) := by decide +kernel
theorem dX0_countPair_38 : decode cX0_countPair 38 = .ok (.dup2, 1) := by decide +kernel
theorem dX0_countPair_39 : decode cX0_countPair 39 = .ok (.iaload, 1) := by decide +kernel
theorem dX0_countPair_40 : decode cX0_countPair 40 = .ok (.iconst 1, 1) := by decide +kernel
theorem dX0_countPair_41 : decode cX0_countPair 41 = .ok (.iadd, 1) := by decide +kernel
theorem dX0_countPair_42 : decode cX0_countPair 42 = .ok (.iastore, 1) := by decide +kernel
theorem dX0_countPair_43 : decode cX0_countPair 43 = .ok (.return_, 1) := by decide +kernel
theorem dX0_smallest_0 : decode cX0_smallest 0 = .ok (.iconst (-1), 1) := by decide +kernel
theorem dX0_smallest_1 : decode cX0_smallest 1 = .ok (.istore_n 2, 1) := by decide +kernel
theorem dX0_smallest_2 : decode cX0_smallest 2 = .ok (.iload_n 1, 1) := by decide +kernel
theorem dX0_smallest_3 : decode cX0_smallest 3 = .ok (.istore_n 3, 1) := by decide +kernel
theorem dX0_smallest_4 : decode cX0_smallest 4 = .ok (.iconst 0, 1) := by decide +kernel
theorem dX0_smallest_5 : decode cX0_smallest 5 = .ok (.istore 4, 2) := by decide +kernel
theorem dX0_smallest_7 : decode cX0_smallest 7 = .ok (.iload 4, 2) := by decide +kernel
theorem dX0_smallest_9 : decode cX0_smallest 9 = .ok (.bipush 10, 2) := by decide +kernel
theorem dX0_smallest_11 : decode cX0_smallest 11 = .ok (.if_icmp .ge 51, 3) := by decide +kernel
theorem dX0_smallest_14 : decode cX0_smallest 14 = .ok (.aload_n 0, 1) := by decide +kernel
theorem dX0_smallest_15 : decode cX0_smallest 15 = .ok (.getfield 15, 3) := by decide +kernel
theorem dX0_smallest_18 : decode cX0_smallest 18 = .ok (.iload 4, 2) := by decide +kernel
theorem dX0_smallest_20 : decode cX0_smallest 20 = .ok (.iaload, 1) := by decide +kernel
theorem dX0_smallest_21 : decode cX0_smallest 21 = .ok (.ifCond .le 35, 3) := by decide +kernel
theorem dX0_smallest_24 : decode cX0_smallest 24 = .ok (.aload_n 0, 1) := by decide +kernel
theorem dX0_smallest_25 : decode cX0_smallest 25 = .ok (.getfield 15, 3) := by decide +kernel
theorem dX0_smallest_28 : decode cX0_smallest 28 = .ok (.iload 4, 2) := by decide +kernel
theorem dX0_smallest_30 : decode cX0_smallest 30 = .ok (.iaload, 1) := by decide +kernel
theorem dX0_smallest_31 : decode cX0_smallest 31 = .ok (.iload_n 3, 1) := by decide +kernel
theorem dX0_smallest_32 : decode cX0_smallest 32 = .ok (.if_icmp .ge 24, 3) := by decide +kernel
theorem dX0_smallest_35 : decode cX0_smallest 35 = .ok (.aload_n 0, 1) := by decide +kernel
theorem dX0_smallest_36 : decode cX0_smallest 36 = .ok (.iload 4, 2) := by decide +kernel
theorem dX0_smallest_38 : decode cX0_smallest 38 = .ok (.invokevirtual 44, 3) := by decide +kernel
theorem dX0_smallest_41 : decode cX0_smallest 41 = .ok (.iconst (-1), 1) := by decide +kernel
theorem dX0_smallest_42 : decode cX0_smallest 42 = .ok (.if_icmp .eq 14, 3) := by decide +kernel
theorem dX0_smallest_45 : decode cX0_smallest 45 = .ok (.iload 4, 2) := by decide +kernel
theorem dX0_smallest_47 : decode cX0_smallest 47 = .ok (.istore_n 2, 1) := by decide +kernel
theorem dX0_smallest_48 : decode cX0_smallest 48 = .ok (.aload_n 0, 1) := by decide +kernel
theorem dX0_smallest_49 : decode cX0_smallest 49 = .ok (.getfield 15, 3) := by decide +kernel
theorem dX0_smallest_52 : decode cX0_smallest 52 = .ok (.iload 4, 2) := by decide +kernel
theorem dX0_smallest_54 : decode cX0_smallest 54 = .ok (.iaload, 1) := by decide +kernel
theorem dX0_smallest_55 : decode cX0_smallest 55 = .ok (.istore_n 3, 1) := by decide +kernel
theorem dX0_smallest_56 : decode cX0_smallest 56 = .ok (.iinc 4 1, 3) := by decide +kernel
theorem dX0_smallest_59 : decode cX0_smallest 59 = .ok (.goto (-52), 3) := by decide +kernel
theorem dX0_smallest_62 : decode cX0_smallest 62 = .ok (.iload_n 2, 1) := by decide +kernel
theorem dX0_smallest_63 : decode cX0_smallest 63 = .ok (.ireturn, 1) := by decide +kernel
theorem dX0_longestBorder_0 : decode cX0_longestBorder 0 = .ok (.iconst (-1), 1) := by decide +kernel
theorem dX0_longestBorder_1 : decode cX0_longestBorder 1 = .ok (.istore_n 2, 1) := by decide +kernel
theorem dX0_longestBorder_2 : decode cX0_longestBorder 2 = .ok (.iconst 0, 1) := by decide +kernel
theorem dX0_longestBorder_3 : decode cX0_longestBorder 3 = .ok (.istore_n 3, 1) := by decide +kernel
theorem dX0_longestBorder_4 : decode cX0_longestBorder 4 = .ok (.iconst 0, 1) := by decide +kernel
theorem dX0_longestBorder_5 : decode cX0_longestBorder 5 = .ok (.istore 4, 2) := by decide +kernel
theorem dX0_longestBorder_7 : decode cX0_longestBorder 7 = .ok (.iload 4, 2) := by decide +kernel
theorem dX0_longestBorder_9 : decode cX0_longestBorder 9 = .ok (.bipush 10, 2) := by decide +kernel
theorem dX0_longestBorder_11 : decode cX0_longestBorder 11 = .ok (.if_icmp .ge 35, 3) := by decide +kernel
theorem dX0_longestBorder_14 : decode cX0_longestBorder 14 = .ok (.aload_n 0, 1) := by decide +kernel
theorem dX0_longestBorder_15 : decode cX0_longestBorder 15 = .ok (.getfield 20, 3) := by decide +kernel
theorem dX0_longestBorder_18 : decode cX0_longestBorder 18 = .ok (.iload_n 1, 1) := by decide +kernel
theorem dX0_longestBorder_19 : decode cX0_longestBorder 19 = .ok (.aaload, 1) := by decide +kernel
theorem dX0_longestBorder_20 : decode cX0_longestBorder 20 = .ok (.iload 4, 2) := by decide +kernel
theorem dX0_longestBorder_22 : decode cX0_longestBorder 22 = .ok (.iaload, 1) := by decide +kernel
theorem dX0_longestBorder_23 : decode cX0_longestBorder 23 = .ok (.iload_n 3, 1) := by decide +kernel
theorem dX0_longestBorder_24 : decode cX0_longestBorder 24 = .ok (.if_icmp .le 16, 3) := by decide +kernel
theorem dX0_longestBorder_27 : decode cX0_longestBorder 27 = .ok (.iload 4, 2) := by decide +kernel
theorem dX0_longestBorder_29 : decode cX0_longestBorder 29 = .ok (.istore_n 2, 1) := by decide +kernel
theorem dX0_longestBorder_30 : decode cX0_longestBorder 30 = .ok (.aload_n 0, 1) := by decide +kernel
theorem dX0_longestBorder_31 : decode cX0_longestBorder 31 = .ok (.getfield 20, 3) := by decide +kernel
theorem dX0_longestBorder_34 : decode cX0_longestBorder 34 = .ok (.iload_n 1, 1) := by decide +kernel
theorem dX0_longestBorder_35 : decode cX0_longestBorder 35 = .ok (.aaload, 1) := by decide +kernel
theorem dX0_longestBorder_36 : decode cX0_longestBorder 36 = .ok (.iload 4, 2) := by decide +kernel
theorem dX0_longestBorder_38 : decode cX0_longestBorder 38 = .ok (.iaload, 1) := by decide +kernel
theorem dX0_longestBorder_39 : decode cX0_longestBorder 39 = .ok (.istore_n 3, 1) := by decide +kernel
theorem dX0_longestBorder_40 : decode cX0_longestBorder 40 = .ok (.iinc 4 1, 3) := by decide +kernel
theorem dX0_longestBorder_43 : decode cX0_longestBorder 43 = .ok (.goto (-36), 3) := by decide +kernel
theorem dX0_longestBorder_46 : decode cX0_longestBorder 46 = .ok (.iload_n 2, 1) := by decide +kernel
theorem dX0_longestBorder_47 : decode cX0_longestBorder 47 = .ok (.ireturn, 1) := by decide +kernel
theorem dX0_join_0 : decode cX0_join 0 = .ok (.aload_n 0, 1) := by decide +kernel
theorem dX0_join_1 : decode cX0_join 1 = .ok (.getfield 15, 3) := by decide +kernel
theorem dX0_join_4 : decode cX0_join 4 = .ok (.iload_n 2, 1) := by decide +kernel
theorem dX0_join_5 : decode cX0_join 5 = .ok (.dup2, 1) := by decide +kernel
theorem dX0_join_6 : decode cX0_join 6 = .ok (.iaload, 1) := by decide +kernel
theorem dX0_join_7 : decode cX0_join 7 = .ok (.aload_n 0, 1) := by decide +kernel
theorem dX0_join_8 : decode cX0_join 8 = .ok (.getfield 15, 3) := by decide +kernel
theorem dX0_join_11 : decode cX0_join 11 = .ok (.iload_n 1, 1) := by decide +kernel
theorem dX0_join_12 : decode cX0_join 12 = .ok (.iaload, 1) := by decide +kernel
theorem dX0_join_13 : decode cX0_join 13 = .ok (.iadd, 1) := by decide +kernel
theorem dX0_join_14 : decode cX0_join 14 = .ok (.iastore, 1) := by decide +kernel
theorem dX0_join_15 : decode cX0_join 15 = .ok (.aload_n 0, 1) := by decide +kernel
theorem dX0_join_16 : decode cX0_join 16 = .ok (.getfield 15, 3) := by decide +kernel
theorem dX0_join_19 : decode cX0_join 19 = .ok (.iload_n 1, 1) := by decide +kernel
theorem dX0_join_20 : decode cX0_join 20 = .ok (.iconst 0, 1) := by decide +kernel
theorem dX0_join_21 : decode cX0_join 21 = .ok (.iastore, 1) := by decide +kernel
theorem dX0_join_22 : decode cX0_join 22 = .ok (.iconst 0, 1) := by decide +kernel
theorem dX0_join_23 : decode cX0_join 23 = .ok (.istore_n 3, 1) := by decide +kernel
theorem dX0_join_24 : decode cX0_join 24 = .ok (.iload_n 3, 1) := by decide +kernel
theorem dX0_join_25 : decode cX0_join 25 = .ok (.bipush 10, 2) := by decide +kernel
theorem dX0_join_27 : decode cX0_join 27 = .ok (.if_icmp .ge 89, 3) := by decide +kernel
theorem dX0_join_30 : decode cX0_join 30 = .ok (.aload_n 0, 1) := by decide +kernel
theorem dX0_join_31 : decode cX0_join 31 = .ok (.getfield 9, 3) := by decide +kernel
theorem dX0_join_34 : decode cX0_join 34 = .ok (.iload_n 3, 1) := by decide +kernel
theorem dX0_join_35 : decode cX0_join 35 = .ok (.iaload, 1) := by decide +kernel
theorem dX0_join_36 : decode cX0_join 36 = .ok (.iload_n 1, 1) := by decide +kernel
theorem dX0_join_37 : decode cX0_join 37 = .ok (.if_icmp .ne 10, 3) := by decide +kernel
theorem dX0_join_40 : decode cX0_join 40 = .ok (.aload_n 0, 1) := by decide +kernel
theorem dX0_join_41 : decode cX0_join 41 = .ok (.getfield 9, 3) := by decide +kernel
theorem dX0_join_44 : decode cX0_join 44 = .ok (.iload_n 3, 1) := by decide +kernel
theorem dX0_join_45 : decode cX0_join 45 = .ok (.iload_n 2, 1) := by decide +kernel
theorem dX0_join_46 : decode cX0_join 46 = .ok (.iastore, 1) := by decide +kernel
theorem dX0_join_47 : decode cX0_join 47 = .ok (.iload_n 3, 1) := by decide +kernel
theorem dX0_join_48 : decode cX0_join 48 = .ok (.iload_n 1, 1) := by decide +kernel
theorem dX0_join_49 : decode cX0_join 49 = .ok (.if_icmp .eq 43, 3) := by decide +kernel
theorem dX0_join_52 : decode cX0_join 52 = .ok (.iload_n 3, 1) := by decide +kernel
theorem dX0_join_53 : decode cX0_join 53 = .ok (.iload_n 2, 1) := by decide +kernel
theorem dX0_join_54 : decode cX0_join 54 = .ok (.if_icmp .eq 38, 3) := by decide +kernel
theorem dX0_join_57 : decode cX0_join 57 = .ok (.aload_n 0, 1) := by decide +kernel
theorem dX0_join_58 : decode cX0_join 58 = .ok (.getfield 20, 3) := by decide +kernel
theorem dX0_join_61 : decode cX0_join 61 = .ok (.iload_n 2, 1) := by decide +kernel
theorem dX0_join_62 : decode cX0_join 62 = .ok (.aaload, 1) := by decide +kernel
theorem dX0_join_63 : decode cX0_join 63 = .ok (.iload_n 3, 1) := by decide +kernel
theorem dX0_join_64 : decode cX0_join 64 = .ok (.dup2, 1) := by decide +kernel
theorem dX0_join_65 : decode cX0_join 65 = .ok (.iaload, 1) := by decide +kernel
theorem dX0_join_66 : decode cX0_join 66 = .ok (.aload_n 0, 1) := by decide +kernel
theorem dX0_join_67 : decode cX0_join 67 = .ok (.getfield 20, 3) := by decide +kernel
theorem dX0_join_70 : decode cX0_join 70 = .ok (.iload_n 1, 1) := by decide +kernel
theorem dX0_join_71 : decode cX0_join 71 = .ok (.aaload, 1) := by decide +kernel
theorem dX0_join_72 : decode cX0_join 72 = .ok (.iload_n 3, 1) := by decide +kernel
theorem dX0_join_73 : decode cX0_join 73 = .ok (.iaload, 1) := by decide +kernel
theorem dX0_join_74 : decode cX0_join 74 = .ok (.iadd, 1) := by decide +kernel
theorem dX0_join_75 : decode cX0_join 75 = .ok (.iastore, 1) := by decide +kernel
theorem dX0_join_76 : decode cX0_join 76 = .ok (.aload_n 0, 1) := by decide +kernel
theorem dX0_join_77 : decode cX0_join 77 = .ok (.getfield 20, 3) := by decide +kernel
theorem dX0_join_80 : decode cX0_join 80 = .ok (.iload_n 3, 1) := by decide +kernel
theorem dX0_join_81 : decode cX0_join 81 = .ok (.aaload, 1) := by decide +kernel
theorem dX0_join_82 : decode cX0_join 82 = .ok (.iload_n 2, 1) := by decide +kernel
theorem dX0_join_83 : decode cX0_join 83 = .ok (.aload_n 0, 1) := by decide +kernel
theorem dX0_join_84 : decode cX0_join 84 = .ok (.getfield 20, 3) := by decide +kernel
theorem dX0_join_87 : decode cX0_join 87 = .ok (.iload_n 2, 1) := by decide +kernel
theorem dX0_join_88 : decode cX0_join 88 = .ok (.aaload, 1) := by decide +kernel
theorem dX0_join_89 : decode cX0_join 89 = .ok (.iload_n 3, 1) := by decide +kernel
theorem dX0_join_90 : decode cX0_join 90 = .ok (.iaload, 1) := by decide +kernel
theorem dX0_join_91 : decode cX0_join 91 = .ok (.iastore, 1) := by decide +kernel
theorem dX0_join_92 : decode cX0_join 92 = .ok (.aload_n 0, 1) := by decide +kernel
theorem dX0_join_93 : decode cX0_join 93 = .ok (.getfield 20, 3) := by decide +kernel
theorem dX0_join_96 : decode cX0_join 96 = .ok (.iload_n 1, 1) := by decide +kernel
theorem dX0_join_97 : decode cX0_join 97 = .ok (.aaload, 1) := by decide +kernel
theorem dX0_join_98 : decode cX0_join 98 = .ok (.iload_n 3, 1) := by decide +kernel
theorem dX0_join_99 : decode cX0_join 99 = .ok (.iconst 0, 1) := by decide +kernel
theorem dX0_join_100 : decode cX0_join 100 = .ok (.iastore, 1) := by decide +kernel
theorem dX0_join_101 : decode cX0_join 101 = .ok (.aload_n 0, 1) := by decide +kernel
theorem dX0_join_102 : decode cX0_join 102 = .ok (.getfield 20, 3) := by decide +kernel
theorem dX0_join_105 : decode cX0_join 105 = .ok (.iload_n 3, 1) := by decide +kernel
theorem dX0_join_106 : decode cX0_join 106 = .ok (.aaload, 1) := by decide +kernel
theorem dX0_join_107 : decode cX0_join 107 = .ok (.iload_n 1, 1) := by decide +kernel
theorem dX0_join_108 : decode cX0_join 108 = .ok (.iconst 0, 1) := by decide +kernel
theorem dX0_join_109 : decode cX0_join 109 = .ok (.iastore, 1) := by decide +kernel
theorem dX0_join_110 : decode cX0_join 110 = .ok (.iinc 3 1, 3) := by decide +kernel
theorem dX0_join_113 : decode cX0_join 113 = .ok (.goto (-89), 3) := by decide +kernel
theorem dX0_join_116 : decode cX0_join 116 = .ok (.return_, 1) := by decide +kernel
theorem dX1_init_0 : decode cX1_init 0 = .ok (.aload_n 0, 1) := by decide +kernel
theorem dX1_init_1 : decode cX1_init 1 = .ok (.invokespecial 3, 3) := by decide +kernel
theorem dX1_init_4 : decode cX1_init 4 = .ok (.aload_n 0, 1) := by decide +kernel
theorem dX1_init_5 : decode cX1_init 5 = .ok (.sipush 256, 3) := by decide +kernel
theorem dX1_init_8 : decode cX1_init 8 = .ok (.newarray .int, 2) := by decide +kernel
theorem dX1_init_10 : decode cX1_init 10 = .ok (.putfield 9, 3) := by decide +kernel
theorem dX1_init_13 : decode cX1_init 13 = .ok (.aload_n 0, 1) := by decide +kernel
theorem dX1_init_14 : decode cX1_init 14 = .ok (.bipush 10, 2) := by decide +kernel
theorem dX1_init_16 : decode cX1_init 16 = .ok (.newarray .int, 2) := by decide +kernel
theorem dX1_init_18 : decode cX1_init 18 = .ok (.putfield 15, 3) := by decide +kernel
theorem dX1_init_21 : decode cX1_init 21 = .ok (.aload_n 0, 1) := by decide +kernel
theorem dX1_init_22 : decode cX1_init 22 = .ok (.bipush 10, 2) := by decide +kernel
theorem dX1_init_24 : decode cX1_init 24 = .ok (.newarray .int, 2) := by decide +kernel
theorem dX1_init_26 : decode cX1_init 26 = .ok (.putfield 18, 3) := by decide +kernel
theorem dX1_init_29 : decode cX1_init 29 = .ok (.aload_n 0, 1) := by decide +kernel
theorem dX1_init_30 : decode cX1_init 30 = .ok (.bipush 10, 2) := by decide +kernel
theorem dX1_init_32 : decode cX1_init 32 = .ok (.newarray .int, 2) := by decide +kernel
theorem dX1_init_34 : decode cX1_init 34 = .ok (.putfield 21, 3) := by decide +kernel
theorem dX1_init_37 : decode cX1_init 37 = .ok (.aload_n 0, 1) := by decide +kernel
theorem dX1_init_38 : decode cX1_init 38 = .ok (.iconst 1, 1) := by decide +kernel
theorem dX1_init_39 : decode cX1_init 39 = .ok (.putfield 24, 3) := by decide +kernel
theorem dX1_init_42 : decode cX1_init 42 = .ok (.aload_n 0, 1) := by decide +kernel
theorem dX1_init_43 : decode cX1_init 43 = .ok (.bipush 10, 2) := by decide +kernel
theorem dX1_init_45 : decode cX1_init 45 = .ok (.newarray .int, 2) := by decide +kernel
theorem dX1_init_47 : decode cX1_init 47 = .ok (.putfield 28, 3) := by decide +kernel
theorem dX1_init_50 : decode cX1_init 50 = .ok (.aload_n 0, 1) := by decide +kernel
theorem dX1_init_51 : decode cX1_init 51 = .ok (.sipush 10496, 3) := by decide +kernel
theorem dX1_init_54 : decode cX1_init 54 = .ok (.newarray .int, 2) := by decide +kernel
theorem dX1_init_56 : decode cX1_init 56 = .ok (.putfield 31, 3) := by decide +kernel
theorem dX1_init_59 : decode cX1_init 59 = .ok (.aload_n 0, 1) := by decide +kernel
theorem dX1_init_60 : decode cX1_init 60 = .ok (.bipush 10, 2) := by decide +kernel
theorem dX1_init_62 : decode cX1_init 62 = .ok (.newarray .int, 2) := by decide +kernel
theorem dX1_init_64 : decode cX1_init 64 = .ok (.putfield 34, 3) := by decide +kernel
theorem dX1_init_67 : decode cX1_init 67 = .ok (.iconst 0, 1) := by decide +kernel
theorem dX1_init_68 : decode cX1_init 68 = .ok (.istore_n 1, 1) := by decide +kernel
theorem dX1_init_69 : decode cX1_init 69 = .ok (.iload_n 1, 1) := by decide +kernel
theorem dX1_init_70 : decode cX1_init 70 = .ok (.sipush 256, 3) := by decide +kernel
theorem dX1_init_73 : decode cX1_init 73 = .ok (.if_icmp .ge 23, 3) := by decide +kernel
theorem dX1_init_76 : decode cX1_init 76 = .ok (.aload_n 0, 1) := by decide +kernel
theorem dX1_init_77 : decode cX1_init 77 = .ok (.getfield 9, 3) := by decide +kernel
theorem dX1_init_80 : decode cX1_init 80 = .ok (.iload_n 1, 1) := by decide +kernel
theorem dX1_init_81 : decode cX1_init 81 = .ok (.iconst (-1), 1) := by decide +kernel
theorem dX1_init_82 : decode cX1_init 82 = .ok (.iastore, 1) := by decide +kernel
theorem dX1_init_83 : decode cX1_init 83 = .ok (.aload_n 0, 1) := by decide +kernel
theorem dX1_init_84 : decode cX1_init 84 = .ok (.getfield 31, 3) := by decide +kernel
theorem dX1_init_87 : decode cX1_init 87 = .ok (.iload_n 1, 1) := by decide +kernel
theorem dX1_init_88 : decode cX1_init 88 = .ok (.iconst (-1), 1) := by decide +kernel
theorem dX1_init_89 : decode cX1_init 89 = .ok (.iastore, 1) := by decide +kernel
theorem dX1_init_90 : decode cX1_init 90 = .ok (.iinc 1 1, 3) := by decide +kernel
theorem dX1_init_93 : decode cX1_init 93 = .ok (.goto (-24), 3) := by decide +kernel
theorem dX1_init_96 : decode cX1_init 96 = .ok (.return_, 1) := by decide +kernel
theorem dX1_openEdit_0 : decode cX1_openEdit 0 = .ok (.aload_n 0, 1) := by decide +kernel
theorem dX1_openEdit_1 : decode cX1_openEdit 1 = .ok (.getfield 34, 3) := by decide +kernel
theorem dX1_openEdit_4 : decode cX1_openEdit 4 = .ok (.iconst 0, 1) := by decide +kernel
theorem dX1_openEdit_5 : decode cX1_openEdit 5 = .ok (.invokestatic 37, 3) := by decide +kernel
theorem dX1_openEdit_8 : decode cX1_openEdit 8 = .ok (.aload_n 0, 1) := by decide +kernel
theorem dX1_openEdit_9 : decode cX1_openEdit 9 = .ok (.iconst 0, 1) := by decide +kernel
theorem dX1_openEdit_10 : decode cX1_openEdit 10 = .ok (.putfield 43, 3) := by decide +kernel
theorem dX1_openEdit_13 : decode cX1_openEdit 13 = .ok (.return_, 1) := by decide +kernel
theorem dX1_give_0 : decode cX1_give 0 = .ok (.iload_n 1, 1) := by decide +kernel
theorem dX1_give_1 : decode cX1_give 1 = .ok (.ifCond .lt 20, 3) := by decide +kernel
theorem dX1_give_4 : decode cX1_give 4 = .ok (.iload_n 1, 1) := by decide +kernel
theorem dX1_give_5 : decode cX1_give 5 = .ok (.sipush 256, 3) := by decide +kernel
theorem dX1_give_8 : decode cX1_give 8 = .ok (.if_icmp .ge 13, 3) := by decide +kernel
theorem dX1_give_11 : decode cX1_give 11 = .ok (.aload_n 0, 1) := by decide +kernel
theorem dX1_give_12 : decode cX1_give 12 = .ok (.getfield 9, 3) := by decide +kernel
theorem dX1_give_15 : decode cX1_give 15 = .ok (.iload_n 1, 1) := by decide +kernel
theorem dX1_give_16 : decode cX1_give 16 = .ok (.iaload, 1) := by decide +kernel
theorem dX1_give_17 : decode cX1_give 17 = .ok (.iload_n 2, 1) := by decide +kernel
theorem dX1_give_18 : decode cX1_give 18 = .ok (.if_icmp .ne 4, 3) := by decide +kernel
theorem dX1_give_21 : decode cX1_give 21 = .ok (.return_, 1) := by decide +kernel
theorem dX1_give_22 : decode cX1_give 22 = .ok (.aload_n 0, 1) := by decide +kernel
theorem dX1_give_23 : decode cX1_give 23 = .ok (.getfield 9, 3) := by decide +kernel
theorem dX1_give_26 : decode cX1_give 26 = .ok (.iload_n 1, 1) := by decide +kernel
theorem dX1_give_27 : decode cX1_give 27 = .ok (.iaload, 1) := by decide +kernel
theorem dX1_give_28 : decode cX1_give 28 = .ok (.istore_n 3, 1) := by decide +kernel
theorem dX1_give_29 : decode cX1_give 29 = .ok (.iload_n 3, 1) := by decide +kernel
theorem dX1_give_30 : decode cX1_give 30 = .ok (.invokestatic 47, 3) := by decide +kernel
theorem dX1_give_33 : decode cX1_give 33 = .ok (.ifCond .eq 13, 3) := by decide +kernel
theorem dX1_give_36 : decode cX1_give 36 = .ok (.aload_n 0, 1) := by decide +kernel
theorem dX1_give_37 : decode cX1_give 37 = .ok (.getfield 34, 3) := by decide +kernel
theorem dX1_give_40 : decode cX1_give 40 = .ok (.iload_n 3, 1) := by decide +kernel
theorem dX1_give_41 : decode cX1_give 41 = .ok (.dup2, 1) := by decide +kernel
theorem dX1_give_42 : decode cX1_give 42 = .ok (.iaload, 1) := by decide +kernel
theorem dX1_give_43 : decode cX1_give 43 = .ok (.iconst 1, 1) := by decide +kernel
theorem dX1_give_44 : decode cX1_give 44 = .ok (.iadd, 1) := by decide +kernel
theorem dX1_give_45 : decode cX1_give 45 = .ok (.iastore, 1) := by decide +kernel
theorem dX1_give_46 : decode cX1_give 46 = .ok (.aload_n 0, 1) := by decide +kernel
theorem dX1_give_47 : decode cX1_give 47 = .ok (.iload_n 1, 1) := by decide +kernel
theorem dX1_give_48 : decode cX1_give 48 = .ok (.iload_n 2, 1) := by decide +kernel
theorem dX1_give_49 : decode cX1_give 49 = .ok (.invokevirtual 51, 3) := by decide +kernel
theorem dX1_give_52 : decode cX1_give 52 = .ok (.aload_n 0, 1) := by decide +kernel
theorem dX1_give_53 : decode cX1_give 53 = .ok (.dup, 1) := by decide +kernel
theorem dX1_give_54 : decode cX1_give 54 = .ok (.getfield 43, 3) := by decide +kernel
theorem dX1_give_57 : decode cX1_give 57 = .ok (.iconst 1, 1) := by decide +kernel
theorem dX1_give_58 : decode cX1_give 58 = .ok (.iadd, 1) := by decide +kernel
theorem dX1_give_59 : decode cX1_give 59 = .ok (.putfield 43, 3) := by decide +kernel
theorem dX1_give_62 : decode cX1_give 62 = .ok (.return_, 1) := by decide +kernel
theorem dX1_closeEdit_0 : decode cX1_closeEdit 0 = .ok (.iconst 0, 1) := by decide +kernel
theorem dX1_closeEdit_1 : decode cX1_closeEdit 1 = .ok (.istore_n 2, 1) := by decide +kernel
theorem dX1_closeEdit_2 : decode cX1_closeEdit 2 = .ok (.iload_n 2, 1) := by decide +kernel
theorem dX1_closeEdit_3 : decode cX1_closeEdit 3 = .ok (.bipush 10, 2) := by decide +kernel
theorem dX1_closeEdit_5 : decode cX1_closeEdit 5 = .ok (.if_icmp .ge 38, 3) := by decide +kernel
theorem dX1_closeEdit_8 : decode cX1_closeEdit 8 = .ok (.aload_n 0, 1) := by decide +kernel
theorem dX1_closeEdit_9 : decode cX1_closeEdit 9 = .ok (.getfield 24, 3) := by decide +kernel
theorem dX1_closeEdit_12 : decode cX1_closeEdit 12 = .ok (.ifCond .eq 9, 3) := by decide +kernel
theorem dX1_closeEdit_15 : decode cX1_closeEdit 15 = .ok (.aload_n 0, 1) := by decide +kernel
theorem dX1_closeEdit_16 : decode cX1_closeEdit 16 = .ok (.iload_n 2, 1) := by decide +kernel
theorem dX1_closeEdit_17 : decode cX1_closeEdit 17 = .ok (.iload_n 1, 1) := by decide +kernel
theorem dX1_closeEdit_18 : decode cX1_closeEdit 18 = .ok (.invokevirtual 55, 3) := by decide +kernel
theorem dX1_closeEdit_21 : decode cX1_closeEdit 21 = .ok (.aload_n 0, 1) := by decide +kernel
theorem dX1_closeEdit_22 : decode cX1_closeEdit 22 = .ok (.getfield 15, 3) := by decide +kernel
theorem dX1_closeEdit_25 : decode cX1_closeEdit 25 = .ok (.iload_n 2, 1) := by decide +kernel
theorem dX1_closeEdit_26 : decode cX1_closeEdit 26 = .ok (.iaload, 1) := by decide +kernel
theorem dX1_closeEdit_27 : decode cX1_closeEdit 27 = .ok (.ifCond .ne 10, 3) := by decide +kernel
theorem dX1_closeEdit_30 : decode cX1_closeEdit 30 = .ok (.aload_n 0, 1) := by decide +kernel
theorem dX1_closeEdit_31 : decode cX1_closeEdit 31 = .ok (.getfield 18, 3) := by decide +kernel
theorem dX1_closeEdit_34 : decode cX1_closeEdit 34 = .ok (.iload_n 2, 1) := by decide +kernel
theorem dX1_closeEdit_35 : decode cX1_closeEdit 35 = .ok (.iconst 0, 1) := by decide +kernel
theorem dX1_closeEdit_36 : decode cX1_closeEdit 36 = .ok (.iastore, 1) := by decide +kernel
theorem dX1_closeEdit_37 : decode cX1_closeEdit 37 = .ok (.iinc 2 1, 3) := by decide +kernel
theorem dX1_closeEdit_40 : decode cX1_closeEdit 40 = .ok (.goto (-38), 3) := by decide +kernel
theorem dX1_closeEdit_43 : decode cX1_closeEdit 43 = .ok (.aload_n 0, 1) := by decide +kernel
theorem dX1_closeEdit_44 : decode cX1_closeEdit 44 = .ok (.getfield 43, 3) := by decide +kernel
theorem dX1_closeEdit_47 : decode cX1_closeEdit 47 = .ok (.ireturn, 1) := by decide +kernel
theorem dX1_handOver_0 : decode cX1_handOver 0 = .ok (.aload_n 0, 1) := by decide +kernel
theorem dX1_handOver_1 : decode cX1_handOver 1 = .ok (.getfield 15, 3) := by decide +kernel
theorem dX1_handOver_4 : decode cX1_handOver 4 = .ok (.iload_n 1, 1) := by decide +kernel
theorem dX1_handOver_5 : decode cX1_handOver 5 = .ok (.iaload, 1) := by decide +kernel
theorem dX1_handOver_6 : decode cX1_handOver 6 = .ok (.aload_n 0, 1) := by decide +kernel
theorem dX1_handOver_7 : decode cX1_handOver 7 = .ok (.getfield 34, 3) := by decide +kernel
theorem dX1_handOver_10 : decode cX1_handOver 10 = .ok (.iload_n 1, 1) := by decide +kernel
theorem dX1_handOver_11 : decode cX1_handOver 11 = .ok (.iaload, 1) := by decide +kernel
theorem dX1_handOver_12 : decode cX1_handOver 12 = .ok (.iadd, 1) := by decide +kernel
theorem dX1_handOver_13 : decode cX1_handOver 13 = .ok (.istore_n 3, 1) := by decide +kernel
theorem dX1_handOver_14 : decode cX1_handOver 14 = .ok (.aload_n 0, 1) := by decide +kernel
theorem dX1_handOver_15 : decode cX1_handOver 15 = .ok (.getfield 34, 3) := by decide +kernel
theorem dX1_handOver_18 : decode cX1_handOver 18 = .ok (.iload_n 1, 1) := by decide +kernel
theorem dX1_handOver_19 : decode cX1_handOver 19 = .ok (.iaload, 1) := by decide +kernel
theorem dX1_handOver_20 : decode cX1_handOver 20 = .ok (.ifCond .eq 7, 3) := by decide +kernel
theorem dX1_handOver_23 : decode cX1_handOver 23 = .ok (.iload_n 3, 1) := by decide +kernel
theorem dX1_handOver_24 : decode cX1_handOver 24 = .ok (.ifCond .ne 4, 3) := by decide +kernel
theorem dX1_handOver_27 : decode cX1_handOver 27 = .ok (.return_, 1) := by decide +kernel
theorem dX1_handOver_28 : decode cX1_handOver 28 = .ok (.aload_n 0, 1) := by decide +kernel
theorem dX1_handOver_29 : decode cX1_handOver 29 = .ok (.getfield 18, 3) := by decide +kernel
theorem dX1_handOver_32 : decode cX1_handOver 32 = .ok (.iload_n 1, 1) := by decide +kernel
theorem dX1_handOver_33 : decode cX1_handOver 33 = .ok (.iaload, 1) := by decide +kernel
theorem dX1_handOver_34 : decode cX1_handOver 34 = .ok (.i2l, 1) := by decide +kernel
theorem dX1_handOver_35 : decode cX1_handOver 35 = .ok (.aload_n 0, 1) := by decide +kernel
theorem dX1_handOver_36 : decode cX1_handOver 36 = .ok (.getfield 34, 3) := by decide +kernel
theorem dX1_handOver_39 : decode cX1_handOver 39 = .ok (.iload_n 1, 1) := by decide +kernel
theorem dX1_handOver_40 : decode cX1_handOver 40 = .ok (.iaload, 1) := by decide +kernel
theorem dX1_handOver_41 : decode cX1_handOver 41 = .ok (.i2l, 1) := by decide +kernel
theorem dX1_handOver_42 : decode cX1_handOver 42 = .ok (.lmul, 1) := by decide +kernel
theorem dX1_handOver_43 : decode cX1_handOver 43 = .ok (.iload_n 3, 1) := by decide +kernel
theorem dX1_handOver_44 : decode cX1_handOver 44 = .ok (.i2l, 1) := by decide +kernel
theorem dX1_handOver_45 : decode cX1_handOver 45 = .ok (.ldiv, 1) := by decide +kernel
theorem dX1_handOver_46 : decode cX1_handOver 46 = .ok (.l2i, 1) := by decide +kernel
theorem dX1_handOver_47 : decode cX1_handOver 47 = .ok (.istore 4, 2) := by decide +kernel
theorem dX1_handOver_49 : decode cX1_handOver 49 = .ok (.aload_n 0, 1) := by decide +kernel
theorem dX1_handOver_50 : decode cX1_handOver 50 = .ok (.getfield 18, 3) := by decide +kernel
theorem dX1_handOver_53 : decode cX1_handOver 53 = .ok (.iload_n 1, 1) := by decide +kernel
theorem dX1_handOver_54 : decode cX1_handOver 54 = .ok (.dup2, 1) := by decide +kernel
theorem dX1_handOver_55 : decode cX1_handOver 55 = .ok (.iaload, 1) := by decide +kernel
theorem dX1_handOver_56 : decode cX1_handOver 56 = .ok (.iload 4, 2) := by decide +kernel
theorem dX1_handOver_58 : decode cX1_handOver 58 = .ok (.isub, 1) := by decide +kernel
theorem dX1_handOver_59 : decode cX1_handOver 59 = .ok (.iastore, 1) := by decide +kernel
theorem dX1_handOver_60 : decode cX1_handOver 60 = .ok (.iload_n 2, 1) := by decide +kernel
theorem dX1_handOver_61 : decode cX1_handOver 61 = .ok (.invokestatic 47, 3) := by decide +kernel
theorem dX1_handOver_64 : decode cX1_handOver 64 = .ok (.ifCond .eq 14, 3) := by decide +kernel
theorem dX1_handOver_67 : decode cX1_handOver 67 = .ok (.aload_n 0, 1) := by decide +kernel
theorem dX1_handOver_68 : decode cX1_handOver 68 = .ok (.getfield 18, 3) := by decide +kernel
theorem dX1_handOver_71 : decode cX1_handOver 71 = .ok (.iload_n 2, 1) := by decide +kernel
theorem dX1_handOver_72 : decode cX1_handOver 72 = .ok (.dup2, 1) := by decide +kernel
theorem dX1_handOver_73 : decode cX1_handOver 73 = .ok (.iaload, 1) := by decide +kernel
theorem dX1_handOver_74 : decode cX1_handOver 74 = .ok (.iload 4, 2) := by decide +kernel
theorem dX1_handOver_76 : decode cX1_handOver 76 = .ok (.iadd, 1) := by decide +kernel
theorem dX1_handOver_77 : decode cX1_handOver 77 = .ok (.iastore, 1) := by decide +kernel
theorem dX1_handOver_78 : decode cX1_handOver 78 = .ok (.return_, 1) := by decide +kernel
theorem dX1_put_0 : decode cX1_put 0 = .ok (.aload_n 0, 1) := by decide +kernel
theorem dX1_put_1 : decode cX1_put 1 = .ok (.getfield 9, 3) := by decide +kernel
theorem dX1_put_4 : decode cX1_put 4 = .ok (.iload_n 1, 1) := by decide +kernel
theorem dX1_put_5 : decode cX1_put 5 = .ok (.iaload, 1) := by decide +kernel
theorem dX1_put_6 : decode cX1_put 6 = .ok (.istore_n 3, 1) := by decide +kernel
theorem dX1_put_7 : decode cX1_put 7 = .ok (.iload_n 3, 1) := by decide +kernel
theorem dX1_put_8 : decode cX1_put 8 = .ok (.invokestatic 47, 3) := by decide +kernel
theorem dX1_put_11 : decode cX1_put 11 = .ok (.ifCond .eq 13, 3) := by decide +kernel
theorem dX1_put_14 : decode cX1_put 14 = .ok (.aload_n 0, 1) := by decide +kernel
theorem dX1_put_15 : decode cX1_put 15 = .ok (.getfield 15, 3) := by decide +kernel
theorem dX1_put_18 : decode cX1_put 18 = .ok (.iload_n 3, 1) := by decide +kernel
theorem dX1_put_19 : decode cX1_put 19 = .ok (.dup2, 1) := by decide +kernel
theorem dX1_put_20 : decode cX1_put 20 = .ok (.iaload, 1) := by decide +kernel
theorem dX1_put_21 : decode cX1_put 21 = .ok (.iconst 1, 1) := by decide +kernel
theorem dX1_put_22 : decode cX1_put 22 = .ok (.isub, 1) := by decide +kernel
theorem dX1_put_23 : decode cX1_put 23 = .ok (.iastore, 1) := by decide +kernel
theorem dX1_put_24 : decode cX1_put 24 = .ok (.iload_n 2, 1) := by decide +kernel
theorem dX1_put_25 : decode cX1_put 25 = .ok (.invokestatic 47, 3) := by decide +kernel
theorem dX1_put_28 : decode cX1_put 28 = .ok (.ifCond .eq 13, 3) := by decide +kernel
theorem dX1_put_31 : decode cX1_put 31 = .ok (.aload_n 0, 1) := by decide +kernel
theorem dX1_put_32 : decode cX1_put 32 = .ok (.getfield 15, 3) := by decide +kernel
theorem dX1_put_35 : decode cX1_put 35 = .ok (.iload_n 2, 1) := by decide +kernel
theorem dX1_put_36 : decode cX1_put 36 = .ok (.dup2, 1) := by decide +kernel
theorem dX1_put_37 : decode cX1_put 37 = .ok (.iaload, 1) := by decide +kernel
theorem dX1_put_38 : decode cX1_put 38 = .ok (.iconst 1, 1) := by decide +kernel
theorem dX1_put_39 : decode cX1_put 39 = .ok (.iadd, 1) := by decide +kernel
theorem dX1_put_40 : decode cX1_put 40 = .ok (.iastore, 1) := by decide +kernel
theorem dX1_put_41 : decode cX1_put 41 = .ok (.aload_n 0, 1) := by decide +kernel
theorem dX1_put_42 : decode cX1_put 42 = .ok (.getfield 9, 3) := by decide +kernel
theorem dX1_put_45 : decode cX1_put 45 = .ok (.iload_n 1, 1) := by decide +kernel
theorem dX1_put_46 : decode cX1_put 46 = .ok (.iload_n 2, 1) := by decide +kernel
theorem dX1_put_47 : decode cX1_put 47 = .ok (.iastore, 1) := by decide +kernel
theorem dX1_put_48 : decode cX1_put 48 = .ok (.return_, 1) := by decide +kernel
theorem dX1_rememberWorths_0 : decode cX1_rememberWorths 0 = .ok (.aload_n 0, 1) := by decide +kernel
theorem dX1_rememberWorths_1 : decode cX1_rememberWorths 1 = .ok (.getfield 18, 3) := by decide +kernel
theorem dX1_rememberWorths_4 : decode cX1_rememberWorths 4 = .ok (.iconst 0, 1) := by decide +kernel
theorem dX1_rememberWorths_5 : decode cX1_rememberWorths 5 = .ok (.aload_n 0, 1) := by decide +kernel
theorem dX1_rememberWorths_6 : decode cX1_rememberWorths 6 = .ok (.getfield 28, 3) := by decide +kernel
theorem dX1_rememberWorths_9 : decode cX1_rememberWorths 9 = .ok (.iconst 0, 1) := by decide +kernel
theorem dX1_rememberWorths_10 : decode cX1_rememberWorths 10 = .ok (.bipush 10, 2) := by decide +kernel
theorem dX1_rememberWorths_12 : decode cX1_rememberWorths 12 = .ok (.invokestatic 58, 3) := by decide +kernel
theorem dX1_rememberWorths_15 : decode cX1_rememberWorths 15 = .ok (.return_, 1) := by decide +kernel
theorem dX1_store_0 : decode cX1_store 0 = .ok (.iload_n 1, 1) := by decide +kernel
theorem dX1_store_1 : decode cX1_store 1 = .ok (.ifCond .lt 29, 3) := by decide +kernel
theorem dX1_store_4 : decode cX1_store 4 = .ok (.iload_n 1, 1) := by decide +kernel
theorem dX1_store_5 : decode cX1_store 5 = .ok (.bipush 40, 2) := by decide +kernel
theorem dX1_store_7 : decode cX1_store 7 = .ok (.if_icmp .gt 23, 3) := by decide +kernel
theorem dX1_store_10 : decode cX1_store 10 = .ok (.aload_n 0, 1) := by decide +kernel
theorem dX1_store_11 : decode cX1_store 11 = .ok (.getfield 9, 3) := by decide +kernel
theorem dX1_store_14 : decode cX1_store 14 = .ok (.iconst 0, 1) := by decide +kernel
theorem dX1_store_15 : decode cX1_store 15 = .ok (.aload_n 0, 1) := by decide +kernel
theorem dX1_store_16 : decode cX1_store 16 = .ok (.getfield 31, 3) := by decide +kernel
theorem dX1_store_19 : decode cX1_store 19 = .ok (.iload_n 1, 1) := by decide +kernel
theorem dX1_store_20 : decode cX1_store 20 = .ok (.sipush 256, 3) := by decide +kernel
theorem dX1_store_23 : decode cX1_store 23 = .ok (.imul, 1) := by decide +kernel
theorem dX1_store_24 : decode cX1_store 24 = .ok (.sipush 256, 3) := by decide +kernel
theorem dX1_store_27 : decode cX1_store 27 = .ok (.invokestatic 58, 3) := by decide +kernel
theorem dX1_store_30 : decode cX1_store 30 = .ok (.return_, 1) := by decide +kernel
theorem dX1_goBack_0 : decode cX1_goBack 0 = .ok (.iconst 0, 1) := by decide +kernel
theorem dX1_goBack_1 : decode cX1_goBack 1 = .ok (.istore_n 2, 1) := by decide +kernel
theorem dX1_goBack_2 : decode cX1_goBack 2 = .ok (.iconst 0, 1) := by decide +kernel
theorem dX1_goBack_3 : decode cX1_goBack 3 = .ok (.istore_n 3, 1) := by decide +kernel
theorem dX1_goBack_4 : decode cX1_goBack 4 = .ok (.iload_n 3, 1) := by decide +kernel
theorem dX1_goBack_5 : decode cX1_goBack 5 = .ok (.sipush 256, 3) := by decide +kernel
theorem dX1_goBack_8 : decode cX1_goBack 8 = .ok (.if_icmp .ge 38, 3) := by decide +kernel
theorem dX1_goBack_11 : decode cX1_goBack 11 = .ok (.aload_n 0, 1) := by decide +kernel
theorem dX1_goBack_12 : decode cX1_goBack 12 = .ok (.iload_n 1, 1) := by decide +kernel
theorem dX1_goBack_13 : decode cX1_goBack 13 = .ok (.iload_n 3, 1) := by decide +kernel
theorem dX1_goBack_14 : decode cX1_goBack 14 = .ok (.invokevirtual 64, 3) := by decide +kernel
theorem dX1_goBack_17 : decode cX1_goBack 17 = .ok (.istore 4, 2) := by decide +kernel
theorem dX1_goBack_19 : decode cX1_goBack 19 = .ok (.aload_n 0, 1) := by decide +kernel
theorem dX1_goBack_20 : decode cX1_goBack 20 = .ok (.getfield 9, 3) := by decide +kernel
theorem dX1_goBack_23 : decode cX1_goBack 23 = .ok (.iload_n 3, 1) := by decide +kernel
theorem dX1_goBack_24 : decode cX1_goBack 24 = .ok (.iaload, 1) := by decide +kernel
theorem dX1_goBack_25 : decode cX1_goBack 25 = .ok (.iload 4, 2) := by decide +kernel
theorem dX1_goBack_27 : decode cX1_goBack 27 = .ok (.if_icmp .eq 13, 3) := by decide +kernel
theorem dX1_goBack_30 : decode cX1_goBack 30 = .ok (.aload_n 0, 1) := by decide +kernel
theorem dX1_goBack_31 : decode cX1_goBack 31 = .ok (.iload_n 3, 1) := by decide +kernel
theorem dX1_goBack_32 : decode cX1_goBack 32 = .ok (.iload 4, 2) := by decide +kernel
theorem dX1_goBack_34 : decode cX1_goBack 34 = .ok (.invokevirtual 51, 3) := by decide +kernel
theorem dX1_goBack_37 : decode cX1_goBack 37 = .ok (.iinc 2 1, 3) := by decide +kernel
theorem dX1_goBack_40 : decode cX1_goBack 40 = .ok (.iinc 3 1, 3) := by decide +kernel
theorem dX1_goBack_43 : decode cX1_goBack 43 = .ok (.goto (-39), 3) := by decide +kernel
theorem dX1_goBack_46 : decode cX1_goBack 46 = .ok (.aload_n 0, 1) := by decide +kernel
theorem dX1_goBack_47 : decode cX1_goBack 47 = .ok (.getfield 28, 3) := by decide +kernel
theorem dX1_goBack_50 : decode cX1_goBack 50 = .ok (.iconst 0, 1) := by decide +kernel
theorem dX1_goBack_51 : decode cX1_goBack 51 = .ok (.aload_n 0, 1) := by decide +kernel
theorem dX1_goBack_52 : decode cX1_goBack 52 = .ok (.getfield 18, 3) := by decide +kernel
theorem dX1_goBack_55 : decode cX1_goBack 55 = .ok (.iconst 0, 1) := by decide +kernel
theorem dX1_goBack_56 : decode cX1_goBack 56 = .ok (.bipush 10, 2) := by decide +kernel
theorem dX1_goBack_58 : decode cX1_goBack 58 = .ok (.invokestatic 58, 3) := by decide +kernel
theorem dX1_goBack_61 : decode cX1_goBack 61 = .ok (.iload_n 2, 1) := by decide +kernel
theorem dX1_goBack_62 : decode cX1_goBack 62 = .ok (.ireturn, 1) := by decide +kernel
theorem dX1_areaBy_0 : decode cX1_areaBy 0 = .ok (.iload_n 1, 1) := by decide +kernel
theorem dX1_areaBy_1 : decode cX1_areaBy 1 = .ok (.sipush 256, 3) := by decide +kernel
theorem dX1_areaBy_4 : decode cX1_areaBy 4 = .ok (.imul, 1) := by decide +kernel
theorem dX1_areaBy_5 : decode cX1_areaBy 5 = .ok (.iload_n 2, 1) := by decide +kernel
theorem dX1_areaBy_6 : decode cX1_areaBy 6 = .ok (.iadd, 1) := by decide +kernel
theorem dX1_areaBy_7 : decode cX1_areaBy 7 = .ok (.istore_n 3, 1) := by decide +kernel
theorem dX1_areaBy_8 : decode cX1_areaBy 8 = .ok (.iload_n 3, 1) := by decide +kernel
theorem dX1_areaBy_9 : decode cX1_areaBy 9 = .ok (.ifCond .lt 21, 3) := by decide +kernel
theorem dX1_areaBy_12 : decode cX1_areaBy 12 = .ok (.iload_n 3, 1) := by decide +kernel
theorem dX1_areaBy_13 : decode cX1_areaBy 13 = .ok (.aload_n 0, 1) := by decide +kernel
theorem dX1_areaBy_14 : decode cX1_areaBy 14 = .ok (.getfield 31, 3) := by decide +kernel
theorem dX1_areaBy_17 : decode cX1_areaBy 17 = .ok (.arraylength, 1) := by decide +kernel
theorem dX1_areaBy_18 : decode cX1_areaBy 18 = .ok (.if_icmp .ge 12, 3) := by decide +kernel
theorem dX1_areaBy_21 : decode cX1_areaBy 21 = .ok (.aload_n 0, 1) := by decide +kernel
theorem dX1_areaBy_22 : decode cX1_areaBy 22 = .ok (.getfield 31, 3) := by decide +kernel
theorem dX1_areaBy_25 : decode cX1_areaBy 25 = .ok (.iload_n 3, 1) := by decide +kernel
theorem dX1_areaBy_26 : decode cX1_areaBy 26 = .ok (.iaload, 1) := by decide +kernel
theorem dX1_areaBy_27 : decode cX1_areaBy 27 = .ok (.goto 4, 3) := by decide +kernel
theorem dX1_areaBy_30 : decode cX1_areaBy 30 = .ok (.iconst (-1), 1) := by decide +kernel
theorem dX1_areaBy_31 : decode cX1_areaBy 31 = .ok (.ireturn, 1) := by decide +kernel
theorem dX1_isAsStored_0 : decode cX1_isAsStored 0 = .ok (.iconst 0, 1) := by decide +kernel
theorem dX1_isAsStored_1 : decode cX1_isAsStored 1 = .ok (.istore_n 2, 1) := by decide +kernel
theorem dX1_isAsStored_2 : decode cX1_isAsStored 2 = .ok (.iload_n 2, 1) := by decide +kernel
theorem dX1_isAsStored_3 : decode cX1_isAsStored 3 = .ok (.sipush 256, 3) := by decide +kernel
theorem dX1_isAsStored_6 : decode cX1_isAsStored 6 = .ok (.if_icmp .ge 26, 3) := by decide +kernel
theorem dX1_isAsStored_9 : decode cX1_isAsStored 9 = .ok (.aload_n 0, 1) := by decide +kernel
theorem dX1_isAsStored_10 : decode cX1_isAsStored 10 = .ok (.getfield 9, 3) := by decide +kernel
theorem dX1_isAsStored_13 : decode cX1_isAsStored 13 = .ok (.iload_n 2, 1) := by decide +kernel
theorem dX1_isAsStored_14 : decode cX1_isAsStored 14 = .ok (.iaload, 1) := by decide +kernel
theorem dX1_isAsStored_15 : decode cX1_isAsStored 15 = .ok (.aload_n 0, 1) := by decide +kernel
theorem dX1_isAsStored_16 : decode cX1_isAsStored 16 = .ok (.iload_n 1, 1) := by decide +kernel
theorem dX1_isAsStored_17 : decode cX1_isAsStored 17 = .ok (.iload_n 2, 1) := by decide +kernel
theorem dX1_isAsStored_18 : decode cX1_isAsStored 18 = .ok (.invokevirtual 64, 3) := by decide +kernel
theorem dX1_isAsStored_21 : decode cX1_isAsStored 21 = .ok (.if_icmp .eq 5, 3) := by decide +kernel
theorem dX1_isAsStored_24 : decode cX1_isAsStored 24 = .ok (.iconst 0, 1) := by decide +kernel
theorem dX1_isAsStored_25 : decode cX1_isAsStored 25 = .ok (.ireturn, 1) := by decide +kernel
theorem dX1_isAsStored_26 : decode cX1_isAsStored 26 = .ok (.iinc 2 1, 3) := by decide +kernel
theorem dX1_isAsStored_29 : decode cX1_isAsStored 29 = .ok (.goto (-27), 3) := by decide +kernel
theorem dX1_isAsStored_32 : decode cX1_isAsStored 32 = .ok (.iconst 1, 1) := by decide +kernel
theorem dX1_isAsStored_33 : decode cX1_isAsStored 33 = .ok (.ireturn, 1) := by decide +kernel
theorem dX1_hasSoundWorths_0 : decode cX1_hasSoundWorths 0 = .ok (.iconst 0, 1) := by decide +kernel
theorem dX1_hasSoundWorths_1 : decode cX1_hasSoundWorths 1 = .ok (.istore_n 1, 1) := by decide +kernel
theorem dX1_hasSoundWorths_2 : decode cX1_hasSoundWorths 2 = .ok (.iload_n 1, 1) := by decide +kernel
theorem dX1_hasSoundWorths_3 : decode cX1_hasSoundWorths 3 = .ok (.bipush 10, 2) := by decide +kernel
theorem dX1_hasSoundWorths_5 : decode cX1_hasSoundWorths 5 = .ok (.if_icmp .ge 38, 3) := by decide +kernel
theorem dX1_hasSoundWorths_8 : decode cX1_hasSoundWorths 8 = .ok (.aload_n 0, 1) := by decide +kernel
theorem dX1_hasSoundWorths_9 : decode cX1_hasSoundWorths 9 = .ok (.getfield 18, 3) := by decide +kernel
theorem dX1_hasSoundWorths_12 : decode cX1_hasSoundWorths 12 = .ok (.iload_n 1, 1) := by decide +kernel
theorem dX1_hasSoundWorths_13 : decode cX1_hasSoundWorths 13 = .ok (.iaload, 1) := by decide +kernel
theorem dX1_hasSoundWorths_14 : decode cX1_hasSoundWorths 14 = .ok (.ifCond .lt 21, 3) := by decide +kernel
theorem dX1_hasSoundWorths_17 : decode cX1_hasSoundWorths 17 = .ok (.aload_n 0, 1) := by decide +kernel
theorem dX1_hasSoundWorths_18 : decode cX1_hasSoundWorths 18 = .ok (.getfield 15, 3) := by decide +kernel
theorem dX1_hasSoundWorths_21 : decode cX1_hasSoundWorths 21 = .ok (.iload_n 1, 1) := by decide +kernel
theorem dX1_hasSoundWorths_22 : decode cX1_hasSoundWorths 22 = .ok (.iaload, 1) := by decide +kernel
theorem dX1_hasSoundWorths_23 : decode cX1_hasSoundWorths 23 = .ok (.ifCond .ne 14, 3) := by decide +kernel
theorem dX1_hasSoundWorths_26 : decode cX1_hasSoundWorths 26 = .ok (.aload_n 0, 1) := by decide +kernel
theorem dX1_hasSoundWorths_27 : decode cX1_hasSoundWorths 27 = .ok (.getfield 18, 3) := by decide +kernel
theorem dX1_hasSoundWorths_30 : decode cX1_hasSoundWorths 30 = .ok (.iload_n 1, 1) := by decide +kernel
theorem dX1_hasSoundWorths_31 : decode cX1_hasSoundWorths 31 = .ok (.iaload, 1) := by decide +kernel
theorem dX1_hasSoundWorths_32 : decode cX1_hasSoundWorths 32 = .ok (.ifCond .eq 5, 3) := by decide +kernel
theorem dX1_hasSoundWorths_35 : decode cX1_hasSoundWorths 35 = .ok (.iconst 0, 1) := by decide +kernel
theorem dX1_hasSoundWorths_36 : decode cX1_hasSoundWorths 36 = .ok (.ireturn, 1) := by decide +kernel
theorem dX1_hasSoundWorths_37 : decode cX1_hasSoundWorths 37 = .ok (.iinc 1 1, 3) := by decide +kernel
theorem dX1_hasSoundWorths_40 : decode cX1_hasSoundWorths 40 = .ok (.goto (-38), 3) := by decide +kernel
theorem dX1_hasSoundWorths_43 : decode cX1_hasSoundWorths 43 = .ok (.iconst 1, 1) := by decide +kernel
theorem dX1_hasSoundWorths_44 : decode cX1_hasSoundWorths 44 = .ok (.ireturn, 1) := by decide +kernel
theorem dX1_openSides_0 : decode cX1_openSides 0 = .ok (.iconst 0, 1) := by decide +kernel
theorem dX1_openSides_1 : decode cX1_openSides 1 = .ok (.istore_n 2, 1) := by decide +kernel
theorem dX1_openSides_2 : decode cX1_openSides 2 = .ok (.iconst 0, 1) := by decide +kernel
theorem dX1_openSides_3 : decode cX1_openSides 3 = .ok (.istore_n 3, 1) := by decide +kernel
theorem dX1_openSides_4 : decode cX1_openSides 4 = .ok (.iload_n 3, 1) := by decide +kernel
theorem dX1_openSides_5 : decode cX1_openSides 5 = .ok (.iconst 4, 1) := by decide +kernel
theorem dX1_openSides_6 : decode cX1_openSides 6 = .ok (.if_icmp .ge 41, 3) := by decide +kernel
theorem dX1_openSides_9 : decode cX1_openSides 9 = .ok (.iload_n 1, 1) := by decide +kernel
theorem dX1_openSides_10 : decode cX1_openSides 10 = .ok (.iload_n 3, 1) := by decide +kernel
theorem dX1_openSides_11 : decode cX1_openSides 11 = .ok (.invokestatic 68, 3) := by decide +kernel
theorem dX1_openSides_14 : decode cX1_openSides 14 = .ok (.istore 4, 2) := by decide +kernel
theorem dX1_openSides_16 : decode cX1_openSides 16 = .ok (.iload 4, 2) := by decide +kernel
theorem dX1_openSides_18 : decode cX1_openSides 18 = .ok (.iconst (-1), 1) := by decide +kernel
theorem dX1_openSides_19 : decode cX1_openSides 19 = .ok (.if_icmp .eq 19, 3) := by decide +kernel
theorem dX1_openSides_22 : decode cX1_openSides 22 = .ok (.aload_n 0, 1) := by decide +kernel
theorem dX1_openSides_23 : decode cX1_openSides 23 = .ok (.getfield 9, 3) := by decide +kernel
theorem dX1_openSides_26 : decode cX1_openSides 26 = .ok (.iload 4, 2) := by decide +kernel
theorem dX1_openSides_28 : decode cX1_openSides 28 = .ok (.iaload, 1) := by decide +kernel
theorem dX1_openSides_29 : decode cX1_openSides 29 = .ok (.aload_n 0, 1) := by decide +kernel
theorem dX1_openSides_30 : decode cX1_openSides 30 = .ok (.getfield 9, 3) := by decide +kernel
theorem dX1_openSides_33 : decode cX1_openSides 33 = .ok (.iload_n 1, 1) := by decide +kernel
theorem dX1_openSides_34 : decode cX1_openSides 34 = .ok (.iaload, 1) := by decide +kernel
theorem dX1_openSides_35 : decode cX1_openSides 35 = .ok (.if_icmp .eq 6, 3) := by decide +kernel
theorem dX1_openSides_38 : decode cX1_openSides 38 = .ok (.iinc 2 1, 3) := by decide +kernel
theorem dX1_openSides_41 : decode cX1_openSides 41 = .ok (.iinc 3 1, 3) := by decide +kernel
theorem dX1_openSides_44 : decode cX1_openSides 44 = .ok (.goto (-40), 3) := by decide +kernel
theorem dX1_openSides_47 : decode cX1_openSides 47 = .ok (.iload_n 2, 1) := by decide +kernel
theorem dX1_openSides_48 : decode cX1_openSides 48 = .ok (.ireturn, 1) := by decide +kernel
theorem dX2_init_0 : decode cX2_init 0 = .ok (.aload_n 0, 1) := by decide +kernel
theorem dX2_init_1 : decode cX2_init 1 = .ok (.invokespecial 3, 3) := by decide +kernel
theorem dX2_init_4 : decode cX2_init 4 = .ok (.aload_n 0, 1) := by decide +kernel
theorem dX2_init_5 : decode cX2_init 5 = .ok (.sipush 256, 3) := by decide +kernel
theorem dX2_init_8 : decode cX2_init 8 = .ok (.newarray .int, 2) := by decide +kernel
theorem dX2_init_10 : decode cX2_init 10 = .ok (.putfield 9, 3) := by decide +kernel
theorem dX2_init_13 : decode cX2_init 13 = .ok (.return_, 1) := by decide +kernel
theorem dX2_firstSquare_0 : decode cX2_firstSquare 0 = .ok (.aload_n 0, 1) := by decide +kernel
theorem dX2_firstSquare_1 : decode cX2_firstSquare 1 = .ok (.getfield 9, 3) := by decide +kernel
theorem dX2_firstSquare_4 : decode cX2_firstSquare 4 = .ok (.iconst (-1), 1) := by decide +kernel
theorem dX2_firstSquare_5 : decode cX2_firstSquare 5 = .ok (.invokestatic 15, 3) := by decide +kernel
theorem dX2_firstSquare_8 : decode cX2_firstSquare 8 = .ok (.iconst (-1), 1) := by decide +kernel
theorem dX2_firstSquare_9 : decode cX2_firstSquare 9 = .ok (.istore_n 3, 1) := by decide +kernel
theorem dX2_firstSquare_10 : decode cX2_firstSquare 10 = .ok (.iconst 0, 1) := by decide +kernel
theorem dX2_firstSquare_11 : decode cX2_firstSquare 11 = .ok (.istore 4, 2) := by decide +kernel
theorem dX2_firstSquare_13 : decode cX2_firstSquare 13 = .ok (.iload 4, 2) := by decide +kernel
theorem dX2_firstSquare_15 : decode cX2_firstSquare 15 = .ok (.bipush 10, 2) := by decide +kernel
theorem dX2_firstSquare_17 : decode cX2_firstSquare 17 = .ok (.if_icmp .ge 60, 3) := by decide +kernel
theorem dX2_firstSquare_20 : decode cX2_firstSquare 20 = .ok (.aload_n 0, 1) := by decide +kernel
theorem dX2_firstSquare_21 : decode cX2_firstSquare 21 = .ok (.aload_n 1, 1) := by decide +kernel
theorem dX2_firstSquare_22 : decode cX2_firstSquare 22 = .ok (.iload_n 3, 1) := by decide +kernel
theorem dX2_firstSquare_23 : decode cX2_firstSquare 23 = .ok (.invokevirtual 21, 3) := by decide +kernel
theorem dX2_firstSquare_26 : decode cX2_firstSquare 26 = .ok (.istore_n 3, 1) := by decide +kernel
theorem dX2_firstSquare_27 : decode cX2_firstSquare 27 = .ok (.iload_n 3, 1) := by decide +kernel
theorem dX2_firstSquare_28 : decode cX2_firstSquare 28 = .ok (.invokestatic 25, 3) := by decide +kernel
theorem dX2_firstSquare_31 : decode cX2_firstSquare 31 = .ok (.ifCond .ne 5, 3) := by decide +kernel
theorem dX2_firstSquare_34 : decode cX2_firstSquare 34 = .ok (.iconst (-1), 1) := by decide +kernel
theorem dX2_firstSquare_35 : decode cX2_firstSquare 35 = .ok (.ireturn, 1) := by decide +kernel
theorem dX2_firstSquare_36 : decode cX2_firstSquare 36 = .ok (.aload_n 0, 1) := by decide +kernel
theorem dX2_firstSquare_37 : decode cX2_firstSquare 37 = .ok (.aload_n 1, 1) := by decide +kernel
theorem dX2_firstSquare_38 : decode cX2_firstSquare 38 = .ok (.iload_n 3, 1) := by decide +kernel
theorem dX2_firstSquare_39 : decode cX2_firstSquare 39 = .ok (.invokevirtual 29, 3) := by decide +kernel
theorem dX2_firstSquare_42 : decode cX2_firstSquare 42 = .ok (.istore 5, 2) := by decide +kernel
theorem dX2_firstSquare_44 : decode cX2_firstSquare 44 = .ok (.iload_n 3, 1) := by decide +kernel
theorem dX2_firstSquare_45 : decode cX2_firstSquare 45 = .ok (.iload_n 2, 1) := by decide +kernel
theorem dX2_firstSquare_46 : decode cX2_firstSquare 46 = .ok (.if_icmp .ne 6, 3) := by decide +kernel
theorem dX2_firstSquare_49 : decode cX2_firstSquare 49 = .ok (.iload 5, 2) := by decide +kernel
theorem dX2_firstSquare_51 : decode cX2_firstSquare 51 = .ok (.ireturn, 1) := by decide +kernel
theorem dX2_firstSquare_52 : decode cX2_firstSquare 52 = .ok (.iload 5, 2) := by decide +kernel
theorem dX2_firstSquare_54 : decode cX2_firstSquare 54 = .ok (.iconst (-1), 1) := by decide +kernel
theorem dX2_firstSquare_55 : decode cX2_firstSquare 55 = .ok (.if_icmp .eq 16, 3) := by decide +kernel
theorem dX2_firstSquare_58 : decode cX2_firstSquare 58 = .ok (.aload_n 0, 1) := by decide +kernel
theorem dX2_firstSquare_59 : decode cX2_firstSquare 59 = .ok (.iload_n 3, 1) := by decide +kernel
theorem dX2_firstSquare_60 : decode cX2_firstSquare 60 = .ok (.iload 5, 2) := by decide +kernel
theorem dX2_firstSquare_62 : decode cX2_firstSquare 62 = .ok (.aload_n 1, 1) := by decide +kernel
theorem dX2_firstSquare_63 : decode cX2_firstSquare 63 = .ok (.getfield 32, 3) := by decide +kernel
theorem dX2_firstSquare_66 : decode cX2_firstSquare 66 = .ok (.iload_n 3, 1) := by decide +kernel
theorem dX2_firstSquare_67 : decode cX2_firstSquare 67 = .ok (.iaload, 1) := by decide +kernel
theorem dX2_firstSquare_68 : decode cX2_firstSquare 68 = .ok (.invokevirtual 37, 3) := by decide +kernel
theorem dX2_firstSquare_71 : decode cX2_firstSquare 71 = .ok (.iinc 4 1, 3) := by decide +kernel
theorem dX2_firstSquare_74 : decode cX2_firstSquare 74 = .ok (.goto (-61), 3) := by decide +kernel
theorem dX2_firstSquare_77 : decode cX2_firstSquare 77 = .ok (.iconst (-1), 1) := by decide +kernel
theorem dX2_firstSquare_78 : decode cX2_firstSquare 78 = .ok (.ireturn, 1) := by decide +kernel
theorem dX2_nextArea_0 : decode cX2_nextArea 0 = .ok (.iconst (-1), 1) := by decide +kernel
theorem dX2_nextArea_1 : decode cX2_nextArea 1 = .ok (.istore_n 3, 1) := by decide +kernel
theorem dX2_nextArea_2 : decode cX2_nextArea 2 = .ok (.iconst 0, 1) := by decide +kernel
theorem dX2_nextArea_3 : decode cX2_nextArea 3 = .ok (.istore 4, 2) := by decide +kernel
theorem dX2_nextArea_5 : decode cX2_nextArea 5 = .ok (.iload 4, 2) := by decide +kernel
theorem dX2_nextArea_7 : decode cX2_nextArea 7 = .ok (.bipush 10, 2) := by decide +kernel
theorem dX2_nextArea_9 : decode cX2_nextArea 9 = .ok (.if_icmp .ge 78, 3) := by decide +kernel
theorem dX2_nextArea_12 : decode cX2_nextArea 12 = .ok (.aload_n 1, 1) := by decide +kernel
theorem dX2_nextArea_13 : decode cX2_nextArea 13 = .ok (.getfield 32, 3) := by decide +kernel
theorem dX2_nextArea_16 : decode cX2_nextArea 16 = .ok (.iload 4, 2) := by decide +kernel
theorem dX2_nextArea_18 : decode cX2_nextArea 18 = .ok (.iaload, 1) := by decide +kernel
theorem dX2_nextArea_19 : decode cX2_nextArea 19 = .ok (.ifCond .le 34, 3) := by decide +kernel
theorem dX2_nextArea_22 : decode cX2_nextArea 22 = .ok (.aload_n 1, 1) := by decide +kernel
theorem dX2_nextArea_23 : decode cX2_nextArea 23 = .ok (.getfield 41, 3) := by decide +kernel
theorem dX2_nextArea_26 : decode cX2_nextArea 26 = .ok (.iload 4, 2) := by decide +kernel
theorem dX2_nextArea_28 : decode cX2_nextArea 28 = .ok (.iaload, 1) := by decide +kernel
theorem dX2_nextArea_29 : decode cX2_nextArea 29 = .ok (.ifCond .le 24, 3) := by decide +kernel
theorem dX2_nextArea_32 : decode cX2_nextArea 32 = .ok (.iload_n 2, 1) := by decide +kernel
theorem dX2_nextArea_33 : decode cX2_nextArea 33 = .ok (.invokestatic 25, 3) := by decide +kernel
theorem dX2_nextArea_36 : decode cX2_nextArea 36 = .ok (.ifCond .eq 13, 3) := by decide +kernel
theorem dX2_nextArea_39 : decode cX2_nextArea 39 = .ok (.aload_n 1, 1) := by decide +kernel
theorem dX2_nextArea_40 : decode cX2_nextArea 40 = .ok (.iload_n 2, 1) := by decide +kernel
theorem dX2_nextArea_41 : decode cX2_nextArea 41 = .ok (.iload 4, 2) := by decide +kernel
theorem dX2_nextArea_43 : decode cX2_nextArea 43 = .ok (.invokestatic 44, 3) := by decide +kernel
theorem dX2_nextArea_46 : decode cX2_nextArea 46 = .ok (.ifCond .eq 7, 3) := by decide +kernel
theorem dX2_nextArea_49 : decode cX2_nextArea 49 = .ok (.iconst 1, 1) := by decide +kernel
theorem dX2_nextArea_50 : decode cX2_nextArea 50 = .ok (.goto 4, 3) := by decide +kernel
theorem dX2_nextArea_53 : decode cX2_nextArea 53 = .ok (.iconst 0, 1) := by decide +kernel
theorem dX2_nextArea_54 : decode cX2_nextArea 54 = .ok (.istore 5, 2) := by decide +kernel
theorem dX2_nextArea_56 : decode cX2_nextArea 56 = .ok (.iload 5, 2) := by decide +kernel
theorem dX2_nextArea_58 : decode cX2_nextArea 58 = .ok (.ifCond .eq 23, 3) := by decide +kernel
theorem dX2_nextArea_61 : decode cX2_nextArea 61 = .ok (.iload_n 3, 1) := by decide +kernel
theorem dX2_nextArea_62 : decode cX2_nextArea 62 = .ok (.invokestatic 25, 3) := by decide +kernel
theorem dX2_nextArea_65 : decode cX2_nextArea 65 = .ok (.ifCond .eq 13, 3) := by decide +kernel
theorem dX2_nextArea_68 : decode cX2_nextArea 68 = .ok (.aload_n 1, 1) := by decide +kernel
theorem dX2_nextArea_69 : decode cX2_nextArea 69 = .ok (.iload 4, 2) := by decide +kernel
theorem dX2_nextArea_71 : decode cX2_nextArea 71 = .ok (.iload_n 3, 1) := by decide +kernel
theorem dX2_nextArea_72 : decode cX2_nextArea 72 = .ok (.invokestatic 44, 3) := by decide +kernel
theorem dX2_nextArea_75 : decode cX2_nextArea 75 = .ok (.ifCond .eq 6, 3) := by decide +kernel
theorem dX2_nextArea_78 : decode cX2_nextArea 78 = .ok (.iload 4, 2) := by decide +kernel
theorem dX2_nextArea_80 : decode cX2_nextArea 80 = .ok (.istore_n 3, 1) := by decide +kernel
theorem dX2_nextArea_81 : decode cX2_nextArea 81 = .ok (.iinc 4 1, 3) := by decide +kernel
theorem dX2_nextArea_84 : decode cX2_nextArea 84 = .ok (.goto (-79), 3) := by decide +kernel
theorem dX2_nextArea_87 : decode cX2_nextArea 87 = .ok (.iload_n 3, 1) := by decide +kernel
theorem dX2_nextArea_88 : decode cX2_nextArea 88 = .ok (.ireturn, 1) := by decide +kernel
theorem dX2_comesBefore_0 : decode cX2_comesBefore 0 = .ok (.aload_n 0, 1) := by decide +kernel
theorem dX2_comesBefore_1 : decode cX2_comesBefore 1 = .ok (.getfield 41, 3) := by decide +kernel
theorem dX2_comesBefore_4 : decode cX2_comesBefore 4 = .ok (.iload_n 1, 1) := by decide +kernel
theorem dX2_comesBefore_5 : decode cX2_comesBefore 5 = .ok (.iaload, 1) := by decide +kernel
theorem dX2_comesBefore_6 : decode cX2_comesBefore 6 = .ok (.istore_n 3, 1) := by decide +kernel
theorem dX2_comesBefore_7 : decode cX2_comesBefore 7 = .ok (.aload_n 0, 1) := by decide +kernel
theorem dX2_comesBefore_8 : decode cX2_comesBefore 8 = .ok (.getfield 41, 3) := by decide +kernel
theorem dX2_comesBefore_11 : decode cX2_comesBefore 11 = .ok (.iload_n 2, 1) := by decide +kernel
theorem dX2_comesBefore_12 : decode cX2_comesBefore 12 = .ok (.iaload, 1) := by decide +kernel
theorem dX2_comesBefore_13 : decode cX2_comesBefore 13 = .ok (.istore 4, 2) := by decide +kernel
theorem dX2_comesBefore_15 : decode cX2_comesBefore 15 = .ok (.iload_n 3, 1) := by decide +kernel
theorem dX2_comesBefore_16 : decode cX2_comesBefore 16 = .ok (.iload 4, 2) := by decide +kernel
theorem dX2_comesBefore_18 : decode cX2_comesBefore 18 = .ok (.if_icmp .gt 14, 3) := by decide +kernel
theorem dX2_comesBefore_21 : decode cX2_comesBefore 21 = .ok (.iload_n 3, 1) := by decide +kernel
theorem dX2_comesBefore_22 : decode cX2_comesBefore 22 = .ok (.iload 4, 2) := by decide +kernel
theorem dX2_comesBefore_24 : decode cX2_comesBefore 24 = .ok (.if_icmp .ne 12, 3) := by decide +kernel
theorem dX2_comesBefore_27 : decode cX2_comesBefore 27 = .ok (.iload_n 1, 1) := by decide +kernel
theorem dX2_comesBefore_28 : decode cX2_comesBefore 28 = .ok (.iload_n 2, 1) := by decide +kernel
theorem dX2_comesBefore_29 : decode cX2_comesBefore 29 = .ok (.if_icmp .ge 7, 3) := by decide +kernel
theorem dX2_comesBefore_32 : decode cX2_comesBefore 32 = .ok (.iconst 1, 1) := by decide +kernel
theorem dX2_comesBefore_33 : decode cX2_comesBefore 33 = .ok (.goto 4, 3) := by decide +kernel
theorem dX2_comesBefore_36 : decode cX2_comesBefore 36 = .ok (.iconst 0, 1) := by decide +kernel
theorem dX2_comesBefore_37 : decode cX2_comesBefore 37 = .ok (.ireturn, 1) := by decide +kernel
theorem dX2_bestPlace_0 : decode cX2_bestPlace 0 = .ok (.aload_n 1, 1) := by decide +kernel
theorem dX2_bestPlace_1 : decode cX2_bestPlace 1 = .ok (.getfield 41, 3) := by decide +kernel
theorem dX2_bestPlace_4 : decode cX2_bestPlace 4 = .ok (.iload_n 2, 1) := by decide +kernel
theorem dX2_bestPlace_5 : decode cX2_bestPlace 5 = .ok (.iaload, 1) := by decide +kernel
theorem dX2_bestPlace_6 : decode cX2_bestPlace 6 = .ok (.istore_n 3, 1) := by decide +kernel
theorem dX2_bestPlace_7 : decode cX2_bestPlace 7 = .ok (.aload_n 1, 1) := by decide +kernel
theorem dX2_bestPlace_8 : decode cX2_bestPlace 8 = .ok (.getfield 32, 3) := by decide +kernel
theorem dX2_bestPlace_11 : decode cX2_bestPlace 11 = .ok (.iload_n 2, 1) := by decide +kernel
theorem dX2_bestPlace_12 : decode cX2_bestPlace 12 = .ok (.iaload, 1) := by decide +kernel
theorem dX2_bestPlace_13 : decode cX2_bestPlace 13 = .ok (.istore 4, 2) := by decide +kernel
theorem dX2_bestPlace_15 : decode cX2_bestPlace 15 = .ok (.iload_n 3, 1) := by decide +kernel
theorem dX2_bestPlace_16 : decode cX2_bestPlace 16 = .ok (.ifCond .ne 5, 3) := by decide +kernel
theorem dX2_bestPlace_19 : decode cX2_bestPlace 19 = .ok (.iconst (-1), 1) := by decide +kernel
theorem dX2_bestPlace_20 : decode cX2_bestPlace 20 = .ok (.ireturn, 1) := by decide +kernel
theorem dX2_bestPlace_21 : decode cX2_bestPlace 21 = .ok (.aload_n 1, 1) := by decide +kernel
theorem dX2_bestPlace_22 : decode cX2_bestPlace 22 = .ok (.iload_n 2, 1) := by decide +kernel
theorem dX2_bestPlace_23 : decode cX2_bestPlace 23 = .ok (.iconst 1, 1) := by decide +kernel
theorem dX2_bestPlace_24 : decode cX2_bestPlace 24 = .ok (.invokestatic 48, 3) := by decide +kernel
theorem dX2_bestPlace_27 : decode cX2_bestPlace 27 = .ok (.iload_n 3, 1) := by decide +kernel
theorem dX2_bestPlace_28 : decode cX2_bestPlace 28 = .ok (.idiv, 1) := by decide +kernel
theorem dX2_bestPlace_29 : decode cX2_bestPlace 29 = .ok (.istore 5, 2) := by decide +kernel
theorem dX2_bestPlace_31 : decode cX2_bestPlace 31 = .ok (.aload_n 1, 1) := by decide +kernel
theorem dX2_bestPlace_32 : decode cX2_bestPlace 32 = .ok (.iload_n 2, 1) := by decide +kernel
theorem dX2_bestPlace_33 : decode cX2_bestPlace 33 = .ok (.iconst 0, 1) := by decide +kernel
theorem dX2_bestPlace_34 : decode cX2_bestPlace 34 = .ok (.invokestatic 48, 3) := by decide +kernel
theorem dX2_bestPlace_37 : decode cX2_bestPlace 37 = .ok (.iload_n 3, 1) := by decide +kernel
theorem dX2_bestPlace_38 : decode cX2_bestPlace 38 = .ok (.idiv, 1) := by decide +kernel
theorem dX2_bestPlace_39 : decode cX2_bestPlace 39 = .ok (.istore 6, 2) := by decide +kernel
theorem dX2_bestPlace_41 : decode cX2_bestPlace 41 = .ok (.iconst (-1), 1) := by decide +kernel
theorem dX2_bestPlace_42 : decode cX2_bestPlace 42 = .ok (.istore 7, 2) := by decide +kernel
theorem dX2_bestPlace_44 : decode cX2_bestPlace 44 = .ok (.sipush 1000, 3) := by decide +kernel
theorem dX2_bestPlace_47 : decode cX2_bestPlace 47 = .ok (.istore 8, 2) := by decide +kernel
theorem dX2_bestPlace_49 : decode cX2_bestPlace 49 = .ok (.iconst 0, 1) := by decide +kernel
theorem dX2_bestPlace_50 : decode cX2_bestPlace 50 = .ok (.istore 9, 2) := by decide +kernel
theorem dX2_bestPlace_52 : decode cX2_bestPlace 52 = .ok (.iload 9, 2) := by decide +kernel
theorem dX2_bestPlace_54 : decode cX2_bestPlace 54 = .ok (.sipush 256, 3) := by decide +kernel
theorem dX2_bestPlace_57 : decode cX2_bestPlace 57 = .ok (.if_icmp .ge 67, 3) := by decide +kernel
theorem dX2_bestPlace_60 : decode cX2_bestPlace 60 = .ok (.iload 9, 2) := by decide +kernel
theorem dX2_bestPlace_62 : decode cX2_bestPlace 62 = .ok (.bipush 16, 2) := by decide +kernel
theorem dX2_bestPlace_64 : decode cX2_bestPlace 64 = .ok (.irem, 1) := by decide +kernel
theorem dX2_bestPlace_65 : decode cX2_bestPlace 65 = .ok (.iload 4, 2) := by decide +kernel
theorem dX2_bestPlace_67 : decode cX2_bestPlace 67 = .ok (.iconst 2, 1) := by decide +kernel
theorem dX2_bestPlace_68 : decode cX2_bestPlace 68 = .ok (.idiv, 1) := by decide +kernel
theorem dX2_bestPlace_69 : decode cX2_bestPlace 69 = .ok (.iadd, 1) := by decide +kernel
theorem dX2_bestPlace_70 : decode cX2_bestPlace 70 = .ok (.iload 5, 2) := by decide +kernel
theorem dX2_bestPlace_72 : decode cX2_bestPlace 72 = .ok (.isub, 1) := by decide +kernel
theorem dX2_bestPlace_73 : decode cX2_bestPlace 73 = .ok (.invokestatic 52, 3) := by decide +kernel
theorem dX2_bestPlace_76 : decode cX2_bestPlace 76 = .ok (.iload 9, 2) := by decide +kernel
theorem dX2_bestPlace_78 : decode cX2_bestPlace 78 = .ok (.bipush 16, 2) := by decide +kernel
theorem dX2_bestPlace_80 : decode cX2_bestPlace 80 = .ok (.idiv, 1) := by decide +kernel
theorem dX2_bestPlace_81 : decode cX2_bestPlace 81 = .ok (.iload 6, 2) := by decide +kernel
theorem dX2_bestPlace_83 : decode cX2_bestPlace 83 = .ok (.isub, 1) := by decide +kernel
theorem dX2_bestPlace_84 : decode cX2_bestPlace 84 = .ok (.invokestatic 52, 3) := by decide +kernel
theorem dX2_bestPlace_87 : decode cX2_bestPlace 87 = .ok (.iadd, 1) := by decide +kernel
theorem dX2_bestPlace_88 : decode cX2_bestPlace 88 = .ok (.istore 10, 2) := by decide +kernel
theorem dX2_bestPlace_90 : decode cX2_bestPlace 90 = .ok (.iload 10, 2) := by decide +kernel
theorem dX2_bestPlace_92 : decode cX2_bestPlace 92 = .ok (.iload 8, 2) := by decide +kernel
theorem dX2_bestPlace_94 : decode cX2_bestPlace 94 = .ok (.if_icmp .ge 24, 3) := by decide +kernel
theorem dX2_bestPlace_97 : decode cX2_bestPlace 97 = .ok (.aload_n 0, 1) := by decide +kernel
theorem dX2_bestPlace_98 : decode cX2_bestPlace 98 = .ok (.aload_n 1, 1) := by decide +kernel
theorem dX2_bestPlace_99 : decode cX2_bestPlace 99 = .ok (.iload_n 2, 1) := by decide +kernel
theorem dX2_bestPlace_100 : decode cX2_bestPlace 100 = .ok (.iload 9, 2) := by decide +kernel
theorem dX2_bestPlace_102 : decode cX2_bestPlace 102 = .ok (.iload 4, 2) := by decide +kernel
theorem dX2_bestPlace_104 : decode cX2_bestPlace 104 = .ok (.invokevirtual 58, 3) := by decide +kernel
theorem dX2_bestPlace_107 : decode cX2_bestPlace 107 = .ok (.ifCond .eq 11, 3) := by decide +kernel
theorem dX2_bestPlace_110 : decode cX2_bestPlace 110 = .ok (.iload 9, 2) := by decide +kernel
theorem dX2_bestPlace_112 : decode cX2_bestPlace 112 = .ok (.istore 7, 2) := by decide +kernel
theorem dX2_bestPlace_114 : decode cX2_bestPlace 114 = .ok (.iload 10, 2) := by decide +kernel
theorem dX2_bestPlace_116 : decode cX2_bestPlace 116 = .ok (.istore 8, 2) := by decide +kernel
theorem dX2_bestPlace_118 : decode cX2_bestPlace 118 = .ok (.iinc 9 1, 3) := by decide +kernel
theorem dX2_bestPlace_121 : decode cX2_bestPlace 121 = .ok (.goto (-69), 3) := by decide +kernel
theorem dX2_bestPlace_124 : decode cX2_bestPlace 124 = .ok (.iload 7, 2) := by decide +kernel
theorem dX2_bestPlace_126 : decode cX2_bestPlace 126 = .ok (.ireturn, 1) := by decide +kernel
theorem dX2_sumOf_0 : decode cX2_sumOf 0 = .ok (.iconst 0, 1) := by decide +kernel
theorem dX2_sumOf_1 : decode cX2_sumOf 1 = .ok (.istore_n 3, 1) := by decide +kernel
theorem dX2_sumOf_2 : decode cX2_sumOf 2 = .ok (.iconst 0, 1) := by decide +kernel
theorem dX2_sumOf_3 : decode cX2_sumOf 3 = .ok (.istore 4, 2) := by decide +kernel
theorem dX2_sumOf_5 : decode cX2_sumOf 5 = .ok (.iload 4, 2) := by decide +kernel
theorem dX2_sumOf_7 : decode cX2_sumOf 7 = .ok (.sipush 256, 3) := by decide +kernel
theorem dX2_sumOf_10 : decode cX2_sumOf 10 = .ok (.if_icmp .ge 40, 3) := by decide +kernel
theorem dX2_sumOf_13 : decode cX2_sumOf 13 = .ok (.aload_n 0, 1) := by decide +kernel
theorem dX2_sumOf_14 : decode cX2_sumOf 14 = .ok (.getfield 62, 3) := by decide +kernel
theorem dX2_sumOf_17 : decode cX2_sumOf 17 = .ok (.iload 4, 2) := by decide +kernel
theorem dX2_sumOf_19 : decode cX2_sumOf 19 = .ok (.iaload, 1) := by decide +kernel
theorem dX2_sumOf_20 : decode cX2_sumOf 20 = .ok (.iload_n 1, 1) := by decide +kernel
theorem dX2_sumOf_21 : decode cX2_sumOf 21 = .ok (.if_icmp .ne 23, 3) := by decide +kernel
theorem dX2_sumOf_24 : decode cX2_sumOf 24 = .ok (.iload_n 3, 1) := by decide +kernel
theorem dX2_sumOf_25 : decode cX2_sumOf 25 = .ok (.iload_n 2, 1) := by decide +kernel
theorem dX2_sumOf_26 : decode cX2_sumOf 26 = .ok (.ifCond .eq 11, 3) := by decide +kernel
theorem dX2_sumOf_29 : decode cX2_sumOf 29 = .ok (.iload 4, 2) := by decide +kernel
theorem dX2_sumOf_31 : decode cX2_sumOf 31 = .ok (.bipush 16, 2) := by decide +kernel
theorem dX2_sumOf_33 : decode cX2_sumOf 33 = .ok (.irem, 1) := by decide +kernel
theorem dX2_sumOf_34 : decode cX2_sumOf 34 = .ok (.goto 8, 3) := by decide +kernel
theorem dX2_sumOf_37 : decode cX2_sumOf 37 = .ok (.iload 4, 2) := by decide +kernel
theorem dX2_sumOf_39 : decode cX2_sumOf 39 = .ok (.bipush 16, 2) := by decide +kernel
theorem dX2_sumOf_41 : decode cX2_sumOf 41 = .ok (.idiv, 1) := by decide +kernel
theorem dX2_sumOf_42 : decode cX2_sumOf 42 = .ok (.iadd, 1) := by decide +kernel
theorem dX2_sumOf_43 : decode cX2_sumOf 43 = .ok (.istore_n 3, 1) := by decide +kernel
theorem dX2_sumOf_44 : decode cX2_sumOf 44 = .ok (.iinc 4 1, 3) := by decide +kernel
theorem dX2_sumOf_47 : decode cX2_sumOf 47 = .ok (.goto (-42), 3) := by decide +kernel
theorem dX2_sumOf_50 : decode cX2_sumOf 50 = .ok (.iload_n 3, 1) := by decide +kernel
theorem dX2_sumOf_51 : decode cX2_sumOf 51 = .ok (.ireturn, 1) := by decide +kernel
theorem dX2_isFree_0 : decode cX2_isFree 0 = .ok (.iload_n 3, 1) := by decide +kernel
theorem dX2_isFree_1 : decode cX2_isFree 1 = .ok (.bipush 16, 2) := by decide +kernel
theorem dX2_isFree_3 : decode cX2_isFree 3 = .ok (.irem, 1) := by decide +kernel
theorem dX2_isFree_4 : decode cX2_isFree 4 = .ok (.iload 4, 2) := by decide +kernel
theorem dX2_isFree_6 : decode cX2_isFree 6 = .ok (.iadd, 1) := by decide +kernel
theorem dX2_isFree_7 : decode cX2_isFree 7 = .ok (.bipush 16, 2) := by decide +kernel
theorem dX2_isFree_9 : decode cX2_isFree 9 = .ok (.if_icmp .le 5, 3) := by decide +kernel
theorem dX2_isFree_12 : decode cX2_isFree 12 = .ok (.iconst 0, 1) := by decide +kernel
theorem dX2_isFree_13 : decode cX2_isFree 13 = .ok (.ireturn, 1) := by decide +kernel
theorem dX2_isFree_14 : decode cX2_isFree 14 = .ok (.iload_n 3, 1) := by decide +kernel
theorem dX2_isFree_15 : decode cX2_isFree 15 = .ok (.istore 5, 2) := by decide +kernel
theorem dX2_isFree_17 : decode cX2_isFree 17 = .ok (.iload 5, 2) := by decide +kernel
theorem dX2_isFree_19 : decode cX2_isFree 19 = .ok (.iload_n 3, 1) := by decide +kernel
theorem dX2_isFree_20 : decode cX2_isFree 20 = .ok (.iload 4, 2) := by decide +kernel
theorem dX2_isFree_22 : decode cX2_isFree 22 = .ok (.iadd, 1) := by decide +kernel
theorem dX2_isFree_23 : decode cX2_isFree 23 = .ok (.if_icmp .ge 31, 3) := by decide +kernel
theorem dX2_isFree_26 : decode cX2_isFree 26 = .ok (.aload_n 1, 1) := by decide +kernel
theorem dX2_isFree_27 : decode cX2_isFree 27 = .ok (.getfield 62, 3) := by decide +kernel
theorem dX2_isFree_30 : decode cX2_isFree 30 = .ok (.iload 5, 2) := by decide +kernel
theorem dX2_isFree_32 : decode cX2_isFree 32 = .ok (.iaload, 1) := by decide +kernel
theorem dX2_isFree_33 : decode cX2_isFree 33 = .ok (.iload_n 2, 1) := by decide +kernel
theorem dX2_isFree_34 : decode cX2_isFree 34 = .ok (.if_icmp .ne 12, 3) := by decide +kernel
theorem dX2_isFree_37 : decode cX2_isFree 37 = .ok (.aload_n 0, 1) := by decide +kernel
theorem dX2_isFree_38 : decode cX2_isFree 38 = .ok (.iload 5, 2) := by decide +kernel
theorem dX2_isFree_40 : decode cX2_isFree 40 = .ok (.invokevirtual 65, 3) := by decide +kernel
theorem dX2_isFree_43 : decode cX2_isFree 43 = .ok (.ifCond .eq 5, 3) := by decide +kernel
theorem dX2_isFree_46 : decode cX2_isFree 46 = .ok (.iconst 0, 1) := by decide +kernel
theorem dX2_isFree_47 : decode cX2_isFree 47 = .ok (.ireturn, 1) := by decide +kernel
theorem dX2_isFree_48 : decode cX2_isFree 48 = .ok (.iinc 5 1, 3) := by decide +kernel
theorem dX2_isFree_51 : decode cX2_isFree 51 = .ok (.goto (-34), 3) := by decide +kernel
theorem dX2_isFree_54 : decode cX2_isFree 54 = .ok (.iconst 1, 1) := by decide +kernel
theorem dX2_isFree_55 : decode cX2_isFree 55 = .ok (.ireturn, 1) := by decide +kernel
theorem dX2_isNearName_0 : decode cX2_isNearName 0 = .ok (.aload_n 0, 1) := by decide +kernel
theorem dX2_isNearName_1 : decode cX2_isNearName 1 = .ok (.getfield 9, 3) := by decide +kernel
theorem dX2_isNearName_4 : decode cX2_isNearName 4 = .ok (.iload_n 1, 1) := by decide +kernel
theorem dX2_isNearName_5 : decode cX2_isNearName 5 = .ok (.iaload, 1) := by decide +kernel
theorem dX2_isNearName_6 : decode cX2_isNearName 6 = .ok (.iconst (-1), 1) := by decide +kernel
theorem dX2_isNearName_7 : decode cX2_isNearName 7 = .ok (.if_icmp .eq 7, 3) := by decide +kernel
theorem dX2_isNearName_10 : decode cX2_isNearName 10 = .ok (.iconst 1, 1) := by decide +kernel
theorem dX2_isNearName_11 : decode cX2_isNearName 11 = .ok (.goto 4, 3) := by decide +kernel
theorem dX2_isNearName_14 : decode cX2_isNearName 14 = .ok (.iconst 0, 1) := by decide +kernel
theorem dX2_isNearName_15 : decode cX2_isNearName 15 = .ok (.istore_n 2, 1) := by decide +kernel
theorem dX2_isNearName_16 : decode cX2_isNearName 16 = .ok (.iconst 0, 1) := by decide +kernel
theorem dX2_isNearName_17 : decode cX2_isNearName 17 = .ok (.istore_n 3, 1) := by decide +kernel
theorem dX2_isNearName_18 : decode cX2_isNearName 18 = .ok (.iload_n 3, 1) := by decide +kernel
theorem dX2_isNearName_19 : decode cX2_isNearName 19 = .ok (.iconst 4, 1) := by decide +kernel
theorem dX2_isNearName_20 : decode cX2_isNearName 20 = .ok (.if_icmp .ge 43, 3) := by decide +kernel
theorem dX2_isNearName_23 : decode cX2_isNearName 23 = .ok (.iload_n 1, 1) := by decide +kernel
theorem dX2_isNearName_24 : decode cX2_isNearName 24 = .ok (.iload_n 3, 1) := by decide +kernel
theorem dX2_isNearName_25 : decode cX2_isNearName 25 = .ok (.invokestatic 68, 3) := by decide +kernel
theorem dX2_isNearName_28 : decode cX2_isNearName 28 = .ok (.istore 4, 2) := by decide +kernel
theorem dX2_isNearName_30 : decode cX2_isNearName 30 = .ok (.iload_n 2, 1) := by decide +kernel
theorem dX2_isNearName_31 : decode cX2_isNearName 31 = .ok (.ifCond .ne 20, 3) := by decide +kernel
theorem dX2_isNearName_34 : decode cX2_isNearName 34 = .ok (.iload 4, 2) := by decide +kernel
theorem dX2_isNearName_36 : decode cX2_isNearName 36 = .ok (.iconst (-1), 1) := by decide +kernel
theorem dX2_isNearName_37 : decode cX2_isNearName 37 = .ok (.if_icmp .eq 18, 3) := by decide +kernel
theorem dX2_isNearName_40 : decode cX2_isNearName 40 = .ok (.aload_n 0, 1) := by decide +kernel
theorem dX2_isNearName_41 : decode cX2_isNearName 41 = .ok (.getfield 9, 3) := by decide +kernel
theorem dX2_isNearName_44 : decode cX2_isNearName 44 = .ok (.iload 4, 2) := by decide +kernel
theorem dX2_isNearName_46 : decode cX2_isNearName 46 = .ok (.iaload, 1) := by decide +kernel
theorem dX2_isNearName_47 : decode cX2_isNearName 47 = .ok (.iconst (-1), 1) := by decide +kernel
theorem dX2_isNearName_48 : decode cX2_isNearName 48 = .ok (.if_icmp .eq 7, 3) := by decide +kernel
theorem dX2_isNearName_51 : decode cX2_isNearName 51 = .ok (.iconst 1, 1) := by decide +kernel
theorem dX2_isNearName_52 : decode cX2_isNearName 52 = .ok (.goto 4, 3) := by decide +kernel
theorem dX2_isNearName_55 : decode cX2_isNearName 55 = .ok (.iconst 0, 1) := by decide +kernel
theorem dX2_isNearName_56 : decode cX2_isNearName 56 = .ok (.istore_n 2, 1) := by decide +kernel
theorem dX2_isNearName_57 : decode cX2_isNearName 57 = .ok (.iinc 3 1, 3) := by decide +kernel
theorem dX2_isNearName_60 : decode cX2_isNearName 60 = .ok (.goto (-42), 3) := by decide +kernel
theorem dX2_isNearName_63 : decode cX2_isNearName 63 = .ok (.iload_n 2, 1) := by decide +kernel
theorem dX2_isNearName_64 : decode cX2_isNearName 64 = .ok (.ireturn, 1) := by decide +kernel
theorem dX2_write_0 : decode cX2_write 0 = .ok (.iload_n 2, 1) := by decide +kernel
theorem dX2_write_1 : decode cX2_write 1 = .ok (.istore 4, 2) := by decide +kernel
theorem dX2_write_3 : decode cX2_write 3 = .ok (.iload 4, 2) := by decide +kernel
theorem dX2_write_5 : decode cX2_write 5 = .ok (.iload_n 2, 1) := by decide +kernel
theorem dX2_write_6 : decode cX2_write 6 = .ok (.iload_n 3, 1) := by decide +kernel
theorem dX2_write_7 : decode cX2_write 7 = .ok (.iadd, 1) := by decide +kernel
theorem dX2_write_8 : decode cX2_write 8 = .ok (.if_icmp .ge 30, 3) := by decide +kernel
theorem dX2_write_11 : decode cX2_write 11 = .ok (.iload 4, 2) := by decide +kernel
theorem dX2_write_13 : decode cX2_write 13 = .ok (.ifCond .lt 19, 3) := by decide +kernel
theorem dX2_write_16 : decode cX2_write 16 = .ok (.iload 4, 2) := by decide +kernel
theorem dX2_write_18 : decode cX2_write 18 = .ok (.sipush 256, 3) := by decide +kernel
theorem dX2_write_21 : decode cX2_write 21 = .ok (.if_icmp .ge 11, 3) := by decide +kernel
theorem dX2_write_24 : decode cX2_write 24 = .ok (.aload_n 0, 1) := by decide +kernel
theorem dX2_write_25 : decode cX2_write 25 = .ok (.getfield 9, 3) := by decide +kernel
theorem dX2_write_28 : decode cX2_write 28 = .ok (.iload 4, 2) := by decide +kernel
theorem dX2_write_30 : decode cX2_write 30 = .ok (.iload_n 1, 1) := by decide +kernel
theorem dX2_write_31 : decode cX2_write 31 = .ok (.iastore, 1) := by decide +kernel
theorem dX2_write_32 : decode cX2_write 32 = .ok (.iinc 4 1, 3) := by decide +kernel
theorem dX2_write_35 : decode cX2_write 35 = .ok (.goto (-32), 3) := by decide +kernel
theorem dX2_write_38 : decode cX2_write 38 = .ok (.return_, 1) := by decide +kernel
theorem dX3_init_0 : decode cX3_init 0 = .ok (.aload_n 0, 1) := by decide +kernel
theorem dX3_init_1 : decode cX3_init 1 = .ok (.invokespecial 3, 3) := by decide +kernel
theorem dX3_init_4 : decode cX3_init 4 = .ok (.aload_n 0, 1) := by decide +kernel
theorem dX3_init_5 : decode cX3_init 5 = .ok (.sipush 256, 3) := by decide +kernel
theorem dX3_init_8 : decode cX3_init 8 = .ok (.newarray .int, 2) := by decide +kernel
theorem dX3_init_10 : decode cX3_init 10 = .ok (.putfield 9, 3) := by decide +kernel
theorem dX3_init_13 : decode cX3_init 13 = .ok (.aload_n 0, 1) := by decide +kernel
theorem dX3_init_14 : decode cX3_init 14 = .ok (.sipush 256, 3) := by decide +kernel
theorem dX3_init_17 : decode cX3_init 17 = .ok (.newarray .int, 2) := by decide +kernel
theorem dX3_init_19 : decode cX3_init 19 = .ok (.putfield 15, 3) := by decide +kernel
theorem dX3_init_22 : decode cX3_init 22 = .ok (.aload_n 0, 1) := by decide +kernel
theorem dX3_init_23 : decode cX3_init 23 = .ok (.sipush 256, 3) := by decide +kernel
theorem dX3_init_26 : decode cX3_init 26 = .ok (.newarray .int, 2) := by decide +kernel
theorem dX3_init_28 : decode cX3_init 28 = .ok (.putfield 18, 3) := by decide +kernel
theorem dX3_init_31 : decode cX3_init 31 = .ok (.aload_n 0, 1) := by decide +kernel
theorem dX3_init_32 : decode cX3_init 32 = .ok (.sipush 256, 3) := by decide +kernel
theorem dX3_init_35 : decode cX3_init 35 = .ok (.newarray .int, 2) := by decide +kernel
theorem dX3_init_37 : decode cX3_init 37 = .ok (.putfield 21, 3) := by decide +kernel
theorem dX3_init_40 : decode cX3_init 40 = .ok (.aload_n 0, 1) := by decide +kernel
theorem dX3_init_41 : decode cX3_init 41 = .ok (.sipush 256, 3) := by decide +kernel
theorem dX3_init_44 : decode cX3_init 44 = .ok (.newarray .int, 2) := by decide +kernel
theorem dX3_init_46 : decode cX3_init 46 = .ok (.putfield 24, 3) := by decide +kernel
theorem dX3_init_49 : decode cX3_init 49 = .ok (.return_, 1) := by decide +kernel
theorem dX3_lay_0 : decode cX3_lay 0 = .ok (.aload_n 0, 1) := by decide +kernel
theorem dX3_lay_1 : decode cX3_lay 1 = .ok (.iconst 0, 1) := by decide +kernel
theorem dX3_lay_2 : decode cX3_lay 2 = .ok (.putfield 27, 3) := by decide +kernel
theorem dX3_lay_5 : decode cX3_lay 5 = .ok (.aload_n 0, 1) := by decide +kernel
theorem dX3_lay_6 : decode cX3_lay 6 = .ok (.getfield 21, 3) := by decide +kernel
theorem dX3_lay_9 : decode cX3_lay 9 = .ok (.iconst (-1), 1) := by decide +kernel
theorem dX3_lay_10 : decode cX3_lay 10 = .ok (.invokestatic 31, 3) := by decide +kernel
theorem dX3_lay_13 : decode cX3_lay 13 = .ok (.iconst 0, 1) := by decide +kernel
theorem dX3_lay_14 : decode cX3_lay 14 = .ok (.istore_n 3, 1) := by decide +kernel
theorem dX3_lay_15 : decode cX3_lay 15 = .ok (.iload_n 3, 1) := by decide +kernel
theorem dX3_lay_16 : decode cX3_lay 16 = .ok (.sipush 256, 3) := by decide +kernel
theorem dX3_lay_19 : decode cX3_lay 19 = .ok (.if_icmp .ge 105, 3) := by decide +kernel
theorem dX3_lay_22 : decode cX3_lay 22 = .ok (.aload_n 1, 1) := by decide +kernel
theorem dX3_lay_23 : decode cX3_lay 23 = .ok (.iload_n 3, 1) := by decide +kernel
theorem dX3_lay_24 : decode cX3_lay 24 = .ok (.iaload, 1) := by decide +kernel
theorem dX3_lay_25 : decode cX3_lay 25 = .ok (.iconst (-1), 1) := by decide +kernel
theorem dX3_lay_26 : decode cX3_lay 26 = .ok (.if_icmp .ne 10, 3) := by decide +kernel
theorem dX3_lay_29 : decode cX3_lay 29 = .ok (.aload_n 2, 1) := by decide +kernel
theorem dX3_lay_30 : decode cX3_lay 30 = .ok (.iload_n 3, 1) := by decide +kernel
theorem dX3_lay_31 : decode cX3_lay 31 = .ok (.iaload, 1) := by decide +kernel
theorem dX3_lay_32 : decode cX3_lay 32 = .ok (.iconst (-1), 1) := by decide +kernel
theorem dX3_lay_33 : decode cX3_lay 33 = .ok (.if_icmp .eq 7, 3) := by decide +kernel
theorem dX3_lay_36 : decode cX3_lay 36 = .ok (.iconst 1, 1) := by decide +kernel
theorem dX3_lay_37 : decode cX3_lay 37 = .ok (.goto 4, 3) := by decide +kernel
theorem dX3_lay_40 : decode cX3_lay 40 = .ok (.iconst 0, 1) := by decide +kernel
theorem dX3_lay_41 : decode cX3_lay 41 = .ok (.istore 4, 2) := by decide +kernel
theorem dX3_lay_43 : decode cX3_lay 43 = .ok (.iload 4, 2) := by decide +kernel
theorem dX3_lay_45 : decode cX3_lay 45 = .ok (.ifCond .eq 73, 3) := by decide +kernel
theorem dX3_lay_48 : decode cX3_lay 48 = .ok (.aload_n 0, 1) := by decide +kernel
theorem dX3_lay_49 : decode cX3_lay 49 = .ok (.getfield 21, 3) := by decide +kernel
theorem dX3_lay_52 : decode cX3_lay 52 = .ok (.iload_n 3, 1) := by decide +kernel
theorem dX3_lay_53 : decode cX3_lay 53 = .ok (.iaload, 1) := by decide +kernel
theorem dX3_lay_54 : decode cX3_lay 54 = .ok (.iconst (-1), 1) := by decide +kernel
theorem dX3_lay_55 : decode cX3_lay 55 = .ok (.if_icmp .ne 63, 3) := by decide +kernel
theorem dX3_lay_58 : decode cX3_lay 58 = .ok (.aload_n 0, 1) := by decide +kernel
theorem dX3_lay_59 : decode cX3_lay 59 = .ok (.getfield 27, 3) := by decide +kernel
theorem dX3_lay_62 : decode cX3_lay 62 = .ok (.sipush 256, 3) := by decide +kernel
theorem dX3_lay_65 : decode cX3_lay 65 = .ok (.if_icmp .ge 53, 3) := by decide +kernel
theorem dX3_lay_68 : decode cX3_lay 68 = .ok (.aload_n 0, 1) := by decide +kernel
theorem dX3_lay_69 : decode cX3_lay 69 = .ok (.getfield 15, 3) := by decide +kernel
theorem dX3_lay_72 : decode cX3_lay 72 = .ok (.aload_n 0, 1) := by decide +kernel
theorem dX3_lay_73 : decode cX3_lay 73 = .ok (.getfield 27, 3) := by decide +kernel
theorem dX3_lay_76 : decode cX3_lay 76 = .ok (.aload_n 1, 1) := by decide +kernel
theorem dX3_lay_77 : decode cX3_lay 77 = .ok (.iload_n 3, 1) := by decide +kernel
theorem dX3_lay_78 : decode cX3_lay 78 = .ok (.iaload, 1) := by decide +kernel
theorem dX3_lay_79 : decode cX3_lay 79 = .ok (.iastore, 1) := by decide +kernel
theorem dX3_lay_80 : decode cX3_lay 80 = .ok (.aload_n 0, 1) := by decide +kernel
theorem dX3_lay_81 : decode cX3_lay 81 = .ok (.getfield 18, 3) := by decide +kernel
theorem dX3_lay_84 : decode cX3_lay 84 = .ok (.aload_n 0, 1) := by decide +kernel
theorem dX3_lay_85 : decode cX3_lay 85 = .ok (.getfield 27, 3) := by decide +kernel
theorem dX3_lay_88 : decode cX3_lay 88 = .ok (.aload_n 2, 1) := by decide +kernel
theorem dX3_lay_89 : decode cX3_lay 89 = .ok (.iload_n 3, 1) := by decide +kernel
theorem dX3_lay_90 : decode cX3_lay 90 = .ok (.iaload, 1) := by decide +kernel
theorem dX3_lay_91 : decode cX3_lay 91 = .ok (.iastore, 1) := by decide +kernel
theorem dX3_lay_92 : decode cX3_lay 92 = .ok (.aload_n 0, 1) := by decide +kernel
theorem dX3_lay_93 : decode cX3_lay 93 = .ok (.getfield 9, 3) := by decide +kernel
theorem dX3_lay_96 : decode cX3_lay 96 = .ok (.aload_n 0, 1) := by decide +kernel
theorem dX3_lay_97 : decode cX3_lay 97 = .ok (.getfield 27, 3) := by decide +kernel
theorem dX3_lay_100 : decode cX3_lay 100 = .ok (.aload_n 0, 1) := by decide +kernel
theorem dX3_lay_101 : decode cX3_lay 101 = .ok (.aload_n 1, 1) := by decide +kernel
theorem dX3_lay_102 : decode cX3_lay 102 = .ok (.aload_n 2, 1) := by decide +kernel
theorem dX3_lay_103 : decode cX3_lay 103 = .ok (.iload_n 3, 1) := by decide +kernel
theorem dX3_lay_104 : decode cX3_lay 104 = .ok (.invokevirtual 37, 3) := by decide +kernel
theorem dX3_lay_107 : decode cX3_lay 107 = .ok (.iastore, 1) := by decide +kernel
theorem dX3_lay_108 : decode cX3_lay 108 = .ok (.aload_n 0, 1) := by decide +kernel
theorem dX3_lay_109 : decode cX3_lay 109 = .ok (.dup, 1) := by decide +kernel
theorem dX3_lay_110 : decode cX3_lay 110 = .ok (.getfield 27, 3) := by decide +kernel
theorem dX3_lay_113 : decode cX3_lay 113 = .ok (.iconst 1, 1) := by decide +kernel
theorem dX3_lay_114 : decode cX3_lay 114 = .ok (.iadd, 1) := by decide +kernel
theorem dX3_lay_115 : decode cX3_lay 115 = .ok (.putfield 27, 3) := by decide +kernel
theorem dX3_lay_118 : decode cX3_lay 118 = .ok (.iinc 3 1, 3) := by decide +kernel
theorem dX3_lay_121 : decode cX3_lay 121 = .ok (.goto (-106), 3) := by decide +kernel
theorem dX3_lay_124 : decode cX3_lay 124 = .ok (.return_, 1) := by decide +kernel
theorem dX3_spread_0 : decode cX3_spread 0 = .ok (.iconst 1, 1) := by decide +kernel
theorem dX3_spread_1 : decode cX3_spread 1 = .ok (.istore 4, 2) := by decide +kernel
theorem dX3_spread_3 : decode cX3_spread 3 = .ok (.aload_n 0, 1) := by decide +kernel
theorem dX3_spread_4 : decode cX3_spread 4 = .ok (.getfield 24, 3) := by decide +kernel
theorem dX3_spread_7 : decode cX3_spread 7 = .ok (.iconst 0, 1) := by decide +kernel
theorem dX3_spread_8 : decode cX3_spread 8 = .ok (.iload_n 3, 1) := by decide +kernel
theorem dX3_spread_9 : decode cX3_spread 9 = .ok (.iastore, 1) := by decide +kernel
theorem dX3_spread_10 : decode cX3_spread 10 = .ok (.aload_n 0, 1) := by decide +kernel
theorem dX3_spread_11 : decode cX3_spread 11 = .ok (.getfield 21, 3) := by decide +kernel
theorem dX3_spread_14 : decode cX3_spread 14 = .ok (.iload_n 3, 1) := by decide +kernel
theorem dX3_spread_15 : decode cX3_spread 15 = .ok (.aload_n 0, 1) := by decide +kernel
theorem dX3_spread_16 : decode cX3_spread 16 = .ok (.getfield 27, 3) := by decide +kernel
theorem dX3_spread_19 : decode cX3_spread 19 = .ok (.iastore, 1) := by decide +kernel
theorem dX3_spread_20 : decode cX3_spread 20 = .ok (.iconst 0, 1) := by decide +kernel
theorem dX3_spread_21 : decode cX3_spread 21 = .ok (.istore 5, 2) := by decide +kernel
theorem dX3_spread_23 : decode cX3_spread 23 = .ok (.iload 5, 2) := by decide +kernel
theorem dX3_spread_25 : decode cX3_spread 25 = .ok (.iload 4, 2) := by decide +kernel
theorem dX3_spread_27 : decode cX3_spread 27 = .ok (.if_icmp .ge 114, 3) := by decide +kernel
theorem dX3_spread_30 : decode cX3_spread 30 = .ok (.iload 5, 2) := by decide +kernel
theorem dX3_spread_32 : decode cX3_spread 32 = .ok (.sipush 256, 3) := by decide +kernel
theorem dX3_spread_35 : decode cX3_spread 35 = .ok (.if_icmp .ge 106, 3) := by decide +kernel
theorem dX3_spread_38 : decode cX3_spread 38 = .ok (.iconst 0, 1) := by decide +kernel
theorem dX3_spread_39 : decode cX3_spread 39 = .ok (.istore 6, 2) := by decide +kernel
theorem dX3_spread_41 : decode cX3_spread 41 = .ok (.iload 6, 2) := by decide +kernel
theorem dX3_spread_43 : decode cX3_spread 43 = .ok (.iconst 4, 1) := by decide +kernel
theorem dX3_spread_44 : decode cX3_spread 44 = .ok (.if_icmp .ge 91, 3) := by decide +kernel
theorem dX3_spread_47 : decode cX3_spread 47 = .ok (.aload_n 0, 1) := by decide +kernel
theorem dX3_spread_48 : decode cX3_spread 48 = .ok (.getfield 24, 3) := by decide +kernel
theorem dX3_spread_51 : decode cX3_spread 51 = .ok (.iload 5, 2) := by decide +kernel
theorem dX3_spread_53 : decode cX3_spread 53 = .ok (.iaload, 1) := by decide +kernel
theorem dX3_spread_54 : decode cX3_spread 54 = .ok (.iload 6, 2) := by decide +kernel
theorem dX3_spread_56 : decode cX3_spread 56 = .ok (.invokestatic 41, 3) := by decide +kernel
theorem dX3_spread_59 : decode cX3_spread 59 = .ok (.istore 7, 2) := by decide +kernel
theorem dX3_spread_61 : decode cX3_spread 61 = .ok (.iload 7, 2) := by decide +kernel
theorem dX3_spread_63 : decode cX3_spread 63 = .ok (.iconst (-1), 1) := by decide +kernel
theorem dX3_spread_64 : decode cX3_spread 64 = .ok (.if_icmp .eq 65, 3) := by decide +kernel
theorem dX3_spread_67 : decode cX3_spread 67 = .ok (.iload 4, 2) := by decide +kernel
theorem dX3_spread_69 : decode cX3_spread 69 = .ok (.sipush 256, 3) := by decide +kernel
theorem dX3_spread_72 : decode cX3_spread 72 = .ok (.if_icmp .ge 57, 3) := by decide +kernel
theorem dX3_spread_75 : decode cX3_spread 75 = .ok (.aload_n 0, 1) := by decide +kernel
theorem dX3_spread_76 : decode cX3_spread 76 = .ok (.getfield 21, 3) := by decide +kernel
theorem dX3_spread_79 : decode cX3_spread 79 = .ok (.iload 7, 2) := by decide +kernel
theorem dX3_spread_81 : decode cX3_spread 81 = .ok (.iaload, 1) := by decide +kernel
theorem dX3_spread_82 : decode cX3_spread 82 = .ok (.iconst (-1), 1) := by decide +kernel
theorem dX3_spread_83 : decode cX3_spread 83 = .ok (.if_icmp .ne 46, 3) := by decide +kernel
theorem dX3_spread_86 : decode cX3_spread 86 = .ok (.aload_n 1, 1) := by decide +kernel
theorem dX3_spread_87 : decode cX3_spread 87 = .ok (.iload 7, 2) := by decide +kernel
theorem dX3_spread_89 : decode cX3_spread 89 = .ok (.iaload, 1) := by decide +kernel
theorem dX3_spread_90 : decode cX3_spread 90 = .ok (.aload_n 1, 1) := by decide +kernel
theorem dX3_spread_91 : decode cX3_spread 91 = .ok (.iload_n 3, 1) := by decide +kernel
theorem dX3_spread_92 : decode cX3_spread 92 = .ok (.iaload, 1) := by decide +kernel
theorem dX3_spread_93 : decode cX3_spread 93 = .ok (.if_icmp .ne 36, 3) := by decide +kernel
theorem dX3_spread_96 : decode cX3_spread 96 = .ok (.aload_n 2, 1) := by decide +kernel
theorem dX3_spread_97 : decode cX3_spread 97 = .ok (.iload 7, 2) := by decide +kernel
theorem dX3_spread_99 : decode cX3_spread 99 = .ok (.iaload, 1) := by decide +kernel
theorem dX3_spread_100 : decode cX3_spread 100 = .ok (.aload_n 2, 1) := by decide +kernel
theorem dX3_spread_101 : decode cX3_spread 101 = .ok (.iload_n 3, 1) := by decide +kernel
theorem dX3_spread_102 : decode cX3_spread 102 = .ok (.iaload, 1) := by decide +kernel
theorem dX3_spread_103 : decode cX3_spread 103 = .ok (.if_icmp .ne 26, 3) := by decide +kernel
theorem dX3_spread_106 : decode cX3_spread 106 = .ok (.aload_n 0, 1) := by decide +kernel
theorem dX3_spread_107 : decode cX3_spread 107 = .ok (.getfield 21, 3) := by decide +kernel
theorem dX3_spread_110 : decode cX3_spread 110 = .ok (.iload 7, 2) := by decide +kernel
theorem dX3_spread_112 : decode cX3_spread 112 = .ok (.aload_n 0, 1) := by decide +kernel
theorem dX3_spread_113 : decode cX3_spread 113 = .ok (.getfield 27, 3) := by decide +kernel
theorem dX3_spread_116 : decode cX3_spread 116 = .ok (.iastore, 1) := by decide +kernel
theorem dX3_spread_117 : decode cX3_spread 117 = .ok (.aload_n 0, 1) := by decide +kernel
theorem dX3_spread_118 : decode cX3_spread 118 = .ok (.getfield 24, 3) := by decide +kernel
theorem dX3_spread_121 : decode cX3_spread 121 = .ok (.iload 4, 2) := by decide +kernel
theorem dX3_spread_123 : decode cX3_spread 123 = .ok (.iload 7, 2) := by decide +kernel
theorem dX3_spread_125 : decode cX3_spread 125 = .ok (.iastore, 1) := by decide +kernel
theorem dX3_spread_126 : decode cX3_spread 126 = .ok (.iinc 4 1, 3) := by decide +kernel
theorem dX3_spread_129 : decode cX3_spread 129 = .ok (.iinc 6 1, 3) := by decide +kernel
theorem dX3_spread_132 : decode cX3_spread 132 = .ok (.goto (-91), 3) := by decide +kernel
theorem dX3_spread_135 : decode cX3_spread 135 = .ok (.iinc 5 1, 3) := by decide +kernel
theorem dX3_spread_138 : decode cX3_spread 138 = .ok (.goto (-115), 3) := by decide +kernel
theorem dX3_spread_141 : decode cX3_spread 141 = .ok (.iload 4, 2) := by decide +kernel
theorem dX3_spread_143 : decode cX3_spread 143 = .ok (.ireturn, 1) := by decide +kernel
theorem dX3_sumOf_0 : decode cX3_sumOf 0 = .ok (.iconst 0, 1) := by decide +kernel
theorem dX3_sumOf_1 : decode cX3_sumOf 1 = .ok (.istore_n 3, 1) := by decide +kernel
theorem dX3_sumOf_2 : decode cX3_sumOf 2 = .ok (.iconst 0, 1) := by decide +kernel
theorem dX3_sumOf_3 : decode cX3_sumOf 3 = .ok (.istore 4, 2) := by decide +kernel
theorem dX3_sumOf_5 : decode cX3_sumOf 5 = .ok (.iload 4, 2) := by decide +kernel
theorem dX3_sumOf_7 : decode cX3_sumOf 7 = .ok (.aload_n 0, 1) := by decide +kernel
theorem dX3_sumOf_8 : decode cX3_sumOf 8 = .ok (.getfield 27, 3) := by decide +kernel
theorem dX3_sumOf_11 : decode cX3_sumOf 11 = .ok (.if_icmp .ge 27, 3) := by decide +kernel
theorem dX3_sumOf_14 : decode cX3_sumOf 14 = .ok (.aload_n 1, 1) := by decide +kernel
theorem dX3_sumOf_15 : decode cX3_sumOf 15 = .ok (.iload 4, 2) := by decide +kernel
theorem dX3_sumOf_17 : decode cX3_sumOf 17 = .ok (.iaload, 1) := by decide +kernel
theorem dX3_sumOf_18 : decode cX3_sumOf 18 = .ok (.iload_n 2, 1) := by decide +kernel
theorem dX3_sumOf_19 : decode cX3_sumOf 19 = .ok (.if_icmp .ne 13, 3) := by decide +kernel
theorem dX3_sumOf_22 : decode cX3_sumOf 22 = .ok (.iload_n 3, 1) := by decide +kernel
theorem dX3_sumOf_23 : decode cX3_sumOf 23 = .ok (.aload_n 0, 1) := by decide +kernel
theorem dX3_sumOf_24 : decode cX3_sumOf 24 = .ok (.getfield 9, 3) := by decide +kernel
theorem dX3_sumOf_27 : decode cX3_sumOf 27 = .ok (.iload 4, 2) := by decide +kernel
theorem dX3_sumOf_29 : decode cX3_sumOf 29 = .ok (.iaload, 1) := by decide +kernel
theorem dX3_sumOf_30 : decode cX3_sumOf 30 = .ok (.iadd, 1) := by decide +kernel
theorem dX3_sumOf_31 : decode cX3_sumOf 31 = .ok (.istore_n 3, 1) := by decide +kernel
theorem dX3_sumOf_32 : decode cX3_sumOf 32 = .ok (.iinc 4 1, 3) := by decide +kernel
theorem dX3_sumOf_35 : decode cX3_sumOf 35 = .ok (.goto (-30), 3) := by decide +kernel
theorem dX3_sumOf_38 : decode cX3_sumOf 38 = .ok (.iload_n 3, 1) := by decide +kernel
theorem dX3_sumOf_39 : decode cX3_sumOf 39 = .ok (.ireturn, 1) := by decide +kernel
theorem dX4_init_0 : decode cX4_init 0 = .ok (.aload_n 0, 1) := by decide +kernel
theorem dX4_init_1 : decode cX4_init 1 = .ok (.invokespecial 3, 3) := by decide +kernel
theorem dX4_init_4 : decode cX4_init 4 = .ok (.aload_n 0, 1) := by decide +kernel
theorem dX4_init_5 : decode cX4_init 5 = .ok (.iload_n 1, 1) := by decide +kernel
theorem dX4_init_6 : decode cX4_init 6 = .ok (.putfield 9, 3) := by decide +kernel
theorem dX4_init_9 : decode cX4_init 9 = .ok (.aload_n 0, 1) := by decide +kernel
theorem dX4_init_10 : decode cX4_init 10 = .ok (.aload_n 2, 1) := by decide +kernel
theorem dX4_init_11 : decode cX4_init 11 = .ok (.putfield 15, 3) := by decide +kernel
theorem dX4_init_14 : decode cX4_init 14 = .ok (.aload_n 0, 1) := by decide +kernel
theorem dX4_init_15 : decode cX4_init 15 = .ok (.aload_n 3, 1) := by decide +kernel
theorem dX4_init_16 : decode cX4_init 16 = .ok (.putfield 19, 3) := by decide +kernel
theorem dX4_init_19 : decode cX4_init 19 = .ok (.return_, 1) := by decide +kernel
theorem dX4_breaks_0 : decode cX4_breaks 0 = .ok (.iconst 0, 1) := by decide +kernel
theorem dX4_breaks_1 : decode cX4_breaks 1 = .ok (.istore_n 1, 1) := by decide +kernel
theorem dX4_breaks_2 : decode cX4_breaks 2 = .ok (.iconst 0, 1) := by decide +kernel
theorem dX4_breaks_3 : decode cX4_breaks 3 = .ok (.istore_n 2, 1) := by decide +kernel
theorem dX4_breaks_4 : decode cX4_breaks 4 = .ok (.iload_n 2, 1) := by decide +kernel
theorem dX4_breaks_5 : decode cX4_breaks 5 = .ok (.sipush 256, 3) := by decide +kernel
theorem dX4_breaks_8 : decode cX4_breaks 8 = .ok (.if_icmp .ge 45, 3) := by decide +kernel
theorem dX4_breaks_11 : decode cX4_breaks 11 = .ok (.aload_n 0, 1) := by decide +kernel
theorem dX4_breaks_12 : decode cX4_breaks 12 = .ok (.getfield 9, 3) := by decide +kernel
theorem dX4_breaks_15 : decode cX4_breaks 15 = .ok (.bipush 97, 2) := by decide +kernel
theorem dX4_breaks_17 : decode cX4_breaks 17 = .ok (.if_icmp .ne 22, 3) := by decide +kernel
theorem dX4_breaks_20 : decode cX4_breaks 20 = .ok (.iload_n 1, 1) := by decide +kernel
theorem dX4_breaks_21 : decode cX4_breaks 21 = .ok (.aload_n 0, 1) := by decide +kernel
theorem dX4_breaks_22 : decode cX4_breaks 22 = .ok (.iload_n 2, 1) := by decide +kernel
theorem dX4_breaks_23 : decode cX4_breaks 23 = .ok (.iconst 0, 1) := by decide +kernel
theorem dX4_breaks_24 : decode cX4_breaks 24 = .ok (.invokevirtual 22, 3) := by decide +kernel
theorem dX4_breaks_27 : decode cX4_breaks 27 = .ok (.aload_n 0, 1) := by decide +kernel
theorem dX4_breaks_28 : decode cX4_breaks 28 = .ok (.iload_n 2, 1) := by decide +kernel
theorem dX4_breaks_29 : decode cX4_breaks 29 = .ok (.iconst 1, 1) := by decide +kernel
theorem dX4_breaks_30 : decode cX4_breaks 30 = .ok (.invokevirtual 22, 3) := by decide +kernel
theorem dX4_breaks_33 : decode cX4_breaks 33 = .ok (.iadd, 1) := by decide +kernel
theorem dX4_breaks_34 : decode cX4_breaks 34 = .ok (.iadd, 1) := by decide +kernel
theorem dX4_breaks_35 : decode cX4_breaks 35 = .ok (.istore_n 1, 1) := by decide +kernel
theorem dX4_breaks_36 : decode cX4_breaks 36 = .ok (.goto 11, 3) := by decide +kernel
theorem dX4_breaks_39 : decode cX4_breaks 39 = .ok (.iload_n 1, 1) := by decide +kernel
theorem dX4_breaks_40 : decode cX4_breaks 40 = .ok (.aload_n 0, 1) := by decide +kernel
theorem dX4_breaks_41 : decode cX4_breaks 41 = .ok (.iload_n 2, 1) := by decide +kernel
theorem dX4_breaks_42 : decode cX4_breaks 42 = .ok (.invokevirtual 26, 3) := by decide +kernel
theorem dX4_breaks_45 : decode cX4_breaks 45 = .ok (.iadd, 1) := by decide +kernel
theorem dX4_breaks_46 : decode cX4_breaks 46 = .ok (.istore_n 1, 1) := by decide +kernel
theorem dX4_breaks_47 : decode cX4_breaks 47 = .ok (.iinc 2 1, 3) := by decide +kernel
theorem dX4_breaks_50 : decode cX4_breaks 50 = .ok (.goto (-46), 3) := by decide +kernel
theorem dX4_breaks_53 : decode cX4_breaks 53 = .ok (.iload_n 1, 1) := by decide +kernel
theorem dX4_breaks_54 : decode cX4_breaks 54 = .ok (.ireturn, 1) := by decide +kernel
theorem dX4_breaksAt_0 : decode cX4_breaksAt 0 = .ok (.aload_n 0, 1) := by decide +kernel
theorem dX4_breaksAt_1 : decode cX4_breaksAt 1 = .ok (.getfield 15, 3) := by decide +kernel
theorem dX4_breaksAt_4 : decode cX4_breaksAt 4 = .ok (.getfield 30, 3) := by decide +kernel
theorem dX4_breaksAt_7 : decode cX4_breaksAt 7 = .ok (.iload_n 1, 1) := by decide +kernel
theorem dX4_breaksAt_8 : decode cX4_breaksAt 8 = .ok (.iaload, 1) := by decide +kernel
theorem dX4_breaksAt_9 : decode cX4_breaksAt 9 = .ok (.iconst (-1), 1) := by decide +kernel
theorem dX4_breaksAt_10 : decode cX4_breaksAt 10 = .ok (.if_icmp .eq 7, 3) := by decide +kernel
theorem dX4_breaksAt_13 : decode cX4_breaksAt 13 = .ok (.iconst 1, 1) := by decide +kernel
theorem dX4_breaksAt_14 : decode cX4_breaksAt 14 = .ok (.goto 4, 3) := by decide +kernel
theorem dX4_breaksAt_17 : decode cX4_breaksAt 17 = .ok (.iconst 0, 1) := by decide +kernel
theorem dX4_breaksAt_18 : decode cX4_breaksAt 18 = .ok (.istore_n 2, 1) := by decide +kernel
theorem dX4_breaksAt_19 : decode cX4_breaksAt 19 = .ok (.aload_n 0, 1) := by decide +kernel
theorem dX4_breaksAt_20 : decode cX4_breaksAt 20 = .ok (.getfield 19, 3) := by decide +kernel
theorem dX4_breaksAt_23 : decode cX4_breaksAt 23 = .ok (.getfield 30, 3) := by decide +kernel
theorem dX4_breaksAt_26 : decode cX4_breaksAt 26 = .ok (.iload_n 1, 1) := by decide +kernel
theorem dX4_breaksAt_27 : decode cX4_breaksAt 27 = .ok (.iaload, 1) := by decide +kernel
theorem dX4_breaksAt_28 : decode cX4_breaksAt 28 = .ok (.iconst (-1), 1) := by decide +kernel
theorem dX4_breaksAt_29 : decode cX4_breaksAt 29 = .ok (.if_icmp .eq 7, 3) := by decide +kernel
theorem dX4_breaksAt_32 : decode cX4_breaksAt 32 = .ok (.iconst 1, 1) := by decide +kernel
theorem dX4_breaksAt_33 : decode cX4_breaksAt 33 = .ok (.goto 4, 3) := by decide +kernel
theorem dX4_breaksAt_36 : decode cX4_breaksAt 36 = .ok (.iconst 0, 1) := by decide +kernel
theorem dX4_breaksAt_37 : decode cX4_breaksAt 37 = .ok (.istore_n 3, 1) := by decide +kernel
theorem dX4_breaksAt_38 : decode cX4_breaksAt 38 = .ok (.iload_n 2, 1) := by decide +kernel
theorem dX4_breaksAt_39 : decode cX4_breaksAt 39 = .ok (.ifCond .eq 27, 3) := by decide +kernel
theorem dX4_breaksAt_42 : decode cX4_breaksAt 42 = .ok (.aload_n 0, 1) := by decide +kernel
theorem dX4_breaksAt_43 : decode cX4_breaksAt 43 = .ok (.getfield 9, 3) := by decide +kernel
theorem dX4_breaksAt_46 : decode cX4_breaksAt 46 = .ok (.bipush 105, 2) := by decide +kernel
theorem dX4_breaksAt_48 : decode cX4_breaksAt 48 = .ok (.if_icmp .ne 10, 3) := by decide +kernel
theorem dX4_breaksAt_51 : decode cX4_breaksAt 51 = .ok (.iload_n 3, 1) := by decide +kernel
theorem dX4_breaksAt_52 : decode cX4_breaksAt 52 = .ok (.ifCond .ne 14, 3) := by decide +kernel
theorem dX4_breaksAt_55 : decode cX4_breaksAt 55 = .ok (.goto 7, 3) := by decide +kernel
theorem dX4_breaksAt_58 : decode cX4_breaksAt 58 = .ok (.iload_n 3, 1) := by decide +kernel
theorem dX4_breaksAt_59 : decode cX4_breaksAt 59 = .ok (.ifCond .eq 7, 3) := by decide +kernel
theorem dX4_breaksAt_62 : decode cX4_breaksAt 62 = .ok (.iconst 1, 1) := by decide +kernel
theorem dX4_breaksAt_63 : decode cX4_breaksAt 63 = .ok (.goto 4, 3) := by decide +kernel
theorem dX4_breaksAt_66 : decode cX4_breaksAt 66 = .ok (.iconst 0, 1) := by decide +kernel
theorem dX4_breaksAt_67 : decode cX4_breaksAt 67 = .ok (.istore 4, 2) := by decide +kernel
theorem dX4_breaksAt_69 : decode cX4_breaksAt 69 = .ok (.iload 4, 2) := by decide +kernel
theorem dX4_breaksAt_71 : decode cX4_breaksAt 71 = .ok (.ifCond .eq 7, 3) := by decide +kernel
theorem dX4_breaksAt_74 : decode cX4_breaksAt 74 = .ok (.iconst 1, 1) := by decide +kernel
theorem dX4_breaksAt_75 : decode cX4_breaksAt 75 = .ok (.goto 4, 3) := by decide +kernel
theorem dX4_breaksAt_78 : decode cX4_breaksAt 78 = .ok (.iconst 0, 1) := by decide +kernel
theorem dX4_breaksAt_79 : decode cX4_breaksAt 79 = .ok (.ireturn, 1) := by decide +kernel
theorem dX4_breaksAlong_0 : decode cX4_breaksAlong 0 = .ok (.iload_n 1, 1) := by decide +kernel
theorem dX4_breaksAlong_1 : decode cX4_breaksAlong 1 = .ok (.iload_n 2, 1) := by decide +kernel
theorem dX4_breaksAlong_2 : decode cX4_breaksAlong 2 = .ok (.invokestatic 36, 3) := by decide +kernel
theorem dX4_breaksAlong_5 : decode cX4_breaksAlong 5 = .ok (.istore_n 3, 1) := by decide +kernel
theorem dX4_breaksAlong_6 : decode cX4_breaksAlong 6 = .ok (.iload_n 3, 1) := by decide +kernel
theorem dX4_breaksAlong_7 : decode cX4_breaksAlong 7 = .ok (.iconst (-1), 1) := by decide +kernel
theorem dX4_breaksAlong_8 : decode cX4_breaksAlong 8 = .ok (.if_icmp .eq 49, 3) := by decide +kernel
theorem dX4_breaksAlong_11 : decode cX4_breaksAlong 11 = .ok (.aload_n 0, 1) := by decide +kernel
theorem dX4_breaksAlong_12 : decode cX4_breaksAlong 12 = .ok (.getfield 15, 3) := by decide +kernel
theorem dX4_breaksAlong_15 : decode cX4_breaksAlong 15 = .ok (.getfield 30, 3) := by decide +kernel
theorem dX4_breaksAlong_18 : decode cX4_breaksAlong 18 = .ok (.iload_n 1, 1) := by decide +kernel
theorem dX4_breaksAlong_19 : decode cX4_breaksAlong 19 = .ok (.iaload, 1) := by decide +kernel
theorem dX4_breaksAlong_20 : decode cX4_breaksAlong 20 = .ok (.aload_n 0, 1) := by decide +kernel
theorem dX4_breaksAlong_21 : decode cX4_breaksAlong 21 = .ok (.getfield 15, 3) := by decide +kernel
theorem dX4_breaksAlong_24 : decode cX4_breaksAlong 24 = .ok (.getfield 30, 3) := by decide +kernel
theorem dX4_breaksAlong_27 : decode cX4_breaksAlong 27 = .ok (.iload_n 3, 1) := by decide +kernel
theorem dX4_breaksAlong_28 : decode cX4_breaksAlong 28 = .ok (.iaload, 1) := by decide +kernel
theorem dX4_breaksAlong_29 : decode cX4_breaksAlong 29 = .ok (.if_icmp .eq 28, 3) := by decide +kernel
theorem dX4_breaksAlong_32 : decode cX4_breaksAlong 32 = .ok (.aload_n 0, 1) := by decide +kernel
theorem dX4_breaksAlong_33 : decode cX4_breaksAlong 33 = .ok (.getfield 19, 3) := by decide +kernel
theorem dX4_breaksAlong_36 : decode cX4_breaksAlong 36 = .ok (.getfield 30, 3) := by decide +kernel
theorem dX4_breaksAlong_39 : decode cX4_breaksAlong 39 = .ok (.iload_n 1, 1) := by decide +kernel
theorem dX4_breaksAlong_40 : decode cX4_breaksAlong 40 = .ok (.iaload, 1) := by decide +kernel
theorem dX4_breaksAlong_41 : decode cX4_breaksAlong 41 = .ok (.aload_n 0, 1) := by decide +kernel
theorem dX4_breaksAlong_42 : decode cX4_breaksAlong 42 = .ok (.getfield 19, 3) := by decide +kernel
theorem dX4_breaksAlong_45 : decode cX4_breaksAlong 45 = .ok (.getfield 30, 3) := by decide +kernel
theorem dX4_breaksAlong_48 : decode cX4_breaksAlong 48 = .ok (.iload_n 3, 1) := by decide +kernel
theorem dX4_breaksAlong_49 : decode cX4_breaksAlong 49 = .ok (.iaload, 1) := by decide +kernel
theorem dX4_breaksAlong_50 : decode cX4_breaksAlong 50 = .ok (.if_icmp .ne 7, 3) := by decide +kernel
theorem dX4_breaksAlong_53 : decode cX4_breaksAlong 53 = .ok (.iconst 1, 1) := by decide +kernel
theorem dX4_breaksAlong_54 : decode cX4_breaksAlong 54 = .ok (.goto 4, 3) := by decide +kernel
theorem dX4_breaksAlong_57 : decode cX4_breaksAlong 57 = .ok (.iconst 0, 1) := by decide +kernel
theorem dX4_breaksAlong_58 : decode cX4_breaksAlong 58 = .ok (.istore 4, 2) := by decide +kernel
theorem dX4_breaksAlong_60 : decode cX4_breaksAlong 60 = .ok (.iload 4, 2) := by decide +kernel
theorem dX4_breaksAlong_62 : decode cX4_breaksAlong 62 = .ok (.ifCond .eq 7, 3) := by decide +kernel
theorem dX4_breaksAlong_65 : decode cX4_breaksAlong 65 = .ok (.iconst 1, 1) := by decide +kernel
theorem dX4_breaksAlong_66 : decode cX4_breaksAlong 66 = .ok (.goto 4, 3) := by decide +kernel
theorem dX4_breaksAlong_69 : decode cX4_breaksAlong 69 = .ok (.iconst 0, 1) := by decide +kernel
theorem dX4_breaksAlong_70 : decode cX4_breaksAlong 70 = .ok (.ireturn, 1) := by decide +kernel
theorem dX5_init_0 : decode cX5_init 0 = .ok (.aload_n 0, 1) := by decide +kernel
theorem dX5_init_1 : decode cX5_init 1 = .ok (.invokespecial 3, 3) := by decide +kernel
theorem dX5_init_4 : decode cX5_init 4 = .ok (.aload_n 0, 1) := by decide +kernel
theorem dX5_init_5 : decode cX5_init 5 = .ok (.sipush 256, 3) := by decide +kernel
theorem dX5_init_8 : decode cX5_init 8 = .ok (.newarray .int, 2) := by decide +kernel
theorem dX5_init_10 : decode cX5_init 10 = .ok (.putfield 9, 3) := by decide +kernel
theorem dX5_init_13 : decode cX5_init 13 = .ok (.return_, 1) := by decide +kernel
theorem dX5_measure_0 : decode cX5_measure 0 = .ok (.iconst 0, 1) := by decide +kernel
theorem dX5_measure_1 : decode cX5_measure 1 = .ok (.istore_n 3, 1) := by decide +kernel
theorem dX5_measure_2 : decode cX5_measure 2 = .ok (.iload_n 3, 1) := by decide +kernel
theorem dX5_measure_3 : decode cX5_measure 3 = .ok (.sipush 256, 3) := by decide +kernel
theorem dX5_measure_6 : decode cX5_measure 6 = .ok (.if_icmp .ge 44, 3) := by decide +kernel
theorem dX5_measure_9 : decode cX5_measure 9 = .ok (.aload_n 0, 1) := by decide +kernel
theorem dX5_measure_10 : decode cX5_measure 10 = .ok (.getfield 9, 3) := by decide +kernel
theorem dX5_measure_13 : decode cX5_measure 13 = .ok (.iload_n 3, 1) := by decide +kernel
theorem dX5_measure_14 : decode cX5_measure 14 = .ok (.aload_n 1, 1) := by decide +kernel
theorem dX5_measure_15 : decode cX5_measure 15 = .ok (.getfield 15, 3) := by decide +kernel
theorem dX5_measure_18 : decode cX5_measure 18 = .ok (.iload_n 3, 1) := by decide +kernel
theorem dX5_measure_19 : decode cX5_measure 19 = .ok (.iaload, 1) := by decide +kernel
theorem dX5_measure_20 : decode cX5_measure 20 = .ok (.iload_n 2, 1) := by decide +kernel
theorem dX5_measure_21 : decode cX5_measure 21 = .ok (.if_icmp .ne 7, 3) := by decide +kernel
theorem dX5_measure_24 : decode cX5_measure 24 = .ok (.iconst 0, 1) := by decide +kernel
theorem dX5_measure_25 : decode cX5_measure 25 = .ok (.goto 6, 3) := by decide +kernel
theorem dX5_measure_28 : decode cX5_measure 28 = .ok (.sipush 1000, 3) := by decide +kernel
theorem dX5_measure_31 : decode cX5_measure 31 = .ok (.iastore, 1) := by decide +kernel
theorem dX5_measure_32 : decode cX5_measure 32 = .ok (.aload_n 0, 1) := by decide +kernel
theorem dX5_measure_33 : decode cX5_measure 33 = .ok (.iload_n 3, 1) := by decide +kernel
theorem dX5_measure_34 : decode cX5_measure 34 = .ok (.iconst 2, 1) := by decide +kernel
theorem dX5_measure_35 : decode cX5_measure 35 = .ok (.invokevirtual 20, 3) := by decide +kernel
theorem dX5_measure_38 : decode cX5_measure 38 = .ok (.aload_n 0, 1) := by decide +kernel
theorem dX5_measure_39 : decode cX5_measure 39 = .ok (.iload_n 3, 1) := by decide +kernel
theorem dX5_measure_40 : decode cX5_measure 40 = .ok (.iconst 3, 1) := by decide +kernel
theorem dX5_measure_41 : decode cX5_measure 41 = .ok (.invokevirtual 20, 3) := by decide +kernel
theorem dX5_measure_44 : decode cX5_measure 44 = .ok (.iinc 3 1, 3) := by decide +kernel
theorem dX5_measure_47 : decode cX5_measure 47 = .ok (.goto (-45), 3) := by decide +kernel
theorem dX5_measure_50 : decode cX5_measure 50 = .ok (.sipush 255, 3) := by decide +kernel
theorem dX5_measure_53 : decode cX5_measure 53 = .ok (.istore_n 3, 1) := by decide +kernel
theorem dX5_measure_54 : decode cX5_measure 54 = .ok (.iload_n 3, 1) := by decide +kernel
theorem dX5_measure_55 : decode cX5_measure 55 = .ok (.ifCond .lt 21, 3) := by decide +kernel
theorem dX5_measure_58 : decode cX5_measure 58 = .ok (.aload_n 0, 1) := by decide +kernel
theorem dX5_measure_59 : decode cX5_measure 59 = .ok (.iload_n 3, 1) := by decide +kernel
theorem dX5_measure_60 : decode cX5_measure 60 = .ok (.iconst 0, 1) := by decide +kernel
theorem dX5_measure_61 : decode cX5_measure 61 = .ok (.invokevirtual 20, 3) := by decide +kernel
theorem dX5_measure_64 : decode cX5_measure 64 = .ok (.aload_n 0, 1) := by decide +kernel
theorem dX5_measure_65 : decode cX5_measure 65 = .ok (.iload_n 3, 1) := by decide +kernel
theorem dX5_measure_66 : decode cX5_measure 66 = .ok (.iconst 1, 1) := by decide +kernel
theorem dX5_measure_67 : decode cX5_measure 67 = .ok (.invokevirtual 20, 3) := by decide +kernel
theorem dX5_measure_70 : decode cX5_measure 70 = .ok (.iinc 3 (-1), 3) := by decide +kernel
theorem dX5_measure_73 : decode cX5_measure 73 = .ok (.goto (-19), 3) := by decide +kernel
theorem dX5_measure_76 : decode cX5_measure 76 = .ok (.return_, 1) := by decide +kernel
theorem dX5_stepFrom_0 : decode cX5_stepFrom 0 = .ok (.iload_n 1, 1) := by decide +kernel
theorem dX5_stepFrom_1 : decode cX5_stepFrom 1 = .ok (.iload_n 2, 1) := by decide +kernel
theorem dX5_stepFrom_2 : decode cX5_stepFrom 2 = .ok (.invokestatic 24, 3) := by decide +kernel
theorem dX5_stepFrom_5 : decode cX5_stepFrom 5 = .ok (.istore_n 3, 1) := by decide +kernel
theorem dX5_stepFrom_6 : decode cX5_stepFrom 6 = .ok (.iload_n 3, 1) := by decide +kernel
theorem dX5_stepFrom_7 : decode cX5_stepFrom 7 = .ok (.iconst (-1), 1) := by decide +kernel
theorem dX5_stepFrom_8 : decode cX5_stepFrom 8 = .ok (.if_icmp .eq 34, 3) := by decide +kernel
theorem dX5_stepFrom_11 : decode cX5_stepFrom 11 = .ok (.aload_n 0, 1) := by decide +kernel
theorem dX5_stepFrom_12 : decode cX5_stepFrom 12 = .ok (.getfield 9, 3) := by decide +kernel
theorem dX5_stepFrom_15 : decode cX5_stepFrom 15 = .ok (.iload_n 3, 1) := by decide +kernel
theorem dX5_stepFrom_16 : decode cX5_stepFrom 16 = .ok (.iaload, 1) := by decide +kernel
theorem dX5_stepFrom_17 : decode cX5_stepFrom 17 = .ok (.iconst 1, 1) := by decide +kernel
theorem dX5_stepFrom_18 : decode cX5_stepFrom 18 = .ok (.iadd, 1) := by decide +kernel
theorem dX5_stepFrom_19 : decode cX5_stepFrom 19 = .ok (.aload_n 0, 1) := by decide +kernel
theorem dX5_stepFrom_20 : decode cX5_stepFrom 20 = .ok (.getfield 9, 3) := by decide +kernel
theorem dX5_stepFrom_23 : decode cX5_stepFrom 23 = .ok (.iload_n 1, 1) := by decide +kernel
theorem dX5_stepFrom_24 : decode cX5_stepFrom 24 = .ok (.iaload, 1) := by decide +kernel
theorem dX5_stepFrom_25 : decode cX5_stepFrom 25 = .ok (.if_icmp .ge 17, 3) := by decide +kernel
theorem dX5_stepFrom_28 : decode cX5_stepFrom 28 = .ok (.aload_n 0, 1) := by decide +kernel
theorem dX5_stepFrom_29 : decode cX5_stepFrom 29 = .ok (.getfield 9, 3) := by decide +kernel
theorem dX5_stepFrom_32 : decode cX5_stepFrom 32 = .ok (.iload_n 1, 1) := by decide +kernel
theorem dX5_stepFrom_33 : decode cX5_stepFrom 33 = .ok (.aload_n 0, 1) := by decide +kernel
theorem dX5_stepFrom_34 : decode cX5_stepFrom 34 = .ok (.getfield 9, 3) := by decide +kernel
theorem dX5_stepFrom_37 : decode cX5_stepFrom 37 = .ok (.iload_n 3, 1) := by decide +kernel
theorem dX5_stepFrom_38 : decode cX5_stepFrom 38 = .ok (.iaload, 1) := by decide +kernel
theorem dX5_stepFrom_39 : decode cX5_stepFrom 39 = .ok (.iconst 1, 1) := by decide +kernel
theorem dX5_stepFrom_40 : decode cX5_stepFrom 40 = .ok (.iadd, 1) := by decide +kernel
theorem dX5_stepFrom_41 : decode cX5_stepFrom 41 = .ok (.iastore, 1) := by decide +kernel
theorem dX5_stepFrom_42 : decode cX5_stepFrom 42 = .ok (.return_, 1) := by decide +kernel
theorem dX5_fewestTo_0 : decode cX5_fewestTo 0 = .ok (.sipush 1000, 3) := by decide +kernel
theorem dX5_fewestTo_3 : decode cX5_fewestTo 3 = .ok (.istore_n 3, 1) := by decide +kernel
theorem dX5_fewestTo_4 : decode cX5_fewestTo 4 = .ok (.iconst 0, 1) := by decide +kernel
theorem dX5_fewestTo_5 : decode cX5_fewestTo 5 = .ok (.istore 4, 2) := by decide +kernel
theorem dX5_fewestTo_7 : decode cX5_fewestTo 7 = .ok (.iload 4, 2) := by decide +kernel
theorem dX5_fewestTo_9 : decode cX5_fewestTo 9 = .ok (.sipush 256, 3) := by decide +kernel
theorem dX5_fewestTo_12 : decode cX5_fewestTo 12 = .ok (.if_icmp .ge 39, 3) := by decide +kernel
theorem dX5_fewestTo_15 : decode cX5_fewestTo 15 = .ok (.aload_n 1, 1) := by decide +kernel
theorem dX5_fewestTo_16 : decode cX5_fewestTo 16 = .ok (.getfield 15, 3) := by decide +kernel
theorem dX5_fewestTo_19 : decode cX5_fewestTo 19 = .ok (.iload 4, 2) := by decide +kernel
theorem dX5_fewestTo_21 : decode cX5_fewestTo 21 = .ok (.iaload, 1) := by decide +kernel
theorem dX5_fewestTo_22 : decode cX5_fewestTo 22 = .ok (.iload_n 2, 1) := by decide +kernel
theorem dX5_fewestTo_23 : decode cX5_fewestTo 23 = .ok (.if_icmp .ne 22, 3) := by decide +kernel
theorem dX5_fewestTo_26 : decode cX5_fewestTo 26 = .ok (.aload_n 0, 1) := by decide +kernel
theorem dX5_fewestTo_27 : decode cX5_fewestTo 27 = .ok (.getfield 9, 3) := by decide +kernel
theorem dX5_fewestTo_30 : decode cX5_fewestTo 30 = .ok (.iload 4, 2) := by decide +kernel
theorem dX5_fewestTo_32 : decode cX5_fewestTo 32 = .ok (.iaload, 1) := by decide +kernel
theorem dX5_fewestTo_33 : decode cX5_fewestTo 33 = .ok (.iload_n 3, 1) := by decide +kernel
theorem dX5_fewestTo_34 : decode cX5_fewestTo 34 = .ok (.if_icmp .ge 11, 3) := by decide +kernel
theorem dX5_fewestTo_37 : decode cX5_fewestTo 37 = .ok (.aload_n 0, 1) := by decide +kernel
theorem dX5_fewestTo_38 : decode cX5_fewestTo 38 = .ok (.getfield 9, 3) := by decide +kernel
theorem dX5_fewestTo_41 : decode cX5_fewestTo 41 = .ok (.iload 4, 2) := by decide +kernel
theorem dX5_fewestTo_43 : decode cX5_fewestTo 43 = .ok (.iaload, 1) := by decide +kernel
theorem dX5_fewestTo_44 : decode cX5_fewestTo 44 = .ok (.istore_n 3, 1) := by decide +kernel
theorem dX5_fewestTo_45 : decode cX5_fewestTo 45 = .ok (.iinc 4 1, 3) := by decide +kernel
theorem dX5_fewestTo_48 : decode cX5_fewestTo 48 = .ok (.goto (-41), 3) := by decide +kernel
theorem dX5_fewestTo_51 : decode cX5_fewestTo 51 = .ok (.iload_n 3, 1) := by decide +kernel
theorem dX5_fewestTo_52 : decode cX5_fewestTo 52 = .ok (.ireturn, 1) := by decide +kernel
theorem dX5_squaresWithin_0 : decode cX5_squaresWithin 0 = .ok (.iconst 0, 1) := by decide +kernel
theorem dX5_squaresWithin_1 : decode cX5_squaresWithin 1 = .ok (.istore_n 2, 1) := by decide +kernel
theorem dX5_squaresWithin_2 : decode cX5_squaresWithin 2 = .ok (.iconst 0, 1) := by decide +kernel
theorem dX5_squaresWithin_3 : decode cX5_squaresWithin 3 = .ok (.istore_n 3, 1) := by decide +kernel
theorem dX5_squaresWithin_4 : decode cX5_squaresWithin 4 = .ok (.iload_n 3, 1) := by decide +kernel
theorem dX5_squaresWithin_5 : decode cX5_squaresWithin 5 = .ok (.sipush 256, 3) := by decide +kernel
theorem dX5_squaresWithin_8 : decode cX5_squaresWithin 8 = .ok (.if_icmp .ge 31, 3) := by decide +kernel
theorem dX5_squaresWithin_11 : decode cX5_squaresWithin 11 = .ok (.aload_n 0, 1) := by decide +kernel
theorem dX5_squaresWithin_12 : decode cX5_squaresWithin 12 = .ok (.getfield 9, 3) := by decide +kernel
theorem dX5_squaresWithin_15 : decode cX5_squaresWithin 15 = .ok (.iload_n 3, 1) := by decide +kernel
theorem dX5_squaresWithin_16 : decode cX5_squaresWithin 16 = .ok (.iaload, 1) := by decide +kernel
theorem dX5_squaresWithin_17 : decode cX5_squaresWithin 17 = .ok (.ifCond .le 16, 3) := by decide +kernel
theorem dX5_squaresWithin_20 : decode cX5_squaresWithin 20 = .ok (.aload_n 0, 1) := by decide +kernel
theorem dX5_squaresWithin_21 : decode cX5_squaresWithin 21 = .ok (.getfield 9, 3) := by decide +kernel
theorem dX5_squaresWithin_24 : decode cX5_squaresWithin 24 = .ok (.iload_n 3, 1) := by decide +kernel
theorem dX5_squaresWithin_25 : decode cX5_squaresWithin 25 = .ok (.iaload, 1) := by decide +kernel
theorem dX5_squaresWithin_26 : decode cX5_squaresWithin 26 = .ok (.iload_n 1, 1) := by decide +kernel
theorem dX5_squaresWithin_27 : decode cX5_squaresWithin 27 = .ok (.if_icmp .gt 6, 3) := by decide +kernel
theorem dX5_squaresWithin_30 : decode cX5_squaresWithin 30 = .ok (.iinc 2 1, 3) := by decide +kernel
theorem dX5_squaresWithin_33 : decode cX5_squaresWithin 33 = .ok (.iinc 3 1, 3) := by decide +kernel
theorem dX5_squaresWithin_36 : decode cX5_squaresWithin 36 = .ok (.goto (-32), 3) := by decide +kernel
theorem dX5_squaresWithin_39 : decode cX5_squaresWithin 39 = .ok (.iload_n 2, 1) := by decide +kernel
theorem dX5_squaresWithin_40 : decode cX5_squaresWithin 40 = .ok (.ireturn, 1) := by decide +kernel
theorem dX6_init_0 : decode cX6_init 0 = .ok (.aload_n 0, 1) := by decide +kernel
theorem dX6_init_1 : decode cX6_init 1 = .ok (.invokespecial 3, 3) := by decide +kernel
theorem dX6_init_4 : decode cX6_init 4 = .ok (.aload_n 0, 1) := by decide +kernel
theorem dX6_init_5 : decode cX6_init 5 = .ok (.sipush 256, 3) := by decide +kernel
theorem dX6_init_8 : decode cX6_init 8 = .ok (.newarray .int, 2) := by decide +kernel
theorem dX6_init_10 : decode cX6_init 10 = .ok (.putfield 9, 3) := by decide +kernel
theorem dX6_init_13 : decode cX6_init 13 = .ok (.aload_n 0, 1) := by decide +kernel
theorem dX6_init_14 : decode cX6_init 14 = .ok (.sipush 256, 3) := by decide +kernel
theorem dX6_init_17 : decode cX6_init 17 = .ok (.newarray .int, 2) := by decide +kernel
theorem dX6_init_19 : decode cX6_init 19 = .ok (.putfield 15, 3) := by decide +kernel
theorem dX6_init_22 : decode cX6_init 22 = .ok (.aload_n 0, 1) := by decide +kernel
theorem dX6_init_23 : decode cX6_init 23 = .ok (.sipush 256, 3) := by decide +kernel
theorem dX6_init_26 : decode cX6_init 26 = .ok (.newarray .int, 2) := by decide +kernel
theorem dX6_init_28 : decode cX6_init 28 = .ok (.putfield 18, 3) := by decide +kernel
theorem dX6_init_31 : decode cX6_init 31 = .ok (.aload_n 0, 1) := by decide +kernel
theorem dX6_init_32 : decode cX6_init 32 = .ok (.aload_n 1, 1) := by decide +kernel
theorem dX6_init_33 : decode cX6_init 33 = .ok (.putfield 21, 3) := by decide +kernel
theorem dX6_init_36 : decode cX6_init 36 = .ok (.aload_n 0, 1) := by decide +kernel
theorem dX6_init_37 : decode cX6_init 37 = .ok (.iload_n 2, 1) := by decide +kernel
theorem dX6_init_38 : decode cX6_init 38 = .ok (.putfield 25, 3) := by decide +kernel
theorem dX6_init_41 : decode cX6_init 41 = .ok (.aload_n 0, 1) := by decide +kernel
theorem dX6_init_42 : decode cX6_init 42 = .ok (.iload_n 3, 1) := by decide +kernel
theorem dX6_init_43 : decode cX6_init 43 = .ok (.putfield 29, 3) := by decide +kernel
theorem dX6_init_46 : decode cX6_init 46 = .ok (.aload_n 0, 1) := by decide +kernel
theorem dX6_init_47 : decode cX6_init 47 = .ok (.iload 4, 2) := by decide +kernel
theorem dX6_init_49 : decode cX6_init 49 = .ok (.putfield 32, 3) := by decide +kernel
theorem dX6_init_52 : decode cX6_init 52 = .ok (.aload_n 0, 1) := by decide +kernel
theorem dX6_init_53 : decode cX6_init 53 = .ok (.iload 5, 2) := by decide +kernel
theorem dX6_init_55 : decode cX6_init 55 = .ok (.putfield 35, 3) := by decide +kernel
theorem dX6_init_58 : decode cX6_init 58 = .ok (.return_, 1) := by decide +kernel
theorem dX6_rebase_0 : decode cX6_rebase 0 = .ok (.aload_n 0, 1) := by decide +kernel
theorem dX6_rebase_1 : decode cX6_rebase 1 = .ok (.getfield 21, 3) := by decide +kernel
theorem dX6_rebase_4 : decode cX6_rebase 4 = .ok (.getfield 38, 3) := by decide +kernel
theorem dX6_rebase_7 : decode cX6_rebase 7 = .ok (.iconst 0, 1) := by decide +kernel
theorem dX6_rebase_8 : decode cX6_rebase 8 = .ok (.aload_n 0, 1) := by decide +kernel
theorem dX6_rebase_9 : decode cX6_rebase 9 = .ok (.getfield 18, 3) := by decide +kernel
theorem dX6_rebase_12 : decode cX6_rebase 12 = .ok (.iconst 0, 1) := by decide +kernel
theorem dX6_rebase_13 : decode cX6_rebase 13 = .ok (.sipush 256, 3) := by decide +kernel
theorem dX6_rebase_16 : decode cX6_rebase 16 = .ok (.invokestatic 41, 3) := by decide +kernel
theorem dX6_rebase_19 : decode cX6_rebase 19 = .ok (.aload_n 0, 1) := by decide +kernel
theorem dX6_rebase_20 : decode cX6_rebase 20 = .ok (.getfield 21, 3) := by decide +kernel
theorem dX6_rebase_23 : decode cX6_rebase 23 = .ok (.getfield 38, 3) := by decide +kernel
theorem dX6_rebase_26 : decode cX6_rebase 26 = .ok (.iconst 0, 1) := by decide +kernel
theorem dX6_rebase_27 : decode cX6_rebase 27 = .ok (.aload_n 0, 1) := by decide +kernel
theorem dX6_rebase_28 : decode cX6_rebase 28 = .ok (.getfield 9, 3) := by decide +kernel
theorem dX6_rebase_31 : decode cX6_rebase 31 = .ok (.iconst 0, 1) := by decide +kernel
theorem dX6_rebase_32 : decode cX6_rebase 32 = .ok (.sipush 256, 3) := by decide +kernel
theorem dX6_rebase_35 : decode cX6_rebase 35 = .ok (.invokestatic 41, 3) := by decide +kernel
theorem dX6_rebase_38 : decode cX6_rebase 38 = .ok (.return_, 1) := by decide +kernel
theorem dX6_holds_0 : decode cX6_holds 0 = .ok (.iload_n 1, 1) := by decide +kernel
theorem dX6_holds_1 : decode cX6_holds 1 = .ok (.bipush 16, 2) := by decide +kernel
theorem dX6_holds_3 : decode cX6_holds 3 = .ok (.irem, 1) := by decide +kernel
theorem dX6_holds_4 : decode cX6_holds 4 = .ok (.istore_n 2, 1) := by decide +kernel
theorem dX6_holds_5 : decode cX6_holds 5 = .ok (.iload_n 1, 1) := by decide +kernel
theorem dX6_holds_6 : decode cX6_holds 6 = .ok (.bipush 16, 2) := by decide +kernel
theorem dX6_holds_8 : decode cX6_holds 8 = .ok (.idiv, 1) := by decide +kernel
theorem dX6_holds_9 : decode cX6_holds 9 = .ok (.istore_n 3, 1) := by decide +kernel
theorem dX6_holds_10 : decode cX6_holds 10 = .ok (.iload_n 2, 1) := by decide +kernel
theorem dX6_holds_11 : decode cX6_holds 11 = .ok (.aload_n 0, 1) := by decide +kernel
theorem dX6_holds_12 : decode cX6_holds 12 = .ok (.getfield 25, 3) := by decide +kernel
theorem dX6_holds_15 : decode cX6_holds 15 = .ok (.if_icmp .lt 31, 3) := by decide +kernel
theorem dX6_holds_18 : decode cX6_holds 18 = .ok (.iload_n 2, 1) := by decide +kernel
theorem dX6_holds_19 : decode cX6_holds 19 = .ok (.aload_n 0, 1) := by decide +kernel
theorem dX6_holds_20 : decode cX6_holds 20 = .ok (.getfield 32, 3) := by decide +kernel
theorem dX6_holds_23 : decode cX6_holds 23 = .ok (.if_icmp .ge 23, 3) := by decide +kernel
theorem dX6_holds_26 : decode cX6_holds 26 = .ok (.iload_n 3, 1) := by decide +kernel
theorem dX6_holds_27 : decode cX6_holds 27 = .ok (.aload_n 0, 1) := by decide +kernel
theorem dX6_holds_28 : decode cX6_holds 28 = .ok (.getfield 29, 3) := by decide +kernel
theorem dX6_holds_31 : decode cX6_holds 31 = .ok (.if_icmp .lt 15, 3) := by decide +kernel
theorem dX6_holds_34 : decode cX6_holds 34 = .ok (.iload_n 3, 1) := by decide +kernel
theorem dX6_holds_35 : decode cX6_holds 35 = .ok (.aload_n 0, 1) := by decide +kernel
theorem dX6_holds_36 : decode cX6_holds 36 = .ok (.getfield 35, 3) := by decide +kernel
theorem dX6_holds_39 : decode cX6_holds 39 = .ok (.if_icmp .ge 7, 3) := by decide +kernel
theorem dX6_holds_42 : decode cX6_holds 42 = .ok (.iconst 1, 1) := by decide +kernel
theorem dX6_holds_43 : decode cX6_holds 43 = .ok (.goto 4, 3) := by decide +kernel
theorem dX6_holds_46 : decode cX6_holds 46 = .ok (.iconst 0, 1) := by decide +kernel
theorem dX6_holds_47 : decode cX6_holds 47 = .ok (.ireturn, 1) := by decide +kernel
theorem dX6_markConflicts_0 : decode cX6_markConflicts 0 = .ok (.iconst 0, 1) := by decide +kernel
theorem dX6_markConflicts_1 : decode cX6_markConflicts 1 = .ok (.istore_n 1, 1) := by decide +kernel
theorem dX6_markConflicts_2 : decode cX6_markConflicts 2 = .ok (.iconst 0, 1) := by decide +kernel
theorem dX6_markConflicts_3 : decode cX6_markConflicts 3 = .ok (.istore_n 2, 1) := by decide +kernel
theorem dX6_markConflicts_4 : decode cX6_markConflicts 4 = .ok (.iload_n 2, 1) := by decide +kernel
theorem dX6_markConflicts_5 : decode cX6_markConflicts 5 = .ok (.sipush 256, 3) := by decide +kernel
theorem dX6_markConflicts_8 : decode cX6_markConflicts 8 = .ok (.if_icmp .ge 42, 3) := by decide +kernel
theorem dX6_markConflicts_11 : decode cX6_markConflicts 11 = .ok (.aload_n 0, 1) := by decide +kernel
theorem dX6_markConflicts_12 : decode cX6_markConflicts 12 = .ok (.iload_n 2, 1) := by decide +kernel
theorem dX6_markConflicts_13 : decode cX6_markConflicts 13 = .ok (.invokevirtual 47, 3) := by decide +kernel
theorem dX6_markConflicts_16 : decode cX6_markConflicts 16 = .ok (.istore_n 3, 1) := by decide +kernel
theorem dX6_markConflicts_17 : decode cX6_markConflicts 17 = .ok (.aload_n 0, 1) := by decide +kernel
theorem dX6_markConflicts_18 : decode cX6_markConflicts 18 = .ok (.getfield 15, 3) := by decide +kernel
theorem dX6_markConflicts_21 : decode cX6_markConflicts 21 = .ok (.iload_n 2, 1) := by decide +kernel
theorem dX6_markConflicts_22 : decode cX6_markConflicts 22 = .ok (.iload_n 3, 1) := by decide +kernel
theorem dX6_markConflicts_23 : decode cX6_markConflicts 23 = .ok (.ifCond .eq 7, 3) := by decide +kernel
theorem dX6_markConflicts_26 : decode cX6_markConflicts 26 = .ok (.iconst 0, 1) := by decide +kernel
theorem dX6_markConflicts_27 : decode cX6_markConflicts 27 = .ok (.goto 4, 3) := by decide +kernel
theorem dX6_markConflicts_30 : decode cX6_markConflicts 30 = .ok (.iconst (-1), 1) := by decide +kernel
theorem dX6_markConflicts_31 : decode cX6_markConflicts 31 = .ok (.iastore, 1) := by decide +kernel
theorem dX6_markConflicts_32 : decode cX6_markConflicts 32 = .ok (.iload_n 1, 1) := by decide +kernel
theorem dX6_markConflicts_33 : decode cX6_markConflicts 33 = .ok (.iload_n 3, 1) := by decide +kernel
theorem dX6_markConflicts_34 : decode cX6_markConflicts 34 = .ok (.ifCond .eq 7, 3) := by decide +kernel
theorem dX6_markConflicts_37 : decode cX6_markConflicts 37 = .ok (.iconst 1, 1) := by decide +kernel
theorem dX6_markConflicts_38 : decode cX6_markConflicts 38 = .ok (.goto 4, 3) := by decide +kernel
theorem dX6_markConflicts_41 : decode cX6_markConflicts 41 = .ok (.iconst 0, 1) := by decide +kernel
theorem dX6_markConflicts_42 : decode cX6_markConflicts 42 = .ok (.iadd, 1) := by decide +kernel
theorem dX6_markConflicts_43 : decode cX6_markConflicts 43 = .ok (.istore_n 1, 1) := by decide +kernel
theorem dX6_markConflicts_44 : decode cX6_markConflicts 44 = .ok (.iinc 2 1, 3) := by decide +kernel
theorem dX6_markConflicts_47 : decode cX6_markConflicts 47 = .ok (.goto (-43), 3) := by decide +kernel
theorem dX6_markConflicts_50 : decode cX6_markConflicts 50 = .ok (.iload_n 1, 1) := by decide +kernel
theorem dX6_markConflicts_51 : decode cX6_markConflicts 51 = .ok (.ireturn, 1) := by decide +kernel
theorem dX6_isDue_0 : decode cX6_isDue 0 = .ok (.aload_n 0, 1) := by decide +kernel
theorem dX6_isDue_1 : decode cX6_isDue 1 = .ok (.iload_n 1, 1) := by decide +kernel
theorem dX6_isDue_2 : decode cX6_isDue 2 = .ok (.invokevirtual 51, 3) := by decide +kernel
theorem dX6_isDue_5 : decode cX6_isDue 5 = .ok (.ifCond .eq 29, 3) := by decide +kernel
theorem dX6_isDue_8 : decode cX6_isDue 8 = .ok (.iload_n 2, 1) := by decide +kernel
theorem dX6_isDue_9 : decode cX6_isDue 9 = .ok (.ifCond .ne 21, 3) := by decide +kernel
theorem dX6_isDue_12 : decode cX6_isDue 12 = .ok (.aload_n 0, 1) := by decide +kernel
theorem dX6_isDue_13 : decode cX6_isDue 13 = .ok (.getfield 21, 3) := by decide +kernel
theorem dX6_isDue_16 : decode cX6_isDue 16 = .ok (.getfield 38, 3) := by decide +kernel
theorem dX6_isDue_19 : decode cX6_isDue 19 = .ok (.iload_n 1, 1) := by decide +kernel
theorem dX6_isDue_20 : decode cX6_isDue 20 = .ok (.iaload, 1) := by decide +kernel
theorem dX6_isDue_21 : decode cX6_isDue 21 = .ok (.aload_n 0, 1) := by decide +kernel
theorem dX6_isDue_22 : decode cX6_isDue 22 = .ok (.getfield 18, 3) := by decide +kernel
theorem dX6_isDue_25 : decode cX6_isDue 25 = .ok (.iload_n 1, 1) := by decide +kernel
theorem dX6_isDue_26 : decode cX6_isDue 26 = .ok (.iaload, 1) := by decide +kernel
theorem dX6_isDue_27 : decode cX6_isDue 27 = .ok (.if_icmp .ne 7, 3) := by decide +kernel
theorem dX6_isDue_30 : decode cX6_isDue 30 = .ok (.iconst 1, 1) := by decide +kernel
theorem dX6_isDue_31 : decode cX6_isDue 31 = .ok (.goto 4, 3) := by decide +kernel
theorem dX6_isDue_34 : decode cX6_isDue 34 = .ok (.iconst 0, 1) := by decide +kernel
theorem dX6_isDue_35 : decode cX6_isDue 35 = .ok (.ireturn, 1) := by decide +kernel
theorem dX6_isConflict_0 : decode cX6_isConflict 0 = .ok (.aload_n 0, 1) := by decide +kernel
theorem dX6_isConflict_1 : decode cX6_isConflict 1 = .ok (.iload_n 1, 1) := by decide +kernel
theorem dX6_isConflict_2 : decode cX6_isConflict 2 = .ok (.invokevirtual 51, 3) := by decide +kernel
theorem dX6_isConflict_5 : decode cX6_isConflict 5 = .ok (.ifCond .eq 43, 3) := by decide +kernel
theorem dX6_isConflict_8 : decode cX6_isConflict 8 = .ok (.aload_n 0, 1) := by decide +kernel
theorem dX6_isConflict_9 : decode cX6_isConflict 9 = .ok (.getfield 21, 3) := by decide +kernel
theorem dX6_isConflict_12 : decode cX6_isConflict 12 = .ok (.getfield 38, 3) := by decide +kernel
theorem dX6_isConflict_15 : decode cX6_isConflict 15 = .ok (.iload_n 1, 1) := by decide +kernel
theorem dX6_isConflict_16 : decode cX6_isConflict 16 = .ok (.iaload, 1) := by decide +kernel
theorem dX6_isConflict_17 : decode cX6_isConflict 17 = .ok (.aload_n 0, 1) := by decide +kernel
theorem dX6_isConflict_18 : decode cX6_isConflict 18 = .ok (.getfield 18, 3) := by decide +kernel
theorem dX6_isConflict_21 : decode cX6_isConflict 21 = .ok (.iload_n 1, 1) := by decide +kernel
theorem dX6_isConflict_22 : decode cX6_isConflict 22 = .ok (.iaload, 1) := by decide +kernel
theorem dX6_isConflict_23 : decode cX6_isConflict 23 = .ok (.if_icmp .eq 25, 3) := by decide +kernel
theorem dX6_isConflict_26 : decode cX6_isConflict 26 = .ok (.aload_n 0, 1) := by decide +kernel
theorem dX6_isConflict_27 : decode cX6_isConflict 27 = .ok (.getfield 21, 3) := by decide +kernel
theorem dX6_isConflict_30 : decode cX6_isConflict 30 = .ok (.getfield 38, 3) := by decide +kernel
theorem dX6_isConflict_33 : decode cX6_isConflict 33 = .ok (.iload_n 1, 1) := by decide +kernel
theorem dX6_isConflict_34 : decode cX6_isConflict 34 = .ok (.iaload, 1) := by decide +kernel
theorem dX6_isConflict_35 : decode cX6_isConflict 35 = .ok (.aload_n 0, 1) := by decide +kernel
theorem dX6_isConflict_36 : decode cX6_isConflict 36 = .ok (.getfield 9, 3) := by decide +kernel
theorem dX6_isConflict_39 : decode cX6_isConflict 39 = .ok (.iload_n 1, 1) := by decide +kernel
theorem dX6_isConflict_40 : decode cX6_isConflict 40 = .ok (.iaload, 1) := by decide +kernel
theorem dX6_isConflict_41 : decode cX6_isConflict 41 = .ok (.if_icmp .eq 7, 3) := by decide +kernel
theorem dX6_isConflict_44 : decode cX6_isConflict 44 = .ok (.iconst 1, 1) := by decide +kernel
theorem dX6_isConflict_45 : decode cX6_isConflict 45 = .ok (.goto 4, 3) := by decide +kernel
theorem dX6_isConflict_48 : decode cX6_isConflict 48 = .ok (.iconst 0, 1) := by decide +kernel
theorem dX6_isConflict_49 : decode cX6_isConflict 49 = .ok (.ireturn, 1) := by decide +kernel
theorem dX6_isChanged_0 : decode cX6_isChanged 0 = .ok (.aload_n 0, 1) := by decide +kernel
theorem dX6_isChanged_1 : decode cX6_isChanged 1 = .ok (.iload_n 1, 1) := by decide +kernel
theorem dX6_isChanged_2 : decode cX6_isChanged 2 = .ok (.invokevirtual 54, 3) := by decide +kernel
theorem dX6_isChanged_5 : decode cX6_isChanged 5 = .ok (.ifCond .eq 22, 3) := by decide +kernel
theorem dX6_isChanged_8 : decode cX6_isChanged 8 = .ok (.aload_n 0, 1) := by decide +kernel
theorem dX6_isChanged_9 : decode cX6_isChanged 9 = .ok (.getfield 9, 3) := by decide +kernel
theorem dX6_isChanged_12 : decode cX6_isChanged 12 = .ok (.iload_n 1, 1) := by decide +kernel
theorem dX6_isChanged_13 : decode cX6_isChanged 13 = .ok (.iaload, 1) := by decide +kernel
theorem dX6_isChanged_14 : decode cX6_isChanged 14 = .ok (.aload_n 0, 1) := by decide +kernel
theorem dX6_isChanged_15 : decode cX6_isChanged 15 = .ok (.getfield 18, 3) := by decide +kernel
theorem dX6_isChanged_18 : decode cX6_isChanged 18 = .ok (.iload_n 1, 1) := by decide +kernel
theorem dX6_isChanged_19 : decode cX6_isChanged 19 = .ok (.iaload, 1) := by decide +kernel
theorem dX6_isChanged_20 : decode cX6_isChanged 20 = .ok (.if_icmp .eq 7, 3) := by decide +kernel
theorem dX6_isChanged_23 : decode cX6_isChanged 23 = .ok (.iconst 1, 1) := by decide +kernel
theorem dX6_isChanged_24 : decode cX6_isChanged 24 = .ok (.goto 4, 3) := by decide +kernel
theorem dX6_isChanged_27 : decode cX6_isChanged 27 = .ok (.iconst 0, 1) := by decide +kernel
theorem dX6_isChanged_28 : decode cX6_isChanged 28 = .ok (.ireturn, 1) := by decide +kernel
