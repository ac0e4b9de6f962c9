theorem dX7_init_0 : decode cX7_init 0 = .ok (.aload_n 0, 1) := by decide +kernel
theorem dX7_init_1 : decode cX7_init 1 = .ok (.invokespecial 1, 3) := by decide +kernel
theorem dX7_init_4 : decode cX7_init 4 = .ok (.aload_n 0, 1) := by decide +kernel
theorem dX7_init_5 : decode cX7_init 5 = .ok (.iconst 3, 1) := by decide +kernel
theorem dX7_init_6 : decode cX7_init 6 = .ok (.anewarray 9, 3) := by decide +kernel
theorem dX7_init_9 : decode cX7_init 9 = .ok (.putfield 11, 3) := by decide +kernel
theorem dX7_init_12 : decode cX7_init 12 = .ok (.aload_n 0, 1) := by decide +kernel
theorem dX7_init_13 : decode cX7_init 13 = .ok (.bipush 6, 2) := by decide +kernel
theorem dX7_init_15 : decode cX7_init 15 = .ok (.anewarray 15, 3) := by decide +kernel
theorem dX7_init_18 : decode cX7_init 18 = .ok (.putfield 17, 3) := by decide +kernel
theorem dX7_init_21 : decode cX7_init 21 = .ok (.aload_n 0, 1) := by decide +kernel
theorem dX7_init_22 : decode cX7_init 22 = .ok (.iconst 3, 1) := by decide +kernel
theorem dX7_init_23 : decode cX7_init 23 = .ok (.anewarray 21, 3) := by decide +kernel
theorem dX7_init_26 : decode cX7_init 26 = .ok (.putfield 23, 3) := by decide +kernel
theorem dX7_init_29 : decode cX7_init 29 = .ok (.aload_n 0, 1) := by decide +kernel
theorem dX7_init_30 : decode cX7_init 30 = .ok (.bipush 41, 2) := by decide +kernel
theorem dX7_init_32 : decode cX7_init 32 = .ok (.newarray .int, 2) := by decide +kernel
theorem dX7_init_34 : decode cX7_init 34 = .ok (.putfield 27, 3) := by decide +kernel
theorem dX7_init_37 : decode cX7_init 37 = .ok (.aload_n 0, 1) := by decide +kernel
theorem dX7_init_38 : decode cX7_init 38 = .ok (.new 31, 3) := by decide +kernel
theorem dX7_init_41 : decode cX7_init 41 = .ok (.dup, 1) := by decide +kernel
theorem dX7_init_42 : decode cX7_init 42 = .ok (.invokespecial 33, 3) := by decide +kernel
theorem dX7_init_45 : decode cX7_init 45 = .ok (.putfield 34, 3) := by decide +kernel
theorem dX7_init_48 : decode cX7_init 48 = .ok (.aload_n 0, 1) := by decide +kernel
theorem dX7_init_49 : decode cX7_init 49 = .ok (.new 38, 3) := by decide +kernel
theorem dX7_init_52 : decode cX7_init 52 = .ok (.dup, 1) := by decide +kernel
theorem dX7_init_53 : decode cX7_init 53 = .ok (.invokespecial 40, 3) := by decide +kernel
theorem dX7_init_56 : decode cX7_init 56 = .ok (.putfield 41, 3) := by decide +kernel
theorem dX7_init_59 : decode cX7_init 59 = .ok (.aload_n 0, 1) := by decide +kernel
theorem dX7_init_60 : decode cX7_init 60 = .ok (.new 45, 3) := by decide +kernel
theorem dX7_init_63 : decode cX7_init 63 = .ok (.dup, 1) := by decide +kernel
theorem dX7_init_64 : decode cX7_init 64 = .ok (.invokespecial 47, 3) := by decide +kernel
theorem dX7_init_67 : decode cX7_init 67 = .ok (.putfield 48, 3) := by decide +kernel
theorem dX7_init_70 : decode cX7_init 70 = .ok (.aload_n 0, 1) := by decide +kernel
theorem dX7_init_71 : decode cX7_init 71 = .ok (.new 52, 3) := by decide +kernel
theorem dX7_init_74 : decode cX7_init 74 = .ok (.dup, 1) := by decide +kernel
theorem dX7_init_75 : decode cX7_init 75 = .ok (.invokespecial 54, 3) := by decide +kernel
theorem dX7_init_78 : decode cX7_init 78 = .ok (.putfield 55, 3) := by decide +kernel
theorem dX7_init_81 : decode cX7_init 81 = .ok (.iconst 0, 1) := by decide +kernel
theorem dX7_init_82 : decode cX7_init 82 = .ok (.istore_n 1, 1) := by decide +kernel
theorem dX7_init_83 : decode cX7_init 83 = .ok (.iload_n 1, 1) := by decide +kernel
theorem dX7_init_84 : decode cX7_init 84 = .ok (.iconst 3, 1) := by decide +kernel
theorem dX7_init_85 : decode cX7_init 85 = .ok (.if_icmp .ge 22, 3) := by decide +kernel
theorem dX7_init_88 : decode cX7_init 88 = .ok (.aload_n 0, 1) := by decide +kernel
theorem dX7_init_89 : decode cX7_init 89 = .ok (.getfield 11, 3) := by decide +kernel
theorem dX7_init_92 : decode cX7_init 92 = .ok (.iload_n 1, 1) := by decide +kernel
theorem dX7_init_93 : decode cX7_init 93 = .ok (.new 9, 3) := by decide +kernel
theorem dX7_init_96 : decode cX7_init 96 = .ok (.dup, 1) := by decide +kernel
theorem dX7_init_97 : decode cX7_init 97 = .ok (.invokespecial 59, 3) := by decide +kernel
theorem dX7_init_100 : decode cX7_init 100 = .ok (.aastore, 1) := by decide +kernel
theorem dX7_init_101 : decode cX7_init 101 = .ok (.iinc 1 1, 3) := by decide +kernel
theorem dX7_init_104 : decode cX7_init 104 = .ok (.goto (-21), 3) := by decide +kernel
theorem dX7_init_107 : decode cX7_init 107 = .ok (.return_, 1) := by decide +kernel
theorem dX7_begin_0 : decode cX7_begin 0 = .ok (.iload_n 1, 1) := by decide +kernel
theorem dX7_begin_1 : decode cX7_begin 1 = .ok (.ifCond .lt 9, 3) := by decide +kernel
theorem dX7_begin_4 : decode cX7_begin 4 = .ok (.iload_n 1, 1) := by decide +kernel
theorem dX7_begin_5 : decode cX7_begin 5 = .ok (.bipush 6, 2) := by decide +kernel
theorem dX7_begin_7 : decode cX7_begin 7 = .ok (.if_icmp .lt 13, 3) := by decide +kernel
theorem dX7_begin_10 : decode cX7_begin 10 = .ok (.new 60, 3) := by decide +kernel
theorem dX7_begin_13 : decode cX7_begin 13 = .ok (.dup, 1) := by decide +kernel
theorem dX7_begin_14 : decode cX7_begin 14 = .ok (.ldc 62, 2) := by decide +kernel
theorem dX7_begin_16 : decode cX7_begin 16 = .ok (.invokespecial 64, 3) := by decide +kernel
theorem dX7_begin_19 : decode cX7_begin 19 = .ok (.athrow, 1) := by decide +kernel
theorem dX7_begin_20 : decode cX7_begin 20 = .ok (.aload_n 0, 1) := by decide +kernel
theorem dX7_begin_21 : decode cX7_begin 21 = .ok (.getfield 67, 3) := by decide +kernel
theorem dX7_begin_24 : decode cX7_begin 24 = .ok (.ifCond .ne 12, 3) := by decide +kernel
theorem dX7_begin_27 : decode cX7_begin 27 = .ok (.aload_n 0, 1) := by decide +kernel
theorem dX7_begin_28 : decode cX7_begin 28 = .ok (.getfield 71, 3) := by decide +kernel
theorem dX7_begin_31 : decode cX7_begin 31 = .ok (.bipush 40, 2) := by decide +kernel
theorem dX7_begin_33 : decode cX7_begin 33 = .ok (.if_icmp .lt 13, 3) := by decide +kernel
theorem dX7_begin_36 : decode cX7_begin 36 = .ok (.new 75, 3) := by decide +kernel
theorem dX7_begin_39 : decode cX7_begin 39 = .ok (.dup, 1) := by decide +kernel
theorem dX7_begin_40 : decode cX7_begin 40 = .ok (.ldc 77, 2) := by decide +kernel
theorem dX7_begin_42 : decode cX7_begin 42 = .ok (.invokespecial 79, 3) := by decide +kernel
theorem dX7_begin_45 : decode cX7_begin 45 = .ok (.athrow, 1) := by decide +kernel
theorem dX7_begin_46 : decode cX7_begin 46 = .ok (.aload_n 0, 1) := by decide +kernel
theorem dX7_begin_47 : decode cX7_begin 47 = .ok (.iconst 1, 1) := by decide +kernel
theorem dX7_begin_48 : decode cX7_begin 48 = .ok (.putfield 67, 3) := by decide +kernel
theorem dX7_begin_51 : decode cX7_begin 51 = .ok (.aload_n 0, 1) := by decide +kernel
theorem dX7_begin_52 : decode cX7_begin 52 = .ok (.iload_n 1, 1) := by decide +kernel
theorem dX7_begin_53 : decode cX7_begin 53 = .ok (.putfield 80, 3) := by decide +kernel
theorem dX7_begin_56 : decode cX7_begin 56 = .ok (.iconst 0, 1) := by decide +kernel
theorem dX7_begin_57 : decode cX7_begin 57 = .ok (.istore_n 2, 1) := by decide +kernel
theorem dX7_begin_58 : decode cX7_begin 58 = .ok (.iload_n 2, 1) := by decide +kernel
theorem dX7_begin_59 : decode cX7_begin 59 = .ok (.aload_n 0, 1) := by decide +kernel
theorem dX7_begin_60 : decode cX7_begin 60 = .ok (.getfield 83, 3) := by decide +kernel
theorem dX7_begin_63 : decode cX7_begin 63 = .ok (.if_icmp .ge 18, 3) := by decide +kernel
theorem dX7_begin_66 : decode cX7_begin 66 = .ok (.aload_n 0, 1) := by decide +kernel
theorem dX7_begin_67 : decode cX7_begin 67 = .ok (.iload_n 2, 1) := by decide +kernel
theorem dX7_begin_68 : decode cX7_begin 68 = .ok (.invokevirtual 86, 3) := by decide +kernel
theorem dX7_begin_71 : decode cX7_begin 71 = .ok (.iconst 0, 1) := by decide +kernel
theorem dX7_begin_72 : decode cX7_begin 72 = .ok (.putfield 90, 3) := by decide +kernel
theorem dX7_begin_75 : decode cX7_begin 75 = .ok (.iinc 2 1, 3) := by decide +kernel
theorem dX7_begin_78 : decode cX7_begin 78 = .ok (.goto (-20), 3) := by decide +kernel
theorem dX7_begin_81 : decode cX7_begin 81 = .ok (.iconst 0, 1) := by decide +kernel
theorem dX7_begin_82 : decode cX7_begin 82 = .ok (.istore_n 2, 1) := by decide +kernel
theorem dX7_begin_83 : decode cX7_begin 83 = .ok (.iload_n 2, 1) := by decide +kernel
theorem dX7_begin_84 : decode cX7_begin 84 = .ok (.iconst 3, 1) := by decide +kernel
theorem dX7_begin_85 : decode cX7_begin 85 = .ok (.if_icmp .ge 17, 3) := by decide +kernel
theorem dX7_begin_88 : decode cX7_begin 88 = .ok (.aload_n 0, 1) := by decide +kernel
theorem dX7_begin_89 : decode cX7_begin 89 = .ok (.iload_n 2, 1) := by decide +kernel
theorem dX7_begin_90 : decode cX7_begin 90 = .ok (.invokevirtual 93, 3) := by decide +kernel
theorem dX7_begin_93 : decode cX7_begin 93 = .ok (.invokevirtual 97, 3) := by decide +kernel
theorem dX7_begin_96 : decode cX7_begin 96 = .ok (.iinc 2 1, 3) := by decide +kernel
theorem dX7_begin_99 : decode cX7_begin 99 = .ok (.goto (-16), 3) := by decide +kernel
theorem dX7_begin_102 : decode cX7_begin 102 = .ok (.aload_n 0, 1) := by decide +kernel
theorem dX7_begin_103 : decode cX7_begin 103 = .ok (.getfield 71, 3) := by decide +kernel
theorem dX7_begin_106 : decode cX7_begin 106 = .ok (.ireturn, 1) := by decide +kernel
theorem dX7_paint_0 : decode cX7_paint 0 = .ok (.aload_n 0, 1) := by decide +kernel
theorem dX7_paint_1 : decode cX7_paint 1 = .ok (.iload_n 1, 1) := by decide +kernel
theorem dX7_paint_2 : decode cX7_paint 2 = .ok (.invokevirtual 93, 3) := by decide +kernel
theorem dX7_paint_5 : decode cX7_paint 5 = .ok (.astore 7, 2) := by decide +kernel
theorem dX7_paint_7 : decode cX7_paint 7 = .ok (.iload_n 2, 1) := by decide +kernel
theorem dX7_paint_8 : decode cX7_paint 8 = .ok (.invokestatic 100, 3) := by decide +kernel
theorem dX7_paint_11 : decode cX7_paint 11 = .ok (.iload_n 3, 1) := by decide +kernel
theorem dX7_paint_12 : decode cX7_paint 12 = .ok (.iload 4, 2) := by decide +kernel
theorem dX7_paint_14 : decode cX7_paint 14 = .ok (.iload 5, 2) := by decide +kernel
theorem dX7_paint_16 : decode cX7_paint 16 = .ok (.iload 6, 2) := by decide +kernel
theorem dX7_paint_18 : decode cX7_paint 18 = .ok (.invokestatic 104, 3) := by decide +kernel
theorem dX7_paint_21 : decode cX7_paint 21 = .ok (.aload_n 0, 1) := by decide +kernel
theorem dX7_paint_22 : decode cX7_paint 22 = .ok (.invokevirtual 108, 3) := by decide +kernel
theorem dX7_paint_25 : decode cX7_paint 25 = .ok (.aload 7, 2) := by decide +kernel
theorem dX7_paint_27 : decode cX7_paint 27 = .ok (.invokevirtual 111, 3) := by decide +kernel
theorem dX7_paint_30 : decode cX7_paint 30 = .ok (.iload 4, 2) := by decide +kernel
theorem dX7_paint_32 : decode cX7_paint 32 = .ok (.istore 8, 2) := by decide +kernel
theorem dX7_paint_34 : decode cX7_paint 34 = .ok (.iload 8, 2) := by decide +kernel
theorem dX7_paint_36 : decode cX7_paint 36 = .ok (.iload 4, 2) := by decide +kernel
theorem dX7_paint_38 : decode cX7_paint 38 = .ok (.iload 6, 2) := by decide +kernel
theorem dX7_paint_40 : decode cX7_paint 40 = .ok (.iadd, 1) := by decide +kernel
theorem dX7_paint_41 : decode cX7_paint 41 = .ok (.if_icmp .ge 41, 3) := by decide +kernel
theorem dX7_paint_44 : decode cX7_paint 44 = .ok (.iload_n 3, 1) := by decide +kernel
theorem dX7_paint_45 : decode cX7_paint 45 = .ok (.istore 9, 2) := by decide +kernel
theorem dX7_paint_47 : decode cX7_paint 47 = .ok (.iload 9, 2) := by decide +kernel
theorem dX7_paint_49 : decode cX7_paint 49 = .ok (.iload_n 3, 1) := by decide +kernel
theorem dX7_paint_50 : decode cX7_paint 50 = .ok (.iload 5, 2) := by decide +kernel
theorem dX7_paint_52 : decode cX7_paint 52 = .ok (.iadd, 1) := by decide +kernel
theorem dX7_paint_53 : decode cX7_paint 53 = .ok (.if_icmp .ge 23, 3) := by decide +kernel
theorem dX7_paint_56 : decode cX7_paint 56 = .ok (.aload 7, 2) := by decide +kernel
theorem dX7_paint_58 : decode cX7_paint 58 = .ok (.bipush 16, 2) := by decide +kernel
theorem dX7_paint_60 : decode cX7_paint 60 = .ok (.iload 8, 2) := by decide +kernel
theorem dX7_paint_62 : decode cX7_paint 62 = .ok (.imul, 1) := by decide +kernel
theorem dX7_paint_63 : decode cX7_paint 63 = .ok (.iload 9, 2) := by decide +kernel
theorem dX7_paint_65 : decode cX7_paint 65 = .ok (.iadd, 1) := by decide +kernel
theorem dX7_paint_66 : decode cX7_paint 66 = .ok (.iload_n 2, 1) := by decide +kernel
theorem dX7_paint_67 : decode cX7_paint 67 = .ok (.invokevirtual 114, 3) := by decide +kernel
theorem dX7_paint_70 : decode cX7_paint 70 = .ok (.iinc 9 1, 3) := by decide +kernel
theorem dX7_paint_73 : decode cX7_paint 73 = .ok (.goto (-26), 3) := by decide +kernel
theorem dX7_paint_76 : decode cX7_paint 76 = .ok (.iinc 8 1, 3) := by decide +kernel
theorem dX7_paint_79 : decode cX7_paint 79 = .ok (.goto (-45), 3) := by decide +kernel
theorem dX7_paint_82 : decode cX7_paint 82 = .ok (.aload 7, 2) := by decide +kernel
theorem dX7_paint_84 : decode cX7_paint 84 = .ok (.iload_n 2, 1) := by decide +kernel
theorem dX7_paint_85 : decode cX7_paint 85 = .ok (.invokevirtual 118, 3) := by decide +kernel
theorem dX7_paint_88 : decode cX7_paint 88 = .ok (.ireturn, 1) := by decide +kernel
theorem dX7_split_0 : decode cX7_split 0 = .ok (.aload_n 0, 1) := by decide +kernel
theorem dX7_split_1 : decode cX7_split 1 = .ok (.iload_n 1, 1) := by decide +kernel
theorem dX7_split_2 : decode cX7_split 2 = .ok (.invokevirtual 93, 3) := by decide +kernel
theorem dX7_split_5 : decode cX7_split 5 = .ok (.astore 6, 2) := by decide +kernel
theorem dX7_split_7 : decode cX7_split 7 = .ok (.iload_n 2, 1) := by decide +kernel
theorem dX7_split_8 : decode cX7_split 8 = .ok (.iload_n 3, 1) := by decide +kernel
theorem dX7_split_9 : decode cX7_split 9 = .ok (.invokestatic 122, 3) := by decide +kernel
theorem dX7_split_12 : decode cX7_split 12 = .ok (.iload 4, 2) := by decide +kernel
theorem dX7_split_14 : decode cX7_split 14 = .ok (.bipush 120, 2) := by decide +kernel
theorem dX7_split_16 : decode cX7_split 16 = .ok (.if_icmp .eq 10, 3) := by decide +kernel
theorem dX7_split_19 : decode cX7_split 19 = .ok (.iload 4, 2) := by decide +kernel
theorem dX7_split_21 : decode cX7_split 21 = .ok (.bipush 121, 2) := by decide +kernel
theorem dX7_split_23 : decode cX7_split 23 = .ok (.if_icmp .ne 15, 3) := by decide +kernel
theorem dX7_split_26 : decode cX7_split 26 = .ok (.iload 5, 2) := by decide +kernel
theorem dX7_split_28 : decode cX7_split 28 = .ok (.ifCond .lt 10, 3) := by decide +kernel
theorem dX7_split_31 : decode cX7_split 31 = .ok (.iload 5, 2) := by decide +kernel
theorem dX7_split_33 : decode cX7_split 33 = .ok (.bipush 16, 2) := by decide +kernel
theorem dX7_split_35 : decode cX7_split 35 = .ok (.if_icmp .lt 13, 3) := by decide +kernel
theorem dX7_split_38 : decode cX7_split 38 = .ok (.new 60, 3) := by decide +kernel
theorem dX7_split_41 : decode cX7_split 41 = .ok (.dup, 1) := by decide +kernel
theorem dX7_split_42 : decode cX7_split 42 = .ok (.ldc 125, 2) := by decide +kernel
theorem dX7_split_44 : decode cX7_split 44 = .ok (.invokespecial 64, 3) := by decide +kernel
theorem dX7_split_47 : decode cX7_split 47 = .ok (.athrow, 1) := by decide +kernel
theorem dX7_split_48 : decode cX7_split 48 = .ok (.aload_n 0, 1) := by decide +kernel
theorem dX7_split_49 : decode cX7_split 49 = .ok (.invokevirtual 108, 3) := by decide +kernel
theorem dX7_split_52 : decode cX7_split 52 = .ok (.aload 6, 2) := by decide +kernel
theorem dX7_split_54 : decode cX7_split 54 = .ok (.getfield 127, 3) := by decide +kernel
theorem dX7_split_57 : decode cX7_split 57 = .ok (.iload_n 3, 1) := by decide +kernel
theorem dX7_split_58 : decode cX7_split 58 = .ok (.iaload, 1) := by decide +kernel
theorem dX7_split_59 : decode cX7_split 59 = .ok (.ifCond .eq 13, 3) := by decide +kernel
theorem dX7_split_62 : decode cX7_split 62 = .ok (.new 130, 3) := by decide +kernel
theorem dX7_split_65 : decode cX7_split 65 = .ok (.dup, 1) := by decide +kernel
theorem dX7_split_66 : decode cX7_split 66 = .ok (.ldc 132, 2) := by decide +kernel
theorem dX7_split_68 : decode cX7_split 68 = .ok (.invokespecial 134, 3) := by decide +kernel
theorem dX7_split_71 : decode cX7_split 71 = .ok (.athrow, 1) := by decide +kernel
theorem dX7_split_72 : decode cX7_split 72 = .ok (.aload 6, 2) := by decide +kernel
theorem dX7_split_74 : decode cX7_split 74 = .ok (.invokevirtual 111, 3) := by decide +kernel
theorem dX7_split_77 : decode cX7_split 77 = .ok (.iconst 0, 1) := by decide +kernel
theorem dX7_split_78 : decode cX7_split 78 = .ok (.istore 7, 2) := by decide +kernel
theorem dX7_split_80 : decode cX7_split 80 = .ok (.iload 7, 2) := by decide +kernel
theorem dX7_split_82 : decode cX7_split 82 = .ok (.sipush 256, 3) := by decide +kernel
theorem dX7_split_85 : decode cX7_split 85 = .ok (.if_icmp .ge 58, 3) := by decide +kernel
theorem dX7_split_88 : decode cX7_split 88 = .ok (.iload 4, 2) := by decide +kernel
theorem dX7_split_90 : decode cX7_split 90 = .ok (.bipush 120, 2) := by decide +kernel
theorem dX7_split_92 : decode cX7_split 92 = .ok (.if_icmp .ne 11, 3) := by decide +kernel
theorem dX7_split_95 : decode cX7_split 95 = .ok (.iload 7, 2) := by decide +kernel
theorem dX7_split_97 : decode cX7_split 97 = .ok (.bipush 16, 2) := by decide +kernel
theorem dX7_split_99 : decode cX7_split 99 = .ok (.irem, 1) := by decide +kernel
theorem dX7_split_100 : decode cX7_split 100 = .ok (.goto 8, 3) := by decide +kernel
theorem dX7_split_103 : decode cX7_split 103 = .ok (.iload 7, 2) := by decide +kernel
theorem dX7_split_105 : decode cX7_split 105 = .ok (.bipush 16, 2) := by decide +kernel
theorem dX7_split_107 : decode cX7_split 107 = .ok (.idiv, 1) := by decide +kernel
theorem dX7_split_108 : decode cX7_split 108 = .ok (.istore 8, 2) := by decide +kernel
theorem dX7_split_110 : decode cX7_split 110 = .ok (.iload 8, 2) := by decide +kernel
theorem dX7_split_112 : decode cX7_split 112 = .ok (.iload 5, 2) := by decide +kernel
theorem dX7_split_114 : decode cX7_split 114 = .ok (.if_icmp .lt 23, 3) := by decide +kernel
theorem dX7_split_117 : decode cX7_split 117 = .ok (.aload 6, 2) := by decide +kernel
theorem dX7_split_119 : decode cX7_split 119 = .ok (.getfield 135, 3) := by decide +kernel
theorem dX7_split_122 : decode cX7_split 122 = .ok (.iload 7, 2) := by decide +kernel
theorem dX7_split_124 : decode cX7_split 124 = .ok (.iaload, 1) := by decide +kernel
theorem dX7_split_125 : decode cX7_split 125 = .ok (.iload_n 2, 1) := by decide +kernel
theorem dX7_split_126 : decode cX7_split 126 = .ok (.if_icmp .ne 11, 3) := by decide +kernel
theorem dX7_split_129 : decode cX7_split 129 = .ok (.aload 6, 2) := by decide +kernel
theorem dX7_split_131 : decode cX7_split 131 = .ok (.iload 7, 2) := by decide +kernel
theorem dX7_split_133 : decode cX7_split 133 = .ok (.iload_n 3, 1) := by decide +kernel
theorem dX7_split_134 : decode cX7_split 134 = .ok (.invokevirtual 114, 3) := by decide +kernel
theorem dX7_split_137 : decode cX7_split 137 = .ok (.iinc 7 1, 3) := by decide +kernel
theorem dX7_split_140 : decode cX7_split 140 = .ok (.goto (-60), 3) := by decide +kernel
theorem dX7_split_143 : decode cX7_split 143 = .ok (.aload 6, 2) := by decide +kernel
theorem dX7_split_145 : decode cX7_split 145 = .ok (.iload_n 3, 1) := by decide +kernel
theorem dX7_split_146 : decode cX7_split 146 = .ok (.invokevirtual 118, 3) := by decide +kernel
theorem dX7_split_149 : decode cX7_split 149 = .ok (.ireturn, 1) := by decide +kernel
theorem dX7_merge_0 : decode cX7_merge 0 = .ok (.aload_n 0, 1) := by decide +kernel
theorem dX7_merge_1 : decode cX7_merge 1 = .ok (.iload_n 1, 1) := by decide +kernel
theorem dX7_merge_2 : decode cX7_merge 2 = .ok (.invokevirtual 93, 3) := by decide +kernel
theorem dX7_merge_5 : decode cX7_merge 5 = .ok (.astore 4, 2) := by decide +kernel
theorem dX7_merge_7 : decode cX7_merge 7 = .ok (.iload_n 2, 1) := by decide +kernel
theorem dX7_merge_8 : decode cX7_merge 8 = .ok (.iload_n 3, 1) := by decide +kernel
theorem dX7_merge_9 : decode cX7_merge 9 = .ok (.invokestatic 122, 3) := by decide +kernel
theorem dX7_merge_12 : decode cX7_merge 12 = .ok (.aload_n 0, 1) := by decide +kernel
theorem dX7_merge_13 : decode cX7_merge 13 = .ok (.invokevirtual 108, 3) := by decide +kernel
theorem dX7_merge_16 : decode cX7_merge 16 = .ok (.aload 4, 2) := by decide +kernel
theorem dX7_merge_18 : decode cX7_merge 18 = .ok (.invokevirtual 111, 3) := by decide +kernel
theorem dX7_merge_21 : decode cX7_merge 21 = .ok (.iconst 0, 1) := by decide +kernel
theorem dX7_merge_22 : decode cX7_merge 22 = .ok (.istore 5, 2) := by decide +kernel
theorem dX7_merge_24 : decode cX7_merge 24 = .ok (.iload 5, 2) := by decide +kernel
theorem dX7_merge_26 : decode cX7_merge 26 = .ok (.sipush 256, 3) := by decide +kernel
theorem dX7_merge_29 : decode cX7_merge 29 = .ok (.if_icmp .ge 29, 3) := by decide +kernel
theorem dX7_merge_32 : decode cX7_merge 32 = .ok (.aload 4, 2) := by decide +kernel
theorem dX7_merge_34 : decode cX7_merge 34 = .ok (.getfield 135, 3) := by decide +kernel
theorem dX7_merge_37 : decode cX7_merge 37 = .ok (.iload 5, 2) := by decide +kernel
theorem dX7_merge_39 : decode cX7_merge 39 = .ok (.iaload, 1) := by decide +kernel
theorem dX7_merge_40 : decode cX7_merge 40 = .ok (.iload_n 2, 1) := by decide +kernel
theorem dX7_merge_41 : decode cX7_merge 41 = .ok (.if_icmp .ne 11, 3) := by decide +kernel
theorem dX7_merge_44 : decode cX7_merge 44 = .ok (.aload 4, 2) := by decide +kernel
theorem dX7_merge_46 : decode cX7_merge 46 = .ok (.iload 5, 2) := by decide +kernel
theorem dX7_merge_48 : decode cX7_merge 48 = .ok (.iload_n 3, 1) := by decide +kernel
theorem dX7_merge_49 : decode cX7_merge 49 = .ok (.invokevirtual 114, 3) := by decide +kernel
theorem dX7_merge_52 : decode cX7_merge 52 = .ok (.iinc 5 1, 3) := by decide +kernel
theorem dX7_merge_55 : decode cX7_merge 55 = .ok (.goto (-31), 3) := by decide +kernel
theorem dX7_merge_58 : decode cX7_merge 58 = .ok (.aload 4, 2) := by decide +kernel
theorem dX7_merge_60 : decode cX7_merge 60 = .ok (.iload_n 3, 1) := by decide +kernel
theorem dX7_merge_61 : decode cX7_merge 61 = .ok (.invokevirtual 118, 3) := by decide +kernel
theorem dX7_merge_64 : decode cX7_merge 64 = .ok (.ireturn, 1) := by decide +kernel
theorem dX7_setValue_0 : decode cX7_setValue 0 = .ok (.aload_n 0, 1) := by decide +kernel
theorem dX7_setValue_1 : decode cX7_setValue 1 = .ok (.iload_n 1, 1) := by decide +kernel
theorem dX7_setValue_2 : decode cX7_setValue 2 = .ok (.invokevirtual 93, 3) := by decide +kernel
theorem dX7_setValue_5 : decode cX7_setValue 5 = .ok (.astore 4, 2) := by decide +kernel
theorem dX7_setValue_7 : decode cX7_setValue 7 = .ok (.iload_n 2, 1) := by decide +kernel
theorem dX7_setValue_8 : decode cX7_setValue 8 = .ok (.invokestatic 138, 3) := by decide +kernel
theorem dX7_setValue_11 : decode cX7_setValue 11 = .ok (.iload_n 3, 1) := by decide +kernel
theorem dX7_setValue_12 : decode cX7_setValue 12 = .ok (.ifCond .lt 10, 3) := by decide +kernel
theorem dX7_setValue_15 : decode cX7_setValue 15 = .ok (.iload_n 3, 1) := by decide +kernel
theorem dX7_setValue_16 : decode cX7_setValue 16 = .ok (.sipush 9999, 3) := by decide +kernel
theorem dX7_setValue_19 : decode cX7_setValue 19 = .ok (.if_icmp .le 13, 3) := by decide +kernel
theorem dX7_setValue_22 : decode cX7_setValue 22 = .ok (.new 60, 3) := by decide +kernel
theorem dX7_setValue_25 : decode cX7_setValue 25 = .ok (.dup, 1) := by decide +kernel
theorem dX7_setValue_26 : decode cX7_setValue 26 = .ok (.ldc 141, 2) := by decide +kernel
theorem dX7_setValue_28 : decode cX7_setValue 28 = .ok (.invokespecial 64, 3) := by decide +kernel
theorem dX7_setValue_31 : decode cX7_setValue 31 = .ok (.athrow, 1) := by decide +kernel
theorem dX7_setValue_32 : decode cX7_setValue 32 = .ok (.aload_n 0, 1) := by decide +kernel
theorem dX7_setValue_33 : decode cX7_setValue 33 = .ok (.invokevirtual 108, 3) := by decide +kernel
theorem dX7_setValue_36 : decode cX7_setValue 36 = .ok (.aload 4, 2) := by decide +kernel
theorem dX7_setValue_38 : decode cX7_setValue 38 = .ok (.getfield 127, 3) := by decide +kernel
theorem dX7_setValue_41 : decode cX7_setValue 41 = .ok (.iload_n 2, 1) := by decide +kernel
theorem dX7_setValue_42 : decode cX7_setValue 42 = .ok (.iaload, 1) := by decide +kernel
theorem dX7_setValue_43 : decode cX7_setValue 43 = .ok (.ifCond .ne 13, 3) := by decide +kernel
theorem dX7_setValue_46 : decode cX7_setValue 46 = .ok (.new 130, 3) := by decide +kernel
theorem dX7_setValue_49 : decode cX7_setValue 49 = .ok (.dup, 1) := by decide +kernel
theorem dX7_setValue_50 : decode cX7_setValue 50 = .ok (.ldc 143, 2) := by decide +kernel
theorem dX7_setValue_52 : decode cX7_setValue 52 = .ok (.invokespecial 134, 3) := by decide +kernel
theorem dX7_setValue_55 : decode cX7_setValue 55 = .ok (.athrow, 1) := by decide +kernel
theorem dX7_setValue_56 : decode cX7_setValue 56 = .ok (.aload 4, 2) := by decide +kernel
theorem dX7_setValue_58 : decode cX7_setValue 58 = .ok (.getfield 145, 3) := by decide +kernel
theorem dX7_setValue_61 : decode cX7_setValue 61 = .ok (.iload_n 2, 1) := by decide +kernel
theorem dX7_setValue_62 : decode cX7_setValue 62 = .ok (.iaload, 1) := by decide +kernel
theorem dX7_setValue_63 : decode cX7_setValue 63 = .ok (.istore 5, 2) := by decide +kernel
theorem dX7_setValue_65 : decode cX7_setValue 65 = .ok (.aload 4, 2) := by decide +kernel
theorem dX7_setValue_67 : decode cX7_setValue 67 = .ok (.getfield 145, 3) := by decide +kernel
theorem dX7_setValue_70 : decode cX7_setValue 70 = .ok (.iload_n 2, 1) := by decide +kernel
theorem dX7_setValue_71 : decode cX7_setValue 71 = .ok (.iload_n 3, 1) := by decide +kernel
theorem dX7_setValue_72 : decode cX7_setValue 72 = .ok (.iastore, 1) := by decide +kernel
theorem dX7_setValue_73 : decode cX7_setValue 73 = .ok (.iload 5, 2) := by decide +kernel
theorem dX7_setValue_75 : decode cX7_setValue 75 = .ok (.ireturn, 1) := by decide +kernel
theorem dX7_setDivides_0 : decode cX7_setDivides 0 = .ok (.aload_n 0, 1) := by decide +kernel
theorem dX7_setDivides_1 : decode cX7_setDivides 1 = .ok (.iload_n 1, 1) := by decide +kernel
theorem dX7_setDivides_2 : decode cX7_setDivides 2 = .ok (.invokevirtual 93, 3) := by decide +kernel
theorem dX7_setDivides_5 : decode cX7_setDivides 5 = .ok (.astore_n 3, 1) := by decide +kernel
theorem dX7_setDivides_6 : decode cX7_setDivides 6 = .ok (.aload_n 3, 1) := by decide +kernel
theorem dX7_setDivides_7 : decode cX7_setDivides 7 = .ok (.getfield 148, 3) := by decide +kernel
theorem dX7_setDivides_10 : decode cX7_setDivides 10 = .ok (.istore 4, 2) := by decide +kernel
theorem dX7_setDivides_12 : decode cX7_setDivides 12 = .ok (.aload_n 3, 1) := by decide +kernel
theorem dX7_setDivides_13 : decode cX7_setDivides 13 = .ok (.iload_n 2, 1) := by decide +kernel
theorem dX7_setDivides_14 : decode cX7_setDivides 14 = .ok (.putfield 148, 3) := by decide +kernel
theorem dX7_setDivides_17 : decode cX7_setDivides 17 = .ok (.iload 4, 2) := by decide +kernel
theorem dX7_setDivides_19 : decode cX7_setDivides 19 = .ok (.ireturn, 1) := by decide +kernel
theorem dX7_sign_0 : decode cX7_sign 0 = .ok (.aload_n 0, 1) := by decide +kernel
theorem dX7_sign_1 : decode cX7_sign 1 = .ok (.iload_n 1, 1) := by decide +kernel
theorem dX7_sign_2 : decode cX7_sign 2 = .ok (.invokevirtual 86, 3) := by decide +kernel
theorem dX7_sign_5 : decode cX7_sign 5 = .ok (.astore_n 2, 1) := by decide +kernel
theorem dX7_sign_6 : decode cX7_sign 6 = .ok (.aload_n 0, 1) := by decide +kernel
theorem dX7_sign_7 : decode cX7_sign 7 = .ok (.invokevirtual 108, 3) := by decide +kernel
theorem dX7_sign_10 : decode cX7_sign 10 = .ok (.aload_n 2, 1) := by decide +kernel
theorem dX7_sign_11 : decode cX7_sign 11 = .ok (.iconst 1, 1) := by decide +kernel
theorem dX7_sign_12 : decode cX7_sign 12 = .ok (.putfield 90, 3) := by decide +kernel
theorem dX7_sign_15 : decode cX7_sign 15 = .ok (.iconst 0, 1) := by decide +kernel
theorem dX7_sign_16 : decode cX7_sign 16 = .ok (.istore_n 3, 1) := by decide +kernel
theorem dX7_sign_17 : decode cX7_sign 17 = .ok (.iconst 0, 1) := by decide +kernel
theorem dX7_sign_18 : decode cX7_sign 18 = .ok (.istore 4, 2) := by decide +kernel
theorem dX7_sign_20 : decode cX7_sign 20 = .ok (.iload 4, 2) := by decide +kernel
theorem dX7_sign_22 : decode cX7_sign 22 = .ok (.aload_n 0, 1) := by decide +kernel
theorem dX7_sign_23 : decode cX7_sign 23 = .ok (.getfield 83, 3) := by decide +kernel
theorem dX7_sign_26 : decode cX7_sign 26 = .ok (.if_icmp .ge 24, 3) := by decide +kernel
theorem dX7_sign_29 : decode cX7_sign 29 = .ok (.aload_n 0, 1) := by decide +kernel
theorem dX7_sign_30 : decode cX7_sign 30 = .ok (.iload 4, 2) := by decide +kernel
theorem dX7_sign_32 : decode cX7_sign 32 = .ok (.invokevirtual 86, 3) := by decide +kernel
theorem dX7_sign_35 : decode cX7_sign 35 = .ok (.getfield 90, 3) := by decide +kernel
theorem dX7_sign_38 : decode cX7_sign 38 = .ok (.ifCond .eq 6, 3) := by decide +kernel
theorem dX7_sign_41 : decode cX7_sign 41 = .ok (.iinc 3 1, 3) := by decide +kernel
theorem dX7_sign_44 : decode cX7_sign 44 = .ok (.iinc 4 1, 3) := by decide +kernel
theorem dX7_sign_47 : decode cX7_sign 47 = .ok (.goto (-27), 3) := by decide +kernel
theorem dX7_sign_50 : decode cX7_sign 50 = .ok (.iload_n 3, 1) := by decide +kernel
theorem dX7_sign_51 : decode cX7_sign 51 = .ok (.ireturn, 1) := by decide +kernel
theorem dX7_keep_0 : decode cX7_keep 0 = .ok (.aload_n 0, 1) := by decide +kernel
theorem dX7_keep_1 : decode cX7_keep 1 = .ok (.invokevirtual 108, 3) := by decide +kernel
theorem dX7_keep_4 : decode cX7_keep 4 = .ok (.iconst 0, 1) := by decide +kernel
theorem dX7_keep_5 : decode cX7_keep 5 = .ok (.istore_n 1, 1) := by decide +kernel
theorem dX7_keep_6 : decode cX7_keep 6 = .ok (.iload_n 1, 1) := by decide +kernel
theorem dX7_keep_7 : decode cX7_keep 7 = .ok (.aload_n 0, 1) := by decide +kernel
theorem dX7_keep_8 : decode cX7_keep 8 = .ok (.getfield 83, 3) := by decide +kernel
theorem dX7_keep_11 : decode cX7_keep 11 = .ok (.if_icmp .ge 39, 3) := by decide +kernel
theorem dX7_keep_14 : decode cX7_keep 14 = .ok (.aload_n 0, 1) := by decide +kernel
theorem dX7_keep_15 : decode cX7_keep 15 = .ok (.iload_n 1, 1) := by decide +kernel
theorem dX7_keep_16 : decode cX7_keep 16 = .ok (.invokevirtual 86, 3) := by decide +kernel
theorem dX7_keep_19 : decode cX7_keep 19 = .ok (.astore_n 2, 1) := by decide +kernel
theorem dX7_keep_20 : decode cX7_keep 20 = .ok (.aload_n 2, 1) := by decide +kernel
theorem dX7_keep_21 : decode cX7_keep 21 = .ok (.getfield 90, 3) := by decide +kernel
theorem dX7_keep_24 : decode cX7_keep 24 = .ok (.ifCond .ne 20, 3) := by decide +kernel
theorem dX7_keep_27 : decode cX7_keep 27 = .ok (.aload_n 2, 1) := by decide +kernel
theorem dX7_keep_28 : decode cX7_keep 28 = .ok (.invokevirtual 151, 3) := by decide +kernel
theorem dX7_keep_31 : decode cX7_keep 31 = .ok (.ifCond .le 13, 3) := by decide +kernel
theorem dX7_keep_34 : decode cX7_keep 34 = .ok (.new 130, 3) := by decide +kernel
theorem dX7_keep_37 : decode cX7_keep 37 = .ok (.dup, 1) := by decide +kernel
theorem dX7_keep_38 : decode cX7_keep 38 = .ok (.ldc 155, 2) := by decide +kernel
theorem dX7_keep_40 : decode cX7_keep 40 = .ok (.invokespecial 134, 3) := by decide +kernel
theorem dX7_keep_43 : decode cX7_keep 43 = .ok (.athrow, 1) := by decide +kernel
theorem dX7_keep_44 : decode cX7_keep 44 = .ok (.iinc 1 1, 3) := by decide +kernel
theorem dX7_keep_47 : decode cX7_keep 47 = .ok (.goto (-41), 3) := by decide +kernel
theorem dX7_keep_50 : decode cX7_keep 50 = .ok (.aload_n 0, 1) := by decide +kernel
theorem dX7_keep_51 : decode cX7_keep 51 = .ok (.getfield 71, 3) := by decide +kernel
theorem dX7_keep_54 : decode cX7_keep 54 = .ok (.bipush 40, 2) := by decide +kernel
theorem dX7_keep_56 : decode cX7_keep 56 = .ok (.if_icmp .ge 51, 3) := by decide +kernel
theorem dX7_keep_59 : decode cX7_keep 59 = .ok (.aload_n 0, 1) := by decide +kernel
theorem dX7_keep_60 : decode cX7_keep 60 = .ok (.dup, 1) := by decide +kernel
theorem dX7_keep_61 : decode cX7_keep 61 = .ok (.getfield 71, 3) := by decide +kernel
theorem dX7_keep_64 : decode cX7_keep 64 = .ok (.iconst 1, 1) := by decide +kernel
theorem dX7_keep_65 : decode cX7_keep 65 = .ok (.iadd, 1) := by decide +kernel
theorem dX7_keep_66 : decode cX7_keep 66 = .ok (.putfield 71, 3) := by decide +kernel
theorem dX7_keep_69 : decode cX7_keep 69 = .ok (.aload_n 0, 1) := by decide +kernel
theorem dX7_keep_70 : decode cX7_keep 70 = .ok (.getfield 27, 3) := by decide +kernel
theorem dX7_keep_73 : decode cX7_keep 73 = .ok (.aload_n 0, 1) := by decide +kernel
theorem dX7_keep_74 : decode cX7_keep 74 = .ok (.getfield 71, 3) := by decide +kernel
theorem dX7_keep_77 : decode cX7_keep 77 = .ok (.aload_n 0, 1) := by decide +kernel
theorem dX7_keep_78 : decode cX7_keep 78 = .ok (.getfield 80, 3) := by decide +kernel
theorem dX7_keep_81 : decode cX7_keep 81 = .ok (.iastore, 1) := by decide +kernel
theorem dX7_keep_82 : decode cX7_keep 82 = .ok (.iconst 0, 1) := by decide +kernel
theorem dX7_keep_83 : decode cX7_keep 83 = .ok (.istore_n 1, 1) := by decide +kernel
theorem dX7_keep_84 : decode cX7_keep 84 = .ok (.iload_n 1, 1) := by decide +kernel
theorem dX7_keep_85 : decode cX7_keep 85 = .ok (.iconst 3, 1) := by decide +kernel
theorem dX7_keep_86 : decode cX7_keep 86 = .ok (.if_icmp .ge 21, 3) := by decide +kernel
theorem dX7_keep_89 : decode cX7_keep 89 = .ok (.aload_n 0, 1) := by decide +kernel
theorem dX7_keep_90 : decode cX7_keep 90 = .ok (.iload_n 1, 1) := by decide +kernel
theorem dX7_keep_91 : decode cX7_keep 91 = .ok (.invokevirtual 93, 3) := by decide +kernel
theorem dX7_keep_94 : decode cX7_keep 94 = .ok (.aload_n 0, 1) := by decide +kernel
theorem dX7_keep_95 : decode cX7_keep 95 = .ok (.getfield 71, 3) := by decide +kernel
theorem dX7_keep_98 : decode cX7_keep 98 = .ok (.invokevirtual 157, 3) := by decide +kernel
theorem dX7_keep_101 : decode cX7_keep 101 = .ok (.iinc 1 1, 3) := by decide +kernel
theorem dX7_keep_104 : decode cX7_keep 104 = .ok (.goto (-20), 3) := by decide +kernel
theorem dX7_keep_107 : decode cX7_keep 107 = .ok (.aload_n 0, 1) := by decide +kernel
theorem dX7_keep_108 : decode cX7_keep 108 = .ok (.iconst 0, 1) := by decide +kernel
theorem dX7_keep_109 : decode cX7_keep 109 = .ok (.putfield 67, 3) := by decide +kernel
theorem dX7_keep_112 : decode cX7_keep 112 = .ok (.aload_n 0, 1) := by decide +kernel
theorem dX7_keep_113 : decode cX7_keep 113 = .ok (.getfield 71, 3) := by decide +kernel
theorem dX7_keep_116 : decode cX7_keep 116 = .ok (.ireturn, 1) := by decide +kernel
theorem dX7_drop_0 : decode cX7_drop 0 = .ok (.aload_n 0, 1) := by decide +kernel
theorem dX7_drop_1 : decode cX7_drop 1 = .ok (.invokevirtual 108, 3) := by decide +kernel
theorem dX7_drop_4 : decode cX7_drop 4 = .ok (.iconst 0, 1) := by decide +kernel
theorem dX7_drop_5 : decode cX7_drop 5 = .ok (.istore_n 1, 1) := by decide +kernel
theorem dX7_drop_6 : decode cX7_drop 6 = .ok (.iconst 0, 1) := by decide +kernel
theorem dX7_drop_7 : decode cX7_drop 7 = .ok (.istore_n 2, 1) := by decide +kernel
theorem dX7_drop_8 : decode cX7_drop 8 = .ok (.iload_n 2, 1) := by decide +kernel
theorem dX7_drop_9 : decode cX7_drop 9 = .ok (.iconst 3, 1) := by decide +kernel
theorem dX7_drop_10 : decode cX7_drop 10 = .ok (.if_icmp .ge 24, 3) := by decide +kernel
theorem dX7_drop_13 : decode cX7_drop 13 = .ok (.iload_n 1, 1) := by decide +kernel
theorem dX7_drop_14 : decode cX7_drop 14 = .ok (.aload_n 0, 1) := by decide +kernel
theorem dX7_drop_15 : decode cX7_drop 15 = .ok (.iload_n 2, 1) := by decide +kernel
theorem dX7_drop_16 : decode cX7_drop 16 = .ok (.invokevirtual 93, 3) := by decide +kernel
theorem dX7_drop_19 : decode cX7_drop 19 = .ok (.aload_n 0, 1) := by decide +kernel
theorem dX7_drop_20 : decode cX7_drop 20 = .ok (.getfield 71, 3) := by decide +kernel
theorem dX7_drop_23 : decode cX7_drop 23 = .ok (.invokevirtual 160, 3) := by decide +kernel
theorem dX7_drop_26 : decode cX7_drop 26 = .ok (.iadd, 1) := by decide +kernel
theorem dX7_drop_27 : decode cX7_drop 27 = .ok (.istore_n 1, 1) := by decide +kernel
theorem dX7_drop_28 : decode cX7_drop 28 = .ok (.iinc 2 1, 3) := by decide +kernel
theorem dX7_drop_31 : decode cX7_drop 31 = .ok (.goto (-23), 3) := by decide +kernel
theorem dX7_drop_34 : decode cX7_drop 34 = .ok (.aload_n 0, 1) := by decide +kernel
theorem dX7_drop_35 : decode cX7_drop 35 = .ok (.iconst 0, 1) := by decide +kernel
theorem dX7_drop_36 : decode cX7_drop 36 = .ok (.putfield 67, 3) := by decide +kernel
theorem dX7_drop_39 : decode cX7_drop 39 = .ok (.iload_n 1, 1) := by decide +kernel
theorem dX7_drop_40 : decode cX7_drop 40 = .ok (.ireturn, 1) := by decide +kernel
theorem dX7_addRule_0 : decode cX7_addRule 0 = .ok (.iload_n 1, 1) := by decide +kernel
theorem dX7_addRule_1 : decode cX7_addRule 1 = .ok (.bipush 105, 2) := by decide +kernel
theorem dX7_addRule_3 : decode cX7_addRule 3 = .ok (.if_icmp .eq 25, 3) := by decide +kernel
theorem dX7_addRule_6 : decode cX7_addRule 6 = .ok (.iload_n 1, 1) := by decide +kernel
theorem dX7_addRule_7 : decode cX7_addRule 7 = .ok (.bipush 110, 2) := by decide +kernel
theorem dX7_addRule_9 : decode cX7_addRule 9 = .ok (.if_icmp .eq 19, 3) := by decide +kernel
theorem dX7_addRule_12 : decode cX7_addRule 12 = .ok (.iload_n 1, 1) := by decide +kernel
theorem dX7_addRule_13 : decode cX7_addRule 13 = .ok (.bipush 97, 2) := by decide +kernel
theorem dX7_addRule_15 : decode cX7_addRule 15 = .ok (.if_icmp .eq 13, 3) := by decide +kernel
theorem dX7_addRule_18 : decode cX7_addRule 18 = .ok (.new 60, 3) := by decide +kernel
theorem dX7_addRule_21 : decode cX7_addRule 21 = .ok (.dup, 1) := by decide +kernel
theorem dX7_addRule_22 : decode cX7_addRule 22 = .ok (.ldc 163, 2) := by decide +kernel
theorem dX7_addRule_24 : decode cX7_addRule 24 = .ok (.invokespecial 64, 3) := by decide +kernel
theorem dX7_addRule_27 : decode cX7_addRule 27 = .ok (.athrow, 1) := by decide +kernel
theorem dX7_addRule_28 : decode cX7_addRule 28 = .ok (.aload_n 0, 1) := by decide +kernel
theorem dX7_addRule_29 : decode cX7_addRule 29 = .ok (.iload_n 2, 1) := by decide +kernel
theorem dX7_addRule_30 : decode cX7_addRule 30 = .ok (.iload_n 3, 1) := by decide +kernel
theorem dX7_addRule_31 : decode cX7_addRule 31 = .ok (.invokevirtual 165, 3) := by decide +kernel
theorem dX7_addRule_34 : decode cX7_addRule 34 = .ok (.aload_n 0, 1) := by decide +kernel
theorem dX7_addRule_35 : decode cX7_addRule 35 = .ok (.getfield 67, 3) := by decide +kernel
theorem dX7_addRule_38 : decode cX7_addRule 38 = .ok (.ifCond .ne 12, 3) := by decide +kernel
theorem dX7_addRule_41 : decode cX7_addRule 41 = .ok (.aload_n 0, 1) := by decide +kernel
theorem dX7_addRule_42 : decode cX7_addRule 42 = .ok (.getfield 83, 3) := by decide +kernel
theorem dX7_addRule_45 : decode cX7_addRule 45 = .ok (.bipush 6, 2) := by decide +kernel
theorem dX7_addRule_47 : decode cX7_addRule 47 = .ok (.if_icmp .lt 13, 3) := by decide +kernel
theorem dX7_addRule_50 : decode cX7_addRule 50 = .ok (.new 75, 3) := by decide +kernel
theorem dX7_addRule_53 : decode cX7_addRule 53 = .ok (.dup, 1) := by decide +kernel
theorem dX7_addRule_54 : decode cX7_addRule 54 = .ok (.ldc 168, 2) := by decide +kernel
theorem dX7_addRule_56 : decode cX7_addRule 56 = .ok (.invokespecial 79, 3) := by decide +kernel
theorem dX7_addRule_59 : decode cX7_addRule 59 = .ok (.athrow, 1) := by decide +kernel
theorem dX7_addRule_60 : decode cX7_addRule 60 = .ok (.aload_n 0, 1) := by decide +kernel
theorem dX7_addRule_61 : decode cX7_addRule 61 = .ok (.getfield 17, 3) := by decide +kernel
theorem dX7_addRule_64 : decode cX7_addRule 64 = .ok (.aload_n 0, 1) := by decide +kernel
theorem dX7_addRule_65 : decode cX7_addRule 65 = .ok (.getfield 83, 3) := by decide +kernel
theorem dX7_addRule_68 : decode cX7_addRule 68 = .ok (.new 15, 3) := by decide +kernel
theorem dX7_addRule_71 : decode cX7_addRule 71 = .ok (.dup, 1) := by decide +kernel
theorem dX7_addRule_72 : decode cX7_addRule 72 = .ok (.iload_n 1, 1) := by decide +kernel
theorem dX7_addRule_73 : decode cX7_addRule 73 = .ok (.aload_n 0, 1) := by decide +kernel
theorem dX7_addRule_74 : decode cX7_addRule 74 = .ok (.iload_n 2, 1) := by decide +kernel
theorem dX7_addRule_75 : decode cX7_addRule 75 = .ok (.invokevirtual 93, 3) := by decide +kernel
theorem dX7_addRule_78 : decode cX7_addRule 78 = .ok (.aload_n 0, 1) := by decide +kernel
theorem dX7_addRule_79 : decode cX7_addRule 79 = .ok (.iload_n 3, 1) := by decide +kernel
theorem dX7_addRule_80 : decode cX7_addRule 80 = .ok (.invokevirtual 93, 3) := by decide +kernel
theorem dX7_addRule_83 : decode cX7_addRule 83 = .ok (.invokespecial 170, 3) := by decide +kernel
theorem dX7_addRule_86 : decode cX7_addRule 86 = .ok (.aastore, 1) := by decide +kernel
theorem dX7_addRule_87 : decode cX7_addRule 87 = .ok (.aload_n 0, 1) := by decide +kernel
theorem dX7_addRule_88 : decode cX7_addRule 88 = .ok (.dup, 1) := by decide +kernel
theorem dX7_addRule_89 : decode cX7_addRule 89 = .ok (.getfield 83, 3) := by decide +kernel
theorem dX7_addRule_92 : decode cX7_addRule 92 = .ok (.iconst 1, 1) := by decide +kernel
theorem dX7_addRule_93 : decode cX7_addRule 93 = .ok (.iadd, 1) := by decide +kernel
theorem dX7_addRule_94 : decode cX7_addRule 94 = .ok (.putfield 83, 3) := by decide +kernel
theorem dX7_addRule_97 : decode cX7_addRule 97 = .ok (.aload_n 0, 1) := by decide +kernel
theorem dX7_addRule_98 : decode cX7_addRule 98 = .ok (.getfield 83, 3) := by decide +kernel
theorem dX7_addRule_101 : decode cX7_addRule 101 = .ok (.iconst 1, 1) := by decide +kernel
theorem dX7_addRule_102 : decode cX7_addRule 102 = .ok (.isub, 1) := by decide +kernel
theorem dX7_addRule_103 : decode cX7_addRule 103 = .ok (.ireturn, 1) := by decide +kernel
theorem dX7_broken_0 : decode cX7_broken 0 = .ok (.aload_n 0, 1) := by decide +kernel
theorem dX7_broken_1 : decode cX7_broken 1 = .ok (.iload_n 1, 1) := by decide +kernel
theorem dX7_broken_2 : decode cX7_broken 2 = .ok (.invokevirtual 86, 3) := by decide +kernel
theorem dX7_broken_5 : decode cX7_broken 5 = .ok (.invokevirtual 151, 3) := by decide +kernel
theorem dX7_broken_8 : decode cX7_broken 8 = .ok (.ireturn, 1) := by decide +kernel
theorem dX7_leastBroken_0 : decode cX7_leastBroken 0 = .ok (.iconst (-1), 1) := by decide +kernel
theorem dX7_leastBroken_1 : decode cX7_leastBroken 1 = .ok (.istore_n 1, 1) := by decide +kernel
theorem dX7_leastBroken_2 : decode cX7_leastBroken 2 = .ok (.iconst 0, 1) := by decide +kernel
theorem dX7_leastBroken_3 : decode cX7_leastBroken 3 = .ok (.istore_n 2, 1) := by decide +kernel
theorem dX7_leastBroken_4 : decode cX7_leastBroken 4 = .ok (.iconst 0, 1) := by decide +kernel
theorem dX7_leastBroken_5 : decode cX7_leastBroken 5 = .ok (.istore_n 3, 1) := by decide +kernel
theorem dX7_leastBroken_6 : decode cX7_leastBroken 6 = .ok (.iload_n 3, 1) := by decide +kernel
theorem dX7_leastBroken_7 : decode cX7_leastBroken 7 = .ok (.aload_n 0, 1) := by decide +kernel
theorem dX7_leastBroken_8 : decode cX7_leastBroken 8 = .ok (.getfield 83, 3) := by decide +kernel
theorem dX7_leastBroken_11 : decode cX7_leastBroken 11 = .ok (.if_icmp .ge 40, 3) := by decide +kernel
theorem dX7_leastBroken_14 : decode cX7_leastBroken 14 = .ok (.aload_n 0, 1) := by decide +kernel
theorem dX7_leastBroken_15 : decode cX7_leastBroken 15 = .ok (.iload_n 3, 1) := by decide +kernel
theorem dX7_leastBroken_16 : decode cX7_leastBroken 16 = .ok (.invokevirtual 86, 3) := by decide +kernel
theorem dX7_leastBroken_19 : decode cX7_leastBroken 19 = .ok (.invokevirtual 151, 3) := by decide +kernel
theorem dX7_leastBroken_22 : decode cX7_leastBroken 22 = .ok (.istore 4, 2) := by decide +kernel
theorem dX7_leastBroken_24 : decode cX7_leastBroken 24 = .ok (.iload 4, 2) := by decide +kernel
theorem dX7_leastBroken_26 : decode cX7_leastBroken 26 = .ok (.ifCond .le 19, 3) := by decide +kernel
theorem dX7_leastBroken_29 : decode cX7_leastBroken 29 = .ok (.iload_n 1, 1) := by decide +kernel
theorem dX7_leastBroken_30 : decode cX7_leastBroken 30 = .ok (.iconst (-1), 1) := by decide +kernel
theorem dX7_leastBroken_31 : decode cX7_leastBroken 31 = .ok (.if_icmp .eq 9, 3) := by decide +kernel
theorem dX7_leastBroken_34 : decode cX7_leastBroken 34 = .ok (.iload 4, 2) := by decide +kernel
theorem dX7_leastBroken_36 : decode cX7_leastBroken 36 = .ok (.iload_n 2, 1) := by decide +kernel
theorem dX7_leastBroken_37 : decode cX7_leastBroken 37 = .ok (.if_icmp .ge 8, 3) := by decide +kernel
theorem dX7_leastBroken_40 : decode cX7_leastBroken 40 = .ok (.iload_n 3, 1) := by decide +kernel
theorem dX7_leastBroken_41 : decode cX7_leastBroken 41 = .ok (.istore_n 1, 1) := by decide +kernel
theorem dX7_leastBroken_42 : decode cX7_leastBroken 42 = .ok (.iload 4, 2) := by decide +kernel
theorem dX7_leastBroken_44 : decode cX7_leastBroken 44 = .ok (.istore_n 2, 1) := by decide +kernel
theorem dX7_leastBroken_45 : decode cX7_leastBroken 45 = .ok (.iinc 3 1, 3) := by decide +kernel
theorem dX7_leastBroken_48 : decode cX7_leastBroken 48 = .ok (.goto (-42), 3) := by decide +kernel
theorem dX7_leastBroken_51 : decode cX7_leastBroken 51 = .ok (.iload_n 1, 1) := by decide +kernel
theorem dX7_leastBroken_52 : decode cX7_leastBroken 52 = .ok (.iconst (-1), 1) := by decide +kernel
theorem dX7_leastBroken_53 : decode cX7_leastBroken 53 = .ok (.if_icmp .ne 13, 3) := by decide +kernel
theorem dX7_leastBroken_56 : decode cX7_leastBroken 56 = .ok (.new 173, 3) := by decide +kernel
theorem dX7_leastBroken_59 : decode cX7_leastBroken 59 = .ok (.dup, 1) := by decide +kernel
theorem dX7_leastBroken_60 : decode cX7_leastBroken 60 = .ok (.ldc 175, 2) := by decide +kernel
theorem dX7_leastBroken_62 : decode cX7_leastBroken 62 = .ok (.invokespecial 177, 3) := by decide +kernel
theorem dX7_leastBroken_65 : decode cX7_leastBroken 65 = .ok (.athrow, 1) := by decide +kernel
theorem dX7_leastBroken_66 : decode cX7_leastBroken 66 = .ok (.iload_n 1, 1) := by decide +kernel
theorem dX7_leastBroken_67 : decode cX7_leastBroken 67 = .ok (.ireturn, 1) := by decide +kernel
theorem dX7_areaAt_0 : decode cX7_areaAt 0 = .ok (.aload_n 0, 1) := by decide +kernel
theorem dX7_areaAt_1 : decode cX7_areaAt 1 = .ok (.iload_n 1, 1) := by decide +kernel
theorem dX7_areaAt_2 : decode cX7_areaAt 2 = .ok (.invokevirtual 93, 3) := by decide +kernel
theorem dX7_areaAt_5 : decode cX7_areaAt 5 = .ok (.astore_n 3, 1) := by decide +kernel
theorem dX7_areaAt_6 : decode cX7_areaAt 6 = .ok (.iload_n 2, 1) := by decide +kernel
theorem dX7_areaAt_7 : decode cX7_areaAt 7 = .ok (.invokestatic 178, 3) := by decide +kernel
theorem dX7_areaAt_10 : decode cX7_areaAt 10 = .ok (.aload_n 3, 1) := by decide +kernel
theorem dX7_areaAt_11 : decode cX7_areaAt 11 = .ok (.getfield 135, 3) := by decide +kernel
theorem dX7_areaAt_14 : decode cX7_areaAt 14 = .ok (.iload_n 2, 1) := by decide +kernel
theorem dX7_areaAt_15 : decode cX7_areaAt 15 = .ok (.iaload, 1) := by decide +kernel
theorem dX7_areaAt_16 : decode cX7_areaAt 16 = .ok (.ireturn, 1) := by decide +kernel
theorem dX7_areaThen_0 : decode cX7_areaThen 0 = .ok (.aload_n 0, 1) := by decide +kernel
theorem dX7_areaThen_1 : decode cX7_areaThen 1 = .ok (.iload_n 1, 1) := by decide +kernel
theorem dX7_areaThen_2 : decode cX7_areaThen 2 = .ok (.invokevirtual 93, 3) := by decide +kernel
theorem dX7_areaThen_5 : decode cX7_areaThen 5 = .ok (.astore 4, 2) := by decide +kernel
theorem dX7_areaThen_7 : decode cX7_areaThen 7 = .ok (.iload_n 2, 1) := by decide +kernel
theorem dX7_areaThen_8 : decode cX7_areaThen 8 = .ok (.invokestatic 178, 3) := by decide +kernel
theorem dX7_areaThen_11 : decode cX7_areaThen 11 = .ok (.aload_n 0, 1) := by decide +kernel
theorem dX7_areaThen_12 : decode cX7_areaThen 12 = .ok (.iload_n 3, 1) := by decide +kernel
theorem dX7_areaThen_13 : decode cX7_areaThen 13 = .ok (.invokevirtual 181, 3) := by decide +kernel
theorem dX7_areaThen_16 : decode cX7_areaThen 16 = .ok (.aload 4, 2) := by decide +kernel
theorem dX7_areaThen_18 : decode cX7_areaThen 18 = .ok (.iload_n 3, 1) := by decide +kernel
theorem dX7_areaThen_19 : decode cX7_areaThen 19 = .ok (.iload_n 2, 1) := by decide +kernel
theorem dX7_areaThen_20 : decode cX7_areaThen 20 = .ok (.invokevirtual 184, 3) := by decide +kernel
theorem dX7_areaThen_23 : decode cX7_areaThen 23 = .ok (.ireturn, 1) := by decide +kernel
theorem dX7_authorOf_0 : decode cX7_authorOf 0 = .ok (.aload_n 0, 1) := by decide +kernel
theorem dX7_authorOf_1 : decode cX7_authorOf 1 = .ok (.iload_n 1, 1) := by decide +kernel
theorem dX7_authorOf_2 : decode cX7_authorOf 2 = .ok (.invokevirtual 93, 3) := by decide +kernel
theorem dX7_authorOf_5 : decode cX7_authorOf 5 = .ok (.astore 4, 2) := by decide +kernel
theorem dX7_authorOf_7 : decode cX7_authorOf 7 = .ok (.iload_n 2, 1) := by decide +kernel
theorem dX7_authorOf_8 : decode cX7_authorOf 8 = .ok (.invokestatic 178, 3) := by decide +kernel
theorem dX7_authorOf_11 : decode cX7_authorOf 11 = .ok (.aload_n 0, 1) := by decide +kernel
theorem dX7_authorOf_12 : decode cX7_authorOf 12 = .ok (.iload_n 3, 1) := by decide +kernel
theorem dX7_authorOf_13 : decode cX7_authorOf 13 = .ok (.invokevirtual 181, 3) := by decide +kernel
theorem dX7_authorOf_16 : decode cX7_authorOf 16 = .ok (.iload_n 3, 1) := by decide +kernel
theorem dX7_authorOf_17 : decode cX7_authorOf 17 = .ok (.istore 5, 2) := by decide +kernel
theorem dX7_authorOf_19 : decode cX7_authorOf 19 = .ok (.iload 5, 2) := by decide +kernel
theorem dX7_authorOf_21 : decode cX7_authorOf 21 = .ok (.ifCond .le 38, 3) := by decide +kernel
theorem dX7_authorOf_24 : decode cX7_authorOf 24 = .ok (.aload 4, 2) := by decide +kernel
theorem dX7_authorOf_26 : decode cX7_authorOf 26 = .ok (.iload 5, 2) := by decide +kernel
theorem dX7_authorOf_28 : decode cX7_authorOf 28 = .ok (.iload_n 2, 1) := by decide +kernel
theorem dX7_authorOf_29 : decode cX7_authorOf 29 = .ok (.invokevirtual 184, 3) := by decide +kernel
theorem dX7_authorOf_32 : decode cX7_authorOf 32 = .ok (.aload 4, 2) := by decide +kernel
theorem dX7_authorOf_34 : decode cX7_authorOf 34 = .ok (.iload 5, 2) := by decide +kernel
theorem dX7_authorOf_36 : decode cX7_authorOf 36 = .ok (.iconst 1, 1) := by decide +kernel
theorem dX7_authorOf_37 : decode cX7_authorOf 37 = .ok (.isub, 1) := by decide +kernel
theorem dX7_authorOf_38 : decode cX7_authorOf 38 = .ok (.iload_n 2, 1) := by decide +kernel
theorem dX7_authorOf_39 : decode cX7_authorOf 39 = .ok (.invokevirtual 184, 3) := by decide +kernel
theorem dX7_authorOf_42 : decode cX7_authorOf 42 = .ok (.if_icmp .eq 11, 3) := by decide +kernel
theorem dX7_authorOf_45 : decode cX7_authorOf 45 = .ok (.aload_n 0, 1) := by decide +kernel
theorem dX7_authorOf_46 : decode cX7_authorOf 46 = .ok (.getfield 27, 3) := by decide +kernel
theorem dX7_authorOf_49 : decode cX7_authorOf 49 = .ok (.iload 5, 2) := by decide +kernel
theorem dX7_authorOf_51 : decode cX7_authorOf 51 = .ok (.iaload, 1) := by decide +kernel
theorem dX7_authorOf_52 : decode cX7_authorOf 52 = .ok (.ireturn, 1) := by decide +kernel
theorem dX7_authorOf_53 : decode cX7_authorOf 53 = .ok (.iinc 5 (-1), 3) := by decide +kernel
theorem dX7_authorOf_56 : decode cX7_authorOf 56 = .ok (.goto (-37), 3) := by decide +kernel
theorem dX7_authorOf_59 : decode cX7_authorOf 59 = .ok (.new 173, 3) := by decide +kernel
theorem dX7_authorOf_62 : decode cX7_authorOf 62 = .ok (.dup, 1) := by decide +kernel
theorem dX7_authorOf_63 : decode cX7_authorOf 63 = .ok (.ldc 188, 2) := by decide +kernel
theorem dX7_authorOf_65 : decode cX7_authorOf 65 = .ok (.invokespecial 177, 3) := by decide +kernel
theorem dX7_authorOf_68 : decode cX7_authorOf 68 = .ok (.athrow, 1) := by decide +kernel
theorem dX7_size_0 : decode cX7_size 0 = .ok (.aload_n 0, 1) := by decide +kernel
theorem dX7_size_1 : decode cX7_size 1 = .ok (.iload_n 1, 1) := by decide +kernel
theorem dX7_size_2 : decode cX7_size 2 = .ok (.invokevirtual 93, 3) := by decide +kernel
theorem dX7_size_5 : decode cX7_size 5 = .ok (.astore_n 3, 1) := by decide +kernel
theorem dX7_size_6 : decode cX7_size 6 = .ok (.iload_n 2, 1) := by decide +kernel
theorem dX7_size_7 : decode cX7_size 7 = .ok (.invokestatic 138, 3) := by decide +kernel
theorem dX7_size_10 : decode cX7_size 10 = .ok (.aload_n 3, 1) := by decide +kernel
theorem dX7_size_11 : decode cX7_size 11 = .ok (.getfield 127, 3) := by decide +kernel
theorem dX7_size_14 : decode cX7_size 14 = .ok (.iload_n 2, 1) := by decide +kernel
theorem dX7_size_15 : decode cX7_size 15 = .ok (.iaload, 1) := by decide +kernel
theorem dX7_size_16 : decode cX7_size 16 = .ok (.ireturn, 1) := by decide +kernel
theorem dX7_value_0 : decode cX7_value 0 = .ok (.aload_n 0, 1) := by decide +kernel
theorem dX7_value_1 : decode cX7_value 1 = .ok (.iload_n 1, 1) := by decide +kernel
theorem dX7_value_2 : decode cX7_value 2 = .ok (.invokevirtual 93, 3) := by decide +kernel
theorem dX7_value_5 : decode cX7_value 5 = .ok (.astore_n 3, 1) := by decide +kernel
theorem dX7_value_6 : decode cX7_value 6 = .ok (.iload_n 2, 1) := by decide +kernel
theorem dX7_value_7 : decode cX7_value 7 = .ok (.invokestatic 138, 3) := by decide +kernel
theorem dX7_value_10 : decode cX7_value 10 = .ok (.aload_n 3, 1) := by decide +kernel
theorem dX7_value_11 : decode cX7_value 11 = .ok (.getfield 145, 3) := by decide +kernel
theorem dX7_value_14 : decode cX7_value 14 = .ok (.iload_n 2, 1) := by decide +kernel
theorem dX7_value_15 : decode cX7_value 15 = .ok (.iaload, 1) := by decide +kernel
theorem dX7_value_16 : decode cX7_value 16 = .ok (.ireturn, 1) := by decide +kernel
theorem dX7_rim_0 : decode cX7_rim 0 = .ok (.aload_n 0, 1) := by decide +kernel
theorem dX7_rim_1 : decode cX7_rim 1 = .ok (.iload_n 1, 1) := by decide +kernel
theorem dX7_rim_2 : decode cX7_rim 2 = .ok (.invokevirtual 93, 3) := by decide +kernel
theorem dX7_rim_5 : decode cX7_rim 5 = .ok (.astore_n 3, 1) := by decide +kernel
theorem dX7_rim_6 : decode cX7_rim 6 = .ok (.iload_n 2, 1) := by decide +kernel
theorem dX7_rim_7 : decode cX7_rim 7 = .ok (.invokestatic 138, 3) := by decide +kernel
theorem dX7_rim_10 : decode cX7_rim 10 = .ok (.iconst 0, 1) := by decide +kernel
theorem dX7_rim_11 : decode cX7_rim 11 = .ok (.istore 4, 2) := by decide +kernel
theorem dX7_rim_13 : decode cX7_rim 13 = .ok (.iconst 0, 1) := by decide +kernel
theorem dX7_rim_14 : decode cX7_rim 14 = .ok (.istore 5, 2) := by decide +kernel
theorem dX7_rim_16 : decode cX7_rim 16 = .ok (.iload 5, 2) := by decide +kernel
theorem dX7_rim_18 : decode cX7_rim 18 = .ok (.sipush 256, 3) := by decide +kernel
theorem dX7_rim_21 : decode cX7_rim 21 = .ok (.if_icmp .ge 31, 3) := by decide +kernel
theorem dX7_rim_24 : decode cX7_rim 24 = .ok (.aload_n 3, 1) := by decide +kernel
theorem dX7_rim_25 : decode cX7_rim 25 = .ok (.getfield 135, 3) := by decide +kernel
theorem dX7_rim_28 : decode cX7_rim 28 = .ok (.iload 5, 2) := by decide +kernel
theorem dX7_rim_30 : decode cX7_rim 30 = .ok (.iaload, 1) := by decide +kernel
theorem dX7_rim_31 : decode cX7_rim 31 = .ok (.iload_n 2, 1) := by decide +kernel
theorem dX7_rim_32 : decode cX7_rim 32 = .ok (.if_icmp .ne 14, 3) := by decide +kernel
theorem dX7_rim_35 : decode cX7_rim 35 = .ok (.iload 4, 2) := by decide +kernel
theorem dX7_rim_37 : decode cX7_rim 37 = .ok (.aload_n 3, 1) := by decide +kernel
theorem dX7_rim_38 : decode cX7_rim 38 = .ok (.iload 5, 2) := by decide +kernel
theorem dX7_rim_40 : decode cX7_rim 40 = .ok (.invokevirtual 190, 3) := by decide +kernel
theorem dX7_rim_43 : decode cX7_rim 43 = .ok (.iadd, 1) := by decide +kernel
theorem dX7_rim_44 : decode cX7_rim 44 = .ok (.istore 4, 2) := by decide +kernel
theorem dX7_rim_46 : decode cX7_rim 46 = .ok (.iinc 5 1, 3) := by decide +kernel
theorem dX7_rim_49 : decode cX7_rim 49 = .ok (.goto (-33), 3) := by decide +kernel
theorem dX7_rim_52 : decode cX7_rim 52 = .ok (.iload 4, 2) := by decide +kernel
theorem dX7_rim_54 : decode cX7_rim 54 = .ok (.ireturn, 1) := by decide +kernel
theorem dX7_border_0 : decode cX7_border 0 = .ok (.aload_n 0, 1) := by decide +kernel
theorem dX7_border_1 : decode cX7_border 1 = .ok (.iload_n 1, 1) := by decide +kernel
theorem dX7_border_2 : decode cX7_border 2 = .ok (.invokevirtual 93, 3) := by decide +kernel
theorem dX7_border_5 : decode cX7_border 5 = .ok (.astore 4, 2) := by decide +kernel
theorem dX7_border_7 : decode cX7_border 7 = .ok (.iload_n 2, 1) := by decide +kernel
theorem dX7_border_8 : decode cX7_border 8 = .ok (.iload_n 3, 1) := by decide +kernel
theorem dX7_border_9 : decode cX7_border 9 = .ok (.invokestatic 122, 3) := by decide +kernel
theorem dX7_border_12 : decode cX7_border 12 = .ok (.iconst 0, 1) := by decide +kernel
theorem dX7_border_13 : decode cX7_border 13 = .ok (.istore 5, 2) := by decide +kernel
theorem dX7_border_15 : decode cX7_border 15 = .ok (.iconst 0, 1) := by decide +kernel
theorem dX7_border_16 : decode cX7_border 16 = .ok (.istore 6, 2) := by decide +kernel
theorem dX7_border_18 : decode cX7_border 18 = .ok (.iload 6, 2) := by decide +kernel
theorem dX7_border_20 : decode cX7_border 20 = .ok (.sipush 256, 3) := by decide +kernel
theorem dX7_border_23 : decode cX7_border 23 = .ok (.if_icmp .ge 66, 3) := by decide +kernel
theorem dX7_border_26 : decode cX7_border 26 = .ok (.iconst 0, 1) := by decide +kernel
theorem dX7_border_27 : decode cX7_border 27 = .ok (.istore 7, 2) := by decide +kernel
theorem dX7_border_29 : decode cX7_border 29 = .ok (.iload 7, 2) := by decide +kernel
theorem dX7_border_31 : decode cX7_border 31 = .ok (.iconst 4, 1) := by decide +kernel
theorem dX7_border_32 : decode cX7_border 32 = .ok (.if_icmp .ge 51, 3) := by decide +kernel
theorem dX7_border_35 : decode cX7_border 35 = .ok (.iload 6, 2) := by decide +kernel
theorem dX7_border_37 : decode cX7_border 37 = .ok (.iload 7, 2) := by decide +kernel
theorem dX7_border_39 : decode cX7_border 39 = .ok (.invokestatic 193, 3) := by decide +kernel
theorem dX7_border_42 : decode cX7_border 42 = .ok (.istore 8, 2) := by decide +kernel
theorem dX7_border_44 : decode cX7_border 44 = .ok (.iload 8, 2) := by decide +kernel
theorem dX7_border_46 : decode cX7_border 46 = .ok (.iconst (-1), 1) := by decide +kernel
theorem dX7_border_47 : decode cX7_border 47 = .ok (.if_icmp .eq 30, 3) := by decide +kernel
theorem dX7_border_50 : decode cX7_border 50 = .ok (.aload 4, 2) := by decide +kernel
theorem dX7_border_52 : decode cX7_border 52 = .ok (.getfield 135, 3) := by decide +kernel
theorem dX7_border_55 : decode cX7_border 55 = .ok (.iload 6, 2) := by decide +kernel
theorem dX7_border_57 : decode cX7_border 57 = .ok (.iaload, 1) := by decide +kernel
theorem dX7_border_58 : decode cX7_border 58 = .ok (.iload_n 2, 1) := by decide +kernel
theorem dX7_border_59 : decode cX7_border 59 = .ok (.if_icmp .ne 18, 3) := by decide +kernel
theorem dX7_border_62 : decode cX7_border 62 = .ok (.aload 4, 2) := by decide +kernel
theorem dX7_border_64 : decode cX7_border 64 = .ok (.getfield 135, 3) := by decide +kernel
theorem dX7_border_67 : decode cX7_border 67 = .ok (.iload 8, 2) := by decide +kernel
theorem dX7_border_69 : decode cX7_border 69 = .ok (.iaload, 1) := by decide +kernel
theorem dX7_border_70 : decode cX7_border 70 = .ok (.iload_n 3, 1) := by decide +kernel
theorem dX7_border_71 : decode cX7_border 71 = .ok (.if_icmp .ne 6, 3) := by decide +kernel
theorem dX7_border_74 : decode cX7_border 74 = .ok (.iinc 5 1, 3) := by decide +kernel
theorem dX7_border_77 : decode cX7_border 77 = .ok (.iinc 7 1, 3) := by decide +kernel
theorem dX7_border_80 : decode cX7_border 80 = .ok (.goto (-51), 3) := by decide +kernel
theorem dX7_border_83 : decode cX7_border 83 = .ok (.iinc 6 1, 3) := by decide +kernel
theorem dX7_border_86 : decode cX7_border 86 = .ok (.goto (-68), 3) := by decide +kernel
theorem dX7_border_89 : decode cX7_border 89 = .ok (.iload 5, 2) := by decide +kernel
theorem dX7_border_91 : decode cX7_border 91 = .ok (.ireturn, 1) := by decide +kernel
theorem dX7_distance_0 : decode cX7_distance 0 = .ok (.aload_n 0, 1) := by decide +kernel
theorem dX7_distance_1 : decode cX7_distance 1 = .ok (.iload_n 1, 1) := by decide +kernel
theorem dX7_distance_2 : decode cX7_distance 2 = .ok (.invokevirtual 93, 3) := by decide +kernel
theorem dX7_distance_5 : decode cX7_distance 5 = .ok (.astore 4, 2) := by decide +kernel
theorem dX7_distance_7 : decode cX7_distance 7 = .ok (.iload_n 2, 1) := by decide +kernel
theorem dX7_distance_8 : decode cX7_distance 8 = .ok (.iload_n 3, 1) := by decide +kernel
theorem dX7_distance_9 : decode cX7_distance 9 = .ok (.invokestatic 122, 3) := by decide +kernel
theorem dX7_distance_12 : decode cX7_distance 12 = .ok (.aload 4, 2) := by decide +kernel
theorem dX7_distance_14 : decode cX7_distance 14 = .ok (.getfield 127, 3) := by decide +kernel
theorem dX7_distance_17 : decode cX7_distance 17 = .ok (.iload_n 2, 1) := by decide +kernel
theorem dX7_distance_18 : decode cX7_distance 18 = .ok (.iaload, 1) := by decide +kernel
theorem dX7_distance_19 : decode cX7_distance 19 = .ok (.ifCond .eq 13, 3) := by decide +kernel
theorem dX7_distance_22 : decode cX7_distance 22 = .ok (.aload 4, 2) := by decide +kernel
theorem dX7_distance_24 : decode cX7_distance 24 = .ok (.getfield 127, 3) := by decide +kernel
theorem dX7_distance_27 : decode cX7_distance 27 = .ok (.iload_n 3, 1) := by decide +kernel
theorem dX7_distance_28 : decode cX7_distance 28 = .ok (.iaload, 1) := by decide +kernel
theorem dX7_distance_29 : decode cX7_distance 29 = .ok (.ifCond .ne 13, 3) := by decide +kernel
theorem dX7_distance_32 : decode cX7_distance 32 = .ok (.new 173, 3) := by decide +kernel
theorem dX7_distance_35 : decode cX7_distance 35 = .ok (.dup, 1) := by decide +kernel
theorem dX7_distance_36 : decode cX7_distance 36 = .ok (.ldc 196, 2) := by decide +kernel
theorem dX7_distance_38 : decode cX7_distance 38 = .ok (.invokespecial 177, 3) := by decide +kernel
theorem dX7_distance_41 : decode cX7_distance 41 = .ok (.athrow, 1) := by decide +kernel
theorem dX7_distance_42 : decode cX7_distance 42 = .ok (.aload_n 0, 1) := by decide +kernel
theorem dX7_distance_43 : decode cX7_distance 43 = .ok (.getfield 41, 3) := by decide +kernel
theorem dX7_distance_46 : decode cX7_distance 46 = .ok (.aload 4, 2) := by decide +kernel
theorem dX7_distance_48 : decode cX7_distance 48 = .ok (.iload_n 2, 1) := by decide +kernel
theorem dX7_distance_49 : decode cX7_distance 49 = .ok (.invokevirtual 198, 3) := by decide +kernel
theorem dX7_distance_52 : decode cX7_distance 52 = .ok (.aload_n 0, 1) := by decide +kernel
theorem dX7_distance_53 : decode cX7_distance 53 = .ok (.getfield 41, 3) := by decide +kernel
theorem dX7_distance_56 : decode cX7_distance 56 = .ok (.aload 4, 2) := by decide +kernel
theorem dX7_distance_58 : decode cX7_distance 58 = .ok (.iload_n 3, 1) := by decide +kernel
theorem dX7_distance_59 : decode cX7_distance 59 = .ok (.invokevirtual 202, 3) := by decide +kernel
theorem dX7_distance_62 : decode cX7_distance 62 = .ok (.ireturn, 1) := by decide +kernel
theorem dX7_nearest_0 : decode cX7_nearest 0 = .ok (.aload_n 0, 1) := by decide +kernel
theorem dX7_nearest_1 : decode cX7_nearest 1 = .ok (.iload_n 1, 1) := by decide +kernel
theorem dX7_nearest_2 : decode cX7_nearest 2 = .ok (.invokevirtual 93, 3) := by decide +kernel
theorem dX7_nearest_5 : decode cX7_nearest 5 = .ok (.astore_n 3, 1) := by decide +kernel
theorem dX7_nearest_6 : decode cX7_nearest 6 = .ok (.iload_n 2, 1) := by decide +kernel
theorem dX7_nearest_7 : decode cX7_nearest 7 = .ok (.invokestatic 138, 3) := by decide +kernel
theorem dX7_nearest_10 : decode cX7_nearest 10 = .ok (.aload_n 0, 1) := by decide +kernel
theorem dX7_nearest_11 : decode cX7_nearest 11 = .ok (.getfield 41, 3) := by decide +kernel
theorem dX7_nearest_14 : decode cX7_nearest 14 = .ok (.aload_n 3, 1) := by decide +kernel
theorem dX7_nearest_15 : decode cX7_nearest 15 = .ok (.iload_n 2, 1) := by decide +kernel
theorem dX7_nearest_16 : decode cX7_nearest 16 = .ok (.invokevirtual 198, 3) := by decide +kernel
theorem dX7_nearest_19 : decode cX7_nearest 19 = .ok (.iconst (-1), 1) := by decide +kernel
theorem dX7_nearest_20 : decode cX7_nearest 20 = .ok (.istore 4, 2) := by decide +kernel
theorem dX7_nearest_22 : decode cX7_nearest 22 = .ok (.sipush 1000, 3) := by decide +kernel
theorem dX7_nearest_25 : decode cX7_nearest 25 = .ok (.istore 5, 2) := by decide +kernel
theorem dX7_nearest_27 : decode cX7_nearest 27 = .ok (.iconst 0, 1) := by decide +kernel
theorem dX7_nearest_28 : decode cX7_nearest 28 = .ok (.istore 6, 2) := by decide +kernel
theorem dX7_nearest_30 : decode cX7_nearest 30 = .ok (.iload 6, 2) := by decide +kernel
theorem dX7_nearest_32 : decode cX7_nearest 32 = .ok (.bipush 10, 2) := by decide +kernel
theorem dX7_nearest_34 : decode cX7_nearest 34 = .ok (.if_icmp .ge 42, 3) := by decide +kernel
theorem dX7_nearest_37 : decode cX7_nearest 37 = .ok (.aload_n 0, 1) := by decide +kernel
theorem dX7_nearest_38 : decode cX7_nearest 38 = .ok (.getfield 41, 3) := by decide +kernel
theorem dX7_nearest_41 : decode cX7_nearest 41 = .ok (.aload_n 3, 1) := by decide +kernel
theorem dX7_nearest_42 : decode cX7_nearest 42 = .ok (.iload 6, 2) := by decide +kernel
theorem dX7_nearest_44 : decode cX7_nearest 44 = .ok (.invokevirtual 202, 3) := by decide +kernel
theorem dX7_nearest_47 : decode cX7_nearest 47 = .ok (.istore 7, 2) := by decide +kernel
theorem dX7_nearest_49 : decode cX7_nearest 49 = .ok (.iload 6, 2) := by decide +kernel
theorem dX7_nearest_51 : decode cX7_nearest 51 = .ok (.iload_n 2, 1) := by decide +kernel
theorem dX7_nearest_52 : decode cX7_nearest 52 = .ok (.if_icmp .eq 18, 3) := by decide +kernel
theorem dX7_nearest_55 : decode cX7_nearest 55 = .ok (.iload 7, 2) := by decide +kernel
theorem dX7_nearest_57 : decode cX7_nearest 57 = .ok (.iload 5, 2) := by decide +kernel
theorem dX7_nearest_59 : decode cX7_nearest 59 = .ok (.if_icmp .ge 11, 3) := by decide +kernel
theorem dX7_nearest_62 : decode cX7_nearest 62 = .ok (.iload 6, 2) := by decide +kernel
theorem dX7_nearest_64 : decode cX7_nearest 64 = .ok (.istore 4, 2) := by decide +kernel
theorem dX7_nearest_66 : decode cX7_nearest 66 = .ok (.iload 7, 2) := by decide +kernel
theorem dX7_nearest_68 : decode cX7_nearest 68 = .ok (.istore 5, 2) := by decide +kernel
theorem dX7_nearest_70 : decode cX7_nearest 70 = .ok (.iinc 6 1, 3) := by decide +kernel
theorem dX7_nearest_73 : decode cX7_nearest 73 = .ok (.goto (-43), 3) := by decide +kernel
theorem dX7_nearest_76 : decode cX7_nearest 76 = .ok (.iload 4, 2) := by decide +kernel
theorem dX7_nearest_78 : decode cX7_nearest 78 = .ok (.iconst (-1), 1) := by decide +kernel
theorem dX7_nearest_79 : decode cX7_nearest 79 = .ok (.if_icmp .ne 13, 3) := by decide +kernel
theorem dX7_nearest_82 : decode cX7_nearest 82 = .ok (.new 173, 3) := by decide +kernel
theorem dX7_nearest_85 : decode cX7_nearest 85 = .ok (.dup, 1) := by decide +kernel
theorem dX7_nearest_86 : decode cX7_nearest 86 = .ok (.ldc 206, 2) := by decide +kernel
theorem dX7_nearest_88 : decode cX7_nearest 88 = .ok (.invokespecial 177, 3) := by decide +kernel
theorem dX7_nearest_91 : decode cX7_nearest 91 = .ok (.athrow, 1) := by decide +kernel
theorem dX7_nearest_92 : decode cX7_nearest 92 = .ok (.iload 4, 2) := by decide +kernel
theorem dX7_nearest_94 : decode cX7_nearest 94 = .ok (.ireturn, 1) := by decide +kernel
theorem dX7_belt_0 : decode cX7_belt 0 = .ok (.aload_n 0, 1) := by decide +kernel
theorem dX7_belt_1 : decode cX7_belt 1 = .ok (.iload_n 1, 1) := by decide +kernel
theorem dX7_belt_2 : decode cX7_belt 2 = .ok (.invokevirtual 93, 3) := by decide +kernel
theorem dX7_belt_5 : decode cX7_belt 5 = .ok (.astore 4, 2) := by decide +kernel
theorem dX7_belt_7 : decode cX7_belt 7 = .ok (.iload_n 2, 1) := by decide +kernel
theorem dX7_belt_8 : decode cX7_belt 8 = .ok (.invokestatic 138, 3) := by decide +kernel
theorem dX7_belt_11 : decode cX7_belt 11 = .ok (.iload_n 3, 1) := by decide +kernel
theorem dX7_belt_12 : decode cX7_belt 12 = .ok (.iconst 1, 1) := by decide +kernel
theorem dX7_belt_13 : decode cX7_belt 13 = .ok (.if_icmp .lt 9, 3) := by decide +kernel
theorem dX7_belt_16 : decode cX7_belt 16 = .ok (.iload_n 3, 1) := by decide +kernel
theorem dX7_belt_17 : decode cX7_belt 17 = .ok (.bipush 30, 2) := by decide +kernel
theorem dX7_belt_19 : decode cX7_belt 19 = .ok (.if_icmp .le 13, 3) := by decide +kernel
theorem dX7_belt_22 : decode cX7_belt 22 = .ok (.new 60, 3) := by decide +kernel
theorem dX7_belt_25 : decode cX7_belt 25 = .ok (.dup, 1) := by decide +kernel
theorem dX7_belt_26 : decode cX7_belt 26 = .ok (.ldc 208, 2) := by decide +kernel
theorem dX7_belt_28 : decode cX7_belt 28 = .ok (.invokespecial 64, 3) := by decide +kernel
theorem dX7_belt_31 : decode cX7_belt 31 = .ok (.athrow, 1) := by decide +kernel
theorem dX7_belt_32 : decode cX7_belt 32 = .ok (.aload_n 0, 1) := by decide +kernel
theorem dX7_belt_33 : decode cX7_belt 33 = .ok (.getfield 41, 3) := by decide +kernel
theorem dX7_belt_36 : decode cX7_belt 36 = .ok (.aload 4, 2) := by decide +kernel
theorem dX7_belt_38 : decode cX7_belt 38 = .ok (.iload_n 2, 1) := by decide +kernel
theorem dX7_belt_39 : decode cX7_belt 39 = .ok (.invokevirtual 198, 3) := by decide +kernel
theorem dX7_belt_42 : decode cX7_belt 42 = .ok (.aload_n 0, 1) := by decide +kernel
theorem dX7_belt_43 : decode cX7_belt 43 = .ok (.getfield 41, 3) := by decide +kernel
theorem dX7_belt_46 : decode cX7_belt 46 = .ok (.iload_n 3, 1) := by decide +kernel
theorem dX7_belt_47 : decode cX7_belt 47 = .ok (.invokevirtual 210, 3) := by decide +kernel
theorem dX7_belt_50 : decode cX7_belt 50 = .ok (.ireturn, 1) := by decide +kernel
theorem dX7_checkOut_0 : decode cX7_checkOut 0 = .ok (.aload_n 0, 1) := by decide +kernel
theorem dX7_checkOut_1 : decode cX7_checkOut 1 = .ok (.iload_n 1, 1) := by decide +kernel
theorem dX7_checkOut_2 : decode cX7_checkOut 2 = .ok (.invokevirtual 93, 3) := by decide +kernel
theorem dX7_checkOut_5 : decode cX7_checkOut 5 = .ok (.astore 6, 2) := by decide +kernel
theorem dX7_checkOut_7 : decode cX7_checkOut 7 = .ok (.iload_n 2, 1) := by decide +kernel
theorem dX7_checkOut_8 : decode cX7_checkOut 8 = .ok (.iload_n 3, 1) := by decide +kernel
theorem dX7_checkOut_9 : decode cX7_checkOut 9 = .ok (.iload 4, 2) := by decide +kernel
theorem dX7_checkOut_11 : decode cX7_checkOut 11 = .ok (.iload 5, 2) := by decide +kernel
theorem dX7_checkOut_13 : decode cX7_checkOut 13 = .ok (.invokestatic 104, 3) := by decide +kernel
theorem dX7_checkOut_16 : decode cX7_checkOut 16 = .ok (.aload_n 0, 1) := by decide +kernel
theorem dX7_checkOut_17 : decode cX7_checkOut 17 = .ok (.getfield 67, 3) := by decide +kernel
theorem dX7_checkOut_20 : decode cX7_checkOut 20 = .ok (.ifCond .ne 11, 3) := by decide +kernel
theorem dX7_checkOut_23 : decode cX7_checkOut 23 = .ok (.aload_n 0, 1) := by decide +kernel
theorem dX7_checkOut_24 : decode cX7_checkOut 24 = .ok (.getfield 213, 3) := by decide +kernel
theorem dX7_checkOut_27 : decode cX7_checkOut 27 = .ok (.iconst 3, 1) := by decide +kernel
theorem dX7_checkOut_28 : decode cX7_checkOut 28 = .ok (.if_icmp .lt 13, 3) := by decide +kernel
theorem dX7_checkOut_31 : decode cX7_checkOut 31 = .ok (.new 75, 3) := by decide +kernel
theorem dX7_checkOut_34 : decode cX7_checkOut 34 = .ok (.dup, 1) := by decide +kernel
theorem dX7_checkOut_35 : decode cX7_checkOut 35 = .ok (.ldc 216, 2) := by decide +kernel
theorem dX7_checkOut_37 : decode cX7_checkOut 37 = .ok (.invokespecial 79, 3) := by decide +kernel
theorem dX7_checkOut_40 : decode cX7_checkOut 40 = .ok (.athrow, 1) := by decide +kernel
theorem dX7_checkOut_41 : decode cX7_checkOut 41 = .ok (.new 21, 3) := by decide +kernel
theorem dX7_checkOut_44 : decode cX7_checkOut 44 = .ok (.dup, 1) := by decide +kernel
theorem dX7_checkOut_45 : decode cX7_checkOut 45 = .ok (.aload 6, 2) := by decide +kernel
theorem dX7_checkOut_47 : decode cX7_checkOut 47 = .ok (.iload_n 2, 1) := by decide +kernel
theorem dX7_checkOut_48 : decode cX7_checkOut 48 = .ok (.iload_n 3, 1) := by decide +kernel
theorem dX7_checkOut_49 : decode cX7_checkOut 49 = .ok (.iload_n 2, 1) := by decide +kernel
theorem dX7_checkOut_50 : decode cX7_checkOut 50 = .ok (.iload 4, 2) := by decide +kernel
theorem dX7_checkOut_52 : decode cX7_checkOut 52 = .ok (.iadd, 1) := by decide +kernel
theorem dX7_checkOut_53 : decode cX7_checkOut 53 = .ok (.iload_n 3, 1) := by decide +kernel
theorem dX7_checkOut_54 : decode cX7_checkOut 54 = .ok (.iload 5, 2) := by decide +kernel
theorem dX7_checkOut_56 : decode cX7_checkOut 56 = .ok (.iadd, 1) := by decide +kernel
theorem dX7_checkOut_57 : decode cX7_checkOut 57 = .ok (.invokespecial 218, 3) := by decide +kernel
theorem dX7_checkOut_60 : decode cX7_checkOut 60 = .ok (.astore 7, 2) := by decide +kernel
theorem dX7_checkOut_62 : decode cX7_checkOut 62 = .ok (.aload 7, 2) := by decide +kernel
theorem dX7_checkOut_64 : decode cX7_checkOut 64 = .ok (.invokevirtual 221, 3) := by decide +kernel
theorem dX7_checkOut_67 : decode cX7_checkOut 67 = .ok (.aload_n 0, 1) := by decide +kernel
theorem dX7_checkOut_68 : decode cX7_checkOut 68 = .ok (.getfield 23, 3) := by decide +kernel
theorem dX7_checkOut_71 : decode cX7_checkOut 71 = .ok (.aload_n 0, 1) := by decide +kernel
theorem dX7_checkOut_72 : decode cX7_checkOut 72 = .ok (.getfield 213, 3) := by decide +kernel
theorem dX7_checkOut_75 : decode cX7_checkOut 75 = .ok (.aload 7, 2) := by decide +kernel
theorem dX7_checkOut_77 : decode cX7_checkOut 77 = .ok (.aastore, 1) := by decide +kernel
theorem dX7_checkOut_78 : decode cX7_checkOut 78 = .ok (.aload_n 0, 1) := by decide +kernel
theorem dX7_checkOut_79 : decode cX7_checkOut 79 = .ok (.dup, 1) := by decide +kernel
theorem dX7_checkOut_80 : decode cX7_checkOut 80 = .ok (.getfield 213, 3) := by decide +kernel
theorem dX7_checkOut_83 : decode cX7_checkOut 83 = .ok (.iconst 1, 1) := by decide +kernel
theorem dX7_checkOut_84 : decode cX7_checkOut 84 = .ok (.iadd, 1) := by decide +kernel
theorem dX7_checkOut_85 : decode cX7_checkOut 85 = .ok (.putfield 213, 3) := by decide +kernel
theorem dX7_checkOut_88 : decode cX7_checkOut 88 = .ok (.aload_n 0, 1) := by decide +kernel
theorem dX7_checkOut_89 : decode cX7_checkOut 89 = .ok (.getfield 213, 3) := by decide +kernel
theorem dX7_checkOut_92 : decode cX7_checkOut 92 = .ok (.iconst 1, 1) := by decide +kernel
theorem dX7_checkOut_93 : decode cX7_checkOut 93 = .ok (.isub, 1) := by decide +kernel
theorem dX7_checkOut_94 : decode cX7_checkOut 94 = .ok (.ireturn, 1) := by decide +kernel
theorem dX7_change_0 : decode cX7_change 0 = .ok (.aload_n 0, 1) := by decide +kernel
theorem dX7_change_1 : decode cX7_change 1 = .ok (.iload_n 1, 1) := by decide +kernel
theorem dX7_change_2 : decode cX7_change 2 = .ok (.invokevirtual 224, 3) := by decide +kernel
theorem dX7_change_5 : decode cX7_change 5 = .ok (.astore 4, 2) := by decide +kernel
theorem dX7_change_7 : decode cX7_change 7 = .ok (.iload_n 2, 1) := by decide +kernel
theorem dX7_change_8 : decode cX7_change 8 = .ok (.invokestatic 178, 3) := by decide +kernel
theorem dX7_change_11 : decode cX7_change 11 = .ok (.aload 4, 2) := by decide +kernel
theorem dX7_change_13 : decode cX7_change 13 = .ok (.iload_n 2, 1) := by decide +kernel
theorem dX7_change_14 : decode cX7_change 14 = .ok (.invokevirtual 228, 3) := by decide +kernel
theorem dX7_change_17 : decode cX7_change 17 = .ok (.ifCond .ne 13, 3) := by decide +kernel
theorem dX7_change_20 : decode cX7_change 20 = .ok (.new 232, 3) := by decide +kernel
theorem dX7_change_23 : decode cX7_change 23 = .ok (.dup, 1) := by decide +kernel
theorem dX7_change_24 : decode cX7_change 24 = .ok (.ldc 234, 2) := by decide +kernel
theorem dX7_change_26 : decode cX7_change 26 = .ok (.invokespecial 236, 3) := by decide +kernel
theorem dX7_change_29 : decode cX7_change 29 = .ok (.athrow, 1) := by decide +kernel
theorem dX7_change_30 : decode cX7_change 30 = .ok (.iload_n 3, 1) := by decide +kernel
theorem dX7_change_31 : decode cX7_change 31 = .ok (.invokestatic 100, 3) := by decide +kernel
theorem dX7_change_34 : decode cX7_change 34 = .ok (.aload 4, 2) := by decide +kernel
theorem dX7_change_36 : decode cX7_change 36 = .ok (.getfield 237, 3) := by decide +kernel
theorem dX7_change_39 : decode cX7_change 39 = .ok (.iload_n 2, 1) := by decide +kernel
theorem dX7_change_40 : decode cX7_change 40 = .ok (.iaload, 1) := by decide +kernel
theorem dX7_change_41 : decode cX7_change 41 = .ok (.istore 5, 2) := by decide +kernel
theorem dX7_change_43 : decode cX7_change 43 = .ok (.aload 4, 2) := by decide +kernel
theorem dX7_change_45 : decode cX7_change 45 = .ok (.getfield 237, 3) := by decide +kernel
theorem dX7_change_48 : decode cX7_change 48 = .ok (.iload_n 2, 1) := by decide +kernel
theorem dX7_change_49 : decode cX7_change 49 = .ok (.iload_n 3, 1) := by decide +kernel
theorem dX7_change_50 : decode cX7_change 50 = .ok (.iastore, 1) := by decide +kernel
theorem dX7_change_51 : decode cX7_change 51 = .ok (.iload 5, 2) := by decide +kernel
theorem dX7_change_53 : decode cX7_change 53 = .ok (.ireturn, 1) := by decide +kernel
theorem dX7_conflicts_0 : decode cX7_conflicts 0 = .ok (.aload_n 0, 1) := by decide +kernel
theorem dX7_conflicts_1 : decode cX7_conflicts 1 = .ok (.iload_n 1, 1) := by decide +kernel
theorem dX7_conflicts_2 : decode cX7_conflicts 2 = .ok (.invokevirtual 224, 3) := by decide +kernel
theorem dX7_conflicts_5 : decode cX7_conflicts 5 = .ok (.invokevirtual 238, 3) := by decide +kernel
theorem dX7_conflicts_8 : decode cX7_conflicts 8 = .ok (.ireturn, 1) := by decide +kernel
theorem dX7_clashes_0 : decode cX7_clashes 0 = .ok (.aload_n 0, 1) := by decide +kernel
theorem dX7_clashes_1 : decode cX7_clashes 1 = .ok (.iload_n 1, 1) := by decide +kernel
theorem dX7_clashes_2 : decode cX7_clashes 2 = .ok (.invokevirtual 224, 3) := by decide +kernel
theorem dX7_clashes_5 : decode cX7_clashes 5 = .ok (.astore_n 2, 1) := by decide +kernel
theorem dX7_clashes_6 : decode cX7_clashes 6 = .ok (.aload_n 2, 1) := by decide +kernel
theorem dX7_clashes_7 : decode cX7_clashes 7 = .ok (.invokevirtual 238, 3) := by decide +kernel
theorem dX7_clashes_10 : decode cX7_clashes 10 = .ok (.pop, 1) := by decide +kernel
theorem dX7_clashes_11 : decode cX7_clashes 11 = .ok (.aload_n 0, 1) := by decide +kernel
theorem dX7_clashes_12 : decode cX7_clashes 12 = .ok (.getfield 34, 3) := by decide +kernel
theorem dX7_clashes_15 : decode cX7_clashes 15 = .ok (.aload_n 2, 1) := by decide +kernel
theorem dX7_clashes_16 : decode cX7_clashes 16 = .ok (.getfield 241, 3) := by decide +kernel
theorem dX7_clashes_19 : decode cX7_clashes 19 = .ok (.aload_n 2, 1) := by decide +kernel
theorem dX7_clashes_20 : decode cX7_clashes 20 = .ok (.getfield 241, 3) := by decide +kernel
theorem dX7_clashes_23 : decode cX7_clashes 23 = .ok (.invokevirtual 244, 3) := by decide +kernel
theorem dX7_clashes_26 : decode cX7_clashes 26 = .ok (.aload_n 0, 1) := by decide +kernel
theorem dX7_clashes_27 : decode cX7_clashes 27 = .ok (.getfield 34, 3) := by decide +kernel
theorem dX7_clashes_30 : decode cX7_clashes 30 = .ok (.getfield 248, 3) := by decide +kernel
theorem dX7_clashes_33 : decode cX7_clashes 33 = .ok (.ireturn, 1) := by decide +kernel
theorem dX7_reconcile_0 : decode cX7_reconcile 0 = .ok (.aload_n 0, 1) := by decide +kernel
theorem dX7_reconcile_1 : decode cX7_reconcile 1 = .ok (.iload_n 1, 1) := by decide +kernel
theorem dX7_reconcile_2 : decode cX7_reconcile 2 = .ok (.invokevirtual 224, 3) := by decide +kernel
theorem dX7_reconcile_5 : decode cX7_reconcile 5 = .ok (.astore_n 3, 1) := by decide +kernel
theorem dX7_reconcile_6 : decode cX7_reconcile 6 = .ok (.iload_n 2, 1) := by decide +kernel
theorem dX7_reconcile_7 : decode cX7_reconcile 7 = .ok (.bipush 118, 2) := by decide +kernel
theorem dX7_reconcile_9 : decode cX7_reconcile 9 = .ok (.if_icmp .eq 19, 3) := by decide +kernel
theorem dX7_reconcile_12 : decode cX7_reconcile 12 = .ok (.iload_n 2, 1) := by decide +kernel
theorem dX7_reconcile_13 : decode cX7_reconcile 13 = .ok (.bipush 108, 2) := by decide +kernel
theorem dX7_reconcile_15 : decode cX7_reconcile 15 = .ok (.if_icmp .eq 13, 3) := by decide +kernel
theorem dX7_reconcile_18 : decode cX7_reconcile 18 = .ok (.new 60, 3) := by decide +kernel
theorem dX7_reconcile_21 : decode cX7_reconcile 21 = .ok (.dup, 1) := by decide +kernel
theorem dX7_reconcile_22 : decode cX7_reconcile 22 = .ok (.ldc 251, 2) := by decide +kernel
theorem dX7_reconcile_24 : decode cX7_reconcile 24 = .ok (.invokespecial 64, 3) := by decide +kernel
theorem dX7_reconcile_27 : decode cX7_reconcile 27 = .ok (.athrow, 1) := by decide +kernel
theorem dX7_reconcile_28 : decode cX7_reconcile 28 = .ok (.aload_n 0, 1) := by decide +kernel
theorem dX7_reconcile_29 : decode cX7_reconcile 29 = .ok (.invokevirtual 108, 3) := by decide +kernel
theorem dX7_reconcile_32 : decode cX7_reconcile 32 = .ok (.iconst 0, 1) := by decide +kernel
theorem dX7_reconcile_33 : decode cX7_reconcile 33 = .ok (.istore 4, 2) := by decide +kernel
theorem dX7_reconcile_35 : decode cX7_reconcile 35 = .ok (.iconst 0, 1) := by decide +kernel
theorem dX7_reconcile_36 : decode cX7_reconcile 36 = .ok (.istore 5, 2) := by decide +kernel
theorem dX7_reconcile_38 : decode cX7_reconcile 38 = .ok (.iload 5, 2) := by decide +kernel
theorem dX7_reconcile_40 : decode cX7_reconcile 40 = .ok (.sipush 256, 3) := by decide +kernel
theorem dX7_reconcile_43 : decode cX7_reconcile 43 = .ok (.if_icmp .ge 70, 3) := by decide +kernel
theorem dX7_reconcile_46 : decode cX7_reconcile 46 = .ok (.aload_n 3, 1) := by decide +kernel
theorem dX7_reconcile_47 : decode cX7_reconcile 47 = .ok (.iload 5, 2) := by decide +kernel
theorem dX7_reconcile_49 : decode cX7_reconcile 49 = .ok (.iload_n 2, 1) := by decide +kernel
theorem dX7_reconcile_50 : decode cX7_reconcile 50 = .ok (.bipush 118, 2) := by decide +kernel
theorem dX7_reconcile_52 : decode cX7_reconcile 52 = .ok (.if_icmp .ne 7, 3) := by decide +kernel
theorem dX7_reconcile_55 : decode cX7_reconcile 55 = .ok (.iconst 1, 1) := by decide +kernel
theorem dX7_reconcile_56 : decode cX7_reconcile 56 = .ok (.goto 4, 3) := by decide +kernel
theorem dX7_reconcile_59 : decode cX7_reconcile 59 = .ok (.iconst 0, 1) := by decide +kernel
theorem dX7_reconcile_60 : decode cX7_reconcile 60 = .ok (.invokevirtual 253, 3) := by decide +kernel
theorem dX7_reconcile_63 : decode cX7_reconcile 63 = .ok (.ifCond .eq 44, 3) := by decide +kernel
theorem dX7_reconcile_66 : decode cX7_reconcile 66 = .ok (.aload_n 3, 1) := by decide +kernel
theorem dX7_reconcile_67 : decode cX7_reconcile 67 = .ok (.getfield 237, 3) := by decide +kernel
theorem dX7_reconcile_70 : decode cX7_reconcile 70 = .ok (.iload 5, 2) := by decide +kernel
theorem dX7_reconcile_72 : decode cX7_reconcile 72 = .ok (.iaload, 1) := by decide +kernel
theorem dX7_reconcile_73 : decode cX7_reconcile 73 = .ok (.istore 6, 2) := by decide +kernel
theorem dX7_reconcile_75 : decode cX7_reconcile 75 = .ok (.aload_n 3, 1) := by decide +kernel
theorem dX7_reconcile_76 : decode cX7_reconcile 76 = .ok (.getfield 257, 3) := by decide +kernel
theorem dX7_reconcile_79 : decode cX7_reconcile 79 = .ok (.invokevirtual 111, 3) := by decide +kernel
theorem dX7_reconcile_82 : decode cX7_reconcile 82 = .ok (.aload_n 3, 1) := by decide +kernel
theorem dX7_reconcile_83 : decode cX7_reconcile 83 = .ok (.getfield 257, 3) := by decide +kernel
theorem dX7_reconcile_86 : decode cX7_reconcile 86 = .ok (.iload 5, 2) := by decide +kernel
theorem dX7_reconcile_88 : decode cX7_reconcile 88 = .ok (.iload 6, 2) := by decide +kernel
theorem dX7_reconcile_90 : decode cX7_reconcile 90 = .ok (.invokevirtual 114, 3) := by decide +kernel
theorem dX7_reconcile_93 : decode cX7_reconcile 93 = .ok (.iload 4, 2) := by decide +kernel
theorem dX7_reconcile_95 : decode cX7_reconcile 95 = .ok (.aload_n 3, 1) := by decide +kernel
theorem dX7_reconcile_96 : decode cX7_reconcile 96 = .ok (.getfield 257, 3) := by decide +kernel
theorem dX7_reconcile_99 : decode cX7_reconcile 99 = .ok (.iload 6, 2) := by decide +kernel
theorem dX7_reconcile_101 : decode cX7_reconcile 101 = .ok (.invokevirtual 118, 3) := by decide +kernel
theorem dX7_reconcile_104 : decode cX7_reconcile 104 = .ok (.iadd, 1) := by decide +kernel
theorem dX7_reconcile_105 : decode cX7_reconcile 105 = .ok (.istore 4, 2) := by decide +kernel
theorem dX7_reconcile_107 : decode cX7_reconcile 107 = .ok (.iinc 5 1, 3) := by decide +kernel
theorem dX7_reconcile_110 : decode cX7_reconcile 110 = .ok (.goto (-72), 3) := by decide +kernel
theorem dX7_reconcile_113 : decode cX7_reconcile 113 = .ok (.aload_n 3, 1) := by decide +kernel
theorem dX7_reconcile_114 : decode cX7_reconcile 114 = .ok (.invokevirtual 221, 3) := by decide +kernel
theorem dX7_reconcile_117 : decode cX7_reconcile 117 = .ok (.iload 4, 2) := by decide +kernel
theorem dX7_reconcile_119 : decode cX7_reconcile 119 = .ok (.ireturn, 1) := by decide +kernel
theorem dX7_pieces_0 : decode cX7_pieces 0 = .ok (.aload_n 0, 1) := by decide +kernel
theorem dX7_pieces_1 : decode cX7_pieces 1 = .ok (.iload_n 1, 1) := by decide +kernel
theorem dX7_pieces_2 : decode cX7_pieces 2 = .ok (.iload_n 2, 1) := by decide +kernel
theorem dX7_pieces_3 : decode cX7_pieces 3 = .ok (.invokevirtual 165, 3) := by decide +kernel
theorem dX7_pieces_6 : decode cX7_pieces 6 = .ok (.aload_n 0, 1) := by decide +kernel
theorem dX7_pieces_7 : decode cX7_pieces 7 = .ok (.iload_n 1, 1) := by decide +kernel
theorem dX7_pieces_8 : decode cX7_pieces 8 = .ok (.iload_n 2, 1) := by decide +kernel
theorem dX7_pieces_9 : decode cX7_pieces 9 = .ok (.invokevirtual 261, 3) := by decide +kernel
theorem dX7_pieces_12 : decode cX7_pieces 12 = .ok (.aload_n 0, 1) := by decide +kernel
theorem dX7_pieces_13 : decode cX7_pieces 13 = .ok (.getfield 34, 3) := by decide +kernel
theorem dX7_pieces_16 : decode cX7_pieces 16 = .ok (.getfield 248, 3) := by decide +kernel
theorem dX7_pieces_19 : decode cX7_pieces 19 = .ok (.ireturn, 1) := by decide +kernel
theorem dX7_pieceSize_0 : decode cX7_pieceSize 0 = .ok (.aload_n 0, 1) := by decide +kernel
theorem dX7_pieceSize_1 : decode cX7_pieceSize 1 = .ok (.iload_n 1, 1) := by decide +kernel
theorem dX7_pieceSize_2 : decode cX7_pieceSize 2 = .ok (.iload_n 2, 1) := by decide +kernel
theorem dX7_pieceSize_3 : decode cX7_pieceSize 3 = .ok (.invokevirtual 165, 3) := by decide +kernel
theorem dX7_pieceSize_6 : decode cX7_pieceSize 6 = .ok (.aload_n 0, 1) := by decide +kernel
theorem dX7_pieceSize_7 : decode cX7_pieceSize 7 = .ok (.iload_n 1, 1) := by decide +kernel
theorem dX7_pieceSize_8 : decode cX7_pieceSize 8 = .ok (.iload_n 2, 1) := by decide +kernel
theorem dX7_pieceSize_9 : decode cX7_pieceSize 9 = .ok (.invokevirtual 261, 3) := by decide +kernel
theorem dX7_pieceSize_12 : decode cX7_pieceSize 12 = .ok (.aload_n 0, 1) := by decide +kernel
theorem dX7_pieceSize_13 : decode cX7_pieceSize 13 = .ok (.iload_n 3, 1) := by decide +kernel
theorem dX7_pieceSize_14 : decode cX7_pieceSize 14 = .ok (.invokevirtual 264, 3) := by decide +kernel
theorem dX7_pieceSize_17 : decode cX7_pieceSize 17 = .ok (.aload_n 0, 1) := by decide +kernel
theorem dX7_pieceSize_18 : decode cX7_pieceSize 18 = .ok (.getfield 34, 3) := by decide +kernel
theorem dX7_pieceSize_21 : decode cX7_pieceSize 21 = .ok (.getfield 267, 3) := by decide +kernel
theorem dX7_pieceSize_24 : decode cX7_pieceSize 24 = .ok (.iload_n 3, 1) := by decide +kernel
theorem dX7_pieceSize_25 : decode cX7_pieceSize 25 = .ok (.iaload, 1) := by decide +kernel
theorem dX7_pieceSize_26 : decode cX7_pieceSize 26 = .ok (.ireturn, 1) := by decide +kernel
theorem dX7_parent_0 : decode cX7_parent 0 = .ok (.aload_n 0, 1) := by decide +kernel
theorem dX7_parent_1 : decode cX7_parent 1 = .ok (.iload_n 1, 1) := by decide +kernel
theorem dX7_parent_2 : decode cX7_parent 2 = .ok (.iload_n 2, 1) := by decide +kernel
theorem dX7_parent_3 : decode cX7_parent 3 = .ok (.invokevirtual 165, 3) := by decide +kernel
theorem dX7_parent_6 : decode cX7_parent 6 = .ok (.aload_n 0, 1) := by decide +kernel
theorem dX7_parent_7 : decode cX7_parent 7 = .ok (.iload_n 1, 1) := by decide +kernel
theorem dX7_parent_8 : decode cX7_parent 8 = .ok (.iload_n 2, 1) := by decide +kernel
theorem dX7_parent_9 : decode cX7_parent 9 = .ok (.invokevirtual 261, 3) := by decide +kernel
theorem dX7_parent_12 : decode cX7_parent 12 = .ok (.aload_n 0, 1) := by decide +kernel
theorem dX7_parent_13 : decode cX7_parent 13 = .ok (.iload_n 3, 1) := by decide +kernel
theorem dX7_parent_14 : decode cX7_parent 14 = .ok (.invokevirtual 264, 3) := by decide +kernel
theorem dX7_parent_17 : decode cX7_parent 17 = .ok (.iload 4, 2) := by decide +kernel
theorem dX7_parent_19 : decode cX7_parent 19 = .ok (.ifCond .eq 15, 3) := by decide +kernel
theorem dX7_parent_22 : decode cX7_parent 22 = .ok (.aload_n 0, 1) := by decide +kernel
theorem dX7_parent_23 : decode cX7_parent 23 = .ok (.getfield 34, 3) := by decide +kernel
theorem dX7_parent_26 : decode cX7_parent 26 = .ok (.getfield 268, 3) := by decide +kernel
theorem dX7_parent_29 : decode cX7_parent 29 = .ok (.iload_n 3, 1) := by decide +kernel
theorem dX7_parent_30 : decode cX7_parent 30 = .ok (.iaload, 1) := by decide +kernel
theorem dX7_parent_31 : decode cX7_parent 31 = .ok (.goto 12, 3) := by decide +kernel
theorem dX7_parent_34 : decode cX7_parent 34 = .ok (.aload_n 0, 1) := by decide +kernel
theorem dX7_parent_35 : decode cX7_parent 35 = .ok (.getfield 34, 3) := by decide +kernel
theorem dX7_parent_38 : decode cX7_parent 38 = .ok (.getfield 271, 3) := by decide +kernel
theorem dX7_parent_41 : decode cX7_parent 41 = .ok (.iload_n 3, 1) := by decide +kernel
theorem dX7_parent_42 : decode cX7_parent 42 = .ok (.iaload, 1) := by decide +kernel
theorem dX7_parent_43 : decode cX7_parent 43 = .ok (.ireturn, 1) := by decide +kernel
theorem dX7_match_0 : decode cX7_match 0 = .ok (.aload_n 0, 1) := by decide +kernel
theorem dX7_match_1 : decode cX7_match 1 = .ok (.iload_n 1, 1) := by decide +kernel
theorem dX7_match_2 : decode cX7_match 2 = .ok (.iload_n 3, 1) := by decide +kernel
theorem dX7_match_3 : decode cX7_match 3 = .ok (.invokevirtual 165, 3) := by decide +kernel
theorem dX7_match_6 : decode cX7_match 6 = .ok (.iload_n 2, 1) := by decide +kernel
theorem dX7_match_7 : decode cX7_match 7 = .ok (.invokestatic 138, 3) := by decide +kernel
theorem dX7_match_10 : decode cX7_match 10 = .ok (.aload_n 0, 1) := by decide +kernel
theorem dX7_match_11 : decode cX7_match 11 = .ok (.iload_n 1, 1) := by decide +kernel
theorem dX7_match_12 : decode cX7_match 12 = .ok (.invokevirtual 93, 3) := by decide +kernel
theorem dX7_match_15 : decode cX7_match 15 = .ok (.iload_n 2, 1) := by decide +kernel
theorem dX7_match_16 : decode cX7_match 16 = .ok (.aload_n 0, 1) := by decide +kernel
theorem dX7_match_17 : decode cX7_match 17 = .ok (.iload_n 3, 1) := by decide +kernel
theorem dX7_match_18 : decode cX7_match 18 = .ok (.invokevirtual 93, 3) := by decide +kernel
theorem dX7_match_21 : decode cX7_match 21 = .ok (.invokestatic 274, 3) := by decide +kernel
theorem dX7_match_24 : decode cX7_match 24 = .ok (.istore 4, 2) := by decide +kernel
theorem dX7_match_26 : decode cX7_match 26 = .ok (.iload 4, 2) := by decide +kernel
theorem dX7_match_28 : decode cX7_match 28 = .ok (.iconst (-1), 1) := by decide +kernel
theorem dX7_match_29 : decode cX7_match 29 = .ok (.if_icmp .ne 14, 3) := by decide +kernel
theorem dX7_match_32 : decode cX7_match 32 = .ok (.new 173, 3) := by decide +kernel
theorem dX7_match_35 : decode cX7_match 35 = .ok (.dup, 1) := by decide +kernel
theorem dX7_match_36 : decode cX7_match 36 = .ok (.ldc_w 278, 3) := by decide +kernel
theorem dX7_match_39 : decode cX7_match 39 = .ok (.invokespecial 177, 3) := by decide +kernel
theorem dX7_match_42 : decode cX7_match 42 = .ok (.athrow, 1) := by decide +kernel
theorem dX7_match_43 : decode cX7_match 43 = .ok (.iload 4, 2) := by decide +kernel
theorem dX7_match_45 : decode cX7_match 45 = .ok (.ireturn, 1) := by decide +kernel
theorem dX7_matchKind_0 : decode cX7_matchKind 0 = .ok (.aload_n 0, 1) := by decide +kernel
theorem dX7_matchKind_1 : decode cX7_matchKind 1 = .ok (.iload_n 1, 1) := by decide +kernel
theorem dX7_matchKind_2 : decode cX7_matchKind 2 = .ok (.iload_n 3, 1) := by decide +kernel
theorem dX7_matchKind_3 : decode cX7_matchKind 3 = .ok (.invokevirtual 165, 3) := by decide +kernel
theorem dX7_matchKind_6 : decode cX7_matchKind 6 = .ok (.iload_n 2, 1) := by decide +kernel
theorem dX7_matchKind_7 : decode cX7_matchKind 7 = .ok (.invokestatic 138, 3) := by decide +kernel
theorem dX7_matchKind_10 : decode cX7_matchKind 10 = .ok (.aload_n 0, 1) := by decide +kernel
theorem dX7_matchKind_11 : decode cX7_matchKind 11 = .ok (.iload_n 1, 1) := by decide +kernel
theorem dX7_matchKind_12 : decode cX7_matchKind 12 = .ok (.invokevirtual 93, 3) := by decide +kernel
theorem dX7_matchKind_15 : decode cX7_matchKind 15 = .ok (.astore 4, 2) := by decide +kernel
theorem dX7_matchKind_17 : decode cX7_matchKind 17 = .ok (.aload_n 0, 1) := by decide +kernel
theorem dX7_matchKind_18 : decode cX7_matchKind 18 = .ok (.iload_n 3, 1) := by decide +kernel
theorem dX7_matchKind_19 : decode cX7_matchKind 19 = .ok (.invokevirtual 93, 3) := by decide +kernel
theorem dX7_matchKind_22 : decode cX7_matchKind 22 = .ok (.astore 5, 2) := by decide +kernel
theorem dX7_matchKind_24 : decode cX7_matchKind 24 = .ok (.aload 4, 2) := by decide +kernel
theorem dX7_matchKind_26 : decode cX7_matchKind 26 = .ok (.iload_n 2, 1) := by decide +kernel
theorem dX7_matchKind_27 : decode cX7_matchKind 27 = .ok (.aload 5, 2) := by decide +kernel
theorem dX7_matchKind_29 : decode cX7_matchKind 29 = .ok (.invokestatic 274, 3) := by decide +kernel
theorem dX7_matchKind_32 : decode cX7_matchKind 32 = .ok (.istore 6, 2) := by decide +kernel
theorem dX7_matchKind_34 : decode cX7_matchKind 34 = .ok (.iload 6, 2) := by decide +kernel
theorem dX7_matchKind_36 : decode cX7_matchKind 36 = .ok (.invokestatic 280, 3) := by decide +kernel
theorem dX7_matchKind_39 : decode cX7_matchKind 39 = .ok (.ifCond .ne 6, 3) := by decide +kernel
theorem dX7_matchKind_42 : decode cX7_matchKind 42 = .ok (.bipush 110, 2) := by decide +kernel
theorem dX7_matchKind_44 : decode cX7_matchKind 44 = .ok (.ireturn, 1) := by decide +kernel
theorem dX7_matchKind_45 : decode cX7_matchKind 45 = .ok (.iconst 2, 1) := by decide +kernel
theorem dX7_matchKind_46 : decode cX7_matchKind 46 = .ok (.aload 4, 2) := by decide +kernel
theorem dX7_matchKind_48 : decode cX7_matchKind 48 = .ok (.iload_n 2, 1) := by decide +kernel
theorem dX7_matchKind_49 : decode cX7_matchKind 49 = .ok (.aload 5, 2) := by decide +kernel
theorem dX7_matchKind_51 : decode cX7_matchKind 51 = .ok (.iload 6, 2) := by decide +kernel
theorem dX7_matchKind_53 : decode cX7_matchKind 53 = .ok (.invokestatic 283, 3) := by decide +kernel
theorem dX7_matchKind_56 : decode cX7_matchKind 56 = .ok (.imul, 1) := by decide +kernel
theorem dX7_matchKind_57 : decode cX7_matchKind 57 = .ok (.istore 7, 2) := by decide +kernel
theorem dX7_matchKind_59 : decode cX7_matchKind 59 = .ok (.iload 7, 2) := by decide +kernel
theorem dX7_matchKind_61 : decode cX7_matchKind 61 = .ok (.aload 4, 2) := by decide +kernel
theorem dX7_matchKind_63 : decode cX7_matchKind 63 = .ok (.getfield 127, 3) := by decide +kernel
theorem dX7_matchKind_66 : decode cX7_matchKind 66 = .ok (.iload_n 2, 1) := by decide +kernel
theorem dX7_matchKind_67 : decode cX7_matchKind 67 = .ok (.iaload, 1) := by decide +kernel
theorem dX7_matchKind_68 : decode cX7_matchKind 68 = .ok (.if_icmp .le 21, 3) := by decide +kernel
theorem dX7_matchKind_71 : decode cX7_matchKind 71 = .ok (.iload 7, 2) := by decide +kernel
theorem dX7_matchKind_73 : decode cX7_matchKind 73 = .ok (.aload 5, 2) := by decide +kernel
theorem dX7_matchKind_75 : decode cX7_matchKind 75 = .ok (.getfield 127, 3) := by decide +kernel
theorem dX7_matchKind_78 : decode cX7_matchKind 78 = .ok (.iload 6, 2) := by decide +kernel
theorem dX7_matchKind_80 : decode cX7_matchKind 80 = .ok (.iaload, 1) := by decide +kernel
theorem dX7_matchKind_81 : decode cX7_matchKind 81 = .ok (.if_icmp .le 8, 3) := by decide +kernel
theorem dX7_matchKind_84 : decode cX7_matchKind 84 = .ok (.bipush 115, 2) := by decide +kernel
theorem dX7_matchKind_86 : decode cX7_matchKind 86 = .ok (.goto 5, 3) := by decide +kernel
theorem dX7_matchKind_89 : decode cX7_matchKind 89 = .ok (.bipush 100, 2) := by decide +kernel
theorem dX7_matchKind_91 : decode cX7_matchKind 91 = .ok (.ireturn, 1) := by decide +kernel
theorem dX7_coarse_0 : decode cX7_coarse 0 = .ok (.aload_n 0, 1) := by decide +kernel
theorem dX7_coarse_1 : decode cX7_coarse 1 = .ok (.iload_n 1, 1) := by decide +kernel
theorem dX7_coarse_2 : decode cX7_coarse 2 = .ok (.invokevirtual 93, 3) := by decide +kernel
theorem dX7_coarse_5 : decode cX7_coarse 5 = .ok (.astore 4, 2) := by decide +kernel
theorem dX7_coarse_7 : decode cX7_coarse 7 = .ok (.iload_n 2, 1) := by decide +kernel
theorem dX7_coarse_8 : decode cX7_coarse 8 = .ok (.invokestatic 287, 3) := by decide +kernel
theorem dX7_coarse_11 : decode cX7_coarse 11 = .ok (.iload_n 3, 1) := by decide +kernel
theorem dX7_coarse_12 : decode cX7_coarse 12 = .ok (.invokestatic 138, 3) := by decide +kernel
theorem dX7_coarse_15 : decode cX7_coarse 15 = .ok (.aload 4, 2) := by decide +kernel
theorem dX7_coarse_17 : decode cX7_coarse 17 = .ok (.getfield 127, 3) := by decide +kernel
theorem dX7_coarse_20 : decode cX7_coarse 20 = .ok (.iload_n 3, 1) := by decide +kernel
theorem dX7_coarse_21 : decode cX7_coarse 21 = .ok (.iaload, 1) := by decide +kernel
theorem dX7_coarse_22 : decode cX7_coarse 22 = .ok (.ifCond .ne 13, 3) := by decide +kernel
theorem dX7_coarse_25 : decode cX7_coarse 25 = .ok (.new 173, 3) := by decide +kernel
theorem dX7_coarse_28 : decode cX7_coarse 28 = .ok (.dup, 1) := by decide +kernel
theorem dX7_coarse_29 : decode cX7_coarse 29 = .ok (.ldc 143, 2) := by decide +kernel
theorem dX7_coarse_31 : decode cX7_coarse 31 = .ok (.invokespecial 177, 3) := by decide +kernel
theorem dX7_coarse_34 : decode cX7_coarse 34 = .ok (.athrow, 1) := by decide +kernel
theorem dX7_coarse_35 : decode cX7_coarse 35 = .ok (.aload_n 0, 1) := by decide +kernel
theorem dX7_coarse_36 : decode cX7_coarse 36 = .ok (.getfield 48, 3) := by decide +kernel
theorem dX7_coarse_39 : decode cX7_coarse 39 = .ok (.aload 4, 2) := by decide +kernel
theorem dX7_coarse_41 : decode cX7_coarse 41 = .ok (.iload_n 2, 1) := by decide +kernel
theorem dX7_coarse_42 : decode cX7_coarse 42 = .ok (.invokevirtual 290, 3) := by decide +kernel
theorem dX7_coarse_45 : decode cX7_coarse 45 = .ok (.aload_n 0, 1) := by decide +kernel
theorem dX7_coarse_46 : decode cX7_coarse 46 = .ok (.getfield 48, 3) := by decide +kernel
theorem dX7_coarse_49 : decode cX7_coarse 49 = .ok (.getfield 293, 3) := by decide +kernel
theorem dX7_coarse_52 : decode cX7_coarse 52 = .ok (.iload_n 3, 1) := by decide +kernel
theorem dX7_coarse_53 : decode cX7_coarse 53 = .ok (.iaload, 1) := by decide +kernel
theorem dX7_coarse_54 : decode cX7_coarse 54 = .ok (.ireturn, 1) := by decide +kernel
theorem dX7_coarseAreas_0 : decode cX7_coarseAreas 0 = .ok (.aload_n 0, 1) := by decide +kernel
theorem dX7_coarseAreas_1 : decode cX7_coarseAreas 1 = .ok (.iload_n 1, 1) := by decide +kernel
theorem dX7_coarseAreas_2 : decode cX7_coarseAreas 2 = .ok (.invokevirtual 93, 3) := by decide +kernel
theorem dX7_coarseAreas_5 : decode cX7_coarseAreas 5 = .ok (.astore_n 3, 1) := by decide +kernel
theorem dX7_coarseAreas_6 : decode cX7_coarseAreas 6 = .ok (.iload_n 2, 1) := by decide +kernel
theorem dX7_coarseAreas_7 : decode cX7_coarseAreas 7 = .ok (.invokestatic 287, 3) := by decide +kernel
theorem dX7_coarseAreas_10 : decode cX7_coarseAreas 10 = .ok (.aload_n 0, 1) := by decide +kernel
theorem dX7_coarseAreas_11 : decode cX7_coarseAreas 11 = .ok (.getfield 48, 3) := by decide +kernel
theorem dX7_coarseAreas_14 : decode cX7_coarseAreas 14 = .ok (.aload_n 3, 1) := by decide +kernel
theorem dX7_coarseAreas_15 : decode cX7_coarseAreas 15 = .ok (.iload_n 2, 1) := by decide +kernel
theorem dX7_coarseAreas_16 : decode cX7_coarseAreas 16 = .ok (.invokevirtual 290, 3) := by decide +kernel
theorem dX7_coarseAreas_19 : decode cX7_coarseAreas 19 = .ok (.aload_n 0, 1) := by decide +kernel
theorem dX7_coarseAreas_20 : decode cX7_coarseAreas 20 = .ok (.getfield 48, 3) := by decide +kernel
theorem dX7_coarseAreas_23 : decode cX7_coarseAreas 23 = .ok (.invokevirtual 296, 3) := by decide +kernel
theorem dX7_coarseAreas_26 : decode cX7_coarseAreas 26 = .ok (.ireturn, 1) := by decide +kernel
theorem dX7_name_0 : decode cX7_name 0 = .ok (.aload_n 0, 1) := by decide +kernel
theorem dX7_name_1 : decode cX7_name 1 = .ok (.iload_n 1, 1) := by decide +kernel
theorem dX7_name_2 : decode cX7_name 2 = .ok (.invokevirtual 93, 3) := by decide +kernel
theorem dX7_name_5 : decode cX7_name 5 = .ok (.astore 4, 2) := by decide +kernel
theorem dX7_name_7 : decode cX7_name 7 = .ok (.iload_n 2, 1) := by decide +kernel
theorem dX7_name_8 : decode cX7_name 8 = .ok (.invokestatic 138, 3) := by decide +kernel
theorem dX7_name_11 : decode cX7_name 11 = .ok (.iload_n 3, 1) := by decide +kernel
theorem dX7_name_12 : decode cX7_name 12 = .ok (.ifCond .lt 9, 3) := by decide +kernel
theorem dX7_name_15 : decode cX7_name 15 = .ok (.iload_n 3, 1) := by decide +kernel
theorem dX7_name_16 : decode cX7_name 16 = .ok (.bipush 6, 2) := by decide +kernel
theorem dX7_name_18 : decode cX7_name 18 = .ok (.if_icmp .le 14, 3) := by decide +kernel
theorem dX7_name_21 : decode cX7_name 21 = .ok (.new 60, 3) := by decide +kernel
theorem dX7_name_24 : decode cX7_name 24 = .ok (.dup, 1) := by decide +kernel
theorem dX7_name_25 : decode cX7_name 25 = .ok (.ldc_w 299, 3) := by decide +kernel
theorem dX7_name_28 : decode cX7_name 28 = .ok (.invokespecial 64, 3) := by decide +kernel
theorem dX7_name_31 : decode cX7_name 31 = .ok (.athrow, 1) := by decide +kernel
theorem dX7_name_32 : decode cX7_name 32 = .ok (.aload 4, 2) := by decide +kernel
theorem dX7_name_34 : decode cX7_name 34 = .ok (.getfield 301, 3) := by decide +kernel
theorem dX7_name_37 : decode cX7_name 37 = .ok (.iload_n 2, 1) := by decide +kernel
theorem dX7_name_38 : decode cX7_name 38 = .ok (.iaload, 1) := by decide +kernel
theorem dX7_name_39 : decode cX7_name 39 = .ok (.istore 5, 2) := by decide +kernel
theorem dX7_name_41 : decode cX7_name 41 = .ok (.aload 4, 2) := by decide +kernel
theorem dX7_name_43 : decode cX7_name 43 = .ok (.getfield 301, 3) := by decide +kernel
theorem dX7_name_46 : decode cX7_name 46 = .ok (.iload_n 2, 1) := by decide +kernel
theorem dX7_name_47 : decode cX7_name 47 = .ok (.iload_n 3, 1) := by decide +kernel
theorem dX7_name_48 : decode cX7_name 48 = .ok (.iastore, 1) := by decide +kernel
theorem dX7_name_49 : decode cX7_name 49 = .ok (.iload 5, 2) := by decide +kernel
theorem dX7_name_51 : decode cX7_name 51 = .ok (.ireturn, 1) := by decide +kernel
theorem dX7_placeOf_0 : decode cX7_placeOf 0 = .ok (.aload_n 0, 1) := by decide +kernel
theorem dX7_placeOf_1 : decode cX7_placeOf 1 = .ok (.iload_n 1, 1) := by decide +kernel
theorem dX7_placeOf_2 : decode cX7_placeOf 2 = .ok (.invokevirtual 93, 3) := by decide +kernel
theorem dX7_placeOf_5 : decode cX7_placeOf 5 = .ok (.astore_n 3, 1) := by decide +kernel
theorem dX7_placeOf_6 : decode cX7_placeOf 6 = .ok (.iload_n 2, 1) := by decide +kernel
theorem dX7_placeOf_7 : decode cX7_placeOf 7 = .ok (.invokestatic 138, 3) := by decide +kernel
theorem dX7_placeOf_10 : decode cX7_placeOf 10 = .ok (.aload_n 0, 1) := by decide +kernel
theorem dX7_placeOf_11 : decode cX7_placeOf 11 = .ok (.getfield 55, 3) := by decide +kernel
theorem dX7_placeOf_14 : decode cX7_placeOf 14 = .ok (.aload_n 3, 1) := by decide +kernel
theorem dX7_placeOf_15 : decode cX7_placeOf 15 = .ok (.iload_n 2, 1) := by decide +kernel
theorem dX7_placeOf_16 : decode cX7_placeOf 16 = .ok (.invokevirtual 304, 3) := by decide +kernel
theorem dX7_placeOf_19 : decode cX7_placeOf 19 = .ok (.istore 4, 2) := by decide +kernel
theorem dX7_placeOf_21 : decode cX7_placeOf 21 = .ok (.iload 4, 2) := by decide +kernel
theorem dX7_placeOf_23 : decode cX7_placeOf 23 = .ok (.iconst (-1), 1) := by decide +kernel
theorem dX7_placeOf_24 : decode cX7_placeOf 24 = .ok (.if_icmp .ne 14, 3) := by decide +kernel
theorem dX7_placeOf_27 : decode cX7_placeOf 27 = .ok (.new 173, 3) := by decide +kernel
theorem dX7_placeOf_30 : decode cX7_placeOf 30 = .ok (.dup, 1) := by decide +kernel
theorem dX7_placeOf_31 : decode cX7_placeOf 31 = .ok (.ldc_w 307, 3) := by decide +kernel
theorem dX7_placeOf_34 : decode cX7_placeOf 34 = .ok (.invokespecial 177, 3) := by decide +kernel
theorem dX7_placeOf_37 : decode cX7_placeOf 37 = .ok (.athrow, 1) := by decide +kernel
theorem dX7_placeOf_38 : decode cX7_placeOf 38 = .ok (.iload 4, 2) := by decide +kernel
theorem dX7_placeOf_40 : decode cX7_placeOf 40 = .ok (.ireturn, 1) := by decide +kernel
theorem dX7_values_0 : decode cX7_values 0 = .ok (.aload_n 0, 1) := by decide +kernel
theorem dX7_values_1 : decode cX7_values 1 = .ok (.iload_n 1, 1) := by decide +kernel
theorem dX7_values_2 : decode cX7_values 2 = .ok (.invokevirtual 93, 3) := by decide +kernel
theorem dX7_values_5 : decode cX7_values 5 = .ok (.astore_n 2, 1) := by decide +kernel
theorem dX7_values_6 : decode cX7_values 6 = .ok (.lconst 0, 1) := by decide +kernel
theorem dX7_values_7 : decode cX7_values 7 = .ok (.lstore_n 3, 1) := by decide +kernel
theorem dX7_values_8 : decode cX7_values 8 = .ok (.iconst 0, 1) := by decide +kernel
theorem dX7_values_9 : decode cX7_values 9 = .ok (.istore 5, 2) := by decide +kernel
theorem dX7_values_11 : decode cX7_values 11 = .ok (.iload 5, 2) := by decide +kernel
theorem dX7_values_13 : decode cX7_values 13 = .ok (.bipush 10, 2) := by decide +kernel
theorem dX7_values_15 : decode cX7_values 15 = .ok (.if_icmp .ge 20, 3) := by decide +kernel
theorem dX7_values_18 : decode cX7_values 18 = .ok (.lload_n 3, 1) := by decide +kernel
theorem dX7_values_19 : decode cX7_values 19 = .ok (.aload_n 2, 1) := by decide +kernel
theorem dX7_values_20 : decode cX7_values 20 = .ok (.getfield 145, 3) := by decide +kernel
theorem dX7_values_23 : decode cX7_values 23 = .ok (.iload 5, 2) := by decide +kernel
theorem dX7_values_25 : decode cX7_values 25 = .ok (.iaload, 1) := by decide +kernel
theorem dX7_values_26 : decode cX7_values 26 = .ok (.i2l, 1) := by decide +kernel
theorem dX7_values_27 : decode cX7_values 27 = .ok (.ladd, 1) := by decide +kernel
theorem dX7_values_28 : decode cX7_values 28 = .ok (.lstore_n 3, 1) := by decide +kernel
theorem dX7_values_29 : decode cX7_values 29 = .ok (.iinc 5 1, 3) := by decide +kernel
theorem dX7_values_32 : decode cX7_values 32 = .ok (.goto (-21), 3) := by decide +kernel
theorem dX7_values_35 : decode cX7_values 35 = .ok (.lload_n 3, 1) := by decide +kernel
theorem dX7_values_36 : decode cX7_values 36 = .ok (.lreturn, 1) := by decide +kernel
theorem dX7_covered_0 : decode cX7_covered 0 = .ok (.aload_n 0, 1) := by decide +kernel
theorem dX7_covered_1 : decode cX7_covered 1 = .ok (.iload_n 1, 1) := by decide +kernel
theorem dX7_covered_2 : decode cX7_covered 2 = .ok (.invokevirtual 93, 3) := by decide +kernel
theorem dX7_covered_5 : decode cX7_covered 5 = .ok (.astore_n 2, 1) := by decide +kernel
theorem dX7_covered_6 : decode cX7_covered 6 = .ok (.iconst 0, 1) := by decide +kernel
theorem dX7_covered_7 : decode cX7_covered 7 = .ok (.istore_n 3, 1) := by decide +kernel
theorem dX7_covered_8 : decode cX7_covered 8 = .ok (.iconst 0, 1) := by decide +kernel
theorem dX7_covered_9 : decode cX7_covered 9 = .ok (.istore 4, 2) := by decide +kernel
theorem dX7_covered_11 : decode cX7_covered 11 = .ok (.iload 4, 2) := by decide +kernel
theorem dX7_covered_13 : decode cX7_covered 13 = .ok (.bipush 10, 2) := by decide +kernel
theorem dX7_covered_15 : decode cX7_covered 15 = .ok (.if_icmp .ge 19, 3) := by decide +kernel
theorem dX7_covered_18 : decode cX7_covered 18 = .ok (.iload_n 3, 1) := by decide +kernel
theorem dX7_covered_19 : decode cX7_covered 19 = .ok (.aload_n 2, 1) := by decide +kernel
theorem dX7_covered_20 : decode cX7_covered 20 = .ok (.getfield 127, 3) := by decide +kernel
theorem dX7_covered_23 : decode cX7_covered 23 = .ok (.iload 4, 2) := by decide +kernel
theorem dX7_covered_25 : decode cX7_covered 25 = .ok (.iaload, 1) := by decide +kernel
theorem dX7_covered_26 : decode cX7_covered 26 = .ok (.iadd, 1) := by decide +kernel
theorem dX7_covered_27 : decode cX7_covered 27 = .ok (.istore_n 3, 1) := by decide +kernel
theorem dX7_covered_28 : decode cX7_covered 28 = .ok (.iinc 4 1, 3) := by decide +kernel
theorem dX7_covered_31 : decode cX7_covered 31 = .ok (.goto (-20), 3) := by decide +kernel
theorem dX7_covered_34 : decode cX7_covered 34 = .ok (.iload_n 3, 1) := by decide +kernel
theorem dX7_covered_35 : decode cX7_covered 35 = .ok (.i2f, 1) := by decide +kernel
theorem dX7_covered_36 : decode cX7_covered 36 = .ok (.ldc_w 309, 3) := by decide +kernel
theorem dX7_covered_39 : decode cX7_covered 39 = .ok (.fdiv, 1) := by decide +kernel
theorem dX7_covered_40 : decode cX7_covered 40 = .ok (.freturn, 1) := by decide +kernel
theorem dX7_meanPiece_0 : decode cX7_meanPiece 0 = .ok (.aload_n 0, 1) := by decide +kernel
theorem dX7_meanPiece_1 : decode cX7_meanPiece 1 = .ok (.iload_n 1, 1) := by decide +kernel
theorem dX7_meanPiece_2 : decode cX7_meanPiece 2 = .ok (.iload_n 2, 1) := by decide +kernel
theorem dX7_meanPiece_3 : decode cX7_meanPiece 3 = .ok (.invokevirtual 165, 3) := by decide +kernel
theorem dX7_meanPiece_6 : decode cX7_meanPiece 6 = .ok (.aload_n 0, 1) := by decide +kernel
theorem dX7_meanPiece_7 : decode cX7_meanPiece 7 = .ok (.iload_n 1, 1) := by decide +kernel
theorem dX7_meanPiece_8 : decode cX7_meanPiece 8 = .ok (.iload_n 2, 1) := by decide +kernel
theorem dX7_meanPiece_9 : decode cX7_meanPiece 9 = .ok (.invokevirtual 261, 3) := by decide +kernel
theorem dX7_meanPiece_12 : decode cX7_meanPiece 12 = .ok (.aload_n 0, 1) := by decide +kernel
theorem dX7_meanPiece_13 : decode cX7_meanPiece 13 = .ok (.getfield 34, 3) := by decide +kernel
theorem dX7_meanPiece_16 : decode cX7_meanPiece 16 = .ok (.getfield 248, 3) := by decide +kernel
theorem dX7_meanPiece_19 : decode cX7_meanPiece 19 = .ok (.ifCond .ne 14, 3) := by decide +kernel
theorem dX7_meanPiece_22 : decode cX7_meanPiece 22 = .ok (.new 310, 3) := by decide +kernel
theorem dX7_meanPiece_25 : decode cX7_meanPiece 25 = .ok (.dup, 1) := by decide +kernel
theorem dX7_meanPiece_26 : decode cX7_meanPiece 26 = .ok (.ldc_w 312, 3) := by decide +kernel
theorem dX7_meanPiece_29 : decode cX7_meanPiece 29 = .ok (.invokespecial 314, 3) := by decide +kernel
theorem dX7_meanPiece_32 : decode cX7_meanPiece 32 = .ok (.athrow, 1) := by decide +kernel
theorem dX7_meanPiece_33 : decode cX7_meanPiece 33 = .ok (.iconst 0, 1) := by decide +kernel
theorem dX7_meanPiece_34 : decode cX7_meanPiece 34 = .ok (.istore_n 3, 1) := by decide +kernel
theorem dX7_meanPiece_35 : decode cX7_meanPiece 35 = .ok (.iconst 0, 1) := by decide +kernel
theorem dX7_meanPiece_36 : decode cX7_meanPiece 36 = .ok (.istore 4, 2) := by decide +kernel
theorem dX7_meanPiece_38 : decode cX7_meanPiece 38 = .ok (.iload 4, 2) := by decide +kernel
theorem dX7_meanPiece_40 : decode cX7_meanPiece 40 = .ok (.aload_n 0, 1) := by decide +kernel
theorem dX7_meanPiece_41 : decode cX7_meanPiece 41 = .ok (.getfield 34, 3) := by decide +kernel
theorem dX7_meanPiece_44 : decode cX7_meanPiece 44 = .ok (.getfield 248, 3) := by decide +kernel
theorem dX7_meanPiece_47 : decode cX7_meanPiece 47 = .ok (.if_icmp .ge 22, 3) := by decide +kernel
theorem dX7_meanPiece_50 : decode cX7_meanPiece 50 = .ok (.iload_n 3, 1) := by decide +kernel
theorem dX7_meanPiece_51 : decode cX7_meanPiece 51 = .ok (.aload_n 0, 1) := by decide +kernel
theorem dX7_meanPiece_52 : decode cX7_meanPiece 52 = .ok (.getfield 34, 3) := by decide +kernel
theorem dX7_meanPiece_55 : decode cX7_meanPiece 55 = .ok (.getfield 267, 3) := by decide +kernel
theorem dX7_meanPiece_58 : decode cX7_meanPiece 58 = .ok (.iload 4, 2) := by decide +kernel
theorem dX7_meanPiece_60 : decode cX7_meanPiece 60 = .ok (.iaload, 1) := by decide +kernel
theorem dX7_meanPiece_61 : decode cX7_meanPiece 61 = .ok (.iadd, 1) := by decide +kernel
theorem dX7_meanPiece_62 : decode cX7_meanPiece 62 = .ok (.istore_n 3, 1) := by decide +kernel
theorem dX7_meanPiece_63 : decode cX7_meanPiece 63 = .ok (.iinc 4 1, 3) := by decide +kernel
theorem dX7_meanPiece_66 : decode cX7_meanPiece 66 = .ok (.goto (-28), 3) := by decide +kernel
theorem dX7_meanPiece_69 : decode cX7_meanPiece 69 = .ok (.iload_n 3, 1) := by decide +kernel
theorem dX7_meanPiece_70 : decode cX7_meanPiece 70 = .ok (.i2d, 1) := by decide +kernel
theorem dX7_meanPiece_71 : decode cX7_meanPiece 71 = .ok (.aload_n 0, 1) := by decide +kernel
theorem dX7_meanPiece_72 : decode cX7_meanPiece 72 = .ok (.getfield 34, 3) := by decide +kernel
theorem dX7_meanPiece_75 : decode cX7_meanPiece 75 = .ok (.getfield 248, 3) := by decide +kernel
theorem dX7_meanPiece_78 : decode cX7_meanPiece 78 = .ok (.i2d, 1) := by decide +kernel
theorem dX7_meanPiece_79 : decode cX7_meanPiece 79 = .ok (.ddiv, 1) := by decide +kernel
theorem dX7_meanPiece_80 : decode cX7_meanPiece 80 = .ok (.dreturn, 1) := by decide +kernel
theorem dX7_isSound_0 : decode cX7_isSound 0 = .ok (.iconst 0, 1) := by decide +kernel
theorem dX7_isSound_1 : decode cX7_isSound 1 = .ok (.istore_n 1, 1) := by decide +kernel
theorem dX7_isSound_2 : decode cX7_isSound 2 = .ok (.iload_n 1, 1) := by decide +kernel
theorem dX7_isSound_3 : decode cX7_isSound 3 = .ok (.iconst 3, 1) := by decide +kernel
theorem dX7_isSound_4 : decode cX7_isSound 4 = .ok (.if_icmp .ge 35, 3) := by decide +kernel
theorem dX7_isSound_7 : decode cX7_isSound 7 = .ok (.iload_n 1, 1) := by decide +kernel
theorem dX7_isSound_8 : decode cX7_isSound 8 = .ok (.iconst 1, 1) := by decide +kernel
theorem dX7_isSound_9 : decode cX7_isSound 9 = .ok (.iadd, 1) := by decide +kernel
theorem dX7_isSound_10 : decode cX7_isSound 10 = .ok (.istore_n 2, 1) := by decide +kernel
theorem dX7_isSound_11 : decode cX7_isSound 11 = .ok (.iload_n 2, 1) := by decide +kernel
theorem dX7_isSound_12 : decode cX7_isSound 12 = .ok (.iconst 3, 1) := by decide +kernel
theorem dX7_isSound_13 : decode cX7_isSound 13 = .ok (.if_icmp .ge 20, 3) := by decide +kernel
theorem dX7_isSound_16 : decode cX7_isSound 16 = .ok (.aload_n 0, 1) := by decide +kernel
theorem dX7_isSound_17 : decode cX7_isSound 17 = .ok (.iload_n 1, 1) := by decide +kernel
theorem dX7_isSound_18 : decode cX7_isSound 18 = .ok (.iload_n 2, 1) := by decide +kernel
theorem dX7_isSound_19 : decode cX7_isSound 19 = .ok (.invokevirtual 315, 3) := by decide +kernel
theorem dX7_isSound_22 : decode cX7_isSound 22 = .ok (.ifCond .ne 5, 3) := by decide +kernel
theorem dX7_isSound_25 : decode cX7_isSound 25 = .ok (.iconst 0, 1) := by decide +kernel
theorem dX7_isSound_26 : decode cX7_isSound 26 = .ok (.ireturn, 1) := by decide +kernel
theorem dX7_isSound_27 : decode cX7_isSound 27 = .ok (.iinc 2 1, 3) := by decide +kernel
theorem dX7_isSound_30 : decode cX7_isSound 30 = .ok (.goto (-19), 3) := by decide +kernel
theorem dX7_isSound_33 : decode cX7_isSound 33 = .ok (.iinc 1 1, 3) := by decide +kernel
theorem dX7_isSound_36 : decode cX7_isSound 36 = .ok (.goto (-34), 3) := by decide +kernel
theorem dX7_isSound_39 : decode cX7_isSound 39 = .ok (.iconst 0, 1) := by decide +kernel
theorem dX7_isSound_40 : decode cX7_isSound 40 = .ok (.istore_n 1, 1) := by decide +kernel
theorem dX7_isSound_41 : decode cX7_isSound 41 = .ok (.iload_n 1, 1) := by decide +kernel
theorem dX7_isSound_42 : decode cX7_isSound 42 = .ok (.iconst 3, 1) := by decide +kernel
theorem dX7_isSound_43 : decode cX7_isSound 43 = .ok (.if_icmp .ge 42, 3) := by decide +kernel
theorem dX7_isSound_46 : decode cX7_isSound 46 = .ok (.aload_n 0, 1) := by decide +kernel
theorem dX7_isSound_47 : decode cX7_isSound 47 = .ok (.iload_n 1, 1) := by decide +kernel
theorem dX7_isSound_48 : decode cX7_isSound 48 = .ok (.invokevirtual 93, 3) := by decide +kernel
theorem dX7_isSound_51 : decode cX7_isSound 51 = .ok (.astore_n 2, 1) := by decide +kernel
theorem dX7_isSound_52 : decode cX7_isSound 52 = .ok (.aload_n 2, 1) := by decide +kernel
theorem dX7_isSound_53 : decode cX7_isSound 53 = .ok (.invokevirtual 319, 3) := by decide +kernel
theorem dX7_isSound_56 : decode cX7_isSound 56 = .ok (.ifCond .eq 21, 3) := by decide +kernel
theorem dX7_isSound_59 : decode cX7_isSound 59 = .ok (.aload_n 0, 1) := by decide +kernel
theorem dX7_isSound_60 : decode cX7_isSound 60 = .ok (.getfield 67, 3) := by decide +kernel
theorem dX7_isSound_63 : decode cX7_isSound 63 = .ok (.ifCond .ne 16, 3) := by decide +kernel
theorem dX7_isSound_66 : decode cX7_isSound 66 = .ok (.aload_n 2, 1) := by decide +kernel
theorem dX7_isSound_67 : decode cX7_isSound 67 = .ok (.aload_n 0, 1) := by decide +kernel
theorem dX7_isSound_68 : decode cX7_isSound 68 = .ok (.getfield 71, 3) := by decide +kernel
theorem dX7_isSound_71 : decode cX7_isSound 71 = .ok (.invokevirtual 323, 3) := by decide +kernel
theorem dX7_isSound_74 : decode cX7_isSound 74 = .ok (.ifCond .ne 5, 3) := by decide +kernel
theorem dX7_isSound_77 : decode cX7_isSound 77 = .ok (.iconst 0, 1) := by decide +kernel
theorem dX7_isSound_78 : decode cX7_isSound 78 = .ok (.ireturn, 1) := by decide +kernel
theorem dX7_isSound_79 : decode cX7_isSound 79 = .ok (.iinc 1 1, 3) := by decide +kernel
theorem dX7_isSound_82 : decode cX7_isSound 82 = .ok (.goto (-41), 3) := by decide +kernel
theorem dX7_isSound_85 : decode cX7_isSound 85 = .ok (.iconst 1, 1) := by decide +kernel
theorem dX7_isSound_86 : decode cX7_isSound 86 = .ok (.ireturn, 1) := by decide +kernel
theorem dX7_layerOf_0 : decode cX7_layerOf 0 = .ok (.iload_n 1, 1) := by decide +kernel
theorem dX7_layerOf_1 : decode cX7_layerOf 1 = .ok (.ifCond .lt 17, 3) := by decide +kernel
theorem dX7_layerOf_4 : decode cX7_layerOf 4 = .ok (.iload_n 1, 1) := by decide +kernel
theorem dX7_layerOf_5 : decode cX7_layerOf 5 = .ok (.iconst 3, 1) := by decide +kernel
theorem dX7_layerOf_6 : decode cX7_layerOf 6 = .ok (.if_icmp .ge 12, 3) := by decide +kernel
theorem dX7_layerOf_9 : decode cX7_layerOf 9 = .ok (.aload_n 0, 1) := by decide +kernel
theorem dX7_layerOf_10 : decode cX7_layerOf 10 = .ok (.getfield 11, 3) := by decide +kernel
theorem dX7_layerOf_13 : decode cX7_layerOf 13 = .ok (.iload_n 1, 1) := by decide +kernel
theorem dX7_layerOf_14 : decode cX7_layerOf 14 = .ok (.aaload, 1) := by decide +kernel
theorem dX7_layerOf_15 : decode cX7_layerOf 15 = .ok (.goto 4, 3) := by decide +kernel
theorem dX7_layerOf_18 : decode cX7_layerOf 18 = .ok (.aconst_null, 1) := by decide +kernel
theorem dX7_layerOf_19 : decode cX7_layerOf 19 = .ok (.astore_n 2, 1) := by decide +kernel
theorem dX7_layerOf_20 : decode cX7_layerOf 20 = .ok (.aload_n 2, 1) := by decide +kernel
theorem dX7_layerOf_21 : decode cX7_layerOf 21 = .ok (.ifnonnull 14, 3) := by decide +kernel
theorem dX7_layerOf_24 : decode cX7_layerOf 24 = .ok (.new 232, 3) := by decide +kernel
theorem dX7_layerOf_27 : decode cX7_layerOf 27 = .ok (.dup, 1) := by decide +kernel
theorem dX7_layerOf_28 : decode cX7_layerOf 28 = .ok (.ldc_w 326, 3) := by decide +kernel
theorem dX7_layerOf_31 : decode cX7_layerOf 31 = .ok (.invokespecial 236, 3) := by decide +kernel
theorem dX7_layerOf_34 : decode cX7_layerOf 34 = .ok (.athrow, 1) := by decide +kernel
theorem dX7_layerOf_35 : decode cX7_layerOf 35 = .ok (.aload_n 2, 1) := by decide +kernel
theorem dX7_layerOf_36 : decode cX7_layerOf 36 = .ok (.areturn, 1) := by decide +kernel
theorem dX7_ruleOf_0 : decode cX7_ruleOf 0 = .ok (.iload_n 1, 1) := by decide +kernel
theorem dX7_ruleOf_1 : decode cX7_ruleOf 1 = .ok (.ifCond .lt 18, 3) := by decide +kernel
theorem dX7_ruleOf_4 : decode cX7_ruleOf 4 = .ok (.iload_n 1, 1) := by decide +kernel
theorem dX7_ruleOf_5 : decode cX7_ruleOf 5 = .ok (.bipush 6, 2) := by decide +kernel
theorem dX7_ruleOf_7 : decode cX7_ruleOf 7 = .ok (.if_icmp .ge 12, 3) := by decide +kernel
theorem dX7_ruleOf_10 : decode cX7_ruleOf 10 = .ok (.aload_n 0, 1) := by decide +kernel
theorem dX7_ruleOf_11 : decode cX7_ruleOf 11 = .ok (.getfield 17, 3) := by decide +kernel
theorem dX7_ruleOf_14 : decode cX7_ruleOf 14 = .ok (.iload_n 1, 1) := by decide +kernel
theorem dX7_ruleOf_15 : decode cX7_ruleOf 15 = .ok (.aaload, 1) := by decide +kernel
theorem dX7_ruleOf_16 : decode cX7_ruleOf 16 = .ok (.goto 4, 3) := by decide +kernel
theorem dX7_ruleOf_19 : decode cX7_ruleOf 19 = .ok (.aconst_null, 1) := by decide +kernel
theorem dX7_ruleOf_20 : decode cX7_ruleOf 20 = .ok (.astore_n 2, 1) := by decide +kernel
theorem dX7_ruleOf_21 : decode cX7_ruleOf 21 = .ok (.aload_n 2, 1) := by decide +kernel
theorem dX7_ruleOf_22 : decode cX7_ruleOf 22 = .ok (.ifnonnull 14, 3) := by decide +kernel
theorem dX7_ruleOf_25 : decode cX7_ruleOf 25 = .ok (.new 173, 3) := by decide +kernel
theorem dX7_ruleOf_28 : decode cX7_ruleOf 28 = .ok (.dup, 1) := by decide +kernel
theorem dX7_ruleOf_29 : decode cX7_ruleOf 29 = .ok (.ldc_w 328, 3) := by decide +kernel
theorem dX7_ruleOf_32 : decode cX7_ruleOf 32 = .ok (.invokespecial 177, 3) := by decide +kernel
theorem dX7_ruleOf_35 : decode cX7_ruleOf 35 = .ok (.athrow, 1) := by decide +kernel
theorem dX7_ruleOf_36 : decode cX7_ruleOf 36 = .ok (.aload_n 2, 1) := by decide +kernel
theorem dX7_ruleOf_37 : decode cX7_ruleOf 37 = .ok (.areturn, 1) := by decide +kernel
theorem dX7_versionOf_0 : decode cX7_versionOf 0 = .ok (.iload_n 1, 1) := by decide +kernel
theorem dX7_versionOf_1 : decode cX7_versionOf 1 = .ok (.ifCond .lt 17, 3) := by decide +kernel
theorem dX7_versionOf_4 : decode cX7_versionOf 4 = .ok (.iload_n 1, 1) := by decide +kernel
theorem dX7_versionOf_5 : decode cX7_versionOf 5 = .ok (.iconst 3, 1) := by decide +kernel
theorem dX7_versionOf_6 : decode cX7_versionOf 6 = .ok (.if_icmp .ge 12, 3) := by decide +kernel
theorem dX7_versionOf_9 : decode cX7_versionOf 9 = .ok (.aload_n 0, 1) := by decide +kernel
theorem dX7_versionOf_10 : decode cX7_versionOf 10 = .ok (.getfield 23, 3) := by decide +kernel
theorem dX7_versionOf_13 : decode cX7_versionOf 13 = .ok (.iload_n 1, 1) := by decide +kernel
theorem dX7_versionOf_14 : decode cX7_versionOf 14 = .ok (.aaload, 1) := by decide +kernel
theorem dX7_versionOf_15 : decode cX7_versionOf 15 = .ok (.goto 4, 3) := by decide +kernel
theorem dX7_versionOf_18 : decode cX7_versionOf 18 = .ok (.aconst_null, 1) := by decide +kernel
theorem dX7_versionOf_19 : decode cX7_versionOf 19 = .ok (.astore_n 2, 1) := by decide +kernel
theorem dX7_versionOf_20 : decode cX7_versionOf 20 = .ok (.aload_n 2, 1) := by decide +kernel
theorem dX7_versionOf_21 : decode cX7_versionOf 21 = .ok (.ifnonnull 14, 3) := by decide +kernel
theorem dX7_versionOf_24 : decode cX7_versionOf 24 = .ok (.new 173, 3) := by decide +kernel
theorem dX7_versionOf_27 : decode cX7_versionOf 27 = .ok (.dup, 1) := by decide +kernel
theorem dX7_versionOf_28 : decode cX7_versionOf 28 = .ok (.ldc_w 330, 3) := by decide +kernel
theorem dX7_versionOf_31 : decode cX7_versionOf 31 = .ok (.invokespecial 177, 3) := by decide +kernel
theorem dX7_versionOf_34 : decode cX7_versionOf 34 = .ok (.athrow, 1) := by decide +kernel
theorem dX7_versionOf_35 : decode cX7_versionOf 35 = .ok (.aload_n 2, 1) := by decide +kernel
theorem dX7_versionOf_36 : decode cX7_versionOf 36 = .ok (.areturn, 1) := by decide +kernel
theorem dX7_layOver_0 : decode cX7_layOver 0 = .ok (.aload_n 0, 1) := by decide +kernel
theorem dX7_layOver_1 : decode cX7_layOver 1 = .ok (.getfield 34, 3) := by decide +kernel
theorem dX7_layOver_4 : decode cX7_layOver 4 = .ok (.aload_n 0, 1) := by decide +kernel
theorem dX7_layOver_5 : decode cX7_layOver 5 = .ok (.iload_n 1, 1) := by decide +kernel
theorem dX7_layOver_6 : decode cX7_layOver 6 = .ok (.invokevirtual 93, 3) := by decide +kernel
theorem dX7_layOver_9 : decode cX7_layOver 9 = .ok (.getfield 135, 3) := by decide +kernel
theorem dX7_layOver_12 : decode cX7_layOver 12 = .ok (.aload_n 0, 1) := by decide +kernel
theorem dX7_layOver_13 : decode cX7_layOver 13 = .ok (.iload_n 2, 1) := by decide +kernel
theorem dX7_layOver_14 : decode cX7_layOver 14 = .ok (.invokevirtual 93, 3) := by decide +kernel
theorem dX7_layOver_17 : decode cX7_layOver 17 = .ok (.getfield 135, 3) := by decide +kernel
theorem dX7_layOver_20 : decode cX7_layOver 20 = .ok (.invokevirtual 244, 3) := by decide +kernel
theorem dX7_layOver_23 : decode cX7_layOver 23 = .ok (.return_, 1) := by decide +kernel
theorem dX7_addsUp_0 : decode cX7_addsUp 0 = .ok (.aload_n 0, 1) := by decide +kernel
theorem dX7_addsUp_1 : decode cX7_addsUp 1 = .ok (.iload_n 1, 1) := by decide +kernel
theorem dX7_addsUp_2 : decode cX7_addsUp 2 = .ok (.iload_n 2, 1) := by decide +kernel
theorem dX7_addsUp_3 : decode cX7_addsUp 3 = .ok (.invokevirtual 261, 3) := by decide +kernel
theorem dX7_addsUp_6 : decode cX7_addsUp 6 = .ok (.iconst 0, 1) := by decide +kernel
theorem dX7_addsUp_7 : decode cX7_addsUp 7 = .ok (.istore_n 3, 1) := by decide +kernel
theorem dX7_addsUp_8 : decode cX7_addsUp 8 = .ok (.iload_n 3, 1) := by decide +kernel
theorem dX7_addsUp_9 : decode cX7_addsUp 9 = .ok (.bipush 10, 2) := by decide +kernel
theorem dX7_addsUp_11 : decode cX7_addsUp 11 = .ok (.if_icmp .ge 67, 3) := by decide +kernel
theorem dX7_addsUp_14 : decode cX7_addsUp 14 = .ok (.aload_n 0, 1) := by decide +kernel
theorem dX7_addsUp_15 : decode cX7_addsUp 15 = .ok (.getfield 34, 3) := by decide +kernel
theorem dX7_addsUp_18 : decode cX7_addsUp 18 = .ok (.aload_n 0, 1) := by decide +kernel
theorem dX7_addsUp_19 : decode cX7_addsUp 19 = .ok (.getfield 34, 3) := by decide +kernel
theorem dX7_addsUp_22 : decode cX7_addsUp 22 = .ok (.getfield 271, 3) := by decide +kernel
theorem dX7_addsUp_25 : decode cX7_addsUp 25 = .ok (.iload_n 3, 1) := by decide +kernel
theorem dX7_addsUp_26 : decode cX7_addsUp 26 = .ok (.invokevirtual 332, 3) := by decide +kernel
theorem dX7_addsUp_29 : decode cX7_addsUp 29 = .ok (.aload_n 0, 1) := by decide +kernel
theorem dX7_addsUp_30 : decode cX7_addsUp 30 = .ok (.iload_n 1, 1) := by decide +kernel
theorem dX7_addsUp_31 : decode cX7_addsUp 31 = .ok (.invokevirtual 93, 3) := by decide +kernel
theorem dX7_addsUp_34 : decode cX7_addsUp 34 = .ok (.getfield 127, 3) := by decide +kernel
theorem dX7_addsUp_37 : decode cX7_addsUp 37 = .ok (.iload_n 3, 1) := by decide +kernel
theorem dX7_addsUp_38 : decode cX7_addsUp 38 = .ok (.iaload, 1) := by decide +kernel
theorem dX7_addsUp_39 : decode cX7_addsUp 39 = .ok (.if_icmp .ne 31, 3) := by decide +kernel
theorem dX7_addsUp_42 : decode cX7_addsUp 42 = .ok (.aload_n 0, 1) := by decide +kernel
theorem dX7_addsUp_43 : decode cX7_addsUp 43 = .ok (.getfield 34, 3) := by decide +kernel
theorem dX7_addsUp_46 : decode cX7_addsUp 46 = .ok (.aload_n 0, 1) := by decide +kernel
theorem dX7_addsUp_47 : decode cX7_addsUp 47 = .ok (.getfield 34, 3) := by decide +kernel
theorem dX7_addsUp_50 : decode cX7_addsUp 50 = .ok (.getfield 268, 3) := by decide +kernel
theorem dX7_addsUp_53 : decode cX7_addsUp 53 = .ok (.iload_n 3, 1) := by decide +kernel
theorem dX7_addsUp_54 : decode cX7_addsUp 54 = .ok (.invokevirtual 332, 3) := by decide +kernel
theorem dX7_addsUp_57 : decode cX7_addsUp 57 = .ok (.aload_n 0, 1) := by decide +kernel
theorem dX7_addsUp_58 : decode cX7_addsUp 58 = .ok (.iload_n 2, 1) := by decide +kernel
theorem dX7_addsUp_59 : decode cX7_addsUp 59 = .ok (.invokevirtual 93, 3) := by decide +kernel
theorem dX7_addsUp_62 : decode cX7_addsUp 62 = .ok (.getfield 127, 3) := by decide +kernel
theorem dX7_addsUp_65 : decode cX7_addsUp 65 = .ok (.iload_n 3, 1) := by decide +kernel
theorem dX7_addsUp_66 : decode cX7_addsUp 66 = .ok (.iaload, 1) := by decide +kernel
theorem dX7_addsUp_67 : decode cX7_addsUp 67 = .ok (.if_icmp .eq 5, 3) := by decide +kernel
theorem dX7_addsUp_70 : decode cX7_addsUp 70 = .ok (.iconst 0, 1) := by decide +kernel
theorem dX7_addsUp_71 : decode cX7_addsUp 71 = .ok (.ireturn, 1) := by decide +kernel
theorem dX7_addsUp_72 : decode cX7_addsUp 72 = .ok (.iinc 3 1, 3) := by decide +kernel
theorem dX7_addsUp_75 : decode cX7_addsUp 75 = .ok (.goto (-67), 3) := by decide +kernel
theorem dX7_addsUp_78 : decode cX7_addsUp 78 = .ok (.iconst 1, 1) := by decide +kernel
theorem dX7_addsUp_79 : decode cX7_addsUp 79 = .ok (.ireturn, 1) := by decide +kernel
theorem dX7_bestMatch_0 : decode cX7_bestMatch 0 = .ok (.iconst (-1), 1) := by decide +kernel
theorem dX7_bestMatch_1 : decode cX7_bestMatch 1 = .ok (.istore_n 3, 1) := by decide +kernel
theorem dX7_bestMatch_2 : decode cX7_bestMatch 2 = .ok (.iconst 0, 1) := by decide +kernel
theorem dX7_bestMatch_3 : decode cX7_bestMatch 3 = .ok (.istore 4, 2) := by decide +kernel
theorem dX7_bestMatch_5 : decode cX7_bestMatch 5 = .ok (.iconst 0, 1) := by decide +kernel
theorem dX7_bestMatch_6 : decode cX7_bestMatch 6 = .ok (.istore 5, 2) := by decide +kernel
theorem dX7_bestMatch_8 : decode cX7_bestMatch 8 = .ok (.iload 5, 2) := by decide +kernel
theorem dX7_bestMatch_10 : decode cX7_bestMatch 10 = .ok (.bipush 10, 2) := by decide +kernel
theorem dX7_bestMatch_12 : decode cX7_bestMatch 12 = .ok (.if_icmp .ge 33, 3) := by decide +kernel
theorem dX7_bestMatch_15 : decode cX7_bestMatch 15 = .ok (.aload_n 0, 1) := by decide +kernel
theorem dX7_bestMatch_16 : decode cX7_bestMatch 16 = .ok (.iload_n 1, 1) := by decide +kernel
theorem dX7_bestMatch_17 : decode cX7_bestMatch 17 = .ok (.aload_n 2, 1) := by decide +kernel
theorem dX7_bestMatch_18 : decode cX7_bestMatch 18 = .ok (.iload 5, 2) := by decide +kernel
theorem dX7_bestMatch_20 : decode cX7_bestMatch 20 = .ok (.invokestatic 283, 3) := by decide +kernel
theorem dX7_bestMatch_23 : decode cX7_bestMatch 23 = .ok (.istore 6, 2) := by decide +kernel
theorem dX7_bestMatch_25 : decode cX7_bestMatch 25 = .ok (.iload 6, 2) := by decide +kernel
theorem dX7_bestMatch_27 : decode cX7_bestMatch 27 = .ok (.iload 4, 2) := by decide +kernel
theorem dX7_bestMatch_29 : decode cX7_bestMatch 29 = .ok (.if_icmp .le 10, 3) := by decide +kernel
theorem dX7_bestMatch_32 : decode cX7_bestMatch 32 = .ok (.iload 5, 2) := by decide +kernel
theorem dX7_bestMatch_34 : decode cX7_bestMatch 34 = .ok (.istore_n 3, 1) := by decide +kernel
theorem dX7_bestMatch_35 : decode cX7_bestMatch 35 = .ok (.iload 6, 2) := by decide +kernel
theorem dX7_bestMatch_37 : decode cX7_bestMatch 37 = .ok (.istore 4, 2) := by decide +kernel
theorem dX7_bestMatch_39 : decode cX7_bestMatch 39 = .ok (.iinc 5 1, 3) := by decide +kernel
theorem dX7_bestMatch_42 : decode cX7_bestMatch 42 = .ok (.goto (-34), 3) := by decide +kernel
theorem dX7_bestMatch_45 : decode cX7_bestMatch 45 = .ok (.iload_n 3, 1) := by decide +kernel
theorem dX7_bestMatch_46 : decode cX7_bestMatch 46 = .ok (.ireturn, 1) := by decide +kernel
theorem dX7_commonSize_0 : decode cX7_commonSize 0 = .ok (.iconst 0, 1) := by decide +kernel
theorem dX7_commonSize_1 : decode cX7_commonSize 1 = .ok (.istore 4, 2) := by decide +kernel
theorem dX7_commonSize_3 : decode cX7_commonSize 3 = .ok (.iconst 0, 1) := by decide +kernel
theorem dX7_commonSize_4 : decode cX7_commonSize 4 = .ok (.istore 5, 2) := by decide +kernel
theorem dX7_commonSize_6 : decode cX7_commonSize 6 = .ok (.iload 5, 2) := by decide +kernel
theorem dX7_commonSize_8 : decode cX7_commonSize 8 = .ok (.sipush 256, 3) := by decide +kernel
theorem dX7_commonSize_11 : decode cX7_commonSize 11 = .ok (.if_icmp .ge 34, 3) := by decide +kernel
theorem dX7_commonSize_14 : decode cX7_commonSize 14 = .ok (.aload_n 0, 1) := by decide +kernel
theorem dX7_commonSize_15 : decode cX7_commonSize 15 = .ok (.getfield 135, 3) := by decide +kernel
theorem dX7_commonSize_18 : decode cX7_commonSize 18 = .ok (.iload 5, 2) := by decide +kernel
theorem dX7_commonSize_20 : decode cX7_commonSize 20 = .ok (.iaload, 1) := by decide +kernel
theorem dX7_commonSize_21 : decode cX7_commonSize 21 = .ok (.iload_n 1, 1) := by decide +kernel
theorem dX7_commonSize_22 : decode cX7_commonSize 22 = .ok (.if_icmp .ne 17, 3) := by decide +kernel
theorem dX7_commonSize_25 : decode cX7_commonSize 25 = .ok (.aload_n 2, 1) := by decide +kernel
theorem dX7_commonSize_26 : decode cX7_commonSize 26 = .ok (.getfield 135, 3) := by decide +kernel
theorem dX7_commonSize_29 : decode cX7_commonSize 29 = .ok (.iload 5, 2) := by decide +kernel
theorem dX7_commonSize_31 : decode cX7_commonSize 31 = .ok (.iaload, 1) := by decide +kernel
theorem dX7_commonSize_32 : decode cX7_commonSize 32 = .ok (.iload_n 3, 1) := by decide +kernel
theorem dX7_commonSize_33 : decode cX7_commonSize 33 = .ok (.if_icmp .ne 6, 3) := by decide +kernel
theorem dX7_commonSize_36 : decode cX7_commonSize 36 = .ok (.iinc 4 1, 3) := by decide +kernel
theorem dX7_commonSize_39 : decode cX7_commonSize 39 = .ok (.iinc 5 1, 3) := by decide +kernel
theorem dX7_commonSize_42 : decode cX7_commonSize 42 = .ok (.goto (-36), 3) := by decide +kernel
theorem dX7_commonSize_45 : decode cX7_commonSize 45 = .ok (.iload 4, 2) := by decide +kernel
theorem dX7_commonSize_47 : decode cX7_commonSize 47 = .ok (.ireturn, 1) := by decide +kernel
theorem dX7_needSession_0 : decode cX7_needSession 0 = .ok (.aload_n 0, 1) := by decide +kernel
theorem dX7_needSession_1 : decode cX7_needSession 1 = .ok (.getfield 67, 3) := by decide +kernel
theorem dX7_needSession_4 : decode cX7_needSession 4 = .ok (.ifCond .ne 14, 3) := by decide +kernel
theorem dX7_needSession_7 : decode cX7_needSession 7 = .ok (.new 75, 3) := by decide +kernel
theorem dX7_needSession_10 : decode cX7_needSession 10 = .ok (.dup, 1) := by decide +kernel
theorem dX7_needSession_11 : decode cX7_needSession 11 = .ok (.ldc_w 336, 3) := by decide +kernel
theorem dX7_needSession_14 : decode cX7_needSession 14 = .ok (.invokespecial 79, 3) := by decide +kernel
theorem dX7_needSession_17 : decode cX7_needSession 17 = .ok (.athrow, 1) := by decide +kernel
theorem dX7_needSession_18 : decode cX7_needSession 18 = .ok (.return_, 1) := by decide +kernel
theorem dX7_needTwoLayers_0 : decode cX7_needTwoLayers 0 = .ok (.iload_n 1, 1) := by decide +kernel
theorem dX7_needTwoLayers_1 : decode cX7_needTwoLayers 1 = .ok (.ifCond .lt 22, 3) := by decide +kernel
theorem dX7_needTwoLayers_4 : decode cX7_needTwoLayers 4 = .ok (.iload_n 1, 1) := by decide +kernel
theorem dX7_needTwoLayers_5 : decode cX7_needTwoLayers 5 = .ok (.iconst 3, 1) := by decide +kernel
theorem dX7_needTwoLayers_6 : decode cX7_needTwoLayers 6 = .ok (.if_icmp .ge 17, 3) := by decide +kernel
theorem dX7_needTwoLayers_9 : decode cX7_needTwoLayers 9 = .ok (.iload_n 2, 1) := by decide +kernel
theorem dX7_needTwoLayers_10 : decode cX7_needTwoLayers 10 = .ok (.ifCond .lt 13, 3) := by decide +kernel
theorem dX7_needTwoLayers_13 : decode cX7_needTwoLayers 13 = .ok (.iload_n 2, 1) := by decide +kernel
theorem dX7_needTwoLayers_14 : decode cX7_needTwoLayers 14 = .ok (.iconst 3, 1) := by decide +kernel
theorem dX7_needTwoLayers_15 : decode cX7_needTwoLayers 15 = .ok (.if_icmp .ge 8, 3) := by decide +kernel
theorem dX7_needTwoLayers_18 : decode cX7_needTwoLayers 18 = .ok (.iload_n 1, 1) := by decide +kernel
theorem dX7_needTwoLayers_19 : decode cX7_needTwoLayers 19 = .ok (.iload_n 2, 1) := by decide +kernel
theorem dX7_needTwoLayers_20 : decode cX7_needTwoLayers 20 = .ok (.if_icmp .ne 14, 3) := by decide +kernel
theorem dX7_needTwoLayers_23 : decode cX7_needTwoLayers 23 = .ok (.new 232, 3) := by decide +kernel
theorem dX7_needTwoLayers_26 : decode cX7_needTwoLayers 26 = .ok (.dup, 1) := by decide +kernel
theorem dX7_needTwoLayers_27 : decode cX7_needTwoLayers 27 = .ok (.ldc_w 338, 3) := by decide +kernel
theorem dX7_needTwoLayers_30 : decode cX7_needTwoLayers 30 = .ok (.invokespecial 236, 3) := by decide +kernel
theorem dX7_needTwoLayers_33 : decode cX7_needTwoLayers 33 = .ok (.athrow, 1) := by decide +kernel
theorem dX7_needTwoLayers_34 : decode cX7_needTwoLayers 34 = .ok (.return_, 1) := by decide +kernel
theorem dX7_needPiece_0 : decode cX7_needPiece 0 = .ok (.iload_n 1, 1) := by decide +kernel
theorem dX7_needPiece_1 : decode cX7_needPiece 1 = .ok (.ifCond .lt 14, 3) := by decide +kernel
theorem dX7_needPiece_4 : decode cX7_needPiece 4 = .ok (.iload_n 1, 1) := by decide +kernel
theorem dX7_needPiece_5 : decode cX7_needPiece 5 = .ok (.aload_n 0, 1) := by decide +kernel
theorem dX7_needPiece_6 : decode cX7_needPiece 6 = .ok (.getfield 34, 3) := by decide +kernel
theorem dX7_needPiece_9 : decode cX7_needPiece 9 = .ok (.getfield 248, 3) := by decide +kernel
theorem dX7_needPiece_12 : decode cX7_needPiece 12 = .ok (.if_icmp .lt 14, 3) := by decide +kernel
theorem dX7_needPiece_15 : decode cX7_needPiece 15 = .ok (.new 173, 3) := by decide +kernel
theorem dX7_needPiece_18 : decode cX7_needPiece 18 = .ok (.dup, 1) := by decide +kernel
theorem dX7_needPiece_19 : decode cX7_needPiece 19 = .ok (.ldc_w 340, 3) := by decide +kernel
theorem dX7_needPiece_22 : decode cX7_needPiece 22 = .ok (.invokespecial 177, 3) := by decide +kernel
theorem dX7_needPiece_25 : decode cX7_needPiece 25 = .ok (.athrow, 1) := by decide +kernel
theorem dX7_needPiece_26 : decode cX7_needPiece 26 = .ok (.return_, 1) := by decide +kernel
theorem dX7_needTime_0 : decode cX7_needTime 0 = .ok (.iload_n 1, 1) := by decide +kernel
theorem dX7_needTime_1 : decode cX7_needTime 1 = .ok (.ifCond .lt 11, 3) := by decide +kernel
theorem dX7_needTime_4 : decode cX7_needTime 4 = .ok (.iload_n 1, 1) := by decide +kernel
theorem dX7_needTime_5 : decode cX7_needTime 5 = .ok (.aload_n 0, 1) := by decide +kernel
theorem dX7_needTime_6 : decode cX7_needTime 6 = .ok (.getfield 71, 3) := by decide +kernel
theorem dX7_needTime_9 : decode cX7_needTime 9 = .ok (.if_icmp .le 14, 3) := by decide +kernel
theorem dX7_needTime_12 : decode cX7_needTime 12 = .ok (.new 60, 3) := by decide +kernel
theorem dX7_needTime_15 : decode cX7_needTime 15 = .ok (.dup, 1) := by decide +kernel
theorem dX7_needTime_16 : decode cX7_needTime 16 = .ok (.ldc_w 342, 3) := by decide +kernel
theorem dX7_needTime_19 : decode cX7_needTime 19 = .ok (.invokespecial 64, 3) := by decide +kernel
theorem dX7_needTime_22 : decode cX7_needTime 22 = .ok (.athrow, 1) := by decide +kernel
theorem dX7_needTime_23 : decode cX7_needTime 23 = .ok (.return_, 1) := by decide +kernel
theorem dX7_needSquare_0 : decode cX7_needSquare 0 = .ok (.iload_n 0, 1) := by decide +kernel
theorem dX7_needSquare_1 : decode cX7_needSquare 1 = .ok (.ifCond .lt 10, 3) := by decide +kernel
theorem dX7_needSquare_4 : decode cX7_needSquare 4 = .ok (.iload_n 0, 1) := by decide +kernel
theorem dX7_needSquare_5 : decode cX7_needSquare 5 = .ok (.sipush 256, 3) := by decide +kernel
theorem dX7_needSquare_8 : decode cX7_needSquare 8 = .ok (.if_icmp .lt 14, 3) := by decide +kernel
theorem dX7_needSquare_11 : decode cX7_needSquare 11 = .ok (.new 232, 3) := by decide +kernel
theorem dX7_needSquare_14 : decode cX7_needSquare 14 = .ok (.dup, 1) := by decide +kernel
theorem dX7_needSquare_15 : decode cX7_needSquare 15 = .ok (.ldc_w 344, 3) := by decide +kernel
theorem dX7_needSquare_18 : decode cX7_needSquare 18 = .ok (.invokespecial 236, 3) := by decide +kernel
theorem dX7_needSquare_21 : decode cX7_needSquare 21 = .ok (.athrow, 1) := by decide +kernel
theorem dX7_needSquare_22 : decode cX7_needSquare 22 = .ok (.return_, 1) := by decide +kernel
theorem dX7_needArea_0 : decode cX7_needArea 0 = .ok (.iload_n 0, 1) := by decide +kernel
theorem dX7_needArea_1 : decode cX7_needArea 1 = .ok (.invokestatic 280, 3) := by decide +kernel
theorem dX7_needArea_4 : decode cX7_needArea 4 = .ok (.ifCond .ne 14, 3) := by decide +kernel
theorem dX7_needArea_7 : decode cX7_needArea 7 = .ok (.new 60, 3) := by decide +kernel
theorem dX7_needArea_10 : decode cX7_needArea 10 = .ok (.dup, 1) := by decide +kernel
theorem dX7_needArea_11 : decode cX7_needArea 11 = .ok (.ldc_w 346, 3) := by decide +kernel
theorem dX7_needArea_14 : decode cX7_needArea 14 = .ok (.invokespecial 64, 3) := by decide +kernel
theorem dX7_needArea_17 : decode cX7_needArea 17 = .ok (.athrow, 1) := by decide +kernel
theorem dX7_needArea_18 : decode cX7_needArea 18 = .ok (.return_, 1) := by decide +kernel
theorem dX7_needAreaOrNone_0 : decode cX7_needAreaOrNone 0 = .ok (.iload_n 0, 1) := by decide +kernel
theorem dX7_needAreaOrNone_1 : decode cX7_needAreaOrNone 1 = .ok (.iconst (-1), 1) := by decide +kernel
theorem dX7_needAreaOrNone_2 : decode cX7_needAreaOrNone 2 = .ok (.if_icmp .eq 7, 3) := by decide +kernel
theorem dX7_needAreaOrNone_5 : decode cX7_needAreaOrNone 5 = .ok (.iload_n 0, 1) := by decide +kernel
theorem dX7_needAreaOrNone_6 : decode cX7_needAreaOrNone 6 = .ok (.invokestatic 138, 3) := by decide +kernel
theorem dX7_needAreaOrNone_9 : decode cX7_needAreaOrNone 9 = .ok (.return_, 1) := by decide +kernel
theorem dX7_needTwoAreas_0 : decode cX7_needTwoAreas 0 = .ok (.iload_n 0, 1) := by decide +kernel
theorem dX7_needTwoAreas_1 : decode cX7_needTwoAreas 1 = .ok (.invokestatic 138, 3) := by decide +kernel
theorem dX7_needTwoAreas_4 : decode cX7_needTwoAreas 4 = .ok (.iload_n 1, 1) := by decide +kernel
theorem dX7_needTwoAreas_5 : decode cX7_needTwoAreas 5 = .ok (.invokestatic 138, 3) := by decide +kernel
theorem dX7_needTwoAreas_8 : decode cX7_needTwoAreas 8 = .ok (.iload_n 0, 1) := by decide +kernel
theorem dX7_needTwoAreas_9 : decode cX7_needTwoAreas 9 = .ok (.iload_n 1, 1) := by decide +kernel
theorem dX7_needTwoAreas_10 : decode cX7_needTwoAreas 10 = .ok (.if_icmp .ne 14, 3) := by decide +kernel
theorem dX7_needTwoAreas_13 : decode cX7_needTwoAreas 13 = .ok (.new 60, 3) := by decide +kernel
theorem dX7_needTwoAreas_16 : decode cX7_needTwoAreas 16 = .ok (.dup, 1) := by decide +kernel
theorem dX7_needTwoAreas_17 : decode cX7_needTwoAreas 17 = .ok (.ldc_w 348, 3) := by decide +kernel
theorem dX7_needTwoAreas_20 : decode cX7_needTwoAreas 20 = .ok (.invokespecial 64, 3) := by decide +kernel
theorem dX7_needTwoAreas_23 : decode cX7_needTwoAreas 23 = .ok (.athrow, 1) := by decide +kernel
theorem dX7_needTwoAreas_24 : decode cX7_needTwoAreas 24 = .ok (.return_, 1) := by decide +kernel
theorem dX7_needLeast_0 : decode cX7_needLeast 0 = .ok (.iload_n 0, 1) := by decide +kernel
theorem dX7_needLeast_1 : decode cX7_needLeast 1 = .ok (.iconst 1, 1) := by decide +kernel
theorem dX7_needLeast_2 : decode cX7_needLeast 2 = .ok (.if_icmp .lt 10, 3) := by decide +kernel
theorem dX7_needLeast_5 : decode cX7_needLeast 5 = .ok (.iload_n 0, 1) := by decide +kernel
theorem dX7_needLeast_6 : decode cX7_needLeast 6 = .ok (.sipush 256, 3) := by decide +kernel
theorem dX7_needLeast_9 : decode cX7_needLeast 9 = .ok (.if_icmp .le 14, 3) := by decide +kernel
theorem dX7_needLeast_12 : decode cX7_needLeast 12 = .ok (.new 60, 3) := by decide +kernel
theorem dX7_needLeast_15 : decode cX7_needLeast 15 = .ok (.dup, 1) := by decide +kernel
theorem dX7_needLeast_16 : decode cX7_needLeast 16 = .ok (.ldc_w 350, 3) := by decide +kernel
theorem dX7_needLeast_19 : decode cX7_needLeast 19 = .ok (.invokespecial 64, 3) := by decide +kernel
theorem dX7_needLeast_22 : decode cX7_needLeast 22 = .ok (.athrow, 1) := by decide +kernel
theorem dX7_needLeast_23 : decode cX7_needLeast 23 = .ok (.return_, 1) := by decide +kernel
theorem dX7_needBox_0 : decode cX7_needBox 0 = .ok (.iload_n 0, 1) := by decide +kernel
theorem dX7_needBox_1 : decode cX7_needBox 1 = .ok (.ifCond .lt 45, 3) := by decide +kernel
theorem dX7_needBox_4 : decode cX7_needBox 4 = .ok (.iload_n 0, 1) := by decide +kernel
theorem dX7_needBox_5 : decode cX7_needBox 5 = .ok (.bipush 16, 2) := by decide +kernel
theorem dX7_needBox_7 : decode cX7_needBox 7 = .ok (.if_icmp .ge 39, 3) := by decide +kernel
theorem dX7_needBox_10 : decode cX7_needBox 10 = .ok (.iload_n 2, 1) := by decide +kernel
theorem dX7_needBox_11 : decode cX7_needBox 11 = .ok (.iconst 1, 1) := by decide +kernel
theorem dX7_needBox_12 : decode cX7_needBox 12 = .ok (.if_icmp .lt 34, 3) := by decide +kernel
theorem dX7_needBox_15 : decode cX7_needBox 15 = .ok (.iload_n 2, 1) := by decide +kernel
theorem dX7_needBox_16 : decode cX7_needBox 16 = .ok (.bipush 16, 2) := by decide +kernel
theorem dX7_needBox_18 : decode cX7_needBox 18 = .ok (.iload_n 0, 1) := by decide +kernel
theorem dX7_needBox_19 : decode cX7_needBox 19 = .ok (.isub, 1) := by decide +kernel
theorem dX7_needBox_20 : decode cX7_needBox 20 = .ok (.if_icmp .gt 26, 3) := by decide +kernel
theorem dX7_needBox_23 : decode cX7_needBox 23 = .ok (.iload_n 1, 1) := by decide +kernel
theorem dX7_needBox_24 : decode cX7_needBox 24 = .ok (.ifCond .lt 22, 3) := by decide +kernel
theorem dX7_needBox_27 : decode cX7_needBox 27 = .ok (.iload_n 1, 1) := by decide +kernel
theorem dX7_needBox_28 : decode cX7_needBox 28 = .ok (.bipush 16, 2) := by decide +kernel
theorem dX7_needBox_30 : decode cX7_needBox 30 = .ok (.if_icmp .ge 16, 3) := by decide +kernel
theorem dX7_needBox_33 : decode cX7_needBox 33 = .ok (.iload_n 3, 1) := by decide +kernel
theorem dX7_needBox_34 : decode cX7_needBox 34 = .ok (.iconst 1, 1) := by decide +kernel
theorem dX7_needBox_35 : decode cX7_needBox 35 = .ok (.if_icmp .lt 11, 3) := by decide +kernel
theorem dX7_needBox_38 : decode cX7_needBox 38 = .ok (.iload_n 3, 1) := by decide +kernel
theorem dX7_needBox_39 : decode cX7_needBox 39 = .ok (.bipush 16, 2) := by decide +kernel
theorem dX7_needBox_41 : decode cX7_needBox 41 = .ok (.iload_n 1, 1) := by decide +kernel
theorem dX7_needBox_42 : decode cX7_needBox 42 = .ok (.isub, 1) := by decide +kernel
theorem dX7_needBox_43 : decode cX7_needBox 43 = .ok (.if_icmp .le 14, 3) := by decide +kernel
theorem dX7_needBox_46 : decode cX7_needBox 46 = .ok (.new 60, 3) := by decide +kernel
theorem dX7_needBox_49 : decode cX7_needBox 49 = .ok (.dup, 1) := by decide +kernel
theorem dX7_needBox_50 : decode cX7_needBox 50 = .ok (.ldc_w 352, 3) := by decide +kernel
theorem dX7_needBox_53 : decode cX7_needBox 53 = .ok (.invokespecial 64, 3) := by decide +kernel
theorem dX7_needBox_56 : decode cX7_needBox 56 = .ok (.athrow, 1) := by decide +kernel
theorem dX7_needBox_57 : decode cX7_needBox 57 = .ok (.return_, 1) := by decide +kernel
theorem dX7_isArea_0 : decode cX7_isArea 0 = .ok (.iload_n 0, 1) := by decide +kernel
theorem dX7_isArea_1 : decode cX7_isArea 1 = .ok (.ifCond .lt 13, 3) := by decide +kernel
theorem dX7_isArea_4 : decode cX7_isArea 4 = .ok (.iload_n 0, 1) := by decide +kernel
theorem dX7_isArea_5 : decode cX7_isArea 5 = .ok (.bipush 10, 2) := by decide +kernel
theorem dX7_isArea_7 : decode cX7_isArea 7 = .ok (.if_icmp .ge 7, 3) := by decide +kernel
theorem dX7_isArea_10 : decode cX7_isArea 10 = .ok (.iconst 1, 1) := by decide +kernel
theorem dX7_isArea_11 : decode cX7_isArea 11 = .ok (.goto 4, 3) := by decide +kernel
theorem dX7_isArea_14 : decode cX7_isArea 14 = .ok (.iconst 0, 1) := by decide +kernel
theorem dX7_isArea_15 : decode cX7_isArea 15 = .ok (.ireturn, 1) := by decide +kernel
theorem dX7_neighbour_0 : decode cX7_neighbour 0 = .ok (.iload_n 0, 1) := by decide +kernel
theorem dX7_neighbour_1 : decode cX7_neighbour 1 = .ok (.bipush 16, 2) := by decide +kernel
theorem dX7_neighbour_3 : decode cX7_neighbour 3 = .ok (.irem, 1) := by decide +kernel
theorem dX7_neighbour_4 : decode cX7_neighbour 4 = .ok (.istore_n 2, 1) := by decide +kernel
theorem dX7_neighbour_5 : decode cX7_neighbour 5 = .ok (.iload_n 0, 1) := by decide +kernel
theorem dX7_neighbour_6 : decode cX7_neighbour 6 = .ok (.bipush 16, 2) := by decide +kernel
theorem dX7_neighbour_8 : decode cX7_neighbour 8 = .ok (.idiv, 1) := by decide +kernel
theorem dX7_neighbour_9 : decode cX7_neighbour 9 = .ok (.istore_n 3, 1) := by decide +kernel
theorem dX7_neighbour_10 : decode cX7_neighbour 10 = .ok (.iload_n 1, 1) := by decide +kernel
theorem dX7_neighbour_11 : decode cX7_neighbour 11 = .ok (.tableswitch 83 0 3 #[29, 43, 58, 70], 29) := by decide +kernel
theorem dX7_neighbour_40 : decode cX7_neighbour 40 = .ok (.iload_n 2, 1) := by decide +kernel
theorem dX7_neighbour_41 : decode cX7_neighbour 41 = .ok (.bipush 15, 2) := by decide +kernel
theorem dX7_neighbour_43 : decode cX7_neighbour 43 = .ok (.if_icmp .ge 9, 3) := by decide +kernel
theorem dX7_neighbour_46 : decode cX7_neighbour 46 = .ok (.iload_n 0, 1) := by decide +kernel
theorem dX7_neighbour_47 : decode cX7_neighbour 47 = .ok (.iconst 1, 1) := by decide +kernel
theorem dX7_neighbour_48 : decode cX7_neighbour 48 = .ok (.iadd, 1) := by decide +kernel
theorem dX7_neighbour_49 : decode cX7_neighbour 49 = .ok (.goto 4, 3) := by decide +kernel
theorem dX7_neighbour_52 : decode cX7_neighbour 52 = .ok (.iconst (-1), 1) := by decide +kernel
theorem dX7_neighbour_53 : decode cX7_neighbour 53 = .ok (.ireturn, 1) := by decide +kernel
theorem dX7_neighbour_54 : decode cX7_neighbour 54 = .ok (.iload_n 3, 1) := by decide +kernel
theorem dX7_neighbour_55 : decode cX7_neighbour 55 = .ok (.bipush 15, 2) := by decide +kernel
theorem dX7_neighbour_57 : decode cX7_neighbour 57 = .ok (.if_icmp .ge 10, 3) := by decide +kernel
theorem dX7_neighbour_60 : decode cX7_neighbour 60 = .ok (.iload_n 0, 1) := by decide +kernel
theorem dX7_neighbour_61 : decode cX7_neighbour 61 = .ok (.bipush 16, 2) := by decide +kernel
theorem dX7_neighbour_63 : decode cX7_neighbour 63 = .ok (.iadd, 1) := by decide +kernel
theorem dX7_neighbour_64 : decode cX7_neighbour 64 = .ok (.goto 4, 3) := by decide +kernel
theorem dX7_neighbour_67 : decode cX7_neighbour 67 = .ok (.iconst (-1), 1) := by decide +kernel
theorem dX7_neighbour_68 : decode cX7_neighbour 68 = .ok (.ireturn, 1) := by decide +kernel
theorem dX7_neighbour_69 : decode cX7_neighbour 69 = .ok (.iload_n 2, 1) := by decide +kernel
theorem dX7_neighbour_70 : decode cX7_neighbour 70 = .ok (.ifCond .le 9, 3) := by decide +kernel
theorem dX7_neighbour_73 : decode cX7_neighbour 73 = .ok (.iload_n 0, 1) := by decide +kernel
theorem dX7_neighbour_74 : decode cX7_neighbour 74 = .ok (.iconst 1, 1) := by decide +kernel
theorem dX7_neighbour_75 : decode cX7_neighbour 75 = .ok (.isub, 1) := by decide +kernel
theorem dX7_neighbour_76 : decode cX7_neighbour 76 = .ok (.goto 4, 3) := by decide +kernel
theorem dX7_neighbour_79 : decode cX7_neighbour 79 = .ok (.iconst (-1), 1) := by decide +kernel
theorem dX7_neighbour_80 : decode cX7_neighbour 80 = .ok (.ireturn, 1) := by decide +kernel
theorem dX7_neighbour_81 : decode cX7_neighbour 81 = .ok (.iload_n 3, 1) := by decide +kernel
theorem dX7_neighbour_82 : decode cX7_neighbour 82 = .ok (.ifCond .le 10, 3) := by decide +kernel
theorem dX7_neighbour_85 : decode cX7_neighbour 85 = .ok (.iload_n 0, 1) := by decide +kernel
theorem dX7_neighbour_86 : decode cX7_neighbour 86 = .ok (.bipush 16, 2) := by decide +kernel
theorem dX7_neighbour_88 : decode cX7_neighbour 88 = .ok (.isub, 1) := by decide +kernel
theorem dX7_neighbour_89 : decode cX7_neighbour 89 = .ok (.goto 4, 3) := by decide +kernel
theorem dX7_neighbour_92 : decode cX7_neighbour 92 = .ok (.iconst (-1), 1) := by decide +kernel
theorem dX7_neighbour_93 : decode cX7_neighbour 93 = .ok (.ireturn, 1) := by decide +kernel
theorem dX7_neighbour_94 : decode cX7_neighbour 94 = .ok (.iconst (-1), 1) := by decide +kernel
theorem dX7_neighbour_95 : decode cX7_neighbour 95 = .ok (.ireturn, 1) := by decide +kernel
