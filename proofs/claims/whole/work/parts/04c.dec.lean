theorem dX8_init_0 : decode cX8_init 0 = .ok (.aload_n 0, 1) := by decide +kernel
theorem dX8_init_1 : decode cX8_init 1 = .ok (.invokespecial 1, 3) := by decide +kernel
theorem dX8_init_4 : decode cX8_init 4 = .ok (.aload_n 0, 1) := by decide +kernel
theorem dX8_init_5 : decode cX8_init 5 = .ok (.iconst (-1), 1) := by decide +kernel
theorem dX8_init_6 : decode cX8_init 6 = .ok (.putfield 9, 3) := by decide +kernel
theorem dX8_init_9 : decode cX8_init 9 = .ok (.aload_n 0, 1) := by decide +kernel
theorem dX8_init_10 : decode cX8_init 10 = .ok (.iconst 3, 1) := by decide +kernel
theorem dX8_init_11 : decode cX8_init 11 = .ok (.newarray .boolean, 2) := by decide +kernel
theorem dX8_init_13 : decode cX8_init 13 = .ok (.putfield 13, 3) := by decide +kernel
theorem dX8_init_16 : decode cX8_init 16 = .ok (.aload_n 0, 1) := by decide +kernel
theorem dX8_init_17 : decode cX8_init 17 = .ok (.sipush 768, 3) := by decide +kernel
theorem dX8_init_20 : decode cX8_init 20 = .ok (.newarray .int, 2) := by decide +kernel
theorem dX8_init_22 : decode cX8_init 22 = .ok (.putfield 17, 3) := by decide +kernel
theorem dX8_init_25 : decode cX8_init 25 = .ok (.aload_n 0, 1) := by decide +kernel
theorem dX8_init_26 : decode cX8_init 26 = .ok (.bipush 30, 2) := by decide +kernel
theorem dX8_init_28 : decode cX8_init 28 = .ok (.newarray .int, 2) := by decide +kernel
theorem dX8_init_30 : decode cX8_init 30 = .ok (.putfield 21, 3) := by decide +kernel
theorem dX8_init_33 : decode cX8_init 33 = .ok (.aload_n 0, 1) := by decide +kernel
theorem dX8_init_34 : decode cX8_init 34 = .ok (.bipush 30, 2) := by decide +kernel
theorem dX8_init_36 : decode cX8_init 36 = .ok (.newarray .int, 2) := by decide +kernel
theorem dX8_init_38 : decode cX8_init 38 = .ok (.putfield 24, 3) := by decide +kernel
theorem dX8_init_41 : decode cX8_init 41 = .ok (.aload_n 0, 1) := by decide +kernel
theorem dX8_init_42 : decode cX8_init 42 = .ok (.sipush 768, 3) := by decide +kernel
theorem dX8_init_45 : decode cX8_init 45 = .ok (.newarray .int, 2) := by decide +kernel
theorem dX8_init_47 : decode cX8_init 47 = .ok (.putfield 27, 3) := by decide +kernel
theorem dX8_init_50 : decode cX8_init 50 = .ok (.aload_n 0, 1) := by decide +kernel
theorem dX8_init_51 : decode cX8_init 51 = .ok (.bipush 30, 2) := by decide +kernel
theorem dX8_init_53 : decode cX8_init 53 = .ok (.newarray .int, 2) := by decide +kernel
theorem dX8_init_55 : decode cX8_init 55 = .ok (.putfield 30, 3) := by decide +kernel
theorem dX8_init_58 : decode cX8_init 58 = .ok (.aload_n 0, 1) := by decide +kernel
theorem dX8_init_59 : decode cX8_init 59 = .ok (.bipush 6, 2) := by decide +kernel
theorem dX8_init_61 : decode cX8_init 61 = .ok (.newarray .boolean, 2) := by decide +kernel
theorem dX8_init_63 : decode cX8_init 63 = .ok (.putfield 33, 3) := by decide +kernel
theorem dX8_init_66 : decode cX8_init 66 = .ok (.aload_n 0, 1) := by decide +kernel
theorem dX8_init_67 : decode cX8_init 67 = .ok (.sipush 31488, 3) := by decide +kernel
theorem dX8_init_70 : decode cX8_init 70 = .ok (.newarray .int, 2) := by decide +kernel
theorem dX8_init_72 : decode cX8_init 72 = .ok (.putfield 36, 3) := by decide +kernel
theorem dX8_init_75 : decode cX8_init 75 = .ok (.aload_n 0, 1) := by decide +kernel
theorem dX8_init_76 : decode cX8_init 76 = .ok (.bipush 41, 2) := by decide +kernel
theorem dX8_init_78 : decode cX8_init 78 = .ok (.newarray .int, 2) := by decide +kernel
theorem dX8_init_80 : decode cX8_init 80 = .ok (.putfield 39, 3) := by decide +kernel
theorem dX8_init_83 : decode cX8_init 83 = .ok (.aload_n 0, 1) := by decide +kernel
theorem dX8_init_84 : decode cX8_init 84 = .ok (.bipush 6, 2) := by decide +kernel
theorem dX8_init_86 : decode cX8_init 86 = .ok (.newarray .char, 2) := by decide +kernel
theorem dX8_init_88 : decode cX8_init 88 = .ok (.putfield 42, 3) := by decide +kernel
theorem dX8_init_91 : decode cX8_init 91 = .ok (.aload_n 0, 1) := by decide +kernel
theorem dX8_init_92 : decode cX8_init 92 = .ok (.bipush 6, 2) := by decide +kernel
theorem dX8_init_94 : decode cX8_init 94 = .ok (.newarray .int, 2) := by decide +kernel
theorem dX8_init_96 : decode cX8_init 96 = .ok (.putfield 46, 3) := by decide +kernel
theorem dX8_init_99 : decode cX8_init 99 = .ok (.aload_n 0, 1) := by decide +kernel
theorem dX8_init_100 : decode cX8_init 100 = .ok (.bipush 6, 2) := by decide +kernel
theorem dX8_init_102 : decode cX8_init 102 = .ok (.newarray .int, 2) := by decide +kernel
theorem dX8_init_104 : decode cX8_init 104 = .ok (.putfield 49, 3) := by decide +kernel
theorem dX8_init_107 : decode cX8_init 107 = .ok (.aload_n 0, 1) := by decide +kernel
theorem dX8_init_108 : decode cX8_init 108 = .ok (.iconst 3, 1) := by decide +kernel
theorem dX8_init_109 : decode cX8_init 109 = .ok (.newarray .int, 2) := by decide +kernel
theorem dX8_init_111 : decode cX8_init 111 = .ok (.putfield 52, 3) := by decide +kernel
theorem dX8_init_114 : decode cX8_init 114 = .ok (.aload_n 0, 1) := by decide +kernel
theorem dX8_init_115 : decode cX8_init 115 = .ok (.sipush 768, 3) := by decide +kernel
theorem dX8_init_118 : decode cX8_init 118 = .ok (.newarray .boolean, 2) := by decide +kernel
theorem dX8_init_120 : decode cX8_init 120 = .ok (.putfield 55, 3) := by decide +kernel
theorem dX8_init_123 : decode cX8_init 123 = .ok (.aload_n 0, 1) := by decide +kernel
theorem dX8_init_124 : decode cX8_init 124 = .ok (.sipush 768, 3) := by decide +kernel
theorem dX8_init_127 : decode cX8_init 127 = .ok (.newarray .int, 2) := by decide +kernel
theorem dX8_init_129 : decode cX8_init 129 = .ok (.putfield 58, 3) := by decide +kernel
theorem dX8_init_132 : decode cX8_init 132 = .ok (.aload_n 0, 1) := by decide +kernel
theorem dX8_init_133 : decode cX8_init 133 = .ok (.sipush 768, 3) := by decide +kernel
theorem dX8_init_136 : decode cX8_init 136 = .ok (.newarray .int, 2) := by decide +kernel
theorem dX8_init_138 : decode cX8_init 138 = .ok (.putfield 61, 3) := by decide +kernel
theorem dX8_init_141 : decode cX8_init 141 = .ok (.aload_n 0, 1) := by decide +kernel
theorem dX8_init_142 : decode cX8_init 142 = .ok (.sipush 256, 3) := by decide +kernel
theorem dX8_init_145 : decode cX8_init 145 = .ok (.newarray .int, 2) := by decide +kernel
theorem dX8_init_147 : decode cX8_init 147 = .ok (.putfield 64, 3) := by decide +kernel
theorem dX8_init_150 : decode cX8_init 150 = .ok (.aload_n 0, 1) := by decide +kernel
theorem dX8_init_151 : decode cX8_init 151 = .ok (.sipush 256, 3) := by decide +kernel
theorem dX8_init_154 : decode cX8_init 154 = .ok (.newarray .int, 2) := by decide +kernel
theorem dX8_init_156 : decode cX8_init 156 = .ok (.putfield 67, 3) := by decide +kernel
theorem dX8_init_159 : decode cX8_init 159 = .ok (.aload_n 0, 1) := by decide +kernel
theorem dX8_init_160 : decode cX8_init 160 = .ok (.bipush 10, 2) := by decide +kernel
theorem dX8_init_162 : decode cX8_init 162 = .ok (.newarray .int, 2) := by decide +kernel
theorem dX8_init_164 : decode cX8_init 164 = .ok (.putfield 70, 3) := by decide +kernel
theorem dX8_init_167 : decode cX8_init 167 = .ok (.aload_n 0, 1) := by decide +kernel
theorem dX8_init_168 : decode cX8_init 168 = .ok (.sipush 256, 3) := by decide +kernel
theorem dX8_init_171 : decode cX8_init 171 = .ok (.newarray .boolean, 2) := by decide +kernel
theorem dX8_init_173 : decode cX8_init 173 = .ok (.putfield 73, 3) := by decide +kernel
theorem dX8_init_176 : decode cX8_init 176 = .ok (.aload_n 0, 1) := by decide +kernel
theorem dX8_init_177 : decode cX8_init 177 = .ok (.bipush 10, 2) := by decide +kernel
theorem dX8_init_179 : decode cX8_init 179 = .ok (.newarray .int, 2) := by decide +kernel
theorem dX8_init_181 : decode cX8_init 181 = .ok (.putfield 76, 3) := by decide +kernel
theorem dX8_init_184 : decode cX8_init 184 = .ok (.aload_n 0, 1) := by decide +kernel
theorem dX8_init_185 : decode cX8_init 185 = .ok (.bipush 10, 2) := by decide +kernel
theorem dX8_init_187 : decode cX8_init 187 = .ok (.newarray .int, 2) := by decide +kernel
theorem dX8_init_189 : decode cX8_init 189 = .ok (.putfield 79, 3) := by decide +kernel
theorem dX8_init_192 : decode cX8_init 192 = .ok (.aload_n 0, 1) := by decide +kernel
theorem dX8_init_193 : decode cX8_init 193 = .ok (.sipush 256, 3) := by decide +kernel
theorem dX8_init_196 : decode cX8_init 196 = .ok (.newarray .boolean, 2) := by decide +kernel
theorem dX8_init_198 : decode cX8_init 198 = .ok (.putfield 82, 3) := by decide +kernel
theorem dX8_init_201 : decode cX8_init 201 = .ok (.iconst 0, 1) := by decide +kernel
theorem dX8_init_202 : decode cX8_init 202 = .ok (.istore_n 1, 1) := by decide +kernel
theorem dX8_init_203 : decode cX8_init 203 = .ok (.iload_n 1, 1) := by decide +kernel
theorem dX8_init_204 : decode cX8_init 204 = .ok (.sipush 768, 3) := by decide +kernel
theorem dX8_init_207 : decode cX8_init 207 = .ok (.if_icmp .ge 16, 3) := by decide +kernel
theorem dX8_init_210 : decode cX8_init 210 = .ok (.aload_n 0, 1) := by decide +kernel
theorem dX8_init_211 : decode cX8_init 211 = .ok (.getfield 17, 3) := by decide +kernel
theorem dX8_init_214 : decode cX8_init 214 = .ok (.iload_n 1, 1) := by decide +kernel
theorem dX8_init_215 : decode cX8_init 215 = .ok (.iconst (-1), 1) := by decide +kernel
theorem dX8_init_216 : decode cX8_init 216 = .ok (.iastore, 1) := by decide +kernel
theorem dX8_init_217 : decode cX8_init 217 = .ok (.iinc 1 1, 3) := by decide +kernel
theorem dX8_init_220 : decode cX8_init 220 = .ok (.goto (-17), 3) := by decide +kernel
theorem dX8_init_223 : decode cX8_init 223 = .ok (.iconst 0, 1) := by decide +kernel
theorem dX8_init_224 : decode cX8_init 224 = .ok (.istore_n 1, 1) := by decide +kernel
theorem dX8_init_225 : decode cX8_init 225 = .ok (.iload_n 1, 1) := by decide +kernel
theorem dX8_init_226 : decode cX8_init 226 = .ok (.sipush 768, 3) := by decide +kernel
theorem dX8_init_229 : decode cX8_init 229 = .ok (.if_icmp .ge 16, 3) := by decide +kernel
theorem dX8_init_232 : decode cX8_init 232 = .ok (.aload_n 0, 1) := by decide +kernel
theorem dX8_init_233 : decode cX8_init 233 = .ok (.getfield 36, 3) := by decide +kernel
theorem dX8_init_236 : decode cX8_init 236 = .ok (.iload_n 1, 1) := by decide +kernel
theorem dX8_init_237 : decode cX8_init 237 = .ok (.iconst (-1), 1) := by decide +kernel
theorem dX8_init_238 : decode cX8_init 238 = .ok (.iastore, 1) := by decide +kernel
theorem dX8_init_239 : decode cX8_init 239 = .ok (.iinc 1 1, 3) := by decide +kernel
theorem dX8_init_242 : decode cX8_init 242 = .ok (.goto (-17), 3) := by decide +kernel
theorem dX8_init_245 : decode cX8_init 245 = .ok (.return_, 1) := by decide +kernel
theorem dX8_thrown_0 : decode cX8_thrown 0 = .ok (.aload_n 0, 1) := by decide +kernel
theorem dX8_thrown_1 : decode cX8_thrown 1 = .ok (.getfield 85, 3) := by decide +kernel
theorem dX8_thrown_4 : decode cX8_thrown 4 = .ok (.ireturn, 1) := by decide +kernel
theorem dX8_in_0 : decode cX8_in 0 = .ok (.iload_n 0, 1) := by decide +kernel
theorem dX8_in_1 : decode cX8_in 1 = .ok (.iload_n 1, 1) := by decide +kernel
theorem dX8_in_2 : decode cX8_in 2 = .ok (.if_icmp .lt 12, 3) := by decide +kernel
theorem dX8_in_5 : decode cX8_in 5 = .ok (.iload_n 0, 1) := by decide +kernel
theorem dX8_in_6 : decode cX8_in 6 = .ok (.iload_n 2, 1) := by decide +kernel
theorem dX8_in_7 : decode cX8_in 7 = .ok (.if_icmp .gt 7, 3) := by decide +kernel
theorem dX8_in_10 : decode cX8_in 10 = .ok (.iconst 1, 1) := by decide +kernel
theorem dX8_in_11 : decode cX8_in 11 = .ok (.goto 4, 3) := by decide +kernel
theorem dX8_in_14 : decode cX8_in 14 = .ok (.iconst 0, 1) := by decide +kernel
theorem dX8_in_15 : decode cX8_in 15 = .ok (.ireturn, 1) := by decide +kernel
theorem dX8_fails_0 : decode cX8_fails 0 = .ok (.aload_n 0, 1) := by decide +kernel
theorem dX8_fails_1 : decode cX8_fails 1 = .ok (.iload_n 1, 1) := by decide +kernel
theorem dX8_fails_2 : decode cX8_fails 2 = .ok (.putfield 85, 3) := by decide +kernel
theorem dX8_fails_5 : decode cX8_fails 5 = .ok (.iconst 0, 1) := by decide +kernel
theorem dX8_fails_6 : decode cX8_fails 6 = .ok (.ireturn, 1) := by decide +kernel
theorem dX8_isLayer_0 : decode cX8_isLayer 0 = .ok (.iload_n 0, 1) := by decide +kernel
theorem dX8_isLayer_1 : decode cX8_isLayer 1 = .ok (.iconst 0, 1) := by decide +kernel
theorem dX8_isLayer_2 : decode cX8_isLayer 2 = .ok (.iconst 2, 1) := by decide +kernel
theorem dX8_isLayer_3 : decode cX8_isLayer 3 = .ok (.invokestatic 88, 3) := by decide +kernel
theorem dX8_isLayer_6 : decode cX8_isLayer 6 = .ok (.ireturn, 1) := by decide +kernel
theorem dX8_isArea_0 : decode cX8_isArea 0 = .ok (.iload_n 0, 1) := by decide +kernel
theorem dX8_isArea_1 : decode cX8_isArea 1 = .ok (.iconst 0, 1) := by decide +kernel
theorem dX8_isArea_2 : decode cX8_isArea 2 = .ok (.bipush 9, 2) := by decide +kernel
theorem dX8_isArea_4 : decode cX8_isArea 4 = .ok (.invokestatic 88, 3) := by decide +kernel
theorem dX8_isArea_7 : decode cX8_isArea 7 = .ok (.ireturn, 1) := by decide +kernel
theorem dX8_at_0 : decode cX8_at 0 = .ok (.aload_n 0, 1) := by decide +kernel
theorem dX8_at_1 : decode cX8_at 1 = .ok (.getfield 17, 3) := by decide +kernel
theorem dX8_at_4 : decode cX8_at 4 = .ok (.sipush 256, 3) := by decide +kernel
theorem dX8_at_7 : decode cX8_at 7 = .ok (.iload_n 1, 1) := by decide +kernel
theorem dX8_at_8 : decode cX8_at 8 = .ok (.imul, 1) := by decide +kernel
theorem dX8_at_9 : decode cX8_at 9 = .ok (.iload_n 2, 1) := by decide +kernel
theorem dX8_at_10 : decode cX8_at 10 = .ok (.iadd, 1) := by decide +kernel
theorem dX8_at_11 : decode cX8_at 11 = .ok (.iaload, 1) := by decide +kernel
theorem dX8_at_12 : decode cX8_at 12 = .ok (.ireturn, 1) := by decide +kernel
theorem dX8_sizeOf_0 : decode cX8_sizeOf 0 = .ok (.iconst 0, 1) := by decide +kernel
theorem dX8_sizeOf_1 : decode cX8_sizeOf 1 = .ok (.istore_n 3, 1) := by decide +kernel
theorem dX8_sizeOf_2 : decode cX8_sizeOf 2 = .ok (.iconst 0, 1) := by decide +kernel
theorem dX8_sizeOf_3 : decode cX8_sizeOf 3 = .ok (.istore 4, 2) := by decide +kernel
theorem dX8_sizeOf_5 : decode cX8_sizeOf 5 = .ok (.iload 4, 2) := by decide +kernel
theorem dX8_sizeOf_7 : decode cX8_sizeOf 7 = .ok (.sipush 256, 3) := by decide +kernel
theorem dX8_sizeOf_10 : decode cX8_sizeOf 10 = .ok (.if_icmp .ge 28, 3) := by decide +kernel
theorem dX8_sizeOf_13 : decode cX8_sizeOf 13 = .ok (.iload_n 3, 1) := by decide +kernel
theorem dX8_sizeOf_14 : decode cX8_sizeOf 14 = .ok (.aload_n 0, 1) := by decide +kernel
theorem dX8_sizeOf_15 : decode cX8_sizeOf 15 = .ok (.iload_n 1, 1) := by decide +kernel
theorem dX8_sizeOf_16 : decode cX8_sizeOf 16 = .ok (.iload 4, 2) := by decide +kernel
theorem dX8_sizeOf_18 : decode cX8_sizeOf 18 = .ok (.invokevirtual 92, 3) := by decide +kernel
theorem dX8_sizeOf_21 : decode cX8_sizeOf 21 = .ok (.iload_n 2, 1) := by decide +kernel
theorem dX8_sizeOf_22 : decode cX8_sizeOf 22 = .ok (.if_icmp .ne 7, 3) := by decide +kernel
theorem dX8_sizeOf_25 : decode cX8_sizeOf 25 = .ok (.iconst 1, 1) := by decide +kernel
theorem dX8_sizeOf_26 : decode cX8_sizeOf 26 = .ok (.goto 4, 3) := by decide +kernel
theorem dX8_sizeOf_29 : decode cX8_sizeOf 29 = .ok (.iconst 0, 1) := by decide +kernel
theorem dX8_sizeOf_30 : decode cX8_sizeOf 30 = .ok (.iadd, 1) := by decide +kernel
theorem dX8_sizeOf_31 : decode cX8_sizeOf 31 = .ok (.istore_n 3, 1) := by decide +kernel
theorem dX8_sizeOf_32 : decode cX8_sizeOf 32 = .ok (.iinc 4 1, 3) := by decide +kernel
theorem dX8_sizeOf_35 : decode cX8_sizeOf 35 = .ok (.goto (-30), 3) := by decide +kernel
theorem dX8_sizeOf_38 : decode cX8_sizeOf 38 = .ok (.iload_n 3, 1) := by decide +kernel
theorem dX8_sizeOf_39 : decode cX8_sizeOf 39 = .ok (.ireturn, 1) := by decide +kernel
theorem dX8_beside_0 : decode cX8_beside 0 = .ok (.iload_n 0, 1) := by decide +kernel
theorem dX8_beside_1 : decode cX8_beside 1 = .ok (.bipush 16, 2) := by decide +kernel
theorem dX8_beside_3 : decode cX8_beside 3 = .ok (.irem, 1) := by decide +kernel
theorem dX8_beside_4 : decode cX8_beside 4 = .ok (.iload_n 1, 1) := by decide +kernel
theorem dX8_beside_5 : decode cX8_beside 5 = .ok (.ifCond .ne 7, 3) := by decide +kernel
theorem dX8_beside_8 : decode cX8_beside 8 = .ok (.iconst 1, 1) := by decide +kernel
theorem dX8_beside_9 : decode cX8_beside 9 = .ok (.goto 13, 3) := by decide +kernel
theorem dX8_beside_12 : decode cX8_beside 12 = .ok (.iload_n 1, 1) := by decide +kernel
theorem dX8_beside_13 : decode cX8_beside 13 = .ok (.iconst 1, 1) := by decide +kernel
theorem dX8_beside_14 : decode cX8_beside 14 = .ok (.if_icmp .ne 7, 3) := by decide +kernel
theorem dX8_beside_17 : decode cX8_beside 17 = .ok (.iconst (-1), 1) := by decide +kernel
theorem dX8_beside_18 : decode cX8_beside 18 = .ok (.goto 4, 3) := by decide +kernel
theorem dX8_beside_21 : decode cX8_beside 21 = .ok (.iconst 0, 1) := by decide +kernel
theorem dX8_beside_22 : decode cX8_beside 22 = .ok (.iadd, 1) := by decide +kernel
theorem dX8_beside_23 : decode cX8_beside 23 = .ok (.istore_n 2, 1) := by decide +kernel
theorem dX8_beside_24 : decode cX8_beside 24 = .ok (.iload_n 0, 1) := by decide +kernel
theorem dX8_beside_25 : decode cX8_beside 25 = .ok (.bipush 16, 2) := by decide +kernel
theorem dX8_beside_27 : decode cX8_beside 27 = .ok (.idiv, 1) := by decide +kernel
theorem dX8_beside_28 : decode cX8_beside 28 = .ok (.iload_n 1, 1) := by decide +kernel
theorem dX8_beside_29 : decode cX8_beside 29 = .ok (.iconst 2, 1) := by decide +kernel
theorem dX8_beside_30 : decode cX8_beside 30 = .ok (.if_icmp .ne 7, 3) := by decide +kernel
theorem dX8_beside_33 : decode cX8_beside 33 = .ok (.iconst 1, 1) := by decide +kernel
theorem dX8_beside_34 : decode cX8_beside 34 = .ok (.goto 13, 3) := by decide +kernel
theorem dX8_beside_37 : decode cX8_beside 37 = .ok (.iload_n 1, 1) := by decide +kernel
theorem dX8_beside_38 : decode cX8_beside 38 = .ok (.iconst 3, 1) := by decide +kernel
theorem dX8_beside_39 : decode cX8_beside 39 = .ok (.if_icmp .ne 7, 3) := by decide +kernel
theorem dX8_beside_42 : decode cX8_beside 42 = .ok (.iconst (-1), 1) := by decide +kernel
theorem dX8_beside_43 : decode cX8_beside 43 = .ok (.goto 4, 3) := by decide +kernel
theorem dX8_beside_46 : decode cX8_beside 46 = .ok (.iconst 0, 1) := by decide +kernel
theorem dX8_beside_47 : decode cX8_beside 47 = .ok (.iadd, 1) := by decide +kernel
theorem dX8_beside_48 : decode cX8_beside 48 = .ok (.istore_n 3, 1) := by decide +kernel
theorem dX8_beside_49 : decode cX8_beside 49 = .ok (.iload_n 2, 1) := by decide +kernel
theorem dX8_beside_50 : decode cX8_beside 50 = .ok (.iconst 0, 1) := by decide +kernel
theorem dX8_beside_51 : decode cX8_beside 51 = .ok (.bipush 15, 2) := by decide +kernel
theorem dX8_beside_53 : decode cX8_beside 53 = .ok (.invokestatic 88, 3) := by decide +kernel
theorem dX8_beside_56 : decode cX8_beside 56 = .ok (.ifCond .eq 22, 3) := by decide +kernel
theorem dX8_beside_59 : decode cX8_beside 59 = .ok (.iload_n 3, 1) := by decide +kernel
theorem dX8_beside_60 : decode cX8_beside 60 = .ok (.iconst 0, 1) := by decide +kernel
theorem dX8_beside_61 : decode cX8_beside 61 = .ok (.bipush 15, 2) := by decide +kernel
theorem dX8_beside_63 : decode cX8_beside 63 = .ok (.invokestatic 88, 3) := by decide +kernel
theorem dX8_beside_66 : decode cX8_beside 66 = .ok (.ifCond .eq 12, 3) := by decide +kernel
theorem dX8_beside_69 : decode cX8_beside 69 = .ok (.bipush 16, 2) := by decide +kernel
theorem dX8_beside_71 : decode cX8_beside 71 = .ok (.iload_n 3, 1) := by decide +kernel
theorem dX8_beside_72 : decode cX8_beside 72 = .ok (.imul, 1) := by decide +kernel
theorem dX8_beside_73 : decode cX8_beside 73 = .ok (.iload_n 2, 1) := by decide +kernel
theorem dX8_beside_74 : decode cX8_beside 74 = .ok (.iadd, 1) := by decide +kernel
theorem dX8_beside_75 : decode cX8_beside 75 = .ok (.goto 4, 3) := by decide +kernel
theorem dX8_beside_78 : decode cX8_beside 78 = .ok (.iconst (-1), 1) := by decide +kernel
theorem dX8_beside_79 : decode cX8_beside 79 = .ok (.ireturn, 1) := by decide +kernel
theorem dX8_begin_0 : decode cX8_begin 0 = .ok (.aload_n 0, 1) := by decide +kernel
theorem dX8_begin_1 : decode cX8_begin 1 = .ok (.iconst 0, 1) := by decide +kernel
theorem dX8_begin_2 : decode cX8_begin 2 = .ok (.putfield 85, 3) := by decide +kernel
theorem dX8_begin_5 : decode cX8_begin 5 = .ok (.iload_n 1, 1) := by decide +kernel
theorem dX8_begin_6 : decode cX8_begin 6 = .ok (.iconst 0, 1) := by decide +kernel
theorem dX8_begin_7 : decode cX8_begin 7 = .ok (.iconst 5, 1) := by decide +kernel
theorem dX8_begin_8 : decode cX8_begin 8 = .ok (.invokestatic 88, 3) := by decide +kernel
theorem dX8_begin_11 : decode cX8_begin 11 = .ok (.ifCond .ne 9, 3) := by decide +kernel
theorem dX8_begin_14 : decode cX8_begin 14 = .ok (.aload_n 0, 1) := by decide +kernel
theorem dX8_begin_15 : decode cX8_begin 15 = .ok (.iconst 1, 1) := by decide +kernel
theorem dX8_begin_16 : decode cX8_begin 16 = .ok (.invokevirtual 96, 3) := by decide +kernel
theorem dX8_begin_19 : decode cX8_begin 19 = .ok (.ireturn, 1) := by decide +kernel
theorem dX8_begin_20 : decode cX8_begin 20 = .ok (.aload_n 0, 1) := by decide +kernel
theorem dX8_begin_21 : decode cX8_begin 21 = .ok (.getfield 9, 3) := by decide +kernel
theorem dX8_begin_24 : decode cX8_begin 24 = .ok (.iconst (-1), 1) := by decide +kernel
theorem dX8_begin_25 : decode cX8_begin 25 = .ok (.if_icmp .ne 12, 3) := by decide +kernel
theorem dX8_begin_28 : decode cX8_begin 28 = .ok (.aload_n 0, 1) := by decide +kernel
theorem dX8_begin_29 : decode cX8_begin 29 = .ok (.getfield 100, 3) := by decide +kernel
theorem dX8_begin_32 : decode cX8_begin 32 = .ok (.bipush 40, 2) := by decide +kernel
theorem dX8_begin_34 : decode cX8_begin 34 = .ok (.if_icmp .ne 9, 3) := by decide +kernel
theorem dX8_begin_37 : decode cX8_begin 37 = .ok (.aload_n 0, 1) := by decide +kernel
theorem dX8_begin_38 : decode cX8_begin 38 = .ok (.iconst 2, 1) := by decide +kernel
theorem dX8_begin_39 : decode cX8_begin 39 = .ok (.invokevirtual 96, 3) := by decide +kernel
theorem dX8_begin_42 : decode cX8_begin 42 = .ok (.ireturn, 1) := by decide +kernel
theorem dX8_begin_43 : decode cX8_begin 43 = .ok (.aload_n 0, 1) := by decide +kernel
theorem dX8_begin_44 : decode cX8_begin 44 = .ok (.iload_n 1, 1) := by decide +kernel
theorem dX8_begin_45 : decode cX8_begin 45 = .ok (.putfield 9, 3) := by decide +kernel
theorem dX8_begin_48 : decode cX8_begin 48 = .ok (.iconst 0, 1) := by decide +kernel
theorem dX8_begin_49 : decode cX8_begin 49 = .ok (.istore_n 2, 1) := by decide +kernel
theorem dX8_begin_50 : decode cX8_begin 50 = .ok (.iload_n 2, 1) := by decide +kernel
theorem dX8_begin_51 : decode cX8_begin 51 = .ok (.sipush 768, 3) := by decide +kernel
theorem dX8_begin_54 : decode cX8_begin 54 = .ok (.if_icmp .ge 21, 3) := by decide +kernel
theorem dX8_begin_57 : decode cX8_begin 57 = .ok (.aload_n 0, 1) := by decide +kernel
theorem dX8_begin_58 : decode cX8_begin 58 = .ok (.getfield 27, 3) := by decide +kernel
theorem dX8_begin_61 : decode cX8_begin 61 = .ok (.iload_n 2, 1) := by decide +kernel
theorem dX8_begin_62 : decode cX8_begin 62 = .ok (.aload_n 0, 1) := by decide +kernel
theorem dX8_begin_63 : decode cX8_begin 63 = .ok (.getfield 17, 3) := by decide +kernel
theorem dX8_begin_66 : decode cX8_begin 66 = .ok (.iload_n 2, 1) := by decide +kernel
theorem dX8_begin_67 : decode cX8_begin 67 = .ok (.iaload, 1) := by decide +kernel
theorem dX8_begin_68 : decode cX8_begin 68 = .ok (.iastore, 1) := by decide +kernel
theorem dX8_begin_69 : decode cX8_begin 69 = .ok (.iinc 2 1, 3) := by decide +kernel
theorem dX8_begin_72 : decode cX8_begin 72 = .ok (.goto (-22), 3) := by decide +kernel
theorem dX8_begin_75 : decode cX8_begin 75 = .ok (.iconst 0, 1) := by decide +kernel
theorem dX8_begin_76 : decode cX8_begin 76 = .ok (.istore_n 2, 1) := by decide +kernel
theorem dX8_begin_77 : decode cX8_begin 77 = .ok (.iload_n 2, 1) := by decide +kernel
theorem dX8_begin_78 : decode cX8_begin 78 = .ok (.bipush 30, 2) := by decide +kernel
theorem dX8_begin_80 : decode cX8_begin 80 = .ok (.if_icmp .ge 21, 3) := by decide +kernel
theorem dX8_begin_83 : decode cX8_begin 83 = .ok (.aload_n 0, 1) := by decide +kernel
theorem dX8_begin_84 : decode cX8_begin 84 = .ok (.getfield 30, 3) := by decide +kernel
theorem dX8_begin_87 : decode cX8_begin 87 = .ok (.iload_n 2, 1) := by decide +kernel
theorem dX8_begin_88 : decode cX8_begin 88 = .ok (.aload_n 0, 1) := by decide +kernel
theorem dX8_begin_89 : decode cX8_begin 89 = .ok (.getfield 21, 3) := by decide +kernel
theorem dX8_begin_92 : decode cX8_begin 92 = .ok (.iload_n 2, 1) := by decide +kernel
theorem dX8_begin_93 : decode cX8_begin 93 = .ok (.iaload, 1) := by decide +kernel
theorem dX8_begin_94 : decode cX8_begin 94 = .ok (.iastore, 1) := by decide +kernel
theorem dX8_begin_95 : decode cX8_begin 95 = .ok (.iinc 2 1, 3) := by decide +kernel
theorem dX8_begin_98 : decode cX8_begin 98 = .ok (.goto (-21), 3) := by decide +kernel
theorem dX8_begin_101 : decode cX8_begin 101 = .ok (.iconst 0, 1) := by decide +kernel
theorem dX8_begin_102 : decode cX8_begin 102 = .ok (.istore_n 2, 1) := by decide +kernel
theorem dX8_begin_103 : decode cX8_begin 103 = .ok (.iload_n 2, 1) := by decide +kernel
theorem dX8_begin_104 : decode cX8_begin 104 = .ok (.bipush 6, 2) := by decide +kernel
theorem dX8_begin_106 : decode cX8_begin 106 = .ok (.if_icmp .ge 16, 3) := by decide +kernel
theorem dX8_begin_109 : decode cX8_begin 109 = .ok (.aload_n 0, 1) := by decide +kernel
theorem dX8_begin_110 : decode cX8_begin 110 = .ok (.getfield 33, 3) := by decide +kernel
theorem dX8_begin_113 : decode cX8_begin 113 = .ok (.iload_n 2, 1) := by decide +kernel
theorem dX8_begin_114 : decode cX8_begin 114 = .ok (.iconst 0, 1) := by decide +kernel
theorem dX8_begin_115 : decode cX8_begin 115 = .ok (.bastore, 1) := by decide +kernel
theorem dX8_begin_116 : decode cX8_begin 116 = .ok (.iinc 2 1, 3) := by decide +kernel
theorem dX8_begin_119 : decode cX8_begin 119 = .ok (.goto (-16), 3) := by decide +kernel
theorem dX8_begin_122 : decode cX8_begin 122 = .ok (.aload_n 0, 1) := by decide +kernel
theorem dX8_begin_123 : decode cX8_begin 123 = .ok (.getfield 100, 3) := by decide +kernel
theorem dX8_begin_126 : decode cX8_begin 126 = .ok (.ireturn, 1) := by decide +kernel
theorem dX8_gives_0 : decode cX8_gives 0 = .ok (.iconst 0, 1) := by decide +kernel
theorem dX8_gives_1 : decode cX8_gives 1 = .ok (.istore_n 3, 1) := by decide +kernel
theorem dX8_gives_2 : decode cX8_gives 2 = .ok (.iconst 0, 1) := by decide +kernel
theorem dX8_gives_3 : decode cX8_gives 3 = .ok (.istore 4, 2) := by decide +kernel
theorem dX8_gives_5 : decode cX8_gives 5 = .ok (.iload 4, 2) := by decide +kernel
theorem dX8_gives_7 : decode cX8_gives 7 = .ok (.bipush 10, 2) := by decide +kernel
theorem dX8_gives_9 : decode cX8_gives 9 = .ok (.if_icmp .ge 17, 3) := by decide +kernel
theorem dX8_gives_12 : decode cX8_gives 12 = .ok (.aload_n 0, 1) := by decide +kernel
theorem dX8_gives_13 : decode cX8_gives 13 = .ok (.getfield 70, 3) := by decide +kernel
theorem dX8_gives_16 : decode cX8_gives 16 = .ok (.iload 4, 2) := by decide +kernel
theorem dX8_gives_18 : decode cX8_gives 18 = .ok (.iconst 0, 1) := by decide +kernel
theorem dX8_gives_19 : decode cX8_gives 19 = .ok (.iastore, 1) := by decide +kernel
theorem dX8_gives_20 : decode cX8_gives 20 = .ok (.iinc 4 1, 3) := by decide +kernel
theorem dX8_gives_23 : decode cX8_gives 23 = .ok (.goto (-18), 3) := by decide +kernel
theorem dX8_gives_26 : decode cX8_gives 26 = .ok (.iconst 0, 1) := by decide +kernel
theorem dX8_gives_27 : decode cX8_gives 27 = .ok (.istore 4, 2) := by decide +kernel
theorem dX8_gives_29 : decode cX8_gives 29 = .ok (.iload 4, 2) := by decide +kernel
theorem dX8_gives_31 : decode cX8_gives 31 = .ok (.sipush 256, 3) := by decide +kernel
theorem dX8_gives_34 : decode cX8_gives 34 = .ok (.if_icmp .ge 54, 3) := by decide +kernel
theorem dX8_gives_37 : decode cX8_gives 37 = .ok (.aload_n 0, 1) := by decide +kernel
theorem dX8_gives_38 : decode cX8_gives 38 = .ok (.iload_n 1, 1) := by decide +kernel
theorem dX8_gives_39 : decode cX8_gives 39 = .ok (.iload 4, 2) := by decide +kernel
theorem dX8_gives_41 : decode cX8_gives 41 = .ok (.invokevirtual 92, 3) := by decide +kernel
theorem dX8_gives_44 : decode cX8_gives 44 = .ok (.istore 5, 2) := by decide +kernel
theorem dX8_gives_46 : decode cX8_gives 46 = .ok (.aload_n 0, 1) := by decide +kernel
theorem dX8_gives_47 : decode cX8_gives 47 = .ok (.getfield 73, 3) := by decide +kernel
theorem dX8_gives_50 : decode cX8_gives 50 = .ok (.iload 4, 2) := by decide +kernel
theorem dX8_gives_52 : decode cX8_gives 52 = .ok (.baload, 1) := by decide +kernel
theorem dX8_gives_53 : decode cX8_gives 53 = .ok (.ifCond .eq 29, 3) := by decide +kernel
theorem dX8_gives_56 : decode cX8_gives 56 = .ok (.iload 5, 2) := by decide +kernel
theorem dX8_gives_58 : decode cX8_gives 58 = .ok (.iload_n 2, 1) := by decide +kernel
theorem dX8_gives_59 : decode cX8_gives 59 = .ok (.if_icmp .eq 23, 3) := by decide +kernel
theorem dX8_gives_62 : decode cX8_gives 62 = .ok (.iinc 3 1, 3) := by decide +kernel
theorem dX8_gives_65 : decode cX8_gives 65 = .ok (.iload 5, 2) := by decide +kernel
theorem dX8_gives_67 : decode cX8_gives 67 = .ok (.iconst (-1), 1) := by decide +kernel
theorem dX8_gives_68 : decode cX8_gives 68 = .ok (.if_icmp .eq 14, 3) := by decide +kernel
theorem dX8_gives_71 : decode cX8_gives 71 = .ok (.aload_n 0, 1) := by decide +kernel
theorem dX8_gives_72 : decode cX8_gives 72 = .ok (.getfield 70, 3) := by decide +kernel
theorem dX8_gives_75 : decode cX8_gives 75 = .ok (.iload 5, 2) := by decide +kernel
theorem dX8_gives_77 : decode cX8_gives 77 = .ok (.dup2, 1) := by decide +kernel
theorem dX8_gives_78 : decode cX8_gives 78 = .ok (.iaload, 1) := by decide +kernel
theorem dX8_gives_79 : decode cX8_gives 79 = .ok (.iconst 1, 1) := by decide +kernel
theorem dX8_gives_80 : decode cX8_gives 80 = .ok (.iadd, 1) := by decide +kernel
theorem dX8_gives_81 : decode cX8_gives 81 = .ok (.iastore, 1) := by decide +kernel
theorem dX8_gives_82 : decode cX8_gives 82 = .ok (.iinc 4 1, 3) := by decide +kernel
theorem dX8_gives_85 : decode cX8_gives 85 = .ok (.goto (-56), 3) := by decide +kernel
theorem dX8_gives_88 : decode cX8_gives 88 = .ok (.iconst 0, 1) := by decide +kernel
theorem dX8_gives_89 : decode cX8_gives 89 = .ok (.istore 4, 2) := by decide +kernel
theorem dX8_gives_91 : decode cX8_gives 91 = .ok (.iload 4, 2) := by decide +kernel
theorem dX8_gives_93 : decode cX8_gives 93 = .ok (.bipush 10, 2) := by decide +kernel
theorem dX8_gives_95 : decode cX8_gives 95 = .ok (.if_icmp .ge 100, 3) := by decide +kernel
theorem dX8_gives_98 : decode cX8_gives 98 = .ok (.aload_n 0, 1) := by decide +kernel
theorem dX8_gives_99 : decode cX8_gives 99 = .ok (.getfield 13, 3) := by decide +kernel
theorem dX8_gives_102 : decode cX8_gives 102 = .ok (.iload_n 1, 1) := by decide +kernel
theorem dX8_gives_103 : decode cX8_gives 103 = .ok (.baload, 1) := by decide +kernel
theorem dX8_gives_104 : decode cX8_gives 104 = .ok (.ifCond .ne 91, 3) := by decide +kernel
theorem dX8_gives_107 : decode cX8_gives 107 = .ok (.aload_n 0, 1) := by decide +kernel
theorem dX8_gives_108 : decode cX8_gives 108 = .ok (.getfield 70, 3) := by decide +kernel
theorem dX8_gives_111 : decode cX8_gives 111 = .ok (.iload 4, 2) := by decide +kernel
theorem dX8_gives_113 : decode cX8_gives 113 = .ok (.iaload, 1) := by decide +kernel
theorem dX8_gives_114 : decode cX8_gives 114 = .ok (.ifCond .ne 7, 3) := by decide +kernel
theorem dX8_gives_117 : decode cX8_gives 117 = .ok (.iconst 0, 1) := by decide +kernel
theorem dX8_gives_118 : decode cX8_gives 118 = .ok (.goto 31, 3) := by decide +kernel
theorem dX8_gives_121 : decode cX8_gives 121 = .ok (.aload_n 0, 1) := by decide +kernel
theorem dX8_gives_122 : decode cX8_gives 122 = .ok (.getfield 21, 3) := by decide +kernel
theorem dX8_gives_125 : decode cX8_gives 125 = .ok (.bipush 10, 2) := by decide +kernel
theorem dX8_gives_127 : decode cX8_gives 127 = .ok (.iload_n 1, 1) := by decide +kernel
theorem dX8_gives_128 : decode cX8_gives 128 = .ok (.imul, 1) := by decide +kernel
theorem dX8_gives_129 : decode cX8_gives 129 = .ok (.iload 4, 2) := by decide +kernel
theorem dX8_gives_131 : decode cX8_gives 131 = .ok (.iadd, 1) := by decide +kernel
theorem dX8_gives_132 : decode cX8_gives 132 = .ok (.iaload, 1) := by decide +kernel
theorem dX8_gives_133 : decode cX8_gives 133 = .ok (.aload_n 0, 1) := by decide +kernel
theorem dX8_gives_134 : decode cX8_gives 134 = .ok (.getfield 70, 3) := by decide +kernel
theorem dX8_gives_137 : decode cX8_gives 137 = .ok (.iload 4, 2) := by decide +kernel
theorem dX8_gives_139 : decode cX8_gives 139 = .ok (.iaload, 1) := by decide +kernel
theorem dX8_gives_140 : decode cX8_gives 140 = .ok (.imul, 1) := by decide +kernel
theorem dX8_gives_141 : decode cX8_gives 141 = .ok (.aload_n 0, 1) := by decide +kernel
theorem dX8_gives_142 : decode cX8_gives 142 = .ok (.iload_n 1, 1) := by decide +kernel
theorem dX8_gives_143 : decode cX8_gives 143 = .ok (.iload 4, 2) := by decide +kernel
theorem dX8_gives_145 : decode cX8_gives 145 = .ok (.invokevirtual 103, 3) := by decide +kernel
theorem dX8_gives_148 : decode cX8_gives 148 = .ok (.idiv, 1) := by decide +kernel
theorem dX8_gives_149 : decode cX8_gives 149 = .ok (.istore 5, 2) := by decide +kernel
theorem dX8_gives_151 : decode cX8_gives 151 = .ok (.aload_n 0, 1) := by decide +kernel
theorem dX8_gives_152 : decode cX8_gives 152 = .ok (.getfield 21, 3) := by decide +kernel
theorem dX8_gives_155 : decode cX8_gives 155 = .ok (.bipush 10, 2) := by decide +kernel
theorem dX8_gives_157 : decode cX8_gives 157 = .ok (.iload_n 1, 1) := by decide +kernel
theorem dX8_gives_158 : decode cX8_gives 158 = .ok (.imul, 1) := by decide +kernel
theorem dX8_gives_159 : decode cX8_gives 159 = .ok (.iload 4, 2) := by decide +kernel
theorem dX8_gives_161 : decode cX8_gives 161 = .ok (.iadd, 1) := by decide +kernel
theorem dX8_gives_162 : decode cX8_gives 162 = .ok (.dup2, 1) := by decide +kernel
theorem dX8_gives_163 : decode cX8_gives 163 = .ok (.iaload, 1) := by decide +kernel
theorem dX8_gives_164 : decode cX8_gives 164 = .ok (.iload 5, 2) := by decide +kernel
theorem dX8_gives_166 : decode cX8_gives 166 = .ok (.isub, 1) := by decide +kernel
theorem dX8_gives_167 : decode cX8_gives 167 = .ok (.iastore, 1) := by decide +kernel
theorem dX8_gives_168 : decode cX8_gives 168 = .ok (.iload_n 2, 1) := by decide +kernel
theorem dX8_gives_169 : decode cX8_gives 169 = .ok (.iconst (-1), 1) := by decide +kernel
theorem dX8_gives_170 : decode cX8_gives 170 = .ok (.if_icmp .eq 19, 3) := by decide +kernel
theorem dX8_gives_173 : decode cX8_gives 173 = .ok (.aload_n 0, 1) := by decide +kernel
theorem dX8_gives_174 : decode cX8_gives 174 = .ok (.getfield 21, 3) := by decide +kernel
theorem dX8_gives_177 : decode cX8_gives 177 = .ok (.bipush 10, 2) := by decide +kernel
theorem dX8_gives_179 : decode cX8_gives 179 = .ok (.iload_n 1, 1) := by decide +kernel
theorem dX8_gives_180 : decode cX8_gives 180 = .ok (.imul, 1) := by decide +kernel
theorem dX8_gives_181 : decode cX8_gives 181 = .ok (.iload_n 2, 1) := by decide +kernel
theorem dX8_gives_182 : decode cX8_gives 182 = .ok (.iadd, 1) := by decide +kernel
theorem dX8_gives_183 : decode cX8_gives 183 = .ok (.dup2, 1) := by decide +kernel
theorem dX8_gives_184 : decode cX8_gives 184 = .ok (.iaload, 1) := by decide +kernel
theorem dX8_gives_185 : decode cX8_gives 185 = .ok (.iload 5, 2) := by decide +kernel
theorem dX8_gives_187 : decode cX8_gives 187 = .ok (.iadd, 1) := by decide +kernel
theorem dX8_gives_188 : decode cX8_gives 188 = .ok (.iastore, 1) := by decide +kernel
theorem dX8_gives_189 : decode cX8_gives 189 = .ok (.iinc 4 1, 3) := by decide +kernel
theorem dX8_gives_192 : decode cX8_gives 192 = .ok (.goto (-101), 3) := by decide +kernel
theorem dX8_gives_195 : decode cX8_gives 195 = .ok (.iconst 0, 1) := by decide +kernel
theorem dX8_gives_196 : decode cX8_gives 196 = .ok (.istore 4, 2) := by decide +kernel
theorem dX8_gives_198 : decode cX8_gives 198 = .ok (.iload 4, 2) := by decide +kernel
theorem dX8_gives_200 : decode cX8_gives 200 = .ok (.sipush 256, 3) := by decide +kernel
theorem dX8_gives_203 : decode cX8_gives 203 = .ok (.if_icmp .ge 43, 3) := by decide +kernel
theorem dX8_gives_206 : decode cX8_gives 206 = .ok (.aload_n 0, 1) := by decide +kernel
theorem dX8_gives_207 : decode cX8_gives 207 = .ok (.getfield 17, 3) := by decide +kernel
theorem dX8_gives_210 : decode cX8_gives 210 = .ok (.sipush 256, 3) := by decide +kernel
theorem dX8_gives_213 : decode cX8_gives 213 = .ok (.iload_n 1, 1) := by decide +kernel
theorem dX8_gives_214 : decode cX8_gives 214 = .ok (.imul, 1) := by decide +kernel
theorem dX8_gives_215 : decode cX8_gives 215 = .ok (.iload 4, 2) := by decide +kernel
theorem dX8_gives_217 : decode cX8_gives 217 = .ok (.iadd, 1) := by decide +kernel
theorem dX8_gives_218 : decode cX8_gives 218 = .ok (.aload_n 0, 1) := by decide +kernel
theorem dX8_gives_219 : decode cX8_gives 219 = .ok (.getfield 73, 3) := by decide +kernel
theorem dX8_gives_222 : decode cX8_gives 222 = .ok (.iload 4, 2) := by decide +kernel
theorem dX8_gives_224 : decode cX8_gives 224 = .ok (.baload, 1) := by decide +kernel
theorem dX8_gives_225 : decode cX8_gives 225 = .ok (.ifCond .eq 7, 3) := by decide +kernel
theorem dX8_gives_228 : decode cX8_gives 228 = .ok (.iload_n 2, 1) := by decide +kernel
theorem dX8_gives_229 : decode cX8_gives 229 = .ok (.goto 10, 3) := by decide +kernel
theorem dX8_gives_232 : decode cX8_gives 232 = .ok (.aload_n 0, 1) := by decide +kernel
theorem dX8_gives_233 : decode cX8_gives 233 = .ok (.iload_n 1, 1) := by decide +kernel
theorem dX8_gives_234 : decode cX8_gives 234 = .ok (.iload 4, 2) := by decide +kernel
theorem dX8_gives_236 : decode cX8_gives 236 = .ok (.invokevirtual 92, 3) := by decide +kernel
theorem dX8_gives_239 : decode cX8_gives 239 = .ok (.iastore, 1) := by decide +kernel
theorem dX8_gives_240 : decode cX8_gives 240 = .ok (.iinc 4 1, 3) := by decide +kernel
theorem dX8_gives_243 : decode cX8_gives 243 = .ok (.goto (-45), 3) := by decide +kernel
theorem dX8_gives_246 : decode cX8_gives 246 = .ok (.iconst 0, 1) := by decide +kernel
theorem dX8_gives_247 : decode cX8_gives 247 = .ok (.istore 4, 2) := by decide +kernel
theorem dX8_gives_249 : decode cX8_gives 249 = .ok (.iload 4, 2) := by decide +kernel
theorem dX8_gives_251 : decode cX8_gives 251 = .ok (.bipush 10, 2) := by decide +kernel
theorem dX8_gives_253 : decode cX8_gives 253 = .ok (.if_icmp .ge 47, 3) := by decide +kernel
theorem dX8_gives_256 : decode cX8_gives 256 = .ok (.aload_n 0, 1) := by decide +kernel
theorem dX8_gives_257 : decode cX8_gives 257 = .ok (.getfield 21, 3) := by decide +kernel
theorem dX8_gives_260 : decode cX8_gives 260 = .ok (.bipush 10, 2) := by decide +kernel
theorem dX8_gives_262 : decode cX8_gives 262 = .ok (.iload_n 1, 1) := by decide +kernel
theorem dX8_gives_263 : decode cX8_gives 263 = .ok (.imul, 1) := by decide +kernel
theorem dX8_gives_264 : decode cX8_gives 264 = .ok (.iload 4, 2) := by decide +kernel
theorem dX8_gives_266 : decode cX8_gives 266 = .ok (.iadd, 1) := by decide +kernel
theorem dX8_gives_267 : decode cX8_gives 267 = .ok (.aload_n 0, 1) := by decide +kernel
theorem dX8_gives_268 : decode cX8_gives 268 = .ok (.iload_n 1, 1) := by decide +kernel
theorem dX8_gives_269 : decode cX8_gives 269 = .ok (.iload 4, 2) := by decide +kernel
theorem dX8_gives_271 : decode cX8_gives 271 = .ok (.invokevirtual 103, 3) := by decide +kernel
theorem dX8_gives_274 : decode cX8_gives 274 = .ok (.ifCond .ne 7, 3) := by decide +kernel
theorem dX8_gives_277 : decode cX8_gives 277 = .ok (.iconst 0, 1) := by decide +kernel
theorem dX8_gives_278 : decode cX8_gives 278 = .ok (.goto 15, 3) := by decide +kernel
theorem dX8_gives_281 : decode cX8_gives 281 = .ok (.aload_n 0, 1) := by decide +kernel
theorem dX8_gives_282 : decode cX8_gives 282 = .ok (.getfield 21, 3) := by decide +kernel
theorem dX8_gives_285 : decode cX8_gives 285 = .ok (.bipush 10, 2) := by decide +kernel
theorem dX8_gives_287 : decode cX8_gives 287 = .ok (.iload_n 1, 1) := by decide +kernel
theorem dX8_gives_288 : decode cX8_gives 288 = .ok (.imul, 1) := by decide +kernel
theorem dX8_gives_289 : decode cX8_gives 289 = .ok (.iload 4, 2) := by decide +kernel
theorem dX8_gives_291 : decode cX8_gives 291 = .ok (.iadd, 1) := by decide +kernel
theorem dX8_gives_292 : decode cX8_gives 292 = .ok (.iaload, 1) := by decide +kernel
theorem dX8_gives_293 : decode cX8_gives 293 = .ok (.iastore, 1) := by decide +kernel
theorem dX8_gives_294 : decode cX8_gives 294 = .ok (.iinc 4 1, 3) := by decide +kernel
theorem dX8_gives_297 : decode cX8_gives 297 = .ok (.goto (-48), 3) := by decide +kernel
theorem dX8_gives_300 : decode cX8_gives 300 = .ok (.iload_n 3, 1) := by decide +kernel
theorem dX8_gives_301 : decode cX8_gives 301 = .ok (.ireturn, 1) := by decide +kernel
theorem dX8_isBox_0 : decode cX8_isBox 0 = .ok (.iload_n 0, 1) := by decide +kernel
theorem dX8_isBox_1 : decode cX8_isBox 1 = .ok (.iconst 0, 1) := by decide +kernel
theorem dX8_isBox_2 : decode cX8_isBox 2 = .ok (.bipush 15, 2) := by decide +kernel
theorem dX8_isBox_4 : decode cX8_isBox 4 = .ok (.invokestatic 88, 3) := by decide +kernel
theorem dX8_isBox_7 : decode cX8_isBox 7 = .ok (.ifCond .eq 41, 3) := by decide +kernel
theorem dX8_isBox_10 : decode cX8_isBox 10 = .ok (.iload_n 1, 1) := by decide +kernel
theorem dX8_isBox_11 : decode cX8_isBox 11 = .ok (.iconst 0, 1) := by decide +kernel
theorem dX8_isBox_12 : decode cX8_isBox 12 = .ok (.bipush 15, 2) := by decide +kernel
theorem dX8_isBox_14 : decode cX8_isBox 14 = .ok (.invokestatic 88, 3) := by decide +kernel
theorem dX8_isBox_17 : decode cX8_isBox 17 = .ok (.ifCond .eq 31, 3) := by decide +kernel
theorem dX8_isBox_20 : decode cX8_isBox 20 = .ok (.iload_n 2, 1) := by decide +kernel
theorem dX8_isBox_21 : decode cX8_isBox 21 = .ok (.iconst 1, 1) := by decide +kernel
theorem dX8_isBox_22 : decode cX8_isBox 22 = .ok (.bipush 16, 2) := by decide +kernel
theorem dX8_isBox_24 : decode cX8_isBox 24 = .ok (.iload_n 0, 1) := by decide +kernel
theorem dX8_isBox_25 : decode cX8_isBox 25 = .ok (.isub, 1) := by decide +kernel
theorem dX8_isBox_26 : decode cX8_isBox 26 = .ok (.invokestatic 88, 3) := by decide +kernel
theorem dX8_isBox_29 : decode cX8_isBox 29 = .ok (.ifCond .eq 19, 3) := by decide +kernel
theorem dX8_isBox_32 : decode cX8_isBox 32 = .ok (.iload_n 3, 1) := by decide +kernel
theorem dX8_isBox_33 : decode cX8_isBox 33 = .ok (.iconst 1, 1) := by decide +kernel
theorem dX8_isBox_34 : decode cX8_isBox 34 = .ok (.bipush 16, 2) := by decide +kernel
theorem dX8_isBox_36 : decode cX8_isBox 36 = .ok (.iload_n 1, 1) := by decide +kernel
theorem dX8_isBox_37 : decode cX8_isBox 37 = .ok (.isub, 1) := by decide +kernel
theorem dX8_isBox_38 : decode cX8_isBox 38 = .ok (.invokestatic 88, 3) := by decide +kernel
theorem dX8_isBox_41 : decode cX8_isBox 41 = .ok (.ifCond .eq 7, 3) := by decide +kernel
theorem dX8_isBox_44 : decode cX8_isBox 44 = .ok (.iconst 1, 1) := by decide +kernel
theorem dX8_isBox_45 : decode cX8_isBox 45 = .ok (.goto 4, 3) := by decide +kernel
theorem dX8_isBox_48 : decode cX8_isBox 48 = .ok (.iconst 0, 1) := by decide +kernel
theorem dX8_isBox_49 : decode cX8_isBox 49 = .ok (.ireturn, 1) := by decide +kernel
theorem dX8_paint_0 : decode cX8_paint 0 = .ok (.aload_n 0, 1) := by decide +kernel
theorem dX8_paint_1 : decode cX8_paint 1 = .ok (.iconst 0, 1) := by decide +kernel
theorem dX8_paint_2 : decode cX8_paint 2 = .ok (.putfield 85, 3) := by decide +kernel
theorem dX8_paint_5 : decode cX8_paint 5 = .ok (.iload_n 1, 1) := by decide +kernel
theorem dX8_paint_6 : decode cX8_paint 6 = .ok (.invokestatic 106, 3) := by decide +kernel
theorem dX8_paint_9 : decode cX8_paint 9 = .ok (.ifCond .ne 9, 3) := by decide +kernel
theorem dX8_paint_12 : decode cX8_paint 12 = .ok (.aload_n 0, 1) := by decide +kernel
theorem dX8_paint_13 : decode cX8_paint 13 = .ok (.iconst 1, 1) := by decide +kernel
theorem dX8_paint_14 : decode cX8_paint 14 = .ok (.invokevirtual 96, 3) := by decide +kernel
theorem dX8_paint_17 : decode cX8_paint 17 = .ok (.ireturn, 1) := by decide +kernel
theorem dX8_paint_18 : decode cX8_paint 18 = .ok (.iload_n 2, 1) := by decide +kernel
theorem dX8_paint_19 : decode cX8_paint 19 = .ok (.iconst (-1), 1) := by decide +kernel
theorem dX8_paint_20 : decode cX8_paint 20 = .ok (.if_icmp .eq 10, 3) := by decide +kernel
theorem dX8_paint_23 : decode cX8_paint 23 = .ok (.iload_n 2, 1) := by decide +kernel
theorem dX8_paint_24 : decode cX8_paint 24 = .ok (.invokestatic 110, 3) := by decide +kernel
theorem dX8_paint_27 : decode cX8_paint 27 = .ok (.ifCond .eq 16, 3) := by decide +kernel
theorem dX8_paint_30 : decode cX8_paint 30 = .ok (.iload_n 3, 1) := by decide +kernel
theorem dX8_paint_31 : decode cX8_paint 31 = .ok (.iload 4, 2) := by decide +kernel
theorem dX8_paint_33 : decode cX8_paint 33 = .ok (.iload 5, 2) := by decide +kernel
theorem dX8_paint_35 : decode cX8_paint 35 = .ok (.iload 6, 2) := by decide +kernel
theorem dX8_paint_37 : decode cX8_paint 37 = .ok (.invokestatic 113, 3) := by decide +kernel
theorem dX8_paint_40 : decode cX8_paint 40 = .ok (.ifCond .ne 9, 3) := by decide +kernel
theorem dX8_paint_43 : decode cX8_paint 43 = .ok (.aload_n 0, 1) := by decide +kernel
theorem dX8_paint_44 : decode cX8_paint 44 = .ok (.iconst 2, 1) := by decide +kernel
theorem dX8_paint_45 : decode cX8_paint 45 = .ok (.invokevirtual 96, 3) := by decide +kernel
theorem dX8_paint_48 : decode cX8_paint 48 = .ok (.ireturn, 1) := by decide +kernel
theorem dX8_paint_49 : decode cX8_paint 49 = .ok (.aload_n 0, 1) := by decide +kernel
theorem dX8_paint_50 : decode cX8_paint 50 = .ok (.getfield 9, 3) := by decide +kernel
theorem dX8_paint_53 : decode cX8_paint 53 = .ok (.iconst (-1), 1) := by decide +kernel
theorem dX8_paint_54 : decode cX8_paint 54 = .ok (.if_icmp .ne 9, 3) := by decide +kernel
theorem dX8_paint_57 : decode cX8_paint 57 = .ok (.aload_n 0, 1) := by decide +kernel
theorem dX8_paint_58 : decode cX8_paint 58 = .ok (.iconst 3, 1) := by decide +kernel
theorem dX8_paint_59 : decode cX8_paint 59 = .ok (.invokevirtual 96, 3) := by decide +kernel
theorem dX8_paint_62 : decode cX8_paint 62 = .ok (.ireturn, 1) := by decide +kernel
theorem dX8_paint_63 : decode cX8_paint 63 = .ok (.iconst 0, 1) := by decide +kernel
theorem dX8_paint_64 : decode cX8_paint 64 = .ok (.istore 7, 2) := by decide +kernel
theorem dX8_paint_66 : decode cX8_paint 66 = .ok (.iload 7, 2) := by decide +kernel
theorem dX8_paint_68 : decode cX8_paint 68 = .ok (.sipush 256, 3) := by decide +kernel
theorem dX8_paint_71 : decode cX8_paint 71 = .ok (.if_icmp .ge 59, 3) := by decide +kernel
theorem dX8_paint_74 : decode cX8_paint 74 = .ok (.aload_n 0, 1) := by decide +kernel
theorem dX8_paint_75 : decode cX8_paint 75 = .ok (.getfield 73, 3) := by decide +kernel
theorem dX8_paint_78 : decode cX8_paint 78 = .ok (.iload 7, 2) := by decide +kernel
theorem dX8_paint_80 : decode cX8_paint 80 = .ok (.iload 7, 2) := by decide +kernel
theorem dX8_paint_82 : decode cX8_paint 82 = .ok (.bipush 16, 2) := by decide +kernel
theorem dX8_paint_84 : decode cX8_paint 84 = .ok (.irem, 1) := by decide +kernel
theorem dX8_paint_85 : decode cX8_paint 85 = .ok (.iload_n 3, 1) := by decide +kernel
theorem dX8_paint_86 : decode cX8_paint 86 = .ok (.iload_n 3, 1) := by decide +kernel
theorem dX8_paint_87 : decode cX8_paint 87 = .ok (.iload 5, 2) := by decide +kernel
theorem dX8_paint_89 : decode cX8_paint 89 = .ok (.iadd, 1) := by decide +kernel
theorem dX8_paint_90 : decode cX8_paint 90 = .ok (.iconst 1, 1) := by decide +kernel
theorem dX8_paint_91 : decode cX8_paint 91 = .ok (.isub, 1) := by decide +kernel
theorem dX8_paint_92 : decode cX8_paint 92 = .ok (.invokestatic 88, 3) := by decide +kernel
theorem dX8_paint_95 : decode cX8_paint 95 = .ok (.ifCond .eq 27, 3) := by decide +kernel
theorem dX8_paint_98 : decode cX8_paint 98 = .ok (.iload 7, 2) := by decide +kernel
theorem dX8_paint_100 : decode cX8_paint 100 = .ok (.bipush 16, 2) := by decide +kernel
theorem dX8_paint_102 : decode cX8_paint 102 = .ok (.idiv, 1) := by decide +kernel
theorem dX8_paint_103 : decode cX8_paint 103 = .ok (.iload 4, 2) := by decide +kernel
theorem dX8_paint_105 : decode cX8_paint 105 = .ok (.iload 4, 2) := by decide +kernel
theorem dX8_paint_107 : decode cX8_paint 107 = .ok (.iload 6, 2) := by decide +kernel
theorem dX8_paint_109 : decode cX8_paint 109 = .ok (.iadd, 1) := by decide +kernel
theorem dX8_paint_110 : decode cX8_paint 110 = .ok (.iconst 1, 1) := by decide +kernel
theorem dX8_paint_111 : decode cX8_paint 111 = .ok (.isub, 1) := by decide +kernel
theorem dX8_paint_112 : decode cX8_paint 112 = .ok (.invokestatic 88, 3) := by decide +kernel
theorem dX8_paint_115 : decode cX8_paint 115 = .ok (.ifCond .eq 7, 3) := by decide +kernel
theorem dX8_paint_118 : decode cX8_paint 118 = .ok (.iconst 1, 1) := by decide +kernel
theorem dX8_paint_119 : decode cX8_paint 119 = .ok (.goto 4, 3) := by decide +kernel
theorem dX8_paint_122 : decode cX8_paint 122 = .ok (.iconst 0, 1) := by decide +kernel
theorem dX8_paint_123 : decode cX8_paint 123 = .ok (.bastore, 1) := by decide +kernel
theorem dX8_paint_124 : decode cX8_paint 124 = .ok (.iinc 7 1, 3) := by decide +kernel
theorem dX8_paint_127 : decode cX8_paint 127 = .ok (.goto (-61), 3) := by decide +kernel
theorem dX8_paint_130 : decode cX8_paint 130 = .ok (.aload_n 0, 1) := by decide +kernel
theorem dX8_paint_131 : decode cX8_paint 131 = .ok (.iload_n 1, 1) := by decide +kernel
theorem dX8_paint_132 : decode cX8_paint 132 = .ok (.iload_n 2, 1) := by decide +kernel
theorem dX8_paint_133 : decode cX8_paint 133 = .ok (.invokevirtual 117, 3) := by decide +kernel
theorem dX8_paint_136 : decode cX8_paint 136 = .ok (.ireturn, 1) := by decide +kernel
theorem dX8_split_0 : decode cX8_split 0 = .ok (.aload_n 0, 1) := by decide +kernel
theorem dX8_split_1 : decode cX8_split 1 = .ok (.iconst 0, 1) := by decide +kernel
theorem dX8_split_2 : decode cX8_split 2 = .ok (.putfield 85, 3) := by decide +kernel
theorem dX8_split_5 : decode cX8_split 5 = .ok (.iload_n 1, 1) := by decide +kernel
theorem dX8_split_6 : decode cX8_split 6 = .ok (.invokestatic 106, 3) := by decide +kernel
theorem dX8_split_9 : decode cX8_split 9 = .ok (.ifCond .ne 9, 3) := by decide +kernel
theorem dX8_split_12 : decode cX8_split 12 = .ok (.aload_n 0, 1) := by decide +kernel
theorem dX8_split_13 : decode cX8_split 13 = .ok (.iconst 1, 1) := by decide +kernel
theorem dX8_split_14 : decode cX8_split 14 = .ok (.invokevirtual 96, 3) := by decide +kernel
theorem dX8_split_17 : decode cX8_split 17 = .ok (.ireturn, 1) := by decide +kernel
theorem dX8_split_18 : decode cX8_split 18 = .ok (.iload_n 2, 1) := by decide +kernel
theorem dX8_split_19 : decode cX8_split 19 = .ok (.invokestatic 110, 3) := by decide +kernel
theorem dX8_split_22 : decode cX8_split 22 = .ok (.ifCond .eq 40, 3) := by decide +kernel
theorem dX8_split_25 : decode cX8_split 25 = .ok (.iload_n 3, 1) := by decide +kernel
theorem dX8_split_26 : decode cX8_split 26 = .ok (.invokestatic 110, 3) := by decide +kernel
theorem dX8_split_29 : decode cX8_split 29 = .ok (.ifCond .eq 33, 3) := by decide +kernel
theorem dX8_split_32 : decode cX8_split 32 = .ok (.iload_n 2, 1) := by decide +kernel
theorem dX8_split_33 : decode cX8_split 33 = .ok (.iload_n 3, 1) := by decide +kernel
theorem dX8_split_34 : decode cX8_split 34 = .ok (.if_icmp .eq 28, 3) := by decide +kernel
theorem dX8_split_37 : decode cX8_split 37 = .ok (.iload 4, 2) := by decide +kernel
theorem dX8_split_39 : decode cX8_split 39 = .ok (.bipush 120, 2) := by decide +kernel
theorem dX8_split_41 : decode cX8_split 41 = .ok (.if_icmp .eq 10, 3) := by decide +kernel
theorem dX8_split_44 : decode cX8_split 44 = .ok (.iload 4, 2) := by decide +kernel
theorem dX8_split_46 : decode cX8_split 46 = .ok (.bipush 121, 2) := by decide +kernel
theorem dX8_split_48 : decode cX8_split 48 = .ok (.if_icmp .ne 14, 3) := by decide +kernel
theorem dX8_split_51 : decode cX8_split 51 = .ok (.iload 5, 2) := by decide +kernel
theorem dX8_split_53 : decode cX8_split 53 = .ok (.iconst 0, 1) := by decide +kernel
theorem dX8_split_54 : decode cX8_split 54 = .ok (.bipush 15, 2) := by decide +kernel
theorem dX8_split_56 : decode cX8_split 56 = .ok (.invokestatic 88, 3) := by decide +kernel
theorem dX8_split_59 : decode cX8_split 59 = .ok (.ifCond .ne 9, 3) := by decide +kernel
theorem dX8_split_62 : decode cX8_split 62 = .ok (.aload_n 0, 1) := by decide +kernel
theorem dX8_split_63 : decode cX8_split 63 = .ok (.iconst 2, 1) := by decide +kernel
theorem dX8_split_64 : decode cX8_split 64 = .ok (.invokevirtual 96, 3) := by decide +kernel
theorem dX8_split_67 : decode cX8_split 67 = .ok (.ireturn, 1) := by decide +kernel
theorem dX8_split_68 : decode cX8_split 68 = .ok (.aload_n 0, 1) := by decide +kernel
theorem dX8_split_69 : decode cX8_split 69 = .ok (.getfield 9, 3) := by decide +kernel
theorem dX8_split_72 : decode cX8_split 72 = .ok (.iconst (-1), 1) := by decide +kernel
theorem dX8_split_73 : decode cX8_split 73 = .ok (.if_icmp .ne 9, 3) := by decide +kernel
theorem dX8_split_76 : decode cX8_split 76 = .ok (.aload_n 0, 1) := by decide +kernel
theorem dX8_split_77 : decode cX8_split 77 = .ok (.iconst 3, 1) := by decide +kernel
theorem dX8_split_78 : decode cX8_split 78 = .ok (.invokevirtual 96, 3) := by decide +kernel
theorem dX8_split_81 : decode cX8_split 81 = .ok (.ireturn, 1) := by decide +kernel
theorem dX8_split_82 : decode cX8_split 82 = .ok (.aload_n 0, 1) := by decide +kernel
theorem dX8_split_83 : decode cX8_split 83 = .ok (.iload_n 1, 1) := by decide +kernel
theorem dX8_split_84 : decode cX8_split 84 = .ok (.iload_n 3, 1) := by decide +kernel
theorem dX8_split_85 : decode cX8_split 85 = .ok (.invokevirtual 103, 3) := by decide +kernel
theorem dX8_split_88 : decode cX8_split 88 = .ok (.ifCond .le 9, 3) := by decide +kernel
theorem dX8_split_91 : decode cX8_split 91 = .ok (.aload_n 0, 1) := by decide +kernel
theorem dX8_split_92 : decode cX8_split 92 = .ok (.iconst 4, 1) := by decide +kernel
theorem dX8_split_93 : decode cX8_split 93 = .ok (.invokevirtual 96, 3) := by decide +kernel
theorem dX8_split_96 : decode cX8_split 96 = .ok (.ireturn, 1) := by decide +kernel
theorem dX8_split_97 : decode cX8_split 97 = .ok (.iconst 0, 1) := by decide +kernel
theorem dX8_split_98 : decode cX8_split 98 = .ok (.istore 6, 2) := by decide +kernel
theorem dX8_split_100 : decode cX8_split 100 = .ok (.iload 6, 2) := by decide +kernel
theorem dX8_split_102 : decode cX8_split 102 = .ok (.sipush 256, 3) := by decide +kernel
theorem dX8_split_105 : decode cX8_split 105 = .ok (.if_icmp .ge 57, 3) := by decide +kernel
theorem dX8_split_108 : decode cX8_split 108 = .ok (.aload_n 0, 1) := by decide +kernel
theorem dX8_split_109 : decode cX8_split 109 = .ok (.getfield 73, 3) := by decide +kernel
theorem dX8_split_112 : decode cX8_split 112 = .ok (.iload 6, 2) := by decide +kernel
theorem dX8_split_114 : decode cX8_split 114 = .ok (.aload_n 0, 1) := by decide +kernel
theorem dX8_split_115 : decode cX8_split 115 = .ok (.iload_n 1, 1) := by decide +kernel
theorem dX8_split_116 : decode cX8_split 116 = .ok (.iload 6, 2) := by decide +kernel
theorem dX8_split_118 : decode cX8_split 118 = .ok (.invokevirtual 92, 3) := by decide +kernel
theorem dX8_split_121 : decode cX8_split 121 = .ok (.iload_n 2, 1) := by decide +kernel
theorem dX8_split_122 : decode cX8_split 122 = .ok (.if_icmp .ne 32, 3) := by decide +kernel
theorem dX8_split_125 : decode cX8_split 125 = .ok (.iload 4, 2) := by decide +kernel
theorem dX8_split_127 : decode cX8_split 127 = .ok (.bipush 120, 2) := by decide +kernel
theorem dX8_split_129 : decode cX8_split 129 = .ok (.if_icmp .ne 11, 3) := by decide +kernel
theorem dX8_split_132 : decode cX8_split 132 = .ok (.iload 6, 2) := by decide +kernel
theorem dX8_split_134 : decode cX8_split 134 = .ok (.bipush 16, 2) := by decide +kernel
theorem dX8_split_136 : decode cX8_split 136 = .ok (.irem, 1) := by decide +kernel
theorem dX8_split_137 : decode cX8_split 137 = .ok (.goto 8, 3) := by decide +kernel
theorem dX8_split_140 : decode cX8_split 140 = .ok (.iload 6, 2) := by decide +kernel
theorem dX8_split_142 : decode cX8_split 142 = .ok (.bipush 16, 2) := by decide +kernel
theorem dX8_split_144 : decode cX8_split 144 = .ok (.idiv, 1) := by decide +kernel
theorem dX8_split_145 : decode cX8_split 145 = .ok (.iload 5, 2) := by decide +kernel
theorem dX8_split_147 : decode cX8_split 147 = .ok (.if_icmp .lt 7, 3) := by decide +kernel
theorem dX8_split_150 : decode cX8_split 150 = .ok (.iconst 1, 1) := by decide +kernel
theorem dX8_split_151 : decode cX8_split 151 = .ok (.goto 4, 3) := by decide +kernel
theorem dX8_split_154 : decode cX8_split 154 = .ok (.iconst 0, 1) := by decide +kernel
theorem dX8_split_155 : decode cX8_split 155 = .ok (.bastore, 1) := by decide +kernel
theorem dX8_split_156 : decode cX8_split 156 = .ok (.iinc 6 1, 3) := by decide +kernel
theorem dX8_split_159 : decode cX8_split 159 = .ok (.goto (-59), 3) := by decide +kernel
theorem dX8_split_162 : decode cX8_split 162 = .ok (.aload_n 0, 1) := by decide +kernel
theorem dX8_split_163 : decode cX8_split 163 = .ok (.iload_n 1, 1) := by decide +kernel
theorem dX8_split_164 : decode cX8_split 164 = .ok (.iload_n 3, 1) := by decide +kernel
theorem dX8_split_165 : decode cX8_split 165 = .ok (.invokevirtual 117, 3) := by decide +kernel
theorem dX8_split_168 : decode cX8_split 168 = .ok (.ireturn, 1) := by decide +kernel
theorem dX8_merge_0 : decode cX8_merge 0 = .ok (.aload_n 0, 1) := by decide +kernel
theorem dX8_merge_1 : decode cX8_merge 1 = .ok (.iconst 0, 1) := by decide +kernel
theorem dX8_merge_2 : decode cX8_merge 2 = .ok (.putfield 85, 3) := by decide +kernel
theorem dX8_merge_5 : decode cX8_merge 5 = .ok (.iload_n 1, 1) := by decide +kernel
theorem dX8_merge_6 : decode cX8_merge 6 = .ok (.invokestatic 106, 3) := by decide +kernel
theorem dX8_merge_9 : decode cX8_merge 9 = .ok (.ifCond .ne 9, 3) := by decide +kernel
theorem dX8_merge_12 : decode cX8_merge 12 = .ok (.aload_n 0, 1) := by decide +kernel
theorem dX8_merge_13 : decode cX8_merge 13 = .ok (.iconst 1, 1) := by decide +kernel
theorem dX8_merge_14 : decode cX8_merge 14 = .ok (.invokevirtual 96, 3) := by decide +kernel
theorem dX8_merge_17 : decode cX8_merge 17 = .ok (.ireturn, 1) := by decide +kernel
theorem dX8_merge_18 : decode cX8_merge 18 = .ok (.iload_n 2, 1) := by decide +kernel
theorem dX8_merge_19 : decode cX8_merge 19 = .ok (.invokestatic 110, 3) := by decide +kernel
theorem dX8_merge_22 : decode cX8_merge 22 = .ok (.ifCond .eq 15, 3) := by decide +kernel
theorem dX8_merge_25 : decode cX8_merge 25 = .ok (.iload_n 3, 1) := by decide +kernel
theorem dX8_merge_26 : decode cX8_merge 26 = .ok (.invokestatic 110, 3) := by decide +kernel
theorem dX8_merge_29 : decode cX8_merge 29 = .ok (.ifCond .eq 8, 3) := by decide +kernel
theorem dX8_merge_32 : decode cX8_merge 32 = .ok (.iload_n 2, 1) := by decide +kernel
theorem dX8_merge_33 : decode cX8_merge 33 = .ok (.iload_n 3, 1) := by decide +kernel
theorem dX8_merge_34 : decode cX8_merge 34 = .ok (.if_icmp .ne 9, 3) := by decide +kernel
theorem dX8_merge_37 : decode cX8_merge 37 = .ok (.aload_n 0, 1) := by decide +kernel
theorem dX8_merge_38 : decode cX8_merge 38 = .ok (.iconst 2, 1) := by decide +kernel
theorem dX8_merge_39 : decode cX8_merge 39 = .ok (.invokevirtual 96, 3) := by decide +kernel
theorem dX8_merge_42 : decode cX8_merge 42 = .ok (.ireturn, 1) := by decide +kernel
theorem dX8_merge_43 : decode cX8_merge 43 = .ok (.aload_n 0, 1) := by decide +kernel
theorem dX8_merge_44 : decode cX8_merge 44 = .ok (.getfield 9, 3) := by decide +kernel
theorem dX8_merge_47 : decode cX8_merge 47 = .ok (.iconst (-1), 1) := by decide +kernel
theorem dX8_merge_48 : decode cX8_merge 48 = .ok (.if_icmp .ne 9, 3) := by decide +kernel
theorem dX8_merge_51 : decode cX8_merge 51 = .ok (.aload_n 0, 1) := by decide +kernel
theorem dX8_merge_52 : decode cX8_merge 52 = .ok (.iconst 3, 1) := by decide +kernel
theorem dX8_merge_53 : decode cX8_merge 53 = .ok (.invokevirtual 96, 3) := by decide +kernel
theorem dX8_merge_56 : decode cX8_merge 56 = .ok (.ireturn, 1) := by decide +kernel
theorem dX8_merge_57 : decode cX8_merge 57 = .ok (.iconst 0, 1) := by decide +kernel
theorem dX8_merge_58 : decode cX8_merge 58 = .ok (.istore 4, 2) := by decide +kernel
theorem dX8_merge_60 : decode cX8_merge 60 = .ok (.iload 4, 2) := by decide +kernel
theorem dX8_merge_62 : decode cX8_merge 62 = .ok (.sipush 256, 3) := by decide +kernel
theorem dX8_merge_65 : decode cX8_merge 65 = .ok (.if_icmp .ge 32, 3) := by decide +kernel
theorem dX8_merge_68 : decode cX8_merge 68 = .ok (.aload_n 0, 1) := by decide +kernel
theorem dX8_merge_69 : decode cX8_merge 69 = .ok (.getfield 73, 3) := by decide +kernel
theorem dX8_merge_72 : decode cX8_merge 72 = .ok (.iload 4, 2) := by decide +kernel
theorem dX8_merge_74 : decode cX8_merge 74 = .ok (.aload_n 0, 1) := by decide +kernel
theorem dX8_merge_75 : decode cX8_merge 75 = .ok (.iload_n 1, 1) := by decide +kernel
theorem dX8_merge_76 : decode cX8_merge 76 = .ok (.iload 4, 2) := by decide +kernel
theorem dX8_merge_78 : decode cX8_merge 78 = .ok (.invokevirtual 92, 3) := by decide +kernel
theorem dX8_merge_81 : decode cX8_merge 81 = .ok (.iload_n 2, 1) := by decide +kernel
theorem dX8_merge_82 : decode cX8_merge 82 = .ok (.if_icmp .ne 7, 3) := by decide +kernel
theorem dX8_merge_85 : decode cX8_merge 85 = .ok (.iconst 1, 1) := by decide +kernel
theorem dX8_merge_86 : decode cX8_merge 86 = .ok (.goto 4, 3) := by decide +kernel
theorem dX8_merge_89 : decode cX8_merge 89 = .ok (.iconst 0, 1) := by decide +kernel
theorem dX8_merge_90 : decode cX8_merge 90 = .ok (.bastore, 1) := by decide +kernel
theorem dX8_merge_91 : decode cX8_merge 91 = .ok (.iinc 4 1, 3) := by decide +kernel
theorem dX8_merge_94 : decode cX8_merge 94 = .ok (.goto (-34), 3) := by decide +kernel
theorem dX8_merge_97 : decode cX8_merge 97 = .ok (.aload_n 0, 1) := by decide +kernel
theorem dX8_merge_98 : decode cX8_merge 98 = .ok (.iload_n 1, 1) := by decide +kernel
theorem dX8_merge_99 : decode cX8_merge 99 = .ok (.iload_n 3, 1) := by decide +kernel
theorem dX8_merge_100 : decode cX8_merge 100 = .ok (.invokevirtual 117, 3) := by decide +kernel
theorem dX8_merge_103 : decode cX8_merge 103 = .ok (.ireturn, 1) := by decide +kernel
theorem dX8_setValue_0 : decode cX8_setValue 0 = .ok (.aload_n 0, 1) := by decide +kernel
theorem dX8_setValue_1 : decode cX8_setValue 1 = .ok (.iconst 0, 1) := by decide +kernel
theorem dX8_setValue_2 : decode cX8_setValue 2 = .ok (.putfield 85, 3) := by decide +kernel
theorem dX8_setValue_5 : decode cX8_setValue 5 = .ok (.iload_n 1, 1) := by decide +kernel
theorem dX8_setValue_6 : decode cX8_setValue 6 = .ok (.invokestatic 106, 3) := by decide +kernel
theorem dX8_setValue_9 : decode cX8_setValue 9 = .ok (.ifCond .ne 9, 3) := by decide +kernel
theorem dX8_setValue_12 : decode cX8_setValue 12 = .ok (.aload_n 0, 1) := by decide +kernel
theorem dX8_setValue_13 : decode cX8_setValue 13 = .ok (.iconst 1, 1) := by decide +kernel
theorem dX8_setValue_14 : decode cX8_setValue 14 = .ok (.invokevirtual 96, 3) := by decide +kernel
theorem dX8_setValue_17 : decode cX8_setValue 17 = .ok (.ireturn, 1) := by decide +kernel
theorem dX8_setValue_18 : decode cX8_setValue 18 = .ok (.iload_n 2, 1) := by decide +kernel
theorem dX8_setValue_19 : decode cX8_setValue 19 = .ok (.invokestatic 110, 3) := by decide +kernel
theorem dX8_setValue_22 : decode cX8_setValue 22 = .ok (.ifCond .eq 14, 3) := by decide +kernel
theorem dX8_setValue_25 : decode cX8_setValue 25 = .ok (.iload_n 3, 1) := by decide +kernel
theorem dX8_setValue_26 : decode cX8_setValue 26 = .ok (.iconst 0, 1) := by decide +kernel
theorem dX8_setValue_27 : decode cX8_setValue 27 = .ok (.sipush 9999, 3) := by decide +kernel
theorem dX8_setValue_30 : decode cX8_setValue 30 = .ok (.invokestatic 88, 3) := by decide +kernel
theorem dX8_setValue_33 : decode cX8_setValue 33 = .ok (.ifCond .ne 9, 3) := by decide +kernel
theorem dX8_setValue_36 : decode cX8_setValue 36 = .ok (.aload_n 0, 1) := by decide +kernel
theorem dX8_setValue_37 : decode cX8_setValue 37 = .ok (.iconst 2, 1) := by decide +kernel
theorem dX8_setValue_38 : decode cX8_setValue 38 = .ok (.invokevirtual 96, 3) := by decide +kernel
theorem dX8_setValue_41 : decode cX8_setValue 41 = .ok (.ireturn, 1) := by decide +kernel
theorem dX8_setValue_42 : decode cX8_setValue 42 = .ok (.aload_n 0, 1) := by decide +kernel
theorem dX8_setValue_43 : decode cX8_setValue 43 = .ok (.getfield 9, 3) := by decide +kernel
theorem dX8_setValue_46 : decode cX8_setValue 46 = .ok (.iconst (-1), 1) := by decide +kernel
theorem dX8_setValue_47 : decode cX8_setValue 47 = .ok (.if_icmp .ne 9, 3) := by decide +kernel
theorem dX8_setValue_50 : decode cX8_setValue 50 = .ok (.aload_n 0, 1) := by decide +kernel
theorem dX8_setValue_51 : decode cX8_setValue 51 = .ok (.iconst 3, 1) := by decide +kernel
theorem dX8_setValue_52 : decode cX8_setValue 52 = .ok (.invokevirtual 96, 3) := by decide +kernel
theorem dX8_setValue_55 : decode cX8_setValue 55 = .ok (.ireturn, 1) := by decide +kernel
theorem dX8_setValue_56 : decode cX8_setValue 56 = .ok (.aload_n 0, 1) := by decide +kernel
theorem dX8_setValue_57 : decode cX8_setValue 57 = .ok (.iload_n 1, 1) := by decide +kernel
theorem dX8_setValue_58 : decode cX8_setValue 58 = .ok (.iload_n 2, 1) := by decide +kernel
theorem dX8_setValue_59 : decode cX8_setValue 59 = .ok (.invokevirtual 103, 3) := by decide +kernel
theorem dX8_setValue_62 : decode cX8_setValue 62 = .ok (.ifCond .ne 9, 3) := by decide +kernel
theorem dX8_setValue_65 : decode cX8_setValue 65 = .ok (.aload_n 0, 1) := by decide +kernel
theorem dX8_setValue_66 : decode cX8_setValue 66 = .ok (.iconst 4, 1) := by decide +kernel
theorem dX8_setValue_67 : decode cX8_setValue 67 = .ok (.invokevirtual 96, 3) := by decide +kernel
theorem dX8_setValue_70 : decode cX8_setValue 70 = .ok (.ireturn, 1) := by decide +kernel
theorem dX8_setValue_71 : decode cX8_setValue 71 = .ok (.aload_n 0, 1) := by decide +kernel
theorem dX8_setValue_72 : decode cX8_setValue 72 = .ok (.getfield 21, 3) := by decide +kernel
theorem dX8_setValue_75 : decode cX8_setValue 75 = .ok (.bipush 10, 2) := by decide +kernel
theorem dX8_setValue_77 : decode cX8_setValue 77 = .ok (.iload_n 1, 1) := by decide +kernel
theorem dX8_setValue_78 : decode cX8_setValue 78 = .ok (.imul, 1) := by decide +kernel
theorem dX8_setValue_79 : decode cX8_setValue 79 = .ok (.iload_n 2, 1) := by decide +kernel
theorem dX8_setValue_80 : decode cX8_setValue 80 = .ok (.iadd, 1) := by decide +kernel
theorem dX8_setValue_81 : decode cX8_setValue 81 = .ok (.iaload, 1) := by decide +kernel
theorem dX8_setValue_82 : decode cX8_setValue 82 = .ok (.istore 4, 2) := by decide +kernel
theorem dX8_setValue_84 : decode cX8_setValue 84 = .ok (.aload_n 0, 1) := by decide +kernel
theorem dX8_setValue_85 : decode cX8_setValue 85 = .ok (.getfield 21, 3) := by decide +kernel
theorem dX8_setValue_88 : decode cX8_setValue 88 = .ok (.bipush 10, 2) := by decide +kernel
theorem dX8_setValue_90 : decode cX8_setValue 90 = .ok (.iload_n 1, 1) := by decide +kernel
theorem dX8_setValue_91 : decode cX8_setValue 91 = .ok (.imul, 1) := by decide +kernel
theorem dX8_setValue_92 : decode cX8_setValue 92 = .ok (.iload_n 2, 1) := by decide +kernel
theorem dX8_setValue_93 : decode cX8_setValue 93 = .ok (.iadd, 1) := by decide +kernel
theorem dX8_setValue_94 : decode cX8_setValue 94 = .ok (.iload_n 3, 1) := by decide +kernel
theorem dX8_setValue_95 : decode cX8_setValue 95 = .ok (.iastore, 1) := by decide +kernel
theorem dX8_setValue_96 : decode cX8_setValue 96 = .ok (.iload 4, 2) := by decide +kernel
theorem dX8_setValue_98 : decode cX8_setValue 98 = .ok (.ireturn, 1) := by decide +kernel
theorem dX8_setDivides_0 : decode cX8_setDivides 0 = .ok (.aload_n 0, 1) := by decide +kernel
theorem dX8_setDivides_1 : decode cX8_setDivides 1 = .ok (.iload_n 1, 1) := by decide +kernel
theorem dX8_setDivides_2 : decode cX8_setDivides 2 = .ok (.invokestatic 106, 3) := by decide +kernel
theorem dX8_setDivides_5 : decode cX8_setDivides 5 = .ok (.ifCond .eq 7, 3) := by decide +kernel
theorem dX8_setDivides_8 : decode cX8_setDivides 8 = .ok (.iconst 0, 1) := by decide +kernel
theorem dX8_setDivides_9 : decode cX8_setDivides 9 = .ok (.goto 4, 3) := by decide +kernel
theorem dX8_setDivides_12 : decode cX8_setDivides 12 = .ok (.iconst 1, 1) := by decide +kernel
theorem dX8_setDivides_13 : decode cX8_setDivides 13 = .ok (.putfield 85, 3) := by decide +kernel
theorem dX8_setDivides_16 : decode cX8_setDivides 16 = .ok (.aload_n 0, 1) := by decide +kernel
theorem dX8_setDivides_17 : decode cX8_setDivides 17 = .ok (.getfield 85, 3) := by decide +kernel
theorem dX8_setDivides_20 : decode cX8_setDivides 20 = .ok (.ifCond .le 5, 3) := by decide +kernel
theorem dX8_setDivides_23 : decode cX8_setDivides 23 = .ok (.iconst 0, 1) := by decide +kernel
theorem dX8_setDivides_24 : decode cX8_setDivides 24 = .ok (.ireturn, 1) := by decide +kernel
theorem dX8_setDivides_25 : decode cX8_setDivides 25 = .ok (.aload_n 0, 1) := by decide +kernel
theorem dX8_setDivides_26 : decode cX8_setDivides 26 = .ok (.getfield 13, 3) := by decide +kernel
theorem dX8_setDivides_29 : decode cX8_setDivides 29 = .ok (.iload_n 1, 1) := by decide +kernel
theorem dX8_setDivides_30 : decode cX8_setDivides 30 = .ok (.baload, 1) := by decide +kernel
theorem dX8_setDivides_31 : decode cX8_setDivides 31 = .ok (.ifCond .ne 7, 3) := by decide +kernel
theorem dX8_setDivides_34 : decode cX8_setDivides 34 = .ok (.iconst 1, 1) := by decide +kernel
theorem dX8_setDivides_35 : decode cX8_setDivides 35 = .ok (.goto 4, 3) := by decide +kernel
theorem dX8_setDivides_38 : decode cX8_setDivides 38 = .ok (.iconst 0, 1) := by decide +kernel
theorem dX8_setDivides_39 : decode cX8_setDivides 39 = .ok (.istore_n 3, 1) := by decide +kernel
theorem dX8_setDivides_40 : decode cX8_setDivides 40 = .ok (.aload_n 0, 1) := by decide +kernel
theorem dX8_setDivides_41 : decode cX8_setDivides 41 = .ok (.getfield 13, 3) := by decide +kernel
theorem dX8_setDivides_44 : decode cX8_setDivides 44 = .ok (.iload_n 1, 1) := by decide +kernel
theorem dX8_setDivides_45 : decode cX8_setDivides 45 = .ok (.iload_n 2, 1) := by decide +kernel
theorem dX8_setDivides_46 : decode cX8_setDivides 46 = .ok (.ifCond .ne 7, 3) := by decide +kernel
theorem dX8_setDivides_49 : decode cX8_setDivides 49 = .ok (.iconst 1, 1) := by decide +kernel
theorem dX8_setDivides_50 : decode cX8_setDivides 50 = .ok (.goto 4, 3) := by decide +kernel
theorem dX8_setDivides_53 : decode cX8_setDivides 53 = .ok (.iconst 0, 1) := by decide +kernel
theorem dX8_setDivides_54 : decode cX8_setDivides 54 = .ok (.bastore, 1) := by decide +kernel
theorem dX8_setDivides_55 : decode cX8_setDivides 55 = .ok (.iload_n 3, 1) := by decide +kernel
theorem dX8_setDivides_56 : decode cX8_setDivides 56 = .ok (.ireturn, 1) := by decide +kernel
theorem dX8_isRule_0 : decode cX8_isRule 0 = .ok (.iload_n 1, 1) := by decide +kernel
theorem dX8_isRule_1 : decode cX8_isRule 1 = .ok (.iconst 0, 1) := by decide +kernel
theorem dX8_isRule_2 : decode cX8_isRule 2 = .ok (.aload_n 0, 1) := by decide +kernel
theorem dX8_isRule_3 : decode cX8_isRule 3 = .ok (.getfield 120, 3) := by decide +kernel
theorem dX8_isRule_6 : decode cX8_isRule 6 = .ok (.iconst 1, 1) := by decide +kernel
theorem dX8_isRule_7 : decode cX8_isRule 7 = .ok (.isub, 1) := by decide +kernel
theorem dX8_isRule_8 : decode cX8_isRule 8 = .ok (.invokestatic 88, 3) := by decide +kernel
theorem dX8_isRule_11 : decode cX8_isRule 11 = .ok (.ireturn, 1) := by decide +kernel
theorem dX8_sign_0 : decode cX8_sign 0 = .ok (.aload_n 0, 1) := by decide +kernel
theorem dX8_sign_1 : decode cX8_sign 1 = .ok (.iconst 0, 1) := by decide +kernel
theorem dX8_sign_2 : decode cX8_sign 2 = .ok (.putfield 85, 3) := by decide +kernel
theorem dX8_sign_5 : decode cX8_sign 5 = .ok (.aload_n 0, 1) := by decide +kernel
theorem dX8_sign_6 : decode cX8_sign 6 = .ok (.iload_n 1, 1) := by decide +kernel
theorem dX8_sign_7 : decode cX8_sign 7 = .ok (.invokevirtual 123, 3) := by decide +kernel
theorem dX8_sign_10 : decode cX8_sign 10 = .ok (.ifCond .ne 9, 3) := by decide +kernel
theorem dX8_sign_13 : decode cX8_sign 13 = .ok (.aload_n 0, 1) := by decide +kernel
theorem dX8_sign_14 : decode cX8_sign 14 = .ok (.iconst 1, 1) := by decide +kernel
theorem dX8_sign_15 : decode cX8_sign 15 = .ok (.invokevirtual 96, 3) := by decide +kernel
theorem dX8_sign_18 : decode cX8_sign 18 = .ok (.ireturn, 1) := by decide +kernel
theorem dX8_sign_19 : decode cX8_sign 19 = .ok (.aload_n 0, 1) := by decide +kernel
theorem dX8_sign_20 : decode cX8_sign 20 = .ok (.getfield 9, 3) := by decide +kernel
theorem dX8_sign_23 : decode cX8_sign 23 = .ok (.iconst (-1), 1) := by decide +kernel
theorem dX8_sign_24 : decode cX8_sign 24 = .ok (.if_icmp .ne 9, 3) := by decide +kernel
theorem dX8_sign_27 : decode cX8_sign 27 = .ok (.aload_n 0, 1) := by decide +kernel
theorem dX8_sign_28 : decode cX8_sign 28 = .ok (.iconst 2, 1) := by decide +kernel
theorem dX8_sign_29 : decode cX8_sign 29 = .ok (.invokevirtual 96, 3) := by decide +kernel
theorem dX8_sign_32 : decode cX8_sign 32 = .ok (.ireturn, 1) := by decide +kernel
theorem dX8_sign_33 : decode cX8_sign 33 = .ok (.aload_n 0, 1) := by decide +kernel
theorem dX8_sign_34 : decode cX8_sign 34 = .ok (.getfield 33, 3) := by decide +kernel
theorem dX8_sign_37 : decode cX8_sign 37 = .ok (.iload_n 1, 1) := by decide +kernel
theorem dX8_sign_38 : decode cX8_sign 38 = .ok (.iconst 1, 1) := by decide +kernel
theorem dX8_sign_39 : decode cX8_sign 39 = .ok (.bastore, 1) := by decide +kernel
theorem dX8_sign_40 : decode cX8_sign 40 = .ok (.iconst 0, 1) := by decide +kernel
theorem dX8_sign_41 : decode cX8_sign 41 = .ok (.istore_n 2, 1) := by decide +kernel
theorem dX8_sign_42 : decode cX8_sign 42 = .ok (.iconst 0, 1) := by decide +kernel
theorem dX8_sign_43 : decode cX8_sign 43 = .ok (.istore_n 3, 1) := by decide +kernel
theorem dX8_sign_44 : decode cX8_sign 44 = .ok (.iload_n 3, 1) := by decide +kernel
theorem dX8_sign_45 : decode cX8_sign 45 = .ok (.bipush 6, 2) := by decide +kernel
theorem dX8_sign_47 : decode cX8_sign 47 = .ok (.if_icmp .ge 26, 3) := by decide +kernel
theorem dX8_sign_50 : decode cX8_sign 50 = .ok (.iload_n 2, 1) := by decide +kernel
theorem dX8_sign_51 : decode cX8_sign 51 = .ok (.aload_n 0, 1) := by decide +kernel
theorem dX8_sign_52 : decode cX8_sign 52 = .ok (.getfield 33, 3) := by decide +kernel
theorem dX8_sign_55 : decode cX8_sign 55 = .ok (.iload_n 3, 1) := by decide +kernel
theorem dX8_sign_56 : decode cX8_sign 56 = .ok (.baload, 1) := by decide +kernel
theorem dX8_sign_57 : decode cX8_sign 57 = .ok (.ifCond .eq 7, 3) := by decide +kernel
theorem dX8_sign_60 : decode cX8_sign 60 = .ok (.iconst 1, 1) := by decide +kernel
theorem dX8_sign_61 : decode cX8_sign 61 = .ok (.goto 4, 3) := by decide +kernel
theorem dX8_sign_64 : decode cX8_sign 64 = .ok (.iconst 0, 1) := by decide +kernel
theorem dX8_sign_65 : decode cX8_sign 65 = .ok (.iadd, 1) := by decide +kernel
theorem dX8_sign_66 : decode cX8_sign 66 = .ok (.istore_n 2, 1) := by decide +kernel
theorem dX8_sign_67 : decode cX8_sign 67 = .ok (.iinc 3 1, 3) := by decide +kernel
theorem dX8_sign_70 : decode cX8_sign 70 = .ok (.goto (-26), 3) := by decide +kernel
theorem dX8_sign_73 : decode cX8_sign 73 = .ok (.iload_n 2, 1) := by decide +kernel
theorem dX8_sign_74 : decode cX8_sign 74 = .ok (.ireturn, 1) := by decide +kernel
theorem dX8_keep_0 : decode cX8_keep 0 = .ok (.aload_n 0, 1) := by decide +kernel
theorem dX8_keep_1 : decode cX8_keep 1 = .ok (.iconst 0, 1) := by decide +kernel
theorem dX8_keep_2 : decode cX8_keep 2 = .ok (.putfield 85, 3) := by decide +kernel
theorem dX8_keep_5 : decode cX8_keep 5 = .ok (.aload_n 0, 1) := by decide +kernel
theorem dX8_keep_6 : decode cX8_keep 6 = .ok (.getfield 9, 3) := by decide +kernel
theorem dX8_keep_9 : decode cX8_keep 9 = .ok (.iconst (-1), 1) := by decide +kernel
theorem dX8_keep_10 : decode cX8_keep 10 = .ok (.if_icmp .ne 9, 3) := by decide +kernel
theorem dX8_keep_13 : decode cX8_keep 13 = .ok (.aload_n 0, 1) := by decide +kernel
theorem dX8_keep_14 : decode cX8_keep 14 = .ok (.iconst 1, 1) := by decide +kernel
theorem dX8_keep_15 : decode cX8_keep 15 = .ok (.invokevirtual 96, 3) := by decide +kernel
theorem dX8_keep_18 : decode cX8_keep 18 = .ok (.ireturn, 1) := by decide +kernel
theorem dX8_keep_19 : decode cX8_keep 19 = .ok (.iconst 0, 1) := by decide +kernel
theorem dX8_keep_20 : decode cX8_keep 20 = .ok (.istore_n 1, 1) := by decide +kernel
theorem dX8_keep_21 : decode cX8_keep 21 = .ok (.iload_n 1, 1) := by decide +kernel
theorem dX8_keep_22 : decode cX8_keep 22 = .ok (.aload_n 0, 1) := by decide +kernel
theorem dX8_keep_23 : decode cX8_keep 23 = .ok (.getfield 120, 3) := by decide +kernel
theorem dX8_keep_26 : decode cX8_keep 26 = .ok (.if_icmp .ge 32, 3) := by decide +kernel
theorem dX8_keep_29 : decode cX8_keep 29 = .ok (.aload_n 0, 1) := by decide +kernel
theorem dX8_keep_30 : decode cX8_keep 30 = .ok (.getfield 33, 3) := by decide +kernel
theorem dX8_keep_33 : decode cX8_keep 33 = .ok (.iload_n 1, 1) := by decide +kernel
theorem dX8_keep_34 : decode cX8_keep 34 = .ok (.baload, 1) := by decide +kernel
theorem dX8_keep_35 : decode cX8_keep 35 = .ok (.ifCond .ne 17, 3) := by decide +kernel
theorem dX8_keep_38 : decode cX8_keep 38 = .ok (.aload_n 0, 1) := by decide +kernel
theorem dX8_keep_39 : decode cX8_keep 39 = .ok (.iload_n 1, 1) := by decide +kernel
theorem dX8_keep_40 : decode cX8_keep 40 = .ok (.invokevirtual 126, 3) := by decide +kernel
theorem dX8_keep_43 : decode cX8_keep 43 = .ok (.ifCond .le 9, 3) := by decide +kernel
theorem dX8_keep_46 : decode cX8_keep 46 = .ok (.aload_n 0, 1) := by decide +kernel
theorem dX8_keep_47 : decode cX8_keep 47 = .ok (.iconst 2, 1) := by decide +kernel
theorem dX8_keep_48 : decode cX8_keep 48 = .ok (.invokevirtual 96, 3) := by decide +kernel
theorem dX8_keep_51 : decode cX8_keep 51 = .ok (.ireturn, 1) := by decide +kernel
theorem dX8_keep_52 : decode cX8_keep 52 = .ok (.iinc 1 1, 3) := by decide +kernel
theorem dX8_keep_55 : decode cX8_keep 55 = .ok (.goto (-34), 3) := by decide +kernel
theorem dX8_keep_58 : decode cX8_keep 58 = .ok (.aload_n 0, 1) := by decide +kernel
theorem dX8_keep_59 : decode cX8_keep 59 = .ok (.dup, 1) := by decide +kernel
theorem dX8_keep_60 : decode cX8_keep 60 = .ok (.getfield 100, 3) := by decide +kernel
theorem dX8_keep_63 : decode cX8_keep 63 = .ok (.iconst 1, 1) := by decide +kernel
theorem dX8_keep_64 : decode cX8_keep 64 = .ok (.iadd, 1) := by decide +kernel
theorem dX8_keep_65 : decode cX8_keep 65 = .ok (.putfield 100, 3) := by decide +kernel
theorem dX8_keep_68 : decode cX8_keep 68 = .ok (.aload_n 0, 1) := by decide +kernel
theorem dX8_keep_69 : decode cX8_keep 69 = .ok (.getfield 39, 3) := by decide +kernel
theorem dX8_keep_72 : decode cX8_keep 72 = .ok (.aload_n 0, 1) := by decide +kernel
theorem dX8_keep_73 : decode cX8_keep 73 = .ok (.getfield 100, 3) := by decide +kernel
theorem dX8_keep_76 : decode cX8_keep 76 = .ok (.aload_n 0, 1) := by decide +kernel
theorem dX8_keep_77 : decode cX8_keep 77 = .ok (.getfield 9, 3) := by decide +kernel
theorem dX8_keep_80 : decode cX8_keep 80 = .ok (.iastore, 1) := by decide +kernel
theorem dX8_keep_81 : decode cX8_keep 81 = .ok (.iconst 0, 1) := by decide +kernel
theorem dX8_keep_82 : decode cX8_keep 82 = .ok (.istore_n 1, 1) := by decide +kernel
theorem dX8_keep_83 : decode cX8_keep 83 = .ok (.iload_n 1, 1) := by decide +kernel
theorem dX8_keep_84 : decode cX8_keep 84 = .ok (.sipush 768, 3) := by decide +kernel
theorem dX8_keep_87 : decode cX8_keep 87 = .ok (.if_icmp .ge 30, 3) := by decide +kernel
theorem dX8_keep_90 : decode cX8_keep 90 = .ok (.aload_n 0, 1) := by decide +kernel
theorem dX8_keep_91 : decode cX8_keep 91 = .ok (.getfield 36, 3) := by decide +kernel
theorem dX8_keep_94 : decode cX8_keep 94 = .ok (.sipush 768, 3) := by decide +kernel
theorem dX8_keep_97 : decode cX8_keep 97 = .ok (.aload_n 0, 1) := by decide +kernel
theorem dX8_keep_98 : decode cX8_keep 98 = .ok (.getfield 100, 3) := by decide +kernel
theorem dX8_keep_101 : decode cX8_keep 101 = .ok (.imul, 1) := by decide +kernel
theorem dX8_keep_102 : decode cX8_keep 102 = .ok (.iload_n 1, 1) := by decide +kernel
theorem dX8_keep_103 : decode cX8_keep 103 = .ok (.iadd, 1) := by decide +kernel
theorem dX8_keep_104 : decode cX8_keep 104 = .ok (.aload_n 0, 1) := by decide +kernel
theorem dX8_keep_105 : decode cX8_keep 105 = .ok (.getfield 17, 3) := by decide +kernel
theorem dX8_keep_108 : decode cX8_keep 108 = .ok (.iload_n 1, 1) := by decide +kernel
theorem dX8_keep_109 : decode cX8_keep 109 = .ok (.iaload, 1) := by decide +kernel
theorem dX8_keep_110 : decode cX8_keep 110 = .ok (.iastore, 1) := by decide +kernel
theorem dX8_keep_111 : decode cX8_keep 111 = .ok (.iinc 1 1, 3) := by decide +kernel
theorem dX8_keep_114 : decode cX8_keep 114 = .ok (.goto (-31), 3) := by decide +kernel
theorem dX8_keep_117 : decode cX8_keep 117 = .ok (.aload_n 0, 1) := by decide +kernel
theorem dX8_keep_118 : decode cX8_keep 118 = .ok (.iconst (-1), 1) := by decide +kernel
theorem dX8_keep_119 : decode cX8_keep 119 = .ok (.putfield 9, 3) := by decide +kernel
theorem dX8_keep_122 : decode cX8_keep 122 = .ok (.aload_n 0, 1) := by decide +kernel
theorem dX8_keep_123 : decode cX8_keep 123 = .ok (.getfield 100, 3) := by decide +kernel
theorem dX8_keep_126 : decode cX8_keep 126 = .ok (.ireturn, 1) := by decide +kernel
theorem dX8_drop_0 : decode cX8_drop 0 = .ok (.aload_n 0, 1) := by decide +kernel
theorem dX8_drop_1 : decode cX8_drop 1 = .ok (.iconst 0, 1) := by decide +kernel
theorem dX8_drop_2 : decode cX8_drop 2 = .ok (.putfield 85, 3) := by decide +kernel
theorem dX8_drop_5 : decode cX8_drop 5 = .ok (.aload_n 0, 1) := by decide +kernel
theorem dX8_drop_6 : decode cX8_drop 6 = .ok (.getfield 9, 3) := by decide +kernel
theorem dX8_drop_9 : decode cX8_drop 9 = .ok (.iconst (-1), 1) := by decide +kernel
theorem dX8_drop_10 : decode cX8_drop 10 = .ok (.if_icmp .ne 9, 3) := by decide +kernel
theorem dX8_drop_13 : decode cX8_drop 13 = .ok (.aload_n 0, 1) := by decide +kernel
theorem dX8_drop_14 : decode cX8_drop 14 = .ok (.iconst 1, 1) := by decide +kernel
theorem dX8_drop_15 : decode cX8_drop 15 = .ok (.invokevirtual 96, 3) := by decide +kernel
theorem dX8_drop_18 : decode cX8_drop 18 = .ok (.ireturn, 1) := by decide +kernel
theorem dX8_drop_19 : decode cX8_drop 19 = .ok (.iconst 0, 1) := by decide +kernel
theorem dX8_drop_20 : decode cX8_drop 20 = .ok (.istore_n 1, 1) := by decide +kernel
theorem dX8_drop_21 : decode cX8_drop 21 = .ok (.iconst 0, 1) := by decide +kernel
theorem dX8_drop_22 : decode cX8_drop 22 = .ok (.istore_n 2, 1) := by decide +kernel
theorem dX8_drop_23 : decode cX8_drop 23 = .ok (.iload_n 2, 1) := by decide +kernel
theorem dX8_drop_24 : decode cX8_drop 24 = .ok (.sipush 768, 3) := by decide +kernel
theorem dX8_drop_27 : decode cX8_drop 27 = .ok (.if_icmp .ge 44, 3) := by decide +kernel
theorem dX8_drop_30 : decode cX8_drop 30 = .ok (.iload_n 1, 1) := by decide +kernel
theorem dX8_drop_31 : decode cX8_drop 31 = .ok (.aload_n 0, 1) := by decide +kernel
theorem dX8_drop_32 : decode cX8_drop 32 = .ok (.getfield 17, 3) := by decide +kernel
theorem dX8_drop_35 : decode cX8_drop 35 = .ok (.iload_n 2, 1) := by decide +kernel
theorem dX8_drop_36 : decode cX8_drop 36 = .ok (.iaload, 1) := by decide +kernel
theorem dX8_drop_37 : decode cX8_drop 37 = .ok (.aload_n 0, 1) := by decide +kernel
theorem dX8_drop_38 : decode cX8_drop 38 = .ok (.getfield 27, 3) := by decide +kernel
theorem dX8_drop_41 : decode cX8_drop 41 = .ok (.iload_n 2, 1) := by decide +kernel
theorem dX8_drop_42 : decode cX8_drop 42 = .ok (.iaload, 1) := by decide +kernel
theorem dX8_drop_43 : decode cX8_drop 43 = .ok (.if_icmp .ne 7, 3) := by decide +kernel
theorem dX8_drop_46 : decode cX8_drop 46 = .ok (.iconst 0, 1) := by decide +kernel
theorem dX8_drop_47 : decode cX8_drop 47 = .ok (.goto 4, 3) := by decide +kernel
theorem dX8_drop_50 : decode cX8_drop 50 = .ok (.iconst 1, 1) := by decide +kernel
theorem dX8_drop_51 : decode cX8_drop 51 = .ok (.iadd, 1) := by decide +kernel
theorem dX8_drop_52 : decode cX8_drop 52 = .ok (.istore_n 1, 1) := by decide +kernel
theorem dX8_drop_53 : decode cX8_drop 53 = .ok (.aload_n 0, 1) := by decide +kernel
theorem dX8_drop_54 : decode cX8_drop 54 = .ok (.getfield 17, 3) := by decide +kernel
theorem dX8_drop_57 : decode cX8_drop 57 = .ok (.iload_n 2, 1) := by decide +kernel
theorem dX8_drop_58 : decode cX8_drop 58 = .ok (.aload_n 0, 1) := by decide +kernel
theorem dX8_drop_59 : decode cX8_drop 59 = .ok (.getfield 27, 3) := by decide +kernel
theorem dX8_drop_62 : decode cX8_drop 62 = .ok (.iload_n 2, 1) := by decide +kernel
theorem dX8_drop_63 : decode cX8_drop 63 = .ok (.iaload, 1) := by decide +kernel
theorem dX8_drop_64 : decode cX8_drop 64 = .ok (.iastore, 1) := by decide +kernel
theorem dX8_drop_65 : decode cX8_drop 65 = .ok (.iinc 2 1, 3) := by decide +kernel
theorem dX8_drop_68 : decode cX8_drop 68 = .ok (.goto (-45), 3) := by decide +kernel
theorem dX8_drop_71 : decode cX8_drop 71 = .ok (.iconst 0, 1) := by decide +kernel
theorem dX8_drop_72 : decode cX8_drop 72 = .ok (.istore_n 2, 1) := by decide +kernel
theorem dX8_drop_73 : decode cX8_drop 73 = .ok (.iload_n 2, 1) := by decide +kernel
theorem dX8_drop_74 : decode cX8_drop 74 = .ok (.bipush 30, 2) := by decide +kernel
theorem dX8_drop_76 : decode cX8_drop 76 = .ok (.if_icmp .ge 21, 3) := by decide +kernel
theorem dX8_drop_79 : decode cX8_drop 79 = .ok (.aload_n 0, 1) := by decide +kernel
theorem dX8_drop_80 : decode cX8_drop 80 = .ok (.getfield 21, 3) := by decide +kernel
theorem dX8_drop_83 : decode cX8_drop 83 = .ok (.iload_n 2, 1) := by decide +kernel
theorem dX8_drop_84 : decode cX8_drop 84 = .ok (.aload_n 0, 1) := by decide +kernel
theorem dX8_drop_85 : decode cX8_drop 85 = .ok (.getfield 30, 3) := by decide +kernel
theorem dX8_drop_88 : decode cX8_drop 88 = .ok (.iload_n 2, 1) := by decide +kernel
theorem dX8_drop_89 : decode cX8_drop 89 = .ok (.iaload, 1) := by decide +kernel
theorem dX8_drop_90 : decode cX8_drop 90 = .ok (.iastore, 1) := by decide +kernel
theorem dX8_drop_91 : decode cX8_drop 91 = .ok (.iinc 2 1, 3) := by decide +kernel
theorem dX8_drop_94 : decode cX8_drop 94 = .ok (.goto (-21), 3) := by decide +kernel
theorem dX8_drop_97 : decode cX8_drop 97 = .ok (.aload_n 0, 1) := by decide +kernel
theorem dX8_drop_98 : decode cX8_drop 98 = .ok (.iconst (-1), 1) := by decide +kernel
theorem dX8_drop_99 : decode cX8_drop 99 = .ok (.putfield 9, 3) := by decide +kernel
theorem dX8_drop_102 : decode cX8_drop 102 = .ok (.iload_n 1, 1) := by decide +kernel
theorem dX8_drop_103 : decode cX8_drop 103 = .ok (.ireturn, 1) := by decide +kernel
theorem dX8_addRule_0 : decode cX8_addRule 0 = .ok (.aload_n 0, 1) := by decide +kernel
theorem dX8_addRule_1 : decode cX8_addRule 1 = .ok (.iconst 0, 1) := by decide +kernel
theorem dX8_addRule_2 : decode cX8_addRule 2 = .ok (.putfield 85, 3) := by decide +kernel
theorem dX8_addRule_5 : decode cX8_addRule 5 = .ok (.iload_n 1, 1) := by decide +kernel
theorem dX8_addRule_6 : decode cX8_addRule 6 = .ok (.bipush 105, 2) := by decide +kernel
theorem dX8_addRule_8 : decode cX8_addRule 8 = .ok (.if_icmp .eq 21, 3) := by decide +kernel
theorem dX8_addRule_11 : decode cX8_addRule 11 = .ok (.iload_n 1, 1) := by decide +kernel
theorem dX8_addRule_12 : decode cX8_addRule 12 = .ok (.bipush 110, 2) := by decide +kernel
theorem dX8_addRule_14 : decode cX8_addRule 14 = .ok (.if_icmp .eq 15, 3) := by decide +kernel
theorem dX8_addRule_17 : decode cX8_addRule 17 = .ok (.iload_n 1, 1) := by decide +kernel
theorem dX8_addRule_18 : decode cX8_addRule 18 = .ok (.bipush 97, 2) := by decide +kernel
theorem dX8_addRule_20 : decode cX8_addRule 20 = .ok (.if_icmp .eq 9, 3) := by decide +kernel
theorem dX8_addRule_23 : decode cX8_addRule 23 = .ok (.aload_n 0, 1) := by decide +kernel
theorem dX8_addRule_24 : decode cX8_addRule 24 = .ok (.iconst 1, 1) := by decide +kernel
theorem dX8_addRule_25 : decode cX8_addRule 25 = .ok (.invokevirtual 96, 3) := by decide +kernel
theorem dX8_addRule_28 : decode cX8_addRule 28 = .ok (.ireturn, 1) := by decide +kernel
theorem dX8_addRule_29 : decode cX8_addRule 29 = .ok (.iload_n 2, 1) := by decide +kernel
theorem dX8_addRule_30 : decode cX8_addRule 30 = .ok (.invokestatic 106, 3) := by decide +kernel
theorem dX8_addRule_33 : decode cX8_addRule 33 = .ok (.ifCond .eq 15, 3) := by decide +kernel
theorem dX8_addRule_36 : decode cX8_addRule 36 = .ok (.iload_n 3, 1) := by decide +kernel
theorem dX8_addRule_37 : decode cX8_addRule 37 = .ok (.invokestatic 106, 3) := by decide +kernel
theorem dX8_addRule_40 : decode cX8_addRule 40 = .ok (.ifCond .eq 8, 3) := by decide +kernel
theorem dX8_addRule_43 : decode cX8_addRule 43 = .ok (.iload_n 2, 1) := by decide +kernel
theorem dX8_addRule_44 : decode cX8_addRule 44 = .ok (.iload_n 3, 1) := by decide +kernel
theorem dX8_addRule_45 : decode cX8_addRule 45 = .ok (.if_icmp .ne 9, 3) := by decide +kernel
theorem dX8_addRule_48 : decode cX8_addRule 48 = .ok (.aload_n 0, 1) := by decide +kernel
theorem dX8_addRule_49 : decode cX8_addRule 49 = .ok (.iconst 2, 1) := by decide +kernel
theorem dX8_addRule_50 : decode cX8_addRule 50 = .ok (.invokevirtual 96, 3) := by decide +kernel
theorem dX8_addRule_53 : decode cX8_addRule 53 = .ok (.ireturn, 1) := by decide +kernel
theorem dX8_addRule_54 : decode cX8_addRule 54 = .ok (.aload_n 0, 1) := by decide +kernel
theorem dX8_addRule_55 : decode cX8_addRule 55 = .ok (.getfield 120, 3) := by decide +kernel
theorem dX8_addRule_58 : decode cX8_addRule 58 = .ok (.bipush 6, 2) := by decide +kernel
theorem dX8_addRule_60 : decode cX8_addRule 60 = .ok (.if_icmp .eq 11, 3) := by decide +kernel
theorem dX8_addRule_63 : decode cX8_addRule 63 = .ok (.aload_n 0, 1) := by decide +kernel
theorem dX8_addRule_64 : decode cX8_addRule 64 = .ok (.getfield 9, 3) := by decide +kernel
theorem dX8_addRule_67 : decode cX8_addRule 67 = .ok (.iconst (-1), 1) := by decide +kernel
theorem dX8_addRule_68 : decode cX8_addRule 68 = .ok (.if_icmp .eq 9, 3) := by decide +kernel
theorem dX8_addRule_71 : decode cX8_addRule 71 = .ok (.aload_n 0, 1) := by decide +kernel
theorem dX8_addRule_72 : decode cX8_addRule 72 = .ok (.iconst 3, 1) := by decide +kernel
theorem dX8_addRule_73 : decode cX8_addRule 73 = .ok (.invokevirtual 96, 3) := by decide +kernel
theorem dX8_addRule_76 : decode cX8_addRule 76 = .ok (.ireturn, 1) := by decide +kernel
theorem dX8_addRule_77 : decode cX8_addRule 77 = .ok (.aload_n 0, 1) := by decide +kernel
theorem dX8_addRule_78 : decode cX8_addRule 78 = .ok (.getfield 42, 3) := by decide +kernel
theorem dX8_addRule_81 : decode cX8_addRule 81 = .ok (.aload_n 0, 1) := by decide +kernel
theorem dX8_addRule_82 : decode cX8_addRule 82 = .ok (.getfield 120, 3) := by decide +kernel
theorem dX8_addRule_85 : decode cX8_addRule 85 = .ok (.iload_n 1, 1) := by decide +kernel
theorem dX8_addRule_86 : decode cX8_addRule 86 = .ok (.castore, 1) := by decide +kernel
theorem dX8_addRule_87 : decode cX8_addRule 87 = .ok (.aload_n 0, 1) := by decide +kernel
theorem dX8_addRule_88 : decode cX8_addRule 88 = .ok (.getfield 46, 3) := by decide +kernel
theorem dX8_addRule_91 : decode cX8_addRule 91 = .ok (.aload_n 0, 1) := by decide +kernel
theorem dX8_addRule_92 : decode cX8_addRule 92 = .ok (.getfield 120, 3) := by decide +kernel
theorem dX8_addRule_95 : decode cX8_addRule 95 = .ok (.iload_n 2, 1) := by decide +kernel
theorem dX8_addRule_96 : decode cX8_addRule 96 = .ok (.iastore, 1) := by decide +kernel
theorem dX8_addRule_97 : decode cX8_addRule 97 = .ok (.aload_n 0, 1) := by decide +kernel
theorem dX8_addRule_98 : decode cX8_addRule 98 = .ok (.getfield 49, 3) := by decide +kernel
theorem dX8_addRule_101 : decode cX8_addRule 101 = .ok (.aload_n 0, 1) := by decide +kernel
theorem dX8_addRule_102 : decode cX8_addRule 102 = .ok (.getfield 120, 3) := by decide +kernel
theorem dX8_addRule_105 : decode cX8_addRule 105 = .ok (.iload_n 3, 1) := by decide +kernel
theorem dX8_addRule_106 : decode cX8_addRule 106 = .ok (.iastore, 1) := by decide +kernel
theorem dX8_addRule_107 : decode cX8_addRule 107 = .ok (.aload_n 0, 1) := by decide +kernel
theorem dX8_addRule_108 : decode cX8_addRule 108 = .ok (.dup, 1) := by decide +kernel
theorem dX8_addRule_109 : decode cX8_addRule 109 = .ok (.getfield 120, 3) := by decide +kernel
theorem dX8_addRule_112 : decode cX8_addRule 112 = .ok (.iconst 1, 1) := by decide +kernel
theorem dX8_addRule_113 : decode cX8_addRule 113 = .ok (.iadd, 1) := by decide +kernel
theorem dX8_addRule_114 : decode cX8_addRule 114 = .ok (.putfield 120, 3) := by decide +kernel
theorem dX8_addRule_117 : decode cX8_addRule 117 = .ok (.aload_n 0, 1) := by decide +kernel
theorem dX8_addRule_118 : decode cX8_addRule 118 = .ok (.getfield 120, 3) := by decide +kernel
theorem dX8_addRule_121 : decode cX8_addRule 121 = .ok (.iconst 1, 1) := by decide +kernel
theorem dX8_addRule_122 : decode cX8_addRule 122 = .ok (.isub, 1) := by decide +kernel
theorem dX8_addRule_123 : decode cX8_addRule 123 = .ok (.ireturn, 1) := by decide +kernel
theorem dX8_brokenAt_0 : decode cX8_brokenAt 0 = .ok (.iconst 0, 1) := by decide +kernel
theorem dX8_brokenAt_1 : decode cX8_brokenAt 1 = .ok (.istore_n 2, 1) := by decide +kernel
theorem dX8_brokenAt_2 : decode cX8_brokenAt 2 = .ok (.iconst 0, 1) := by decide +kernel
theorem dX8_brokenAt_3 : decode cX8_brokenAt 3 = .ok (.istore_n 3, 1) := by decide +kernel
theorem dX8_brokenAt_4 : decode cX8_brokenAt 4 = .ok (.iload_n 3, 1) := by decide +kernel
theorem dX8_brokenAt_5 : decode cX8_brokenAt 5 = .ok (.sipush 256, 3) := by decide +kernel
theorem dX8_brokenAt_8 : decode cX8_brokenAt 8 = .ok (.if_icmp .ge 171, 3) := by decide +kernel
theorem dX8_brokenAt_11 : decode cX8_brokenAt 11 = .ok (.aload_n 0, 1) := by decide +kernel
theorem dX8_brokenAt_12 : decode cX8_brokenAt 12 = .ok (.aload_n 0, 1) := by decide +kernel
theorem dX8_brokenAt_13 : decode cX8_brokenAt 13 = .ok (.getfield 46, 3) := by decide +kernel
theorem dX8_brokenAt_16 : decode cX8_brokenAt 16 = .ok (.iload_n 1, 1) := by decide +kernel
theorem dX8_brokenAt_17 : decode cX8_brokenAt 17 = .ok (.iaload, 1) := by decide +kernel
theorem dX8_brokenAt_18 : decode cX8_brokenAt 18 = .ok (.iload_n 3, 1) := by decide +kernel
theorem dX8_brokenAt_19 : decode cX8_brokenAt 19 = .ok (.invokevirtual 92, 3) := by decide +kernel
theorem dX8_brokenAt_22 : decode cX8_brokenAt 22 = .ok (.istore 4, 2) := by decide +kernel
theorem dX8_brokenAt_24 : decode cX8_brokenAt 24 = .ok (.aload_n 0, 1) := by decide +kernel
theorem dX8_brokenAt_25 : decode cX8_brokenAt 25 = .ok (.aload_n 0, 1) := by decide +kernel
theorem dX8_brokenAt_26 : decode cX8_brokenAt 26 = .ok (.getfield 49, 3) := by decide +kernel
theorem dX8_brokenAt_29 : decode cX8_brokenAt 29 = .ok (.iload_n 1, 1) := by decide +kernel
theorem dX8_brokenAt_30 : decode cX8_brokenAt 30 = .ok (.iaload, 1) := by decide +kernel
theorem dX8_brokenAt_31 : decode cX8_brokenAt 31 = .ok (.iload_n 3, 1) := by decide +kernel
theorem dX8_brokenAt_32 : decode cX8_brokenAt 32 = .ok (.invokevirtual 92, 3) := by decide +kernel
theorem dX8_brokenAt_35 : decode cX8_brokenAt 35 = .ok (.istore 5, 2) := by decide +kernel
theorem dX8_brokenAt_37 : decode cX8_brokenAt 37 = .ok (.iload_n 2, 1) := by decide +kernel
theorem dX8_brokenAt_38 : decode cX8_brokenAt 38 = .ok (.aload_n 0, 1) := by decide +kernel
theorem dX8_brokenAt_39 : decode cX8_brokenAt 39 = .ok (.getfield 42, 3) := by decide +kernel
theorem dX8_brokenAt_42 : decode cX8_brokenAt 42 = .ok (.iload_n 1, 1) := by decide +kernel
theorem dX8_brokenAt_43 : decode cX8_brokenAt 43 = .ok (.caload, 1) := by decide +kernel
theorem dX8_brokenAt_44 : decode cX8_brokenAt 44 = .ok (.bipush 105, 2) := by decide +kernel
theorem dX8_brokenAt_46 : decode cX8_brokenAt 46 = .ok (.if_icmp .ne 15, 3) := by decide +kernel
theorem dX8_brokenAt_49 : decode cX8_brokenAt 49 = .ok (.iload 4, 2) := by decide +kernel
theorem dX8_brokenAt_51 : decode cX8_brokenAt 51 = .ok (.iconst (-1), 1) := by decide +kernel
theorem dX8_brokenAt_52 : decode cX8_brokenAt 52 = .ok (.if_icmp .eq 9, 3) := by decide +kernel
theorem dX8_brokenAt_55 : decode cX8_brokenAt 55 = .ok (.iload 5, 2) := by decide +kernel
theorem dX8_brokenAt_57 : decode cX8_brokenAt 57 = .ok (.iconst (-1), 1) := by decide +kernel
theorem dX8_brokenAt_58 : decode cX8_brokenAt 58 = .ok (.if_icmp .eq 26, 3) := by decide +kernel
theorem dX8_brokenAt_61 : decode cX8_brokenAt 61 = .ok (.aload_n 0, 1) := by decide +kernel
theorem dX8_brokenAt_62 : decode cX8_brokenAt 62 = .ok (.getfield 42, 3) := by decide +kernel
theorem dX8_brokenAt_65 : decode cX8_brokenAt 65 = .ok (.iload_n 1, 1) := by decide +kernel
theorem dX8_brokenAt_66 : decode cX8_brokenAt 66 = .ok (.caload, 1) := by decide +kernel
theorem dX8_brokenAt_67 : decode cX8_brokenAt 67 = .ok (.bipush 110, 2) := by decide +kernel
theorem dX8_brokenAt_69 : decode cX8_brokenAt 69 = .ok (.if_icmp .ne 19, 3) := by decide +kernel
theorem dX8_brokenAt_72 : decode cX8_brokenAt 72 = .ok (.iload 4, 2) := by decide +kernel
theorem dX8_brokenAt_74 : decode cX8_brokenAt 74 = .ok (.iconst (-1), 1) := by decide +kernel
theorem dX8_brokenAt_75 : decode cX8_brokenAt 75 = .ok (.if_icmp .eq 13, 3) := by decide +kernel
theorem dX8_brokenAt_78 : decode cX8_brokenAt 78 = .ok (.iload 5, 2) := by decide +kernel
theorem dX8_brokenAt_80 : decode cX8_brokenAt 80 = .ok (.iconst (-1), 1) := by decide +kernel
theorem dX8_brokenAt_81 : decode cX8_brokenAt 81 = .ok (.if_icmp .eq 7, 3) := by decide +kernel
theorem dX8_brokenAt_84 : decode cX8_brokenAt 84 = .ok (.iconst 1, 1) := by decide +kernel
theorem dX8_brokenAt_85 : decode cX8_brokenAt 85 = .ok (.goto 4, 3) := by decide +kernel
theorem dX8_brokenAt_88 : decode cX8_brokenAt 88 = .ok (.iconst 0, 1) := by decide +kernel
theorem dX8_brokenAt_89 : decode cX8_brokenAt 89 = .ok (.iadd, 1) := by decide +kernel
theorem dX8_brokenAt_90 : decode cX8_brokenAt 90 = .ok (.istore_n 2, 1) := by decide +kernel
theorem dX8_brokenAt_91 : decode cX8_brokenAt 91 = .ok (.iconst 0, 1) := by decide +kernel
theorem dX8_brokenAt_92 : decode cX8_brokenAt 92 = .ok (.istore 6, 2) := by decide +kernel
theorem dX8_brokenAt_94 : decode cX8_brokenAt 94 = .ok (.iload 6, 2) := by decide +kernel
theorem dX8_brokenAt_96 : decode cX8_brokenAt 96 = .ok (.iconst 4, 1) := by decide +kernel
theorem dX8_brokenAt_97 : decode cX8_brokenAt 97 = .ok (.if_icmp .ge 76, 3) := by decide +kernel
theorem dX8_brokenAt_100 : decode cX8_brokenAt 100 = .ok (.aload_n 0, 1) := by decide +kernel
theorem dX8_brokenAt_101 : decode cX8_brokenAt 101 = .ok (.getfield 42, 3) := by decide +kernel
theorem dX8_brokenAt_104 : decode cX8_brokenAt 104 = .ok (.iload_n 1, 1) := by decide +kernel
theorem dX8_brokenAt_105 : decode cX8_brokenAt 105 = .ok (.caload, 1) := by decide +kernel
theorem dX8_brokenAt_106 : decode cX8_brokenAt 106 = .ok (.bipush 97, 2) := by decide +kernel
theorem dX8_brokenAt_108 : decode cX8_brokenAt 108 = .ok (.if_icmp .ne 65, 3) := by decide +kernel
theorem dX8_brokenAt_111 : decode cX8_brokenAt 111 = .ok (.iload_n 3, 1) := by decide +kernel
theorem dX8_brokenAt_112 : decode cX8_brokenAt 112 = .ok (.iload 6, 2) := by decide +kernel
theorem dX8_brokenAt_114 : decode cX8_brokenAt 114 = .ok (.invokestatic 129, 3) := by decide +kernel
theorem dX8_brokenAt_117 : decode cX8_brokenAt 117 = .ok (.istore 7, 2) := by decide +kernel
theorem dX8_brokenAt_119 : decode cX8_brokenAt 119 = .ok (.iload_n 2, 1) := by decide +kernel
theorem dX8_brokenAt_120 : decode cX8_brokenAt 120 = .ok (.iload 7, 2) := by decide +kernel
theorem dX8_brokenAt_122 : decode cX8_brokenAt 122 = .ok (.iconst (-1), 1) := by decide +kernel
theorem dX8_brokenAt_123 : decode cX8_brokenAt 123 = .ok (.if_icmp .eq 41, 3) := by decide +kernel
theorem dX8_brokenAt_126 : decode cX8_brokenAt 126 = .ok (.aload_n 0, 1) := by decide +kernel
theorem dX8_brokenAt_127 : decode cX8_brokenAt 127 = .ok (.aload_n 0, 1) := by decide +kernel
theorem dX8_brokenAt_128 : decode cX8_brokenAt 128 = .ok (.getfield 46, 3) := by decide +kernel
theorem dX8_brokenAt_131 : decode cX8_brokenAt 131 = .ok (.iload_n 1, 1) := by decide +kernel
theorem dX8_brokenAt_132 : decode cX8_brokenAt 132 = .ok (.iaload, 1) := by decide +kernel
theorem dX8_brokenAt_133 : decode cX8_brokenAt 133 = .ok (.iload 7, 2) := by decide +kernel
theorem dX8_brokenAt_135 : decode cX8_brokenAt 135 = .ok (.invokevirtual 92, 3) := by decide +kernel
theorem dX8_brokenAt_138 : decode cX8_brokenAt 138 = .ok (.iload 4, 2) := by decide +kernel
theorem dX8_brokenAt_140 : decode cX8_brokenAt 140 = .ok (.if_icmp .eq 24, 3) := by decide +kernel
theorem dX8_brokenAt_143 : decode cX8_brokenAt 143 = .ok (.aload_n 0, 1) := by decide +kernel
theorem dX8_brokenAt_144 : decode cX8_brokenAt 144 = .ok (.aload_n 0, 1) := by decide +kernel
theorem dX8_brokenAt_145 : decode cX8_brokenAt 145 = .ok (.getfield 49, 3) := by decide +kernel
theorem dX8_brokenAt_148 : decode cX8_brokenAt 148 = .ok (.iload_n 1, 1) := by decide +kernel
theorem dX8_brokenAt_149 : decode cX8_brokenAt 149 = .ok (.iaload, 1) := by decide +kernel
theorem dX8_brokenAt_150 : decode cX8_brokenAt 150 = .ok (.iload 7, 2) := by decide +kernel
theorem dX8_brokenAt_152 : decode cX8_brokenAt 152 = .ok (.invokevirtual 92, 3) := by decide +kernel
theorem dX8_brokenAt_155 : decode cX8_brokenAt 155 = .ok (.iload 5, 2) := by decide +kernel
theorem dX8_brokenAt_157 : decode cX8_brokenAt 157 = .ok (.if_icmp .ne 7, 3) := by decide +kernel
theorem dX8_brokenAt_160 : decode cX8_brokenAt 160 = .ok (.iconst 1, 1) := by decide +kernel
theorem dX8_brokenAt_161 : decode cX8_brokenAt 161 = .ok (.goto 4, 3) := by decide +kernel
theorem dX8_brokenAt_164 : decode cX8_brokenAt 164 = .ok (.iconst 0, 1) := by decide +kernel
theorem dX8_brokenAt_165 : decode cX8_brokenAt 165 = .ok (.iadd, 1) := by decide +kernel
theorem dX8_brokenAt_166 : decode cX8_brokenAt 166 = .ok (.istore_n 2, 1) := by decide +kernel
theorem dX8_brokenAt_167 : decode cX8_brokenAt 167 = .ok (.iinc 6 2, 3) := by decide +kernel
theorem dX8_brokenAt_170 : decode cX8_brokenAt 170 = .ok (.goto (-76), 3) := by decide +kernel
theorem dX8_brokenAt_173 : decode cX8_brokenAt 173 = .ok (.iinc 3 1, 3) := by decide +kernel
theorem dX8_brokenAt_176 : decode cX8_brokenAt 176 = .ok (.goto (-172), 3) := by decide +kernel
theorem dX8_brokenAt_179 : decode cX8_brokenAt 179 = .ok (.iload_n 2, 1) := by decide +kernel
theorem dX8_brokenAt_180 : decode cX8_brokenAt 180 = .ok (.ireturn, 1) := by decide +kernel
theorem dX8_broken_0 : decode cX8_broken 0 = .ok (.aload_n 0, 1) := by decide +kernel
theorem dX8_broken_1 : decode cX8_broken 1 = .ok (.iconst 0, 1) := by decide +kernel
theorem dX8_broken_2 : decode cX8_broken 2 = .ok (.putfield 85, 3) := by decide +kernel
theorem dX8_broken_5 : decode cX8_broken 5 = .ok (.aload_n 0, 1) := by decide +kernel
theorem dX8_broken_6 : decode cX8_broken 6 = .ok (.iload_n 1, 1) := by decide +kernel
theorem dX8_broken_7 : decode cX8_broken 7 = .ok (.invokevirtual 123, 3) := by decide +kernel
theorem dX8_broken_10 : decode cX8_broken 10 = .ok (.ifCond .eq 11, 3) := by decide +kernel
theorem dX8_broken_13 : decode cX8_broken 13 = .ok (.aload_n 0, 1) := by decide +kernel
theorem dX8_broken_14 : decode cX8_broken 14 = .ok (.iload_n 1, 1) := by decide +kernel
theorem dX8_broken_15 : decode cX8_broken 15 = .ok (.invokevirtual 126, 3) := by decide +kernel
theorem dX8_broken_18 : decode cX8_broken 18 = .ok (.goto 8, 3) := by decide +kernel
theorem dX8_broken_21 : decode cX8_broken 21 = .ok (.aload_n 0, 1) := by decide +kernel
theorem dX8_broken_22 : decode cX8_broken 22 = .ok (.iconst 1, 1) := by decide +kernel
theorem dX8_broken_23 : decode cX8_broken 23 = .ok (.invokevirtual 96, 3) := by decide +kernel
theorem dX8_broken_26 : decode cX8_broken 26 = .ok (.ireturn, 1) := by decide +kernel
theorem dX8_leastBroken_0 : decode cX8_leastBroken 0 = .ok (.aload_n 0, 1) := by decide +kernel
theorem dX8_leastBroken_1 : decode cX8_leastBroken 1 = .ok (.iconst 0, 1) := by decide +kernel
theorem dX8_leastBroken_2 : decode cX8_leastBroken 2 = .ok (.putfield 85, 3) := by decide +kernel
theorem dX8_leastBroken_5 : decode cX8_leastBroken 5 = .ok (.iconst (-1), 1) := by decide +kernel
theorem dX8_leastBroken_6 : decode cX8_leastBroken 6 = .ok (.istore_n 1, 1) := by decide +kernel
theorem dX8_leastBroken_7 : decode cX8_leastBroken 7 = .ok (.iconst 0, 1) := by decide +kernel
theorem dX8_leastBroken_8 : decode cX8_leastBroken 8 = .ok (.istore_n 2, 1) := by decide +kernel
theorem dX8_leastBroken_9 : decode cX8_leastBroken 9 = .ok (.iload_n 2, 1) := by decide +kernel
theorem dX8_leastBroken_10 : decode cX8_leastBroken 10 = .ok (.aload_n 0, 1) := by decide +kernel
theorem dX8_leastBroken_11 : decode cX8_leastBroken 11 = .ok (.getfield 120, 3) := by decide +kernel
theorem dX8_leastBroken_14 : decode cX8_leastBroken 14 = .ok (.if_icmp .ge 51, 3) := by decide +kernel
theorem dX8_leastBroken_17 : decode cX8_leastBroken 17 = .ok (.aload_n 0, 1) := by decide +kernel
theorem dX8_leastBroken_18 : decode cX8_leastBroken 18 = .ok (.iload_n 2, 1) := by decide +kernel
theorem dX8_leastBroken_19 : decode cX8_leastBroken 19 = .ok (.invokevirtual 126, 3) := by decide +kernel
theorem dX8_leastBroken_22 : decode cX8_leastBroken 22 = .ok (.ifCond .le 25, 3) := by decide +kernel
theorem dX8_leastBroken_25 : decode cX8_leastBroken 25 = .ok (.iload_n 1, 1) := by decide +kernel
theorem dX8_leastBroken_26 : decode cX8_leastBroken 26 = .ok (.iconst (-1), 1) := by decide +kernel
theorem dX8_leastBroken_27 : decode cX8_leastBroken 27 = .ok (.if_icmp .eq 16, 3) := by decide +kernel
theorem dX8_leastBroken_30 : decode cX8_leastBroken 30 = .ok (.aload_n 0, 1) := by decide +kernel
theorem dX8_leastBroken_31 : decode cX8_leastBroken 31 = .ok (.iload_n 2, 1) := by decide +kernel
theorem dX8_leastBroken_32 : decode cX8_leastBroken 32 = .ok (.invokevirtual 126, 3) := by decide +kernel
theorem dX8_leastBroken_35 : decode cX8_leastBroken 35 = .ok (.aload_n 0, 1) := by decide +kernel
theorem dX8_leastBroken_36 : decode cX8_leastBroken 36 = .ok (.iload_n 1, 1) := by decide +kernel
theorem dX8_leastBroken_37 : decode cX8_leastBroken 37 = .ok (.invokevirtual 126, 3) := by decide +kernel
theorem dX8_leastBroken_40 : decode cX8_leastBroken 40 = .ok (.if_icmp .ge 7, 3) := by decide +kernel
theorem dX8_leastBroken_43 : decode cX8_leastBroken 43 = .ok (.iconst 1, 1) := by decide +kernel
theorem dX8_leastBroken_44 : decode cX8_leastBroken 44 = .ok (.goto 4, 3) := by decide +kernel
theorem dX8_leastBroken_47 : decode cX8_leastBroken 47 = .ok (.iconst 0, 1) := by decide +kernel
theorem dX8_leastBroken_48 : decode cX8_leastBroken 48 = .ok (.istore_n 3, 1) := by decide +kernel
theorem dX8_leastBroken_49 : decode cX8_leastBroken 49 = .ok (.iload_n 3, 1) := by decide +kernel
theorem dX8_leastBroken_50 : decode cX8_leastBroken 50 = .ok (.ifCond .eq 7, 3) := by decide +kernel
theorem dX8_leastBroken_53 : decode cX8_leastBroken 53 = .ok (.iload_n 2, 1) := by decide +kernel
theorem dX8_leastBroken_54 : decode cX8_leastBroken 54 = .ok (.goto 4, 3) := by decide +kernel
theorem dX8_leastBroken_57 : decode cX8_leastBroken 57 = .ok (.iload_n 1, 1) := by decide +kernel
theorem dX8_leastBroken_58 : decode cX8_leastBroken 58 = .ok (.istore_n 1, 1) := by decide +kernel
theorem dX8_leastBroken_59 : decode cX8_leastBroken 59 = .ok (.iinc 2 1, 3) := by decide +kernel
theorem dX8_leastBroken_62 : decode cX8_leastBroken 62 = .ok (.goto (-53), 3) := by decide +kernel
theorem dX8_leastBroken_65 : decode cX8_leastBroken 65 = .ok (.iload_n 1, 1) := by decide +kernel
theorem dX8_leastBroken_66 : decode cX8_leastBroken 66 = .ok (.iconst (-1), 1) := by decide +kernel
theorem dX8_leastBroken_67 : decode cX8_leastBroken 67 = .ok (.if_icmp .ne 11, 3) := by decide +kernel
theorem dX8_leastBroken_70 : decode cX8_leastBroken 70 = .ok (.aload_n 0, 1) := by decide +kernel
theorem dX8_leastBroken_71 : decode cX8_leastBroken 71 = .ok (.iconst 1, 1) := by decide +kernel
theorem dX8_leastBroken_72 : decode cX8_leastBroken 72 = .ok (.invokevirtual 96, 3) := by decide +kernel
theorem dX8_leastBroken_75 : decode cX8_leastBroken 75 = .ok (.goto 4, 3) := by decide +kernel
theorem dX8_leastBroken_78 : decode cX8_leastBroken 78 = .ok (.iload_n 1, 1) := by decide +kernel
theorem dX8_leastBroken_79 : decode cX8_leastBroken 79 = .ok (.ireturn, 1) := by decide +kernel
theorem dX8_areaAt_0 : decode cX8_areaAt 0 = .ok (.aload_n 0, 1) := by decide +kernel
theorem dX8_areaAt_1 : decode cX8_areaAt 1 = .ok (.iconst 0, 1) := by decide +kernel
theorem dX8_areaAt_2 : decode cX8_areaAt 2 = .ok (.putfield 85, 3) := by decide +kernel
theorem dX8_areaAt_5 : decode cX8_areaAt 5 = .ok (.iload_n 1, 1) := by decide +kernel
theorem dX8_areaAt_6 : decode cX8_areaAt 6 = .ok (.invokestatic 106, 3) := by decide +kernel
theorem dX8_areaAt_9 : decode cX8_areaAt 9 = .ok (.ifCond .eq 23, 3) := by decide +kernel
theorem dX8_areaAt_12 : decode cX8_areaAt 12 = .ok (.iload_n 2, 1) := by decide +kernel
theorem dX8_areaAt_13 : decode cX8_areaAt 13 = .ok (.iconst 0, 1) := by decide +kernel
theorem dX8_areaAt_14 : decode cX8_areaAt 14 = .ok (.sipush 255, 3) := by decide +kernel
theorem dX8_areaAt_17 : decode cX8_areaAt 17 = .ok (.invokestatic 88, 3) := by decide +kernel
theorem dX8_areaAt_20 : decode cX8_areaAt 20 = .ok (.ifCond .eq 12, 3) := by decide +kernel
theorem dX8_areaAt_23 : decode cX8_areaAt 23 = .ok (.aload_n 0, 1) := by decide +kernel
theorem dX8_areaAt_24 : decode cX8_areaAt 24 = .ok (.iload_n 1, 1) := by decide +kernel
theorem dX8_areaAt_25 : decode cX8_areaAt 25 = .ok (.iload_n 2, 1) := by decide +kernel
theorem dX8_areaAt_26 : decode cX8_areaAt 26 = .ok (.invokevirtual 92, 3) := by decide +kernel
theorem dX8_areaAt_29 : decode cX8_areaAt 29 = .ok (.goto 8, 3) := by decide +kernel
theorem dX8_areaAt_32 : decode cX8_areaAt 32 = .ok (.aload_n 0, 1) := by decide +kernel
theorem dX8_areaAt_33 : decode cX8_areaAt 33 = .ok (.iconst 1, 1) := by decide +kernel
theorem dX8_areaAt_34 : decode cX8_areaAt 34 = .ok (.invokevirtual 96, 3) := by decide +kernel
theorem dX8_areaAt_37 : decode cX8_areaAt 37 = .ok (.ireturn, 1) := by decide +kernel
theorem dX8_areaThen_0 : decode cX8_areaThen 0 = .ok (.aload_n 0, 1) := by decide +kernel
theorem dX8_areaThen_1 : decode cX8_areaThen 1 = .ok (.iconst 0, 1) := by decide +kernel
theorem dX8_areaThen_2 : decode cX8_areaThen 2 = .ok (.putfield 85, 3) := by decide +kernel
theorem dX8_areaThen_5 : decode cX8_areaThen 5 = .ok (.iload_n 1, 1) := by decide +kernel
theorem dX8_areaThen_6 : decode cX8_areaThen 6 = .ok (.invokestatic 106, 3) := by decide +kernel
theorem dX8_areaThen_9 : decode cX8_areaThen 9 = .ok (.ifCond .eq 14, 3) := by decide +kernel
theorem dX8_areaThen_12 : decode cX8_areaThen 12 = .ok (.iload_n 2, 1) := by decide +kernel
theorem dX8_areaThen_13 : decode cX8_areaThen 13 = .ok (.iconst 0, 1) := by decide +kernel
theorem dX8_areaThen_14 : decode cX8_areaThen 14 = .ok (.sipush 255, 3) := by decide +kernel
theorem dX8_areaThen_17 : decode cX8_areaThen 17 = .ok (.invokestatic 88, 3) := by decide +kernel
theorem dX8_areaThen_20 : decode cX8_areaThen 20 = .ok (.ifCond .ne 9, 3) := by decide +kernel
theorem dX8_areaThen_23 : decode cX8_areaThen 23 = .ok (.aload_n 0, 1) := by decide +kernel
theorem dX8_areaThen_24 : decode cX8_areaThen 24 = .ok (.iconst 1, 1) := by decide +kernel
theorem dX8_areaThen_25 : decode cX8_areaThen 25 = .ok (.invokevirtual 96, 3) := by decide +kernel
theorem dX8_areaThen_28 : decode cX8_areaThen 28 = .ok (.ireturn, 1) := by decide +kernel
theorem dX8_areaThen_29 : decode cX8_areaThen 29 = .ok (.iload_n 3, 1) := by decide +kernel
theorem dX8_areaThen_30 : decode cX8_areaThen 30 = .ok (.iconst 0, 1) := by decide +kernel
theorem dX8_areaThen_31 : decode cX8_areaThen 31 = .ok (.aload_n 0, 1) := by decide +kernel
theorem dX8_areaThen_32 : decode cX8_areaThen 32 = .ok (.getfield 100, 3) := by decide +kernel
theorem dX8_areaThen_35 : decode cX8_areaThen 35 = .ok (.invokestatic 88, 3) := by decide +kernel
theorem dX8_areaThen_38 : decode cX8_areaThen 38 = .ok (.ifCond .eq 24, 3) := by decide +kernel
theorem dX8_areaThen_41 : decode cX8_areaThen 41 = .ok (.aload_n 0, 1) := by decide +kernel
theorem dX8_areaThen_42 : decode cX8_areaThen 42 = .ok (.getfield 36, 3) := by decide +kernel
theorem dX8_areaThen_45 : decode cX8_areaThen 45 = .ok (.sipush 768, 3) := by decide +kernel
theorem dX8_areaThen_48 : decode cX8_areaThen 48 = .ok (.iload_n 3, 1) := by decide +kernel
theorem dX8_areaThen_49 : decode cX8_areaThen 49 = .ok (.imul, 1) := by decide +kernel
theorem dX8_areaThen_50 : decode cX8_areaThen 50 = .ok (.sipush 256, 3) := by decide +kernel
theorem dX8_areaThen_53 : decode cX8_areaThen 53 = .ok (.iload_n 1, 1) := by decide +kernel
theorem dX8_areaThen_54 : decode cX8_areaThen 54 = .ok (.imul, 1) := by decide +kernel
theorem dX8_areaThen_55 : decode cX8_areaThen 55 = .ok (.iadd, 1) := by decide +kernel
theorem dX8_areaThen_56 : decode cX8_areaThen 56 = .ok (.iload_n 2, 1) := by decide +kernel
theorem dX8_areaThen_57 : decode cX8_areaThen 57 = .ok (.iadd, 1) := by decide +kernel
theorem dX8_areaThen_58 : decode cX8_areaThen 58 = .ok (.iaload, 1) := by decide +kernel
theorem dX8_areaThen_59 : decode cX8_areaThen 59 = .ok (.goto 8, 3) := by decide +kernel
theorem dX8_areaThen_62 : decode cX8_areaThen 62 = .ok (.aload_n 0, 1) := by decide +kernel
theorem dX8_areaThen_63 : decode cX8_areaThen 63 = .ok (.iconst 2, 1) := by decide +kernel
theorem dX8_areaThen_64 : decode cX8_areaThen 64 = .ok (.invokevirtual 96, 3) := by decide +kernel
theorem dX8_areaThen_67 : decode cX8_areaThen 67 = .ok (.ireturn, 1) := by decide +kernel
theorem dX8_authorOf_0 : decode cX8_authorOf 0 = .ok (.aload_n 0, 1) := by decide +kernel
theorem dX8_authorOf_1 : decode cX8_authorOf 1 = .ok (.iload_n 1, 1) := by decide +kernel
theorem dX8_authorOf_2 : decode cX8_authorOf 2 = .ok (.iload_n 2, 1) := by decide +kernel
theorem dX8_authorOf_3 : decode cX8_authorOf 3 = .ok (.iload_n 3, 1) := by decide +kernel
theorem dX8_authorOf_4 : decode cX8_authorOf 4 = .ok (.invokevirtual 132, 3) := by decide +kernel
theorem dX8_authorOf_7 : decode cX8_authorOf 7 = .ok (.istore 4, 2) := by decide +kernel
theorem dX8_authorOf_9 : decode cX8_authorOf 9 = .ok (.aload_n 0, 1) := by decide +kernel
theorem dX8_authorOf_10 : decode cX8_authorOf 10 = .ok (.getfield 85, 3) := by decide +kernel
theorem dX8_authorOf_13 : decode cX8_authorOf 13 = .ok (.ifCond .le 5, 3) := by decide +kernel
theorem dX8_authorOf_16 : decode cX8_authorOf 16 = .ok (.iconst 0, 1) := by decide +kernel
theorem dX8_authorOf_17 : decode cX8_authorOf 17 = .ok (.ireturn, 1) := by decide +kernel
theorem dX8_authorOf_18 : decode cX8_authorOf 18 = .ok (.iload_n 3, 1) := by decide +kernel
theorem dX8_authorOf_19 : decode cX8_authorOf 19 = .ok (.istore 5, 2) := by decide +kernel
theorem dX8_authorOf_21 : decode cX8_authorOf 21 = .ok (.iload 5, 2) := by decide +kernel
theorem dX8_authorOf_23 : decode cX8_authorOf 23 = .ok (.ifCond .le 52, 3) := by decide +kernel
theorem dX8_authorOf_26 : decode cX8_authorOf 26 = .ok (.aload_n 0, 1) := by decide +kernel
theorem dX8_authorOf_27 : decode cX8_authorOf 27 = .ok (.getfield 36, 3) := by decide +kernel
theorem dX8_authorOf_30 : decode cX8_authorOf 30 = .ok (.sipush 768, 3) := by decide +kernel
theorem dX8_authorOf_33 : decode cX8_authorOf 33 = .ok (.iload 5, 2) := by decide +kernel
theorem dX8_authorOf_35 : decode cX8_authorOf 35 = .ok (.imul, 1) := by decide +kernel
theorem dX8_authorOf_36 : decode cX8_authorOf 36 = .ok (.sipush 256, 3) := by decide +kernel
theorem dX8_authorOf_39 : decode cX8_authorOf 39 = .ok (.iload_n 1, 1) := by decide +kernel
theorem dX8_authorOf_40 : decode cX8_authorOf 40 = .ok (.imul, 1) := by decide +kernel
theorem dX8_authorOf_41 : decode cX8_authorOf 41 = .ok (.iadd, 1) := by decide +kernel
theorem dX8_authorOf_42 : decode cX8_authorOf 42 = .ok (.iload_n 2, 1) := by decide +kernel
theorem dX8_authorOf_43 : decode cX8_authorOf 43 = .ok (.iadd, 1) := by decide +kernel
theorem dX8_authorOf_44 : decode cX8_authorOf 44 = .ok (.iaload, 1) := by decide +kernel
theorem dX8_authorOf_45 : decode cX8_authorOf 45 = .ok (.aload_n 0, 1) := by decide +kernel
theorem dX8_authorOf_46 : decode cX8_authorOf 46 = .ok (.getfield 36, 3) := by decide +kernel
theorem dX8_authorOf_49 : decode cX8_authorOf 49 = .ok (.sipush 768, 3) := by decide +kernel
theorem dX8_authorOf_52 : decode cX8_authorOf 52 = .ok (.iload 5, 2) := by decide +kernel
theorem dX8_authorOf_54 : decode cX8_authorOf 54 = .ok (.iconst 1, 1) := by decide +kernel
theorem dX8_authorOf_55 : decode cX8_authorOf 55 = .ok (.isub, 1) := by decide +kernel
theorem dX8_authorOf_56 : decode cX8_authorOf 56 = .ok (.imul, 1) := by decide +kernel
theorem dX8_authorOf_57 : decode cX8_authorOf 57 = .ok (.sipush 256, 3) := by decide +kernel
theorem dX8_authorOf_60 : decode cX8_authorOf 60 = .ok (.iload_n 1, 1) := by decide +kernel
theorem dX8_authorOf_61 : decode cX8_authorOf 61 = .ok (.imul, 1) := by decide +kernel
theorem dX8_authorOf_62 : decode cX8_authorOf 62 = .ok (.iadd, 1) := by decide +kernel
theorem dX8_authorOf_63 : decode cX8_authorOf 63 = .ok (.iload_n 2, 1) := by decide +kernel
theorem dX8_authorOf_64 : decode cX8_authorOf 64 = .ok (.iadd, 1) := by decide +kernel
theorem dX8_authorOf_65 : decode cX8_authorOf 65 = .ok (.iaload, 1) := by decide +kernel
theorem dX8_authorOf_66 : decode cX8_authorOf 66 = .ok (.if_icmp .ne 9, 3) := by decide +kernel
theorem dX8_authorOf_69 : decode cX8_authorOf 69 = .ok (.iinc 5 (-1), 3) := by decide +kernel
theorem dX8_authorOf_72 : decode cX8_authorOf 72 = .ok (.goto (-51), 3) := by decide +kernel
theorem dX8_authorOf_75 : decode cX8_authorOf 75 = .ok (.iload 5, 2) := by decide +kernel
theorem dX8_authorOf_77 : decode cX8_authorOf 77 = .ok (.ifCond .ne 11, 3) := by decide +kernel
theorem dX8_authorOf_80 : decode cX8_authorOf 80 = .ok (.aload_n 0, 1) := by decide +kernel
theorem dX8_authorOf_81 : decode cX8_authorOf 81 = .ok (.iconst 3, 1) := by decide +kernel
theorem dX8_authorOf_82 : decode cX8_authorOf 82 = .ok (.invokevirtual 96, 3) := by decide +kernel
theorem dX8_authorOf_85 : decode cX8_authorOf 85 = .ok (.goto 10, 3) := by decide +kernel
theorem dX8_authorOf_88 : decode cX8_authorOf 88 = .ok (.aload_n 0, 1) := by decide +kernel
theorem dX8_authorOf_89 : decode cX8_authorOf 89 = .ok (.getfield 39, 3) := by decide +kernel
theorem dX8_authorOf_92 : decode cX8_authorOf 92 = .ok (.iload 5, 2) := by decide +kernel
theorem dX8_authorOf_94 : decode cX8_authorOf 94 = .ok (.iaload, 1) := by decide +kernel
theorem dX8_authorOf_95 : decode cX8_authorOf 95 = .ok (.ireturn, 1) := by decide +kernel
theorem dX8_looks_0 : decode cX8_looks 0 = .ok (.aload_n 0, 1) := by decide +kernel
theorem dX8_looks_1 : decode cX8_looks 1 = .ok (.iload_n 1, 1) := by decide +kernel
theorem dX8_looks_2 : decode cX8_looks 2 = .ok (.invokestatic 106, 3) := by decide +kernel
theorem dX8_looks_5 : decode cX8_looks 5 = .ok (.ifCond .ne 7, 3) := by decide +kernel
theorem dX8_looks_8 : decode cX8_looks 8 = .ok (.iconst 1, 1) := by decide +kernel
theorem dX8_looks_9 : decode cX8_looks 9 = .ok (.goto 15, 3) := by decide +kernel
theorem dX8_looks_12 : decode cX8_looks 12 = .ok (.iload_n 2, 1) := by decide +kernel
theorem dX8_looks_13 : decode cX8_looks 13 = .ok (.invokestatic 110, 3) := by decide +kernel
theorem dX8_looks_16 : decode cX8_looks 16 = .ok (.ifCond .ne 7, 3) := by decide +kernel
theorem dX8_looks_19 : decode cX8_looks 19 = .ok (.iconst 2, 1) := by decide +kernel
theorem dX8_looks_20 : decode cX8_looks 20 = .ok (.goto 4, 3) := by decide +kernel
theorem dX8_looks_23 : decode cX8_looks 23 = .ok (.iconst 0, 1) := by decide +kernel
theorem dX8_looks_24 : decode cX8_looks 24 = .ok (.putfield 85, 3) := by decide +kernel
theorem dX8_looks_27 : decode cX8_looks 27 = .ok (.aload_n 0, 1) := by decide +kernel
theorem dX8_looks_28 : decode cX8_looks 28 = .ok (.getfield 85, 3) := by decide +kernel
theorem dX8_looks_31 : decode cX8_looks 31 = .ok (.ifCond .ne 7, 3) := by decide +kernel
theorem dX8_looks_34 : decode cX8_looks 34 = .ok (.iconst 1, 1) := by decide +kernel
theorem dX8_looks_35 : decode cX8_looks 35 = .ok (.goto 4, 3) := by decide +kernel
theorem dX8_looks_38 : decode cX8_looks 38 = .ok (.iconst 0, 1) := by decide +kernel
theorem dX8_looks_39 : decode cX8_looks 39 = .ok (.ireturn, 1) := by decide +kernel
theorem dX8_size_0 : decode cX8_size 0 = .ok (.aload_n 0, 1) := by decide +kernel
theorem dX8_size_1 : decode cX8_size 1 = .ok (.iload_n 1, 1) := by decide +kernel
theorem dX8_size_2 : decode cX8_size 2 = .ok (.iload_n 2, 1) := by decide +kernel
theorem dX8_size_3 : decode cX8_size 3 = .ok (.invokevirtual 136, 3) := by decide +kernel
theorem dX8_size_6 : decode cX8_size 6 = .ok (.ifCond .eq 12, 3) := by decide +kernel
theorem dX8_size_9 : decode cX8_size 9 = .ok (.aload_n 0, 1) := by decide +kernel
theorem dX8_size_10 : decode cX8_size 10 = .ok (.iload_n 1, 1) := by decide +kernel
theorem dX8_size_11 : decode cX8_size 11 = .ok (.iload_n 2, 1) := by decide +kernel
theorem dX8_size_12 : decode cX8_size 12 = .ok (.invokevirtual 103, 3) := by decide +kernel
theorem dX8_size_15 : decode cX8_size 15 = .ok (.goto 4, 3) := by decide +kernel
theorem dX8_size_18 : decode cX8_size 18 = .ok (.iconst 0, 1) := by decide +kernel
theorem dX8_size_19 : decode cX8_size 19 = .ok (.ireturn, 1) := by decide +kernel
theorem dX8_value_0 : decode cX8_value 0 = .ok (.aload_n 0, 1) := by decide +kernel
theorem dX8_value_1 : decode cX8_value 1 = .ok (.iload_n 1, 1) := by decide +kernel
theorem dX8_value_2 : decode cX8_value 2 = .ok (.iload_n 2, 1) := by decide +kernel
theorem dX8_value_3 : decode cX8_value 3 = .ok (.invokevirtual 136, 3) := by decide +kernel
theorem dX8_value_6 : decode cX8_value 6 = .ok (.ifCond .eq 17, 3) := by decide +kernel
theorem dX8_value_9 : decode cX8_value 9 = .ok (.aload_n 0, 1) := by decide +kernel
theorem dX8_value_10 : decode cX8_value 10 = .ok (.getfield 21, 3) := by decide +kernel
theorem dX8_value_13 : decode cX8_value 13 = .ok (.bipush 10, 2) := by decide +kernel
theorem dX8_value_15 : decode cX8_value 15 = .ok (.iload_n 1, 1) := by decide +kernel
theorem dX8_value_16 : decode cX8_value 16 = .ok (.imul, 1) := by decide +kernel
theorem dX8_value_17 : decode cX8_value 17 = .ok (.iload_n 2, 1) := by decide +kernel
theorem dX8_value_18 : decode cX8_value 18 = .ok (.iadd, 1) := by decide +kernel
theorem dX8_value_19 : decode cX8_value 19 = .ok (.iaload, 1) := by decide +kernel
theorem dX8_value_20 : decode cX8_value 20 = .ok (.goto 4, 3) := by decide +kernel
theorem dX8_value_23 : decode cX8_value 23 = .ok (.iconst 0, 1) := by decide +kernel
theorem dX8_value_24 : decode cX8_value 24 = .ok (.ireturn, 1) := by decide +kernel
theorem dX8_rim_0 : decode cX8_rim 0 = .ok (.aload_n 0, 1) := by decide +kernel
theorem dX8_rim_1 : decode cX8_rim 1 = .ok (.iload_n 1, 1) := by decide +kernel
theorem dX8_rim_2 : decode cX8_rim 2 = .ok (.iload_n 2, 1) := by decide +kernel
theorem dX8_rim_3 : decode cX8_rim 3 = .ok (.invokevirtual 136, 3) := by decide +kernel
theorem dX8_rim_6 : decode cX8_rim 6 = .ok (.ifCond .ne 5, 3) := by decide +kernel
theorem dX8_rim_9 : decode cX8_rim 9 = .ok (.iconst 0, 1) := by decide +kernel
theorem dX8_rim_10 : decode cX8_rim 10 = .ok (.ireturn, 1) := by decide +kernel
theorem dX8_rim_11 : decode cX8_rim 11 = .ok (.iconst 0, 1) := by decide +kernel
theorem dX8_rim_12 : decode cX8_rim 12 = .ok (.istore_n 3, 1) := by decide +kernel
theorem dX8_rim_13 : decode cX8_rim 13 = .ok (.iconst 0, 1) := by decide +kernel
theorem dX8_rim_14 : decode cX8_rim 14 = .ok (.istore 4, 2) := by decide +kernel
theorem dX8_rim_16 : decode cX8_rim 16 = .ok (.iload 4, 2) := by decide +kernel
theorem dX8_rim_18 : decode cX8_rim 18 = .ok (.sipush 256, 3) := by decide +kernel
theorem dX8_rim_21 : decode cX8_rim 21 = .ok (.if_icmp .ge 69, 3) := by decide +kernel
theorem dX8_rim_24 : decode cX8_rim 24 = .ok (.iconst 0, 1) := by decide +kernel
theorem dX8_rim_25 : decode cX8_rim 25 = .ok (.istore 5, 2) := by decide +kernel
theorem dX8_rim_27 : decode cX8_rim 27 = .ok (.iload 5, 2) := by decide +kernel
theorem dX8_rim_29 : decode cX8_rim 29 = .ok (.iconst 4, 1) := by decide +kernel
theorem dX8_rim_30 : decode cX8_rim 30 = .ok (.if_icmp .ge 54, 3) := by decide +kernel
theorem dX8_rim_33 : decode cX8_rim 33 = .ok (.aload_n 0, 1) := by decide +kernel
theorem dX8_rim_34 : decode cX8_rim 34 = .ok (.iload_n 1, 1) := by decide +kernel
theorem dX8_rim_35 : decode cX8_rim 35 = .ok (.iload 4, 2) := by decide +kernel
theorem dX8_rim_37 : decode cX8_rim 37 = .ok (.invokevirtual 92, 3) := by decide +kernel
theorem dX8_rim_40 : decode cX8_rim 40 = .ok (.iload_n 2, 1) := by decide +kernel
theorem dX8_rim_41 : decode cX8_rim 41 = .ok (.if_icmp .ne 43, 3) := by decide +kernel
theorem dX8_rim_44 : decode cX8_rim 44 = .ok (.iload 4, 2) := by decide +kernel
theorem dX8_rim_46 : decode cX8_rim 46 = .ok (.iload 5, 2) := by decide +kernel
theorem dX8_rim_48 : decode cX8_rim 48 = .ok (.invokestatic 129, 3) := by decide +kernel
theorem dX8_rim_51 : decode cX8_rim 51 = .ok (.istore 6, 2) := by decide +kernel
theorem dX8_rim_53 : decode cX8_rim 53 = .ok (.iload_n 3, 1) := by decide +kernel
theorem dX8_rim_54 : decode cX8_rim 54 = .ok (.iload 6, 2) := by decide +kernel
theorem dX8_rim_56 : decode cX8_rim 56 = .ok (.iconst (-1), 1) := by decide +kernel
theorem dX8_rim_57 : decode cX8_rim 57 = .ok (.if_icmp .eq 14, 3) := by decide +kernel
theorem dX8_rim_60 : decode cX8_rim 60 = .ok (.aload_n 0, 1) := by decide +kernel
theorem dX8_rim_61 : decode cX8_rim 61 = .ok (.iload_n 1, 1) := by decide +kernel
theorem dX8_rim_62 : decode cX8_rim 62 = .ok (.iload 6, 2) := by decide +kernel
theorem dX8_rim_64 : decode cX8_rim 64 = .ok (.invokevirtual 92, 3) := by decide +kernel
theorem dX8_rim_67 : decode cX8_rim 67 = .ok (.iload_n 2, 1) := by decide +kernel
theorem dX8_rim_68 : decode cX8_rim 68 = .ok (.if_icmp .eq 7, 3) := by decide +kernel
theorem dX8_rim_71 : decode cX8_rim 71 = .ok (.iconst 1, 1) := by decide +kernel
theorem dX8_rim_72 : decode cX8_rim 72 = .ok (.goto 4, 3) := by decide +kernel
theorem dX8_rim_75 : decode cX8_rim 75 = .ok (.iconst 0, 1) := by decide +kernel
theorem dX8_rim_76 : decode cX8_rim 76 = .ok (.iadd, 1) := by decide +kernel
theorem dX8_rim_77 : decode cX8_rim 77 = .ok (.istore_n 3, 1) := by decide +kernel
theorem dX8_rim_78 : decode cX8_rim 78 = .ok (.iinc 5 1, 3) := by decide +kernel
theorem dX8_rim_81 : decode cX8_rim 81 = .ok (.goto (-54), 3) := by decide +kernel
theorem dX8_rim_84 : decode cX8_rim 84 = .ok (.iinc 4 1, 3) := by decide +kernel
theorem dX8_rim_87 : decode cX8_rim 87 = .ok (.goto (-71), 3) := by decide +kernel
theorem dX8_rim_90 : decode cX8_rim 90 = .ok (.iload_n 3, 1) := by decide +kernel
theorem dX8_rim_91 : decode cX8_rim 91 = .ok (.ireturn, 1) := by decide +kernel
theorem dX8_border_0 : decode cX8_border 0 = .ok (.aload_n 0, 1) := by decide +kernel
theorem dX8_border_1 : decode cX8_border 1 = .ok (.iload_n 1, 1) := by decide +kernel
theorem dX8_border_2 : decode cX8_border 2 = .ok (.iload_n 2, 1) := by decide +kernel
theorem dX8_border_3 : decode cX8_border 3 = .ok (.invokevirtual 136, 3) := by decide +kernel
theorem dX8_border_6 : decode cX8_border 6 = .ok (.ifCond .ne 5, 3) := by decide +kernel
theorem dX8_border_9 : decode cX8_border 9 = .ok (.iconst 0, 1) := by decide +kernel
theorem dX8_border_10 : decode cX8_border 10 = .ok (.ireturn, 1) := by decide +kernel
theorem dX8_border_11 : decode cX8_border 11 = .ok (.iload_n 3, 1) := by decide +kernel
theorem dX8_border_12 : decode cX8_border 12 = .ok (.invokestatic 110, 3) := by decide +kernel
theorem dX8_border_15 : decode cX8_border 15 = .ok (.ifCond .eq 8, 3) := by decide +kernel
theorem dX8_border_18 : decode cX8_border 18 = .ok (.iload_n 2, 1) := by decide +kernel
theorem dX8_border_19 : decode cX8_border 19 = .ok (.iload_n 3, 1) := by decide +kernel
theorem dX8_border_20 : decode cX8_border 20 = .ok (.if_icmp .ne 9, 3) := by decide +kernel
theorem dX8_border_23 : decode cX8_border 23 = .ok (.aload_n 0, 1) := by decide +kernel
theorem dX8_border_24 : decode cX8_border 24 = .ok (.iconst 2, 1) := by decide +kernel
theorem dX8_border_25 : decode cX8_border 25 = .ok (.invokevirtual 96, 3) := by decide +kernel
theorem dX8_border_28 : decode cX8_border 28 = .ok (.ireturn, 1) := by decide +kernel
theorem dX8_border_29 : decode cX8_border 29 = .ok (.iconst 0, 1) := by decide +kernel
theorem dX8_border_30 : decode cX8_border 30 = .ok (.istore 4, 2) := by decide +kernel
theorem dX8_border_32 : decode cX8_border 32 = .ok (.iconst 0, 1) := by decide +kernel
theorem dX8_border_33 : decode cX8_border 33 = .ok (.istore 5, 2) := by decide +kernel
theorem dX8_border_35 : decode cX8_border 35 = .ok (.iload 5, 2) := by decide +kernel
theorem dX8_border_37 : decode cX8_border 37 = .ok (.sipush 256, 3) := by decide +kernel
theorem dX8_border_40 : decode cX8_border 40 = .ok (.if_icmp .ge 71, 3) := by decide +kernel
theorem dX8_border_43 : decode cX8_border 43 = .ok (.iconst 0, 1) := by decide +kernel
theorem dX8_border_44 : decode cX8_border 44 = .ok (.istore 6, 2) := by decide +kernel
theorem dX8_border_46 : decode cX8_border 46 = .ok (.iload 6, 2) := by decide +kernel
theorem dX8_border_48 : decode cX8_border 48 = .ok (.iconst 4, 1) := by decide +kernel
theorem dX8_border_49 : decode cX8_border 49 = .ok (.if_icmp .ge 56, 3) := by decide +kernel
theorem dX8_border_52 : decode cX8_border 52 = .ok (.aload_n 0, 1) := by decide +kernel
theorem dX8_border_53 : decode cX8_border 53 = .ok (.iload_n 1, 1) := by decide +kernel
theorem dX8_border_54 : decode cX8_border 54 = .ok (.iload 5, 2) := by decide +kernel
theorem dX8_border_56 : decode cX8_border 56 = .ok (.invokevirtual 92, 3) := by decide +kernel
theorem dX8_border_59 : decode cX8_border 59 = .ok (.iload_n 2, 1) := by decide +kernel
theorem dX8_border_60 : decode cX8_border 60 = .ok (.if_icmp .ne 45, 3) := by decide +kernel
theorem dX8_border_63 : decode cX8_border 63 = .ok (.iload 5, 2) := by decide +kernel
theorem dX8_border_65 : decode cX8_border 65 = .ok (.iload 6, 2) := by decide +kernel
theorem dX8_border_67 : decode cX8_border 67 = .ok (.invokestatic 129, 3) := by decide +kernel
theorem dX8_border_70 : decode cX8_border 70 = .ok (.istore 7, 2) := by decide +kernel
theorem dX8_border_72 : decode cX8_border 72 = .ok (.iload 4, 2) := by decide +kernel
theorem dX8_border_74 : decode cX8_border 74 = .ok (.iload 7, 2) := by decide +kernel
theorem dX8_border_76 : decode cX8_border 76 = .ok (.iconst (-1), 1) := by decide +kernel
theorem dX8_border_77 : decode cX8_border 77 = .ok (.if_icmp .eq 18, 3) := by decide +kernel
theorem dX8_border_80 : decode cX8_border 80 = .ok (.aload_n 0, 1) := by decide +kernel
theorem dX8_border_81 : decode cX8_border 81 = .ok (.iload_n 1, 1) := by decide +kernel
theorem dX8_border_82 : decode cX8_border 82 = .ok (.iload 7, 2) := by decide +kernel
theorem dX8_border_84 : decode cX8_border 84 = .ok (.invokevirtual 92, 3) := by decide +kernel
theorem dX8_border_87 : decode cX8_border 87 = .ok (.iload_n 3, 1) := by decide +kernel
theorem dX8_border_88 : decode cX8_border 88 = .ok (.if_icmp .ne 7, 3) := by decide +kernel
theorem dX8_border_91 : decode cX8_border 91 = .ok (.iconst 1, 1) := by decide +kernel
theorem dX8_border_92 : decode cX8_border 92 = .ok (.goto 4, 3) := by decide +kernel
theorem dX8_border_95 : decode cX8_border 95 = .ok (.iconst 0, 1) := by decide +kernel
theorem dX8_border_96 : decode cX8_border 96 = .ok (.iadd, 1) := by decide +kernel
theorem dX8_border_97 : decode cX8_border 97 = .ok (.istore 4, 2) := by decide +kernel
theorem dX8_border_99 : decode cX8_border 99 = .ok (.iinc 6 1, 3) := by decide +kernel
theorem dX8_border_102 : decode cX8_border 102 = .ok (.goto (-56), 3) := by decide +kernel
theorem dX8_border_105 : decode cX8_border 105 = .ok (.iinc 5 1, 3) := by decide +kernel
theorem dX8_border_108 : decode cX8_border 108 = .ok (.goto (-73), 3) := by decide +kernel
theorem dX8_border_111 : decode cX8_border 111 = .ok (.iload 4, 2) := by decide +kernel
theorem dX8_border_113 : decode cX8_border 113 = .ok (.ireturn, 1) := by decide +kernel
theorem dX8_steps_0 : decode cX8_steps 0 = .ok (.iload_n 0, 1) := by decide +kernel
theorem dX8_steps_1 : decode cX8_steps 1 = .ok (.bipush 16, 2) := by decide +kernel
theorem dX8_steps_3 : decode cX8_steps 3 = .ok (.irem, 1) := by decide +kernel
theorem dX8_steps_4 : decode cX8_steps 4 = .ok (.iload_n 1, 1) := by decide +kernel
theorem dX8_steps_5 : decode cX8_steps 5 = .ok (.bipush 16, 2) := by decide +kernel
theorem dX8_steps_7 : decode cX8_steps 7 = .ok (.irem, 1) := by decide +kernel
theorem dX8_steps_8 : decode cX8_steps 8 = .ok (.isub, 1) := by decide +kernel
theorem dX8_steps_9 : decode cX8_steps 9 = .ok (.invokestatic 140, 3) := by decide +kernel
theorem dX8_steps_12 : decode cX8_steps 12 = .ok (.iload_n 0, 1) := by decide +kernel
theorem dX8_steps_13 : decode cX8_steps 13 = .ok (.bipush 16, 2) := by decide +kernel
theorem dX8_steps_15 : decode cX8_steps 15 = .ok (.idiv, 1) := by decide +kernel
theorem dX8_steps_16 : decode cX8_steps 16 = .ok (.iload_n 1, 1) := by decide +kernel
theorem dX8_steps_17 : decode cX8_steps 17 = .ok (.bipush 16, 2) := by decide +kernel
theorem dX8_steps_19 : decode cX8_steps 19 = .ok (.idiv, 1) := by decide +kernel
theorem dX8_steps_20 : decode cX8_steps 20 = .ok (.isub, 1) := by decide +kernel
theorem dX8_steps_21 : decode cX8_steps 21 = .ok (.invokestatic 140, 3) := by decide +kernel
theorem dX8_steps_24 : decode cX8_steps 24 = .ok (.iadd, 1) := by decide +kernel
theorem dX8_steps_25 : decode cX8_steps 25 = .ok (.ireturn, 1) := by decide +kernel
theorem dX8_between_0 : decode cX8_between 0 = .ok (.iconst (-1), 1) := by decide +kernel
theorem dX8_between_1 : decode cX8_between 1 = .ok (.istore 4, 2) := by decide +kernel
theorem dX8_between_3 : decode cX8_between 3 = .ok (.iconst 0, 1) := by decide +kernel
theorem dX8_between_4 : decode cX8_between 4 = .ok (.istore 5, 2) := by decide +kernel
theorem dX8_between_6 : decode cX8_between 6 = .ok (.iload 5, 2) := by decide +kernel
theorem dX8_between_8 : decode cX8_between 8 = .ok (.sipush 256, 3) := by decide +kernel
theorem dX8_between_11 : decode cX8_between 11 = .ok (.if_icmp .ge 92, 3) := by decide +kernel
theorem dX8_between_14 : decode cX8_between 14 = .ok (.iconst 0, 1) := by decide +kernel
theorem dX8_between_15 : decode cX8_between 15 = .ok (.istore 6, 2) := by decide +kernel
theorem dX8_between_17 : decode cX8_between 17 = .ok (.iload 6, 2) := by decide +kernel
theorem dX8_between_19 : decode cX8_between 19 = .ok (.sipush 256, 3) := by decide +kernel
theorem dX8_between_22 : decode cX8_between 22 = .ok (.if_icmp .ge 75, 3) := by decide +kernel
theorem dX8_between_25 : decode cX8_between 25 = .ok (.aload_n 0, 1) := by decide +kernel
theorem dX8_between_26 : decode cX8_between 26 = .ok (.iload_n 1, 1) := by decide +kernel
theorem dX8_between_27 : decode cX8_between 27 = .ok (.iload 5, 2) := by decide +kernel
theorem dX8_between_29 : decode cX8_between 29 = .ok (.invokevirtual 92, 3) := by decide +kernel
theorem dX8_between_32 : decode cX8_between 32 = .ok (.iload_n 2, 1) := by decide +kernel
theorem dX8_between_33 : decode cX8_between 33 = .ok (.if_icmp .ne 64, 3) := by decide +kernel
theorem dX8_between_36 : decode cX8_between 36 = .ok (.aload_n 0, 1) := by decide +kernel
theorem dX8_between_37 : decode cX8_between 37 = .ok (.iload_n 1, 1) := by decide +kernel
theorem dX8_between_38 : decode cX8_between 38 = .ok (.iload 6, 2) := by decide +kernel
theorem dX8_between_40 : decode cX8_between 40 = .ok (.invokevirtual 92, 3) := by decide +kernel
theorem dX8_between_43 : decode cX8_between 43 = .ok (.iload_n 3, 1) := by decide +kernel
theorem dX8_between_44 : decode cX8_between 44 = .ok (.if_icmp .ne 25, 3) := by decide +kernel
theorem dX8_between_47 : decode cX8_between 47 = .ok (.iload 4, 2) := by decide +kernel
theorem dX8_between_49 : decode cX8_between 49 = .ok (.iconst (-1), 1) := by decide +kernel
theorem dX8_between_50 : decode cX8_between 50 = .ok (.if_icmp .eq 15, 3) := by decide +kernel
theorem dX8_between_53 : decode cX8_between 53 = .ok (.iload 5, 2) := by decide +kernel
theorem dX8_between_55 : decode cX8_between 55 = .ok (.iload 6, 2) := by decide +kernel
theorem dX8_between_57 : decode cX8_between 57 = .ok (.invokestatic 145, 3) := by decide +kernel
theorem dX8_between_60 : decode cX8_between 60 = .ok (.iload 4, 2) := by decide +kernel
theorem dX8_between_62 : decode cX8_between 62 = .ok (.if_icmp .ge 7, 3) := by decide +kernel
theorem dX8_between_65 : decode cX8_between 65 = .ok (.iconst 1, 1) := by decide +kernel
theorem dX8_between_66 : decode cX8_between 66 = .ok (.goto 4, 3) := by decide +kernel
theorem dX8_between_69 : decode cX8_between 69 = .ok (.iconst 0, 1) := by decide +kernel
theorem dX8_between_70 : decode cX8_between 70 = .ok (.istore 7, 2) := by decide +kernel
theorem dX8_between_72 : decode cX8_between 72 = .ok (.iload 7, 2) := by decide +kernel
theorem dX8_between_74 : decode cX8_between 74 = .ok (.ifCond .eq 13, 3) := by decide +kernel
theorem dX8_between_77 : decode cX8_between 77 = .ok (.iload 5, 2) := by decide +kernel
theorem dX8_between_79 : decode cX8_between 79 = .ok (.iload 6, 2) := by decide +kernel
theorem dX8_between_81 : decode cX8_between 81 = .ok (.invokestatic 145, 3) := by decide +kernel
theorem dX8_between_84 : decode cX8_between 84 = .ok (.goto 5, 3) := by decide +kernel
theorem dX8_between_87 : decode cX8_between 87 = .ok (.iload 4, 2) := by decide +kernel
theorem dX8_between_89 : decode cX8_between 89 = .ok (.istore 4, 2) := by decide +kernel
theorem dX8_between_91 : decode cX8_between 91 = .ok (.iinc 6 1, 3) := by decide +kernel
theorem dX8_between_94 : decode cX8_between 94 = .ok (.goto (-77), 3) := by decide +kernel
theorem dX8_between_97 : decode cX8_between 97 = .ok (.iinc 5 1, 3) := by decide +kernel
theorem dX8_between_100 : decode cX8_between 100 = .ok (.goto (-94), 3) := by decide +kernel
theorem dX8_between_103 : decode cX8_between 103 = .ok (.iload 4, 2) := by decide +kernel
theorem dX8_between_105 : decode cX8_between 105 = .ok (.ireturn, 1) := by decide +kernel
theorem dX8_distance_0 : decode cX8_distance 0 = .ok (.aload_n 0, 1) := by decide +kernel
theorem dX8_distance_1 : decode cX8_distance 1 = .ok (.iload_n 1, 1) := by decide +kernel
theorem dX8_distance_2 : decode cX8_distance 2 = .ok (.iload_n 2, 1) := by decide +kernel
theorem dX8_distance_3 : decode cX8_distance 3 = .ok (.invokevirtual 136, 3) := by decide +kernel
theorem dX8_distance_6 : decode cX8_distance 6 = .ok (.ifCond .ne 5, 3) := by decide +kernel
theorem dX8_distance_9 : decode cX8_distance 9 = .ok (.iconst 0, 1) := by decide +kernel
theorem dX8_distance_10 : decode cX8_distance 10 = .ok (.ireturn, 1) := by decide +kernel
theorem dX8_distance_11 : decode cX8_distance 11 = .ok (.iload_n 3, 1) := by decide +kernel
theorem dX8_distance_12 : decode cX8_distance 12 = .ok (.invokestatic 110, 3) := by decide +kernel
theorem dX8_distance_15 : decode cX8_distance 15 = .ok (.ifCond .eq 8, 3) := by decide +kernel
theorem dX8_distance_18 : decode cX8_distance 18 = .ok (.iload_n 2, 1) := by decide +kernel
theorem dX8_distance_19 : decode cX8_distance 19 = .ok (.iload_n 3, 1) := by decide +kernel
theorem dX8_distance_20 : decode cX8_distance 20 = .ok (.if_icmp .ne 9, 3) := by decide +kernel
theorem dX8_distance_23 : decode cX8_distance 23 = .ok (.aload_n 0, 1) := by decide +kernel
theorem dX8_distance_24 : decode cX8_distance 24 = .ok (.iconst 2, 1) := by decide +kernel
theorem dX8_distance_25 : decode cX8_distance 25 = .ok (.invokevirtual 96, 3) := by decide +kernel
theorem dX8_distance_28 : decode cX8_distance 28 = .ok (.ireturn, 1) := by decide +kernel
theorem dX8_distance_29 : decode cX8_distance 29 = .ok (.aload_n 0, 1) := by decide +kernel
theorem dX8_distance_30 : decode cX8_distance 30 = .ok (.iload_n 1, 1) := by decide +kernel
theorem dX8_distance_31 : decode cX8_distance 31 = .ok (.iload_n 2, 1) := by decide +kernel
theorem dX8_distance_32 : decode cX8_distance 32 = .ok (.iload_n 3, 1) := by decide +kernel
theorem dX8_distance_33 : decode cX8_distance 33 = .ok (.invokevirtual 148, 3) := by decide +kernel
theorem dX8_distance_36 : decode cX8_distance 36 = .ok (.istore 4, 2) := by decide +kernel
theorem dX8_distance_38 : decode cX8_distance 38 = .ok (.iload 4, 2) := by decide +kernel
theorem dX8_distance_40 : decode cX8_distance 40 = .ok (.iconst (-1), 1) := by decide +kernel
theorem dX8_distance_41 : decode cX8_distance 41 = .ok (.if_icmp .ne 11, 3) := by decide +kernel
theorem dX8_distance_44 : decode cX8_distance 44 = .ok (.aload_n 0, 1) := by decide +kernel
theorem dX8_distance_45 : decode cX8_distance 45 = .ok (.iconst 3, 1) := by decide +kernel
theorem dX8_distance_46 : decode cX8_distance 46 = .ok (.invokevirtual 96, 3) := by decide +kernel
theorem dX8_distance_49 : decode cX8_distance 49 = .ok (.goto 5, 3) := by decide +kernel
theorem dX8_distance_52 : decode cX8_distance 52 = .ok (.iload 4, 2) := by decide +kernel
theorem dX8_distance_54 : decode cX8_distance 54 = .ok (.ireturn, 1) := by decide +kernel
theorem dX8_nearest_0 : decode cX8_nearest 0 = .ok (.aload_n 0, 1) := by decide +kernel
theorem dX8_nearest_1 : decode cX8_nearest 1 = .ok (.iload_n 1, 1) := by decide +kernel
theorem dX8_nearest_2 : decode cX8_nearest 2 = .ok (.iload_n 2, 1) := by decide +kernel
theorem dX8_nearest_3 : decode cX8_nearest 3 = .ok (.invokevirtual 136, 3) := by decide +kernel
theorem dX8_nearest_6 : decode cX8_nearest 6 = .ok (.ifCond .ne 5, 3) := by decide +kernel
theorem dX8_nearest_9 : decode cX8_nearest 9 = .ok (.iconst 0, 1) := by decide +kernel
theorem dX8_nearest_10 : decode cX8_nearest 10 = .ok (.ireturn, 1) := by decide +kernel
theorem dX8_nearest_11 : decode cX8_nearest 11 = .ok (.iconst (-1), 1) := by decide +kernel
theorem dX8_nearest_12 : decode cX8_nearest 12 = .ok (.istore_n 3, 1) := by decide +kernel
theorem dX8_nearest_13 : decode cX8_nearest 13 = .ok (.iconst 0, 1) := by decide +kernel
theorem dX8_nearest_14 : decode cX8_nearest 14 = .ok (.istore 4, 2) := by decide +kernel
theorem dX8_nearest_16 : decode cX8_nearest 16 = .ok (.iconst 0, 1) := by decide +kernel
theorem dX8_nearest_17 : decode cX8_nearest 17 = .ok (.istore 5, 2) := by decide +kernel
theorem dX8_nearest_19 : decode cX8_nearest 19 = .ok (.iload 5, 2) := by decide +kernel
theorem dX8_nearest_21 : decode cX8_nearest 21 = .ok (.bipush 10, 2) := by decide +kernel
theorem dX8_nearest_23 : decode cX8_nearest 23 = .ok (.if_icmp .ge 54, 3) := by decide +kernel
theorem dX8_nearest_26 : decode cX8_nearest 26 = .ok (.iload 5, 2) := by decide +kernel
theorem dX8_nearest_28 : decode cX8_nearest 28 = .ok (.iload_n 2, 1) := by decide +kernel
theorem dX8_nearest_29 : decode cX8_nearest 29 = .ok (.if_icmp .ne 7, 3) := by decide +kernel
theorem dX8_nearest_32 : decode cX8_nearest 32 = .ok (.iconst (-1), 1) := by decide +kernel
theorem dX8_nearest_33 : decode cX8_nearest 33 = .ok (.goto 11, 3) := by decide +kernel
theorem dX8_nearest_36 : decode cX8_nearest 36 = .ok (.aload_n 0, 1) := by decide +kernel
theorem dX8_nearest_37 : decode cX8_nearest 37 = .ok (.iload_n 1, 1) := by decide +kernel
theorem dX8_nearest_38 : decode cX8_nearest 38 = .ok (.iload_n 2, 1) := by decide +kernel
theorem dX8_nearest_39 : decode cX8_nearest 39 = .ok (.iload 5, 2) := by decide +kernel
theorem dX8_nearest_41 : decode cX8_nearest 41 = .ok (.invokevirtual 148, 3) := by decide +kernel
theorem dX8_nearest_44 : decode cX8_nearest 44 = .ok (.istore 6, 2) := by decide +kernel
theorem dX8_nearest_46 : decode cX8_nearest 46 = .ok (.iload 6, 2) := by decide +kernel
theorem dX8_nearest_48 : decode cX8_nearest 48 = .ok (.iconst (-1), 1) := by decide +kernel
theorem dX8_nearest_49 : decode cX8_nearest 49 = .ok (.if_icmp .eq 22, 3) := by decide +kernel
theorem dX8_nearest_52 : decode cX8_nearest 52 = .ok (.iload_n 3, 1) := by decide +kernel
theorem dX8_nearest_53 : decode cX8_nearest 53 = .ok (.iconst (-1), 1) := by decide +kernel
theorem dX8_nearest_54 : decode cX8_nearest 54 = .ok (.if_icmp .eq 10, 3) := by decide +kernel
theorem dX8_nearest_57 : decode cX8_nearest 57 = .ok (.iload 6, 2) := by decide +kernel
theorem dX8_nearest_59 : decode cX8_nearest 59 = .ok (.iload 4, 2) := by decide +kernel
theorem dX8_nearest_61 : decode cX8_nearest 61 = .ok (.if_icmp .ge 10, 3) := by decide +kernel
theorem dX8_nearest_64 : decode cX8_nearest 64 = .ok (.iload 5, 2) := by decide +kernel
theorem dX8_nearest_66 : decode cX8_nearest 66 = .ok (.istore_n 3, 1) := by decide +kernel
theorem dX8_nearest_67 : decode cX8_nearest 67 = .ok (.iload 6, 2) := by decide +kernel
theorem dX8_nearest_69 : decode cX8_nearest 69 = .ok (.istore 4, 2) := by decide +kernel
theorem dX8_nearest_71 : decode cX8_nearest 71 = .ok (.iinc 5 1, 3) := by decide +kernel
theorem dX8_nearest_74 : decode cX8_nearest 74 = .ok (.goto (-55), 3) := by decide +kernel
theorem dX8_nearest_77 : decode cX8_nearest 77 = .ok (.iload_n 3, 1) := by decide +kernel
theorem dX8_nearest_78 : decode cX8_nearest 78 = .ok (.iconst (-1), 1) := by decide +kernel
theorem dX8_nearest_79 : decode cX8_nearest 79 = .ok (.if_icmp .ne 11, 3) := by decide +kernel
theorem dX8_nearest_82 : decode cX8_nearest 82 = .ok (.aload_n 0, 1) := by decide +kernel
theorem dX8_nearest_83 : decode cX8_nearest 83 = .ok (.iconst 3, 1) := by decide +kernel
theorem dX8_nearest_84 : decode cX8_nearest 84 = .ok (.invokevirtual 96, 3) := by decide +kernel
theorem dX8_nearest_87 : decode cX8_nearest 87 = .ok (.goto 4, 3) := by decide +kernel
theorem dX8_nearest_90 : decode cX8_nearest 90 = .ok (.iload_n 3, 1) := by decide +kernel
theorem dX8_nearest_91 : decode cX8_nearest 91 = .ok (.ireturn, 1) := by decide +kernel
theorem dX8_belt_0 : decode cX8_belt 0 = .ok (.aload_n 0, 1) := by decide +kernel
theorem dX8_belt_1 : decode cX8_belt 1 = .ok (.iload_n 1, 1) := by decide +kernel
theorem dX8_belt_2 : decode cX8_belt 2 = .ok (.iload_n 2, 1) := by decide +kernel
theorem dX8_belt_3 : decode cX8_belt 3 = .ok (.invokevirtual 136, 3) := by decide +kernel
theorem dX8_belt_6 : decode cX8_belt 6 = .ok (.ifCond .ne 5, 3) := by decide +kernel
theorem dX8_belt_9 : decode cX8_belt 9 = .ok (.iconst 0, 1) := by decide +kernel
theorem dX8_belt_10 : decode cX8_belt 10 = .ok (.ireturn, 1) := by decide +kernel
theorem dX8_belt_11 : decode cX8_belt 11 = .ok (.iload_n 3, 1) := by decide +kernel
theorem dX8_belt_12 : decode cX8_belt 12 = .ok (.iconst 1, 1) := by decide +kernel
theorem dX8_belt_13 : decode cX8_belt 13 = .ok (.bipush 30, 2) := by decide +kernel
theorem dX8_belt_15 : decode cX8_belt 15 = .ok (.invokestatic 88, 3) := by decide +kernel
theorem dX8_belt_18 : decode cX8_belt 18 = .ok (.ifCond .ne 9, 3) := by decide +kernel
theorem dX8_belt_21 : decode cX8_belt 21 = .ok (.aload_n 0, 1) := by decide +kernel
theorem dX8_belt_22 : decode cX8_belt 22 = .ok (.iconst 2, 1) := by decide +kernel
theorem dX8_belt_23 : decode cX8_belt 23 = .ok (.invokevirtual 96, 3) := by decide +kernel
theorem dX8_belt_26 : decode cX8_belt 26 = .ok (.ireturn, 1) := by decide +kernel
theorem dX8_belt_27 : decode cX8_belt 27 = .ok (.iconst 0, 1) := by decide +kernel
theorem dX8_belt_28 : decode cX8_belt 28 = .ok (.istore 4, 2) := by decide +kernel
theorem dX8_belt_30 : decode cX8_belt 30 = .ok (.iconst 0, 1) := by decide +kernel
theorem dX8_belt_31 : decode cX8_belt 31 = .ok (.istore 5, 2) := by decide +kernel
theorem dX8_belt_33 : decode cX8_belt 33 = .ok (.iload 5, 2) := by decide +kernel
theorem dX8_belt_35 : decode cX8_belt 35 = .ok (.sipush 256, 3) := by decide +kernel
theorem dX8_belt_38 : decode cX8_belt 38 = .ok (.if_icmp .ge 89, 3) := by decide +kernel
theorem dX8_belt_41 : decode cX8_belt 41 = .ok (.iconst 0, 1) := by decide +kernel
theorem dX8_belt_42 : decode cX8_belt 42 = .ok (.istore 6, 2) := by decide +kernel
theorem dX8_belt_44 : decode cX8_belt 44 = .ok (.iconst 0, 1) := by decide +kernel
theorem dX8_belt_45 : decode cX8_belt 45 = .ok (.istore 7, 2) := by decide +kernel
theorem dX8_belt_47 : decode cX8_belt 47 = .ok (.iload 7, 2) := by decide +kernel
theorem dX8_belt_49 : decode cX8_belt 49 = .ok (.sipush 256, 3) := by decide +kernel
theorem dX8_belt_52 : decode cX8_belt 52 = .ok (.if_icmp .ge 43, 3) := by decide +kernel
theorem dX8_belt_55 : decode cX8_belt 55 = .ok (.iload 6, 2) := by decide +kernel
theorem dX8_belt_57 : decode cX8_belt 57 = .ok (.ifCond .ne 25, 3) := by decide +kernel
theorem dX8_belt_60 : decode cX8_belt 60 = .ok (.aload_n 0, 1) := by decide +kernel
theorem dX8_belt_61 : decode cX8_belt 61 = .ok (.iload_n 1, 1) := by decide +kernel
theorem dX8_belt_62 : decode cX8_belt 62 = .ok (.iload 7, 2) := by decide +kernel
theorem dX8_belt_64 : decode cX8_belt 64 = .ok (.invokevirtual 92, 3) := by decide +kernel
theorem dX8_belt_67 : decode cX8_belt 67 = .ok (.iload_n 2, 1) := by decide +kernel
theorem dX8_belt_68 : decode cX8_belt 68 = .ok (.if_icmp .ne 18, 3) := by decide +kernel
theorem dX8_belt_71 : decode cX8_belt 71 = .ok (.iload 5, 2) := by decide +kernel
theorem dX8_belt_73 : decode cX8_belt 73 = .ok (.iload 7, 2) := by decide +kernel
theorem dX8_belt_75 : decode cX8_belt 75 = .ok (.invokestatic 145, 3) := by decide +kernel
theorem dX8_belt_78 : decode cX8_belt 78 = .ok (.iload_n 3, 1) := by decide +kernel
theorem dX8_belt_79 : decode cX8_belt 79 = .ok (.if_icmp .gt 7, 3) := by decide +kernel
theorem dX8_belt_82 : decode cX8_belt 82 = .ok (.iconst 1, 1) := by decide +kernel
theorem dX8_belt_83 : decode cX8_belt 83 = .ok (.goto 4, 3) := by decide +kernel
theorem dX8_belt_86 : decode cX8_belt 86 = .ok (.iconst 0, 1) := by decide +kernel
theorem dX8_belt_87 : decode cX8_belt 87 = .ok (.istore 6, 2) := by decide +kernel
theorem dX8_belt_89 : decode cX8_belt 89 = .ok (.iinc 7 1, 3) := by decide +kernel
theorem dX8_belt_92 : decode cX8_belt 92 = .ok (.goto (-45), 3) := by decide +kernel
theorem dX8_belt_95 : decode cX8_belt 95 = .ok (.iload 4, 2) := by decide +kernel
theorem dX8_belt_97 : decode cX8_belt 97 = .ok (.iload 6, 2) := by decide +kernel
theorem dX8_belt_99 : decode cX8_belt 99 = .ok (.ifCond .eq 18, 3) := by decide +kernel
theorem dX8_belt_102 : decode cX8_belt 102 = .ok (.aload_n 0, 1) := by decide +kernel
theorem dX8_belt_103 : decode cX8_belt 103 = .ok (.iload_n 1, 1) := by decide +kernel
theorem dX8_belt_104 : decode cX8_belt 104 = .ok (.iload 5, 2) := by decide +kernel
theorem dX8_belt_106 : decode cX8_belt 106 = .ok (.invokevirtual 92, 3) := by decide +kernel
theorem dX8_belt_109 : decode cX8_belt 109 = .ok (.iload_n 2, 1) := by decide +kernel
theorem dX8_belt_110 : decode cX8_belt 110 = .ok (.if_icmp .eq 7, 3) := by decide +kernel
theorem dX8_belt_113 : decode cX8_belt 113 = .ok (.iconst 1, 1) := by decide +kernel
theorem dX8_belt_114 : decode cX8_belt 114 = .ok (.goto 4, 3) := by decide +kernel
theorem dX8_belt_117 : decode cX8_belt 117 = .ok (.iconst 0, 1) := by decide +kernel
theorem dX8_belt_118 : decode cX8_belt 118 = .ok (.iadd, 1) := by decide +kernel
theorem dX8_belt_119 : decode cX8_belt 119 = .ok (.istore 4, 2) := by decide +kernel
theorem dX8_belt_121 : decode cX8_belt 121 = .ok (.iinc 5 1, 3) := by decide +kernel
theorem dX8_belt_124 : decode cX8_belt 124 = .ok (.goto (-91), 3) := by decide +kernel
theorem dX8_belt_127 : decode cX8_belt 127 = .ok (.iload 4, 2) := by decide +kernel
theorem dX8_belt_129 : decode cX8_belt 129 = .ok (.ireturn, 1) := by decide +kernel
theorem dX8_checkOut_0 : decode cX8_checkOut 0 = .ok (.aload_n 0, 1) := by decide +kernel
theorem dX8_checkOut_1 : decode cX8_checkOut 1 = .ok (.iconst 0, 1) := by decide +kernel
theorem dX8_checkOut_2 : decode cX8_checkOut 2 = .ok (.putfield 85, 3) := by decide +kernel
theorem dX8_checkOut_5 : decode cX8_checkOut 5 = .ok (.iload_n 1, 1) := by decide +kernel
theorem dX8_checkOut_6 : decode cX8_checkOut 6 = .ok (.invokestatic 106, 3) := by decide +kernel
theorem dX8_checkOut_9 : decode cX8_checkOut 9 = .ok (.ifCond .ne 9, 3) := by decide +kernel
theorem dX8_checkOut_12 : decode cX8_checkOut 12 = .ok (.aload_n 0, 1) := by decide +kernel
theorem dX8_checkOut_13 : decode cX8_checkOut 13 = .ok (.iconst 1, 1) := by decide +kernel
theorem dX8_checkOut_14 : decode cX8_checkOut 14 = .ok (.invokevirtual 96, 3) := by decide +kernel
theorem dX8_checkOut_17 : decode cX8_checkOut 17 = .ok (.ireturn, 1) := by decide +kernel
theorem dX8_checkOut_18 : decode cX8_checkOut 18 = .ok (.iload_n 2, 1) := by decide +kernel
theorem dX8_checkOut_19 : decode cX8_checkOut 19 = .ok (.iload_n 3, 1) := by decide +kernel
theorem dX8_checkOut_20 : decode cX8_checkOut 20 = .ok (.iload 4, 2) := by decide +kernel
theorem dX8_checkOut_22 : decode cX8_checkOut 22 = .ok (.iload 5, 2) := by decide +kernel
theorem dX8_checkOut_24 : decode cX8_checkOut 24 = .ok (.invokestatic 113, 3) := by decide +kernel
theorem dX8_checkOut_27 : decode cX8_checkOut 27 = .ok (.ifCond .ne 9, 3) := by decide +kernel
theorem dX8_checkOut_30 : decode cX8_checkOut 30 = .ok (.aload_n 0, 1) := by decide +kernel
theorem dX8_checkOut_31 : decode cX8_checkOut 31 = .ok (.iconst 2, 1) := by decide +kernel
theorem dX8_checkOut_32 : decode cX8_checkOut 32 = .ok (.invokevirtual 96, 3) := by decide +kernel
theorem dX8_checkOut_35 : decode cX8_checkOut 35 = .ok (.ireturn, 1) := by decide +kernel
theorem dX8_checkOut_36 : decode cX8_checkOut 36 = .ok (.aload_n 0, 1) := by decide +kernel
theorem dX8_checkOut_37 : decode cX8_checkOut 37 = .ok (.getfield 9, 3) := by decide +kernel
theorem dX8_checkOut_40 : decode cX8_checkOut 40 = .ok (.iconst (-1), 1) := by decide +kernel
theorem dX8_checkOut_41 : decode cX8_checkOut 41 = .ok (.if_icmp .ne 11, 3) := by decide +kernel
theorem dX8_checkOut_44 : decode cX8_checkOut 44 = .ok (.aload_n 0, 1) := by decide +kernel
theorem dX8_checkOut_45 : decode cX8_checkOut 45 = .ok (.getfield 151, 3) := by decide +kernel
theorem dX8_checkOut_48 : decode cX8_checkOut 48 = .ok (.iconst 3, 1) := by decide +kernel
theorem dX8_checkOut_49 : decode cX8_checkOut 49 = .ok (.if_icmp .ne 9, 3) := by decide +kernel
theorem dX8_checkOut_52 : decode cX8_checkOut 52 = .ok (.aload_n 0, 1) := by decide +kernel
theorem dX8_checkOut_53 : decode cX8_checkOut 53 = .ok (.iconst 3, 1) := by decide +kernel
theorem dX8_checkOut_54 : decode cX8_checkOut 54 = .ok (.invokevirtual 96, 3) := by decide +kernel
theorem dX8_checkOut_57 : decode cX8_checkOut 57 = .ok (.ireturn, 1) := by decide +kernel
theorem dX8_checkOut_58 : decode cX8_checkOut 58 = .ok (.aload_n 0, 1) := by decide +kernel
theorem dX8_checkOut_59 : decode cX8_checkOut 59 = .ok (.getfield 52, 3) := by decide +kernel
theorem dX8_checkOut_62 : decode cX8_checkOut 62 = .ok (.aload_n 0, 1) := by decide +kernel
theorem dX8_checkOut_63 : decode cX8_checkOut 63 = .ok (.getfield 151, 3) := by decide +kernel
theorem dX8_checkOut_66 : decode cX8_checkOut 66 = .ok (.iload_n 1, 1) := by decide +kernel
theorem dX8_checkOut_67 : decode cX8_checkOut 67 = .ok (.iastore, 1) := by decide +kernel
theorem dX8_checkOut_68 : decode cX8_checkOut 68 = .ok (.iconst 0, 1) := by decide +kernel
theorem dX8_checkOut_69 : decode cX8_checkOut 69 = .ok (.istore 6, 2) := by decide +kernel
theorem dX8_checkOut_71 : decode cX8_checkOut 71 = .ok (.iload 6, 2) := by decide +kernel
theorem dX8_checkOut_73 : decode cX8_checkOut 73 = .ok (.sipush 256, 3) := by decide +kernel
theorem dX8_checkOut_76 : decode cX8_checkOut 76 = .ok (.if_icmp .ge 98, 3) := by decide +kernel
theorem dX8_checkOut_79 : decode cX8_checkOut 79 = .ok (.sipush 256, 3) := by decide +kernel
theorem dX8_checkOut_82 : decode cX8_checkOut 82 = .ok (.aload_n 0, 1) := by decide +kernel
theorem dX8_checkOut_83 : decode cX8_checkOut 83 = .ok (.getfield 151, 3) := by decide +kernel
theorem dX8_checkOut_86 : decode cX8_checkOut 86 = .ok (.imul, 1) := by decide +kernel
theorem dX8_checkOut_87 : decode cX8_checkOut 87 = .ok (.iload 6, 2) := by decide +kernel
theorem dX8_checkOut_89 : decode cX8_checkOut 89 = .ok (.iadd, 1) := by decide +kernel
theorem dX8_checkOut_90 : decode cX8_checkOut 90 = .ok (.istore 7, 2) := by decide +kernel
theorem dX8_checkOut_92 : decode cX8_checkOut 92 = .ok (.aload_n 0, 1) := by decide +kernel
theorem dX8_checkOut_93 : decode cX8_checkOut 93 = .ok (.getfield 55, 3) := by decide +kernel
theorem dX8_checkOut_96 : decode cX8_checkOut 96 = .ok (.iload 7, 2) := by decide +kernel
theorem dX8_checkOut_98 : decode cX8_checkOut 98 = .ok (.iload 6, 2) := by decide +kernel
theorem dX8_checkOut_100 : decode cX8_checkOut 100 = .ok (.bipush 16, 2) := by decide +kernel
theorem dX8_checkOut_102 : decode cX8_checkOut 102 = .ok (.irem, 1) := by decide +kernel
theorem dX8_checkOut_103 : decode cX8_checkOut 103 = .ok (.iload_n 2, 1) := by decide +kernel
theorem dX8_checkOut_104 : decode cX8_checkOut 104 = .ok (.iload_n 2, 1) := by decide +kernel
theorem dX8_checkOut_105 : decode cX8_checkOut 105 = .ok (.iload 4, 2) := by decide +kernel
theorem dX8_checkOut_107 : decode cX8_checkOut 107 = .ok (.iadd, 1) := by decide +kernel
theorem dX8_checkOut_108 : decode cX8_checkOut 108 = .ok (.iconst 1, 1) := by decide +kernel
theorem dX8_checkOut_109 : decode cX8_checkOut 109 = .ok (.isub, 1) := by decide +kernel
theorem dX8_checkOut_110 : decode cX8_checkOut 110 = .ok (.invokestatic 88, 3) := by decide +kernel
theorem dX8_checkOut_113 : decode cX8_checkOut 113 = .ok (.ifCond .eq 25, 3) := by decide +kernel
theorem dX8_checkOut_116 : decode cX8_checkOut 116 = .ok (.iload 6, 2) := by decide +kernel
theorem dX8_checkOut_118 : decode cX8_checkOut 118 = .ok (.bipush 16, 2) := by decide +kernel
theorem dX8_checkOut_120 : decode cX8_checkOut 120 = .ok (.idiv, 1) := by decide +kernel
theorem dX8_checkOut_121 : decode cX8_checkOut 121 = .ok (.iload_n 3, 1) := by decide +kernel
theorem dX8_checkOut_122 : decode cX8_checkOut 122 = .ok (.iload_n 3, 1) := by decide +kernel
theorem dX8_checkOut_123 : decode cX8_checkOut 123 = .ok (.iload 5, 2) := by decide +kernel
theorem dX8_checkOut_125 : decode cX8_checkOut 125 = .ok (.iadd, 1) := by decide +kernel
theorem dX8_checkOut_126 : decode cX8_checkOut 126 = .ok (.iconst 1, 1) := by decide +kernel
theorem dX8_checkOut_127 : decode cX8_checkOut 127 = .ok (.isub, 1) := by decide +kernel
theorem dX8_checkOut_128 : decode cX8_checkOut 128 = .ok (.invokestatic 88, 3) := by decide +kernel
theorem dX8_checkOut_131 : decode cX8_checkOut 131 = .ok (.ifCond .eq 7, 3) := by decide +kernel
theorem dX8_checkOut_134 : decode cX8_checkOut 134 = .ok (.iconst 1, 1) := by decide +kernel
theorem dX8_checkOut_135 : decode cX8_checkOut 135 = .ok (.goto 4, 3) := by decide +kernel
theorem dX8_checkOut_138 : decode cX8_checkOut 138 = .ok (.iconst 0, 1) := by decide +kernel
theorem dX8_checkOut_139 : decode cX8_checkOut 139 = .ok (.bastore, 1) := by decide +kernel
theorem dX8_checkOut_140 : decode cX8_checkOut 140 = .ok (.aload_n 0, 1) := by decide +kernel
theorem dX8_checkOut_141 : decode cX8_checkOut 141 = .ok (.getfield 58, 3) := by decide +kernel
theorem dX8_checkOut_144 : decode cX8_checkOut 144 = .ok (.iload 7, 2) := by decide +kernel
theorem dX8_checkOut_146 : decode cX8_checkOut 146 = .ok (.aload_n 0, 1) := by decide +kernel
theorem dX8_checkOut_147 : decode cX8_checkOut 147 = .ok (.iload_n 1, 1) := by decide +kernel
theorem dX8_checkOut_148 : decode cX8_checkOut 148 = .ok (.iload 6, 2) := by decide +kernel
theorem dX8_checkOut_150 : decode cX8_checkOut 150 = .ok (.invokevirtual 92, 3) := by decide +kernel
theorem dX8_checkOut_153 : decode cX8_checkOut 153 = .ok (.iastore, 1) := by decide +kernel
theorem dX8_checkOut_154 : decode cX8_checkOut 154 = .ok (.aload_n 0, 1) := by decide +kernel
theorem dX8_checkOut_155 : decode cX8_checkOut 155 = .ok (.getfield 61, 3) := by decide +kernel
theorem dX8_checkOut_158 : decode cX8_checkOut 158 = .ok (.iload 7, 2) := by decide +kernel
theorem dX8_checkOut_160 : decode cX8_checkOut 160 = .ok (.aload_n 0, 1) := by decide +kernel
theorem dX8_checkOut_161 : decode cX8_checkOut 161 = .ok (.iload_n 1, 1) := by decide +kernel
theorem dX8_checkOut_162 : decode cX8_checkOut 162 = .ok (.iload 6, 2) := by decide +kernel
theorem dX8_checkOut_164 : decode cX8_checkOut 164 = .ok (.invokevirtual 92, 3) := by decide +kernel
theorem dX8_checkOut_167 : decode cX8_checkOut 167 = .ok (.iastore, 1) := by decide +kernel
theorem dX8_checkOut_168 : decode cX8_checkOut 168 = .ok (.iinc 6 1, 3) := by decide +kernel
theorem dX8_checkOut_171 : decode cX8_checkOut 171 = .ok (.goto (-100), 3) := by decide +kernel
theorem dX8_checkOut_174 : decode cX8_checkOut 174 = .ok (.aload_n 0, 1) := by decide +kernel
theorem dX8_checkOut_175 : decode cX8_checkOut 175 = .ok (.dup, 1) := by decide +kernel
theorem dX8_checkOut_176 : decode cX8_checkOut 176 = .ok (.getfield 151, 3) := by decide +kernel
theorem dX8_checkOut_179 : decode cX8_checkOut 179 = .ok (.iconst 1, 1) := by decide +kernel
theorem dX8_checkOut_180 : decode cX8_checkOut 180 = .ok (.iadd, 1) := by decide +kernel
theorem dX8_checkOut_181 : decode cX8_checkOut 181 = .ok (.putfield 151, 3) := by decide +kernel
theorem dX8_checkOut_184 : decode cX8_checkOut 184 = .ok (.aload_n 0, 1) := by decide +kernel
theorem dX8_checkOut_185 : decode cX8_checkOut 185 = .ok (.getfield 151, 3) := by decide +kernel
theorem dX8_checkOut_188 : decode cX8_checkOut 188 = .ok (.iconst 1, 1) := by decide +kernel
theorem dX8_checkOut_189 : decode cX8_checkOut 189 = .ok (.isub, 1) := by decide +kernel
theorem dX8_checkOut_190 : decode cX8_checkOut 190 = .ok (.ireturn, 1) := by decide +kernel
theorem dX8_isVersion_0 : decode cX8_isVersion 0 = .ok (.iload_n 1, 1) := by decide +kernel
theorem dX8_isVersion_1 : decode cX8_isVersion 1 = .ok (.iconst 0, 1) := by decide +kernel
theorem dX8_isVersion_2 : decode cX8_isVersion 2 = .ok (.aload_n 0, 1) := by decide +kernel
theorem dX8_isVersion_3 : decode cX8_isVersion 3 = .ok (.getfield 151, 3) := by decide +kernel
theorem dX8_isVersion_6 : decode cX8_isVersion 6 = .ok (.iconst 1, 1) := by decide +kernel
theorem dX8_isVersion_7 : decode cX8_isVersion 7 = .ok (.isub, 1) := by decide +kernel
theorem dX8_isVersion_8 : decode cX8_isVersion 8 = .ok (.invokestatic 88, 3) := by decide +kernel
theorem dX8_isVersion_11 : decode cX8_isVersion 11 = .ok (.ireturn, 1) := by decide +kernel
theorem dX8_change_0 : decode cX8_change 0 = .ok (.aload_n 0, 1) := by decide +kernel
theorem dX8_change_1 : decode cX8_change 1 = .ok (.iconst 0, 1) := by decide +kernel
theorem dX8_change_2 : decode cX8_change 2 = .ok (.putfield 85, 3) := by decide +kernel
theorem dX8_change_5 : decode cX8_change 5 = .ok (.aload_n 0, 1) := by decide +kernel
theorem dX8_change_6 : decode cX8_change 6 = .ok (.iload_n 1, 1) := by decide +kernel
theorem dX8_change_7 : decode cX8_change 7 = .ok (.invokevirtual 154, 3) := by decide +kernel
theorem dX8_change_10 : decode cX8_change 10 = .ok (.ifCond .ne 9, 3) := by decide +kernel
theorem dX8_change_13 : decode cX8_change 13 = .ok (.aload_n 0, 1) := by decide +kernel
theorem dX8_change_14 : decode cX8_change 14 = .ok (.iconst 1, 1) := by decide +kernel
theorem dX8_change_15 : decode cX8_change 15 = .ok (.invokevirtual 96, 3) := by decide +kernel
theorem dX8_change_18 : decode cX8_change 18 = .ok (.ireturn, 1) := by decide +kernel
theorem dX8_change_19 : decode cX8_change 19 = .ok (.iload_n 2, 1) := by decide +kernel
theorem dX8_change_20 : decode cX8_change 20 = .ok (.iconst 0, 1) := by decide +kernel
theorem dX8_change_21 : decode cX8_change 21 = .ok (.sipush 255, 3) := by decide +kernel
theorem dX8_change_24 : decode cX8_change 24 = .ok (.invokestatic 88, 3) := by decide +kernel
theorem dX8_change_27 : decode cX8_change 27 = .ok (.ifCond .eq 18, 3) := by decide +kernel
theorem dX8_change_30 : decode cX8_change 30 = .ok (.aload_n 0, 1) := by decide +kernel
theorem dX8_change_31 : decode cX8_change 31 = .ok (.getfield 55, 3) := by decide +kernel
theorem dX8_change_34 : decode cX8_change 34 = .ok (.sipush 256, 3) := by decide +kernel
theorem dX8_change_37 : decode cX8_change 37 = .ok (.iload_n 1, 1) := by decide +kernel
theorem dX8_change_38 : decode cX8_change 38 = .ok (.imul, 1) := by decide +kernel
theorem dX8_change_39 : decode cX8_change 39 = .ok (.iload_n 2, 1) := by decide +kernel
theorem dX8_change_40 : decode cX8_change 40 = .ok (.iadd, 1) := by decide +kernel
theorem dX8_change_41 : decode cX8_change 41 = .ok (.baload, 1) := by decide +kernel
theorem dX8_change_42 : decode cX8_change 42 = .ok (.ifCond .ne 9, 3) := by decide +kernel
theorem dX8_change_45 : decode cX8_change 45 = .ok (.aload_n 0, 1) := by decide +kernel
theorem dX8_change_46 : decode cX8_change 46 = .ok (.iconst 2, 1) := by decide +kernel
theorem dX8_change_47 : decode cX8_change 47 = .ok (.invokevirtual 96, 3) := by decide +kernel
theorem dX8_change_50 : decode cX8_change 50 = .ok (.ireturn, 1) := by decide +kernel
theorem dX8_change_51 : decode cX8_change 51 = .ok (.iload_n 3, 1) := by decide +kernel
theorem dX8_change_52 : decode cX8_change 52 = .ok (.iconst (-1), 1) := by decide +kernel
theorem dX8_change_53 : decode cX8_change 53 = .ok (.if_icmp .eq 16, 3) := by decide +kernel
theorem dX8_change_56 : decode cX8_change 56 = .ok (.iload_n 3, 1) := by decide +kernel
theorem dX8_change_57 : decode cX8_change 57 = .ok (.invokestatic 110, 3) := by decide +kernel
theorem dX8_change_60 : decode cX8_change 60 = .ok (.ifCond .ne 9, 3) := by decide +kernel
theorem dX8_change_63 : decode cX8_change 63 = .ok (.aload_n 0, 1) := by decide +kernel
theorem dX8_change_64 : decode cX8_change 64 = .ok (.iconst 3, 1) := by decide +kernel
theorem dX8_change_65 : decode cX8_change 65 = .ok (.invokevirtual 96, 3) := by decide +kernel
theorem dX8_change_68 : decode cX8_change 68 = .ok (.ireturn, 1) := by decide +kernel
theorem dX8_change_69 : decode cX8_change 69 = .ok (.aload_n 0, 1) := by decide +kernel
theorem dX8_change_70 : decode cX8_change 70 = .ok (.getfield 61, 3) := by decide +kernel
theorem dX8_change_73 : decode cX8_change 73 = .ok (.sipush 256, 3) := by decide +kernel
theorem dX8_change_76 : decode cX8_change 76 = .ok (.iload_n 1, 1) := by decide +kernel
theorem dX8_change_77 : decode cX8_change 77 = .ok (.imul, 1) := by decide +kernel
theorem dX8_change_78 : decode cX8_change 78 = .ok (.iload_n 2, 1) := by decide +kernel
theorem dX8_change_79 : decode cX8_change 79 = .ok (.iadd, 1) := by decide +kernel
theorem dX8_change_80 : decode cX8_change 80 = .ok (.iaload, 1) := by decide +kernel
theorem dX8_change_81 : decode cX8_change 81 = .ok (.istore 4, 2) := by decide +kernel
theorem dX8_change_83 : decode cX8_change 83 = .ok (.aload_n 0, 1) := by decide +kernel
theorem dX8_change_84 : decode cX8_change 84 = .ok (.getfield 61, 3) := by decide +kernel
theorem dX8_change_87 : decode cX8_change 87 = .ok (.sipush 256, 3) := by decide +kernel
theorem dX8_change_90 : decode cX8_change 90 = .ok (.iload_n 1, 1) := by decide +kernel
theorem dX8_change_91 : decode cX8_change 91 = .ok (.imul, 1) := by decide +kernel
theorem dX8_change_92 : decode cX8_change 92 = .ok (.iload_n 2, 1) := by decide +kernel
theorem dX8_change_93 : decode cX8_change 93 = .ok (.iadd, 1) := by decide +kernel
theorem dX8_change_94 : decode cX8_change 94 = .ok (.iload_n 3, 1) := by decide +kernel
theorem dX8_change_95 : decode cX8_change 95 = .ok (.iastore, 1) := by decide +kernel
theorem dX8_change_96 : decode cX8_change 96 = .ok (.iload 4, 2) := by decide +kernel
theorem dX8_change_98 : decode cX8_change 98 = .ok (.ireturn, 1) := by decide +kernel
theorem dX8_isConflict_0 : decode cX8_isConflict 0 = .ok (.sipush 256, 3) := by decide +kernel
theorem dX8_isConflict_3 : decode cX8_isConflict 3 = .ok (.iload_n 1, 1) := by decide +kernel
theorem dX8_isConflict_4 : decode cX8_isConflict 4 = .ok (.imul, 1) := by decide +kernel
theorem dX8_isConflict_5 : decode cX8_isConflict 5 = .ok (.iload_n 2, 1) := by decide +kernel
theorem dX8_isConflict_6 : decode cX8_isConflict 6 = .ok (.iadd, 1) := by decide +kernel
theorem dX8_isConflict_7 : decode cX8_isConflict 7 = .ok (.istore_n 3, 1) := by decide +kernel
theorem dX8_isConflict_8 : decode cX8_isConflict 8 = .ok (.aload_n 0, 1) := by decide +kernel
theorem dX8_isConflict_9 : decode cX8_isConflict 9 = .ok (.aload_n 0, 1) := by decide +kernel
theorem dX8_isConflict_10 : decode cX8_isConflict 10 = .ok (.getfield 52, 3) := by decide +kernel
theorem dX8_isConflict_13 : decode cX8_isConflict 13 = .ok (.iload_n 1, 1) := by decide +kernel
theorem dX8_isConflict_14 : decode cX8_isConflict 14 = .ok (.iaload, 1) := by decide +kernel
theorem dX8_isConflict_15 : decode cX8_isConflict 15 = .ok (.iload_n 2, 1) := by decide +kernel
theorem dX8_isConflict_16 : decode cX8_isConflict 16 = .ok (.invokevirtual 92, 3) := by decide +kernel
theorem dX8_isConflict_19 : decode cX8_isConflict 19 = .ok (.istore 4, 2) := by decide +kernel
theorem dX8_isConflict_21 : decode cX8_isConflict 21 = .ok (.aload_n 0, 1) := by decide +kernel
theorem dX8_isConflict_22 : decode cX8_isConflict 22 = .ok (.getfield 55, 3) := by decide +kernel
theorem dX8_isConflict_25 : decode cX8_isConflict 25 = .ok (.iload_n 3, 1) := by decide +kernel
theorem dX8_isConflict_26 : decode cX8_isConflict 26 = .ok (.baload, 1) := by decide +kernel
theorem dX8_isConflict_27 : decode cX8_isConflict 27 = .ok (.ifCond .eq 44, 3) := by decide +kernel
theorem dX8_isConflict_30 : decode cX8_isConflict 30 = .ok (.aload_n 0, 1) := by decide +kernel
theorem dX8_isConflict_31 : decode cX8_isConflict 31 = .ok (.getfield 61, 3) := by decide +kernel
theorem dX8_isConflict_34 : decode cX8_isConflict 34 = .ok (.iload_n 3, 1) := by decide +kernel
theorem dX8_isConflict_35 : decode cX8_isConflict 35 = .ok (.iaload, 1) := by decide +kernel
theorem dX8_isConflict_36 : decode cX8_isConflict 36 = .ok (.aload_n 0, 1) := by decide +kernel
theorem dX8_isConflict_37 : decode cX8_isConflict 37 = .ok (.getfield 58, 3) := by decide +kernel
theorem dX8_isConflict_40 : decode cX8_isConflict 40 = .ok (.iload_n 3, 1) := by decide +kernel
theorem dX8_isConflict_41 : decode cX8_isConflict 41 = .ok (.iaload, 1) := by decide +kernel
theorem dX8_isConflict_42 : decode cX8_isConflict 42 = .ok (.if_icmp .eq 29, 3) := by decide +kernel
theorem dX8_isConflict_45 : decode cX8_isConflict 45 = .ok (.iload 4, 2) := by decide +kernel
theorem dX8_isConflict_47 : decode cX8_isConflict 47 = .ok (.aload_n 0, 1) := by decide +kernel
theorem dX8_isConflict_48 : decode cX8_isConflict 48 = .ok (.getfield 58, 3) := by decide +kernel
theorem dX8_isConflict_51 : decode cX8_isConflict 51 = .ok (.iload_n 3, 1) := by decide +kernel
theorem dX8_isConflict_52 : decode cX8_isConflict 52 = .ok (.iaload, 1) := by decide +kernel
theorem dX8_isConflict_53 : decode cX8_isConflict 53 = .ok (.if_icmp .eq 18, 3) := by decide +kernel
theorem dX8_isConflict_56 : decode cX8_isConflict 56 = .ok (.aload_n 0, 1) := by decide +kernel
theorem dX8_isConflict_57 : decode cX8_isConflict 57 = .ok (.getfield 61, 3) := by decide +kernel
theorem dX8_isConflict_60 : decode cX8_isConflict 60 = .ok (.iload_n 3, 1) := by decide +kernel
theorem dX8_isConflict_61 : decode cX8_isConflict 61 = .ok (.iaload, 1) := by decide +kernel
theorem dX8_isConflict_62 : decode cX8_isConflict 62 = .ok (.iload 4, 2) := by decide +kernel
theorem dX8_isConflict_64 : decode cX8_isConflict 64 = .ok (.if_icmp .eq 7, 3) := by decide +kernel
theorem dX8_isConflict_67 : decode cX8_isConflict 67 = .ok (.iconst 1, 1) := by decide +kernel
theorem dX8_isConflict_68 : decode cX8_isConflict 68 = .ok (.goto 4, 3) := by decide +kernel
theorem dX8_isConflict_71 : decode cX8_isConflict 71 = .ok (.iconst 0, 1) := by decide +kernel
theorem dX8_isConflict_72 : decode cX8_isConflict 72 = .ok (.ireturn, 1) := by decide +kernel
theorem dX8_conflicts_0 : decode cX8_conflicts 0 = .ok (.aload_n 0, 1) := by decide +kernel
theorem dX8_conflicts_1 : decode cX8_conflicts 1 = .ok (.iconst 0, 1) := by decide +kernel
theorem dX8_conflicts_2 : decode cX8_conflicts 2 = .ok (.putfield 85, 3) := by decide +kernel
theorem dX8_conflicts_5 : decode cX8_conflicts 5 = .ok (.aload_n 0, 1) := by decide +kernel
theorem dX8_conflicts_6 : decode cX8_conflicts 6 = .ok (.iload_n 1, 1) := by decide +kernel
theorem dX8_conflicts_7 : decode cX8_conflicts 7 = .ok (.invokevirtual 154, 3) := by decide +kernel
theorem dX8_conflicts_10 : decode cX8_conflicts 10 = .ok (.ifCond .ne 9, 3) := by decide +kernel
theorem dX8_conflicts_13 : decode cX8_conflicts 13 = .ok (.aload_n 0, 1) := by decide +kernel
theorem dX8_conflicts_14 : decode cX8_conflicts 14 = .ok (.iconst 1, 1) := by decide +kernel
theorem dX8_conflicts_15 : decode cX8_conflicts 15 = .ok (.invokevirtual 96, 3) := by decide +kernel
theorem dX8_conflicts_18 : decode cX8_conflicts 18 = .ok (.ireturn, 1) := by decide +kernel
theorem dX8_conflicts_19 : decode cX8_conflicts 19 = .ok (.iconst 0, 1) := by decide +kernel
theorem dX8_conflicts_20 : decode cX8_conflicts 20 = .ok (.istore_n 2, 1) := by decide +kernel
theorem dX8_conflicts_21 : decode cX8_conflicts 21 = .ok (.iconst 0, 1) := by decide +kernel
theorem dX8_conflicts_22 : decode cX8_conflicts 22 = .ok (.istore_n 3, 1) := by decide +kernel
theorem dX8_conflicts_23 : decode cX8_conflicts 23 = .ok (.iload_n 3, 1) := by decide +kernel
theorem dX8_conflicts_24 : decode cX8_conflicts 24 = .ok (.sipush 256, 3) := by decide +kernel
theorem dX8_conflicts_27 : decode cX8_conflicts 27 = .ok (.if_icmp .ge 26, 3) := by decide +kernel
theorem dX8_conflicts_30 : decode cX8_conflicts 30 = .ok (.iload_n 2, 1) := by decide +kernel
theorem dX8_conflicts_31 : decode cX8_conflicts 31 = .ok (.aload_n 0, 1) := by decide +kernel
theorem dX8_conflicts_32 : decode cX8_conflicts 32 = .ok (.iload_n 1, 1) := by decide +kernel
theorem dX8_conflicts_33 : decode cX8_conflicts 33 = .ok (.iload_n 3, 1) := by decide +kernel
theorem dX8_conflicts_34 : decode cX8_conflicts 34 = .ok (.invokevirtual 157, 3) := by decide +kernel
theorem dX8_conflicts_37 : decode cX8_conflicts 37 = .ok (.ifCond .eq 7, 3) := by decide +kernel
theorem dX8_conflicts_40 : decode cX8_conflicts 40 = .ok (.iconst 1, 1) := by decide +kernel
theorem dX8_conflicts_41 : decode cX8_conflicts 41 = .ok (.goto 4, 3) := by decide +kernel
theorem dX8_conflicts_44 : decode cX8_conflicts 44 = .ok (.iconst 0, 1) := by decide +kernel
theorem dX8_conflicts_45 : decode cX8_conflicts 45 = .ok (.iadd, 1) := by decide +kernel
theorem dX8_conflicts_46 : decode cX8_conflicts 46 = .ok (.istore_n 2, 1) := by decide +kernel
theorem dX8_conflicts_47 : decode cX8_conflicts 47 = .ok (.iinc 3 1, 3) := by decide +kernel
theorem dX8_conflicts_50 : decode cX8_conflicts 50 = .ok (.goto (-27), 3) := by decide +kernel
theorem dX8_conflicts_53 : decode cX8_conflicts 53 = .ok (.iload_n 2, 1) := by decide +kernel
theorem dX8_conflicts_54 : decode cX8_conflicts 54 = .ok (.ireturn, 1) := by decide +kernel
theorem dX8_parts_0 : decode cX8_parts 0 = .ok (.iconst 0, 1) := by decide +kernel
theorem dX8_parts_1 : decode cX8_parts 1 = .ok (.istore_n 1, 1) := by decide +kernel
theorem dX8_parts_2 : decode cX8_parts 2 = .ok (.iconst 0, 1) := by decide +kernel
theorem dX8_parts_3 : decode cX8_parts 3 = .ok (.istore_n 2, 1) := by decide +kernel
theorem dX8_parts_4 : decode cX8_parts 4 = .ok (.iload_n 2, 1) := by decide +kernel
theorem dX8_parts_5 : decode cX8_parts 5 = .ok (.sipush 256, 3) := by decide +kernel
theorem dX8_parts_8 : decode cX8_parts 8 = .ok (.if_icmp .ge 16, 3) := by decide +kernel
theorem dX8_parts_11 : decode cX8_parts 11 = .ok (.aload_n 0, 1) := by decide +kernel
theorem dX8_parts_12 : decode cX8_parts 12 = .ok (.getfield 64, 3) := by decide +kernel
theorem dX8_parts_15 : decode cX8_parts 15 = .ok (.iload_n 2, 1) := by decide +kernel
theorem dX8_parts_16 : decode cX8_parts 16 = .ok (.iconst (-1), 1) := by decide +kernel
theorem dX8_parts_17 : decode cX8_parts 17 = .ok (.iastore, 1) := by decide +kernel
theorem dX8_parts_18 : decode cX8_parts 18 = .ok (.iinc 2 1, 3) := by decide +kernel
theorem dX8_parts_21 : decode cX8_parts 21 = .ok (.goto (-17), 3) := by decide +kernel
theorem dX8_parts_24 : decode cX8_parts 24 = .ok (.iconst 0, 1) := by decide +kernel
theorem dX8_parts_25 : decode cX8_parts 25 = .ok (.istore_n 2, 1) := by decide +kernel
theorem dX8_parts_26 : decode cX8_parts 26 = .ok (.iload_n 2, 1) := by decide +kernel
theorem dX8_parts_27 : decode cX8_parts 27 = .ok (.sipush 256, 3) := by decide +kernel
theorem dX8_parts_30 : decode cX8_parts 30 = .ok (.if_icmp .ge 145, 3) := by decide +kernel
theorem dX8_parts_33 : decode cX8_parts 33 = .ok (.aload_n 0, 1) := by decide +kernel
theorem dX8_parts_34 : decode cX8_parts 34 = .ok (.getfield 67, 3) := by decide +kernel
theorem dX8_parts_37 : decode cX8_parts 37 = .ok (.iload_n 2, 1) := by decide +kernel
theorem dX8_parts_38 : decode cX8_parts 38 = .ok (.iaload, 1) := by decide +kernel
theorem dX8_parts_39 : decode cX8_parts 39 = .ok (.iconst (-1), 1) := by decide +kernel
theorem dX8_parts_40 : decode cX8_parts 40 = .ok (.if_icmp .eq 129, 3) := by decide +kernel
theorem dX8_parts_43 : decode cX8_parts 43 = .ok (.aload_n 0, 1) := by decide +kernel
theorem dX8_parts_44 : decode cX8_parts 44 = .ok (.getfield 64, 3) := by decide +kernel
theorem dX8_parts_47 : decode cX8_parts 47 = .ok (.iload_n 2, 1) := by decide +kernel
theorem dX8_parts_48 : decode cX8_parts 48 = .ok (.iaload, 1) := by decide +kernel
theorem dX8_parts_49 : decode cX8_parts 49 = .ok (.iconst (-1), 1) := by decide +kernel
theorem dX8_parts_50 : decode cX8_parts 50 = .ok (.if_icmp .ne 119, 3) := by decide +kernel
theorem dX8_parts_53 : decode cX8_parts 53 = .ok (.aload_n 0, 1) := by decide +kernel
theorem dX8_parts_54 : decode cX8_parts 54 = .ok (.getfield 64, 3) := by decide +kernel
theorem dX8_parts_57 : decode cX8_parts 57 = .ok (.iload_n 2, 1) := by decide +kernel
theorem dX8_parts_58 : decode cX8_parts 58 = .ok (.iload_n 1, 1) := by decide +kernel
theorem dX8_parts_59 : decode cX8_parts 59 = .ok (.iastore, 1) := by decide +kernel
theorem dX8_parts_60 : decode cX8_parts 60 = .ok (.iconst 1, 1) := by decide +kernel
theorem dX8_parts_61 : decode cX8_parts 61 = .ok (.istore_n 3, 1) := by decide +kernel
theorem dX8_parts_62 : decode cX8_parts 62 = .ok (.iload_n 3, 1) := by decide +kernel
theorem dX8_parts_63 : decode cX8_parts 63 = .ok (.ifCond .eq 103, 3) := by decide +kernel
theorem dX8_parts_66 : decode cX8_parts 66 = .ok (.iconst 0, 1) := by decide +kernel
theorem dX8_parts_67 : decode cX8_parts 67 = .ok (.istore_n 3, 1) := by decide +kernel
theorem dX8_parts_68 : decode cX8_parts 68 = .ok (.iconst 0, 1) := by decide +kernel
theorem dX8_parts_69 : decode cX8_parts 69 = .ok (.istore 4, 2) := by decide +kernel
theorem dX8_parts_71 : decode cX8_parts 71 = .ok (.iload 4, 2) := by decide +kernel
theorem dX8_parts_73 : decode cX8_parts 73 = .ok (.sipush 256, 3) := by decide +kernel
theorem dX8_parts_76 : decode cX8_parts 76 = .ok (.if_icmp .ge 87, 3) := by decide +kernel
theorem dX8_parts_79 : decode cX8_parts 79 = .ok (.iconst 0, 1) := by decide +kernel
theorem dX8_parts_80 : decode cX8_parts 80 = .ok (.istore 5, 2) := by decide +kernel
theorem dX8_parts_82 : decode cX8_parts 82 = .ok (.iload 5, 2) := by decide +kernel
theorem dX8_parts_84 : decode cX8_parts 84 = .ok (.iconst 4, 1) := by decide +kernel
theorem dX8_parts_85 : decode cX8_parts 85 = .ok (.if_icmp .ge 72, 3) := by decide +kernel
theorem dX8_parts_88 : decode cX8_parts 88 = .ok (.aload_n 0, 1) := by decide +kernel
theorem dX8_parts_89 : decode cX8_parts 89 = .ok (.getfield 64, 3) := by decide +kernel
theorem dX8_parts_92 : decode cX8_parts 92 = .ok (.iload 4, 2) := by decide +kernel
theorem dX8_parts_94 : decode cX8_parts 94 = .ok (.iaload, 1) := by decide +kernel
theorem dX8_parts_95 : decode cX8_parts 95 = .ok (.iload_n 1, 1) := by decide +kernel
theorem dX8_parts_96 : decode cX8_parts 96 = .ok (.if_icmp .ne 61, 3) := by decide +kernel
theorem dX8_parts_99 : decode cX8_parts 99 = .ok (.iload 4, 2) := by decide +kernel
theorem dX8_parts_101 : decode cX8_parts 101 = .ok (.iload 5, 2) := by decide +kernel
theorem dX8_parts_103 : decode cX8_parts 103 = .ok (.invokestatic 129, 3) := by decide +kernel
theorem dX8_parts_106 : decode cX8_parts 106 = .ok (.istore 6, 2) := by decide +kernel
theorem dX8_parts_108 : decode cX8_parts 108 = .ok (.iload 6, 2) := by decide +kernel
theorem dX8_parts_110 : decode cX8_parts 110 = .ok (.iconst (-1), 1) := by decide +kernel
theorem dX8_parts_111 : decode cX8_parts 111 = .ok (.if_icmp .eq 40, 3) := by decide +kernel
theorem dX8_parts_114 : decode cX8_parts 114 = .ok (.aload_n 0, 1) := by decide +kernel
theorem dX8_parts_115 : decode cX8_parts 115 = .ok (.getfield 67, 3) := by decide +kernel
theorem dX8_parts_118 : decode cX8_parts 118 = .ok (.iload 6, 2) := by decide +kernel
theorem dX8_parts_120 : decode cX8_parts 120 = .ok (.iaload, 1) := by decide +kernel
theorem dX8_parts_121 : decode cX8_parts 121 = .ok (.aload_n 0, 1) := by decide +kernel
theorem dX8_parts_122 : decode cX8_parts 122 = .ok (.getfield 67, 3) := by decide +kernel
theorem dX8_parts_125 : decode cX8_parts 125 = .ok (.iload_n 2, 1) := by decide +kernel
theorem dX8_parts_126 : decode cX8_parts 126 = .ok (.iaload, 1) := by decide +kernel
theorem dX8_parts_127 : decode cX8_parts 127 = .ok (.if_icmp .ne 24, 3) := by decide +kernel
theorem dX8_parts_130 : decode cX8_parts 130 = .ok (.aload_n 0, 1) := by decide +kernel
theorem dX8_parts_131 : decode cX8_parts 131 = .ok (.getfield 64, 3) := by decide +kernel
theorem dX8_parts_134 : decode cX8_parts 134 = .ok (.iload 6, 2) := by decide +kernel
theorem dX8_parts_136 : decode cX8_parts 136 = .ok (.iaload, 1) := by decide +kernel
theorem dX8_parts_137 : decode cX8_parts 137 = .ok (.iconst (-1), 1) := by decide +kernel
theorem dX8_parts_138 : decode cX8_parts 138 = .ok (.if_icmp .ne 13, 3) := by decide +kernel
theorem dX8_parts_141 : decode cX8_parts 141 = .ok (.aload_n 0, 1) := by decide +kernel
theorem dX8_parts_142 : decode cX8_parts 142 = .ok (.getfield 64, 3) := by decide +kernel
theorem dX8_parts_145 : decode cX8_parts 145 = .ok (.iload 6, 2) := by decide +kernel
theorem dX8_parts_147 : decode cX8_parts 147 = .ok (.iload_n 1, 1) := by decide +kernel
theorem dX8_parts_148 : decode cX8_parts 148 = .ok (.iastore, 1) := by decide +kernel
theorem dX8_parts_149 : decode cX8_parts 149 = .ok (.iconst 1, 1) := by decide +kernel
theorem dX8_parts_150 : decode cX8_parts 150 = .ok (.istore_n 3, 1) := by decide +kernel
theorem dX8_parts_151 : decode cX8_parts 151 = .ok (.iinc 5 1, 3) := by decide +kernel
theorem dX8_parts_154 : decode cX8_parts 154 = .ok (.goto (-72), 3) := by decide +kernel
theorem dX8_parts_157 : decode cX8_parts 157 = .ok (.iinc 4 1, 3) := by decide +kernel
theorem dX8_parts_160 : decode cX8_parts 160 = .ok (.goto (-89), 3) := by decide +kernel
theorem dX8_parts_163 : decode cX8_parts 163 = .ok (.goto (-101), 3) := by decide +kernel
theorem dX8_parts_166 : decode cX8_parts 166 = .ok (.iinc 1 1, 3) := by decide +kernel
theorem dX8_parts_169 : decode cX8_parts 169 = .ok (.iinc 2 1, 3) := by decide +kernel
theorem dX8_parts_172 : decode cX8_parts 172 = .ok (.goto (-146), 3) := by decide +kernel
theorem dX8_parts_175 : decode cX8_parts 175 = .ok (.iload_n 1, 1) := by decide +kernel
theorem dX8_parts_176 : decode cX8_parts 176 = .ok (.ireturn, 1) := by decide +kernel
theorem dX8_clashes_0 : decode cX8_clashes 0 = .ok (.aload_n 0, 1) := by decide +kernel
theorem dX8_clashes_1 : decode cX8_clashes 1 = .ok (.iconst 0, 1) := by decide +kernel
theorem dX8_clashes_2 : decode cX8_clashes 2 = .ok (.putfield 85, 3) := by decide +kernel
theorem dX8_clashes_5 : decode cX8_clashes 5 = .ok (.aload_n 0, 1) := by decide +kernel
theorem dX8_clashes_6 : decode cX8_clashes 6 = .ok (.iload_n 1, 1) := by decide +kernel
theorem dX8_clashes_7 : decode cX8_clashes 7 = .ok (.invokevirtual 154, 3) := by decide +kernel
theorem dX8_clashes_10 : decode cX8_clashes 10 = .ok (.ifCond .ne 9, 3) := by decide +kernel
theorem dX8_clashes_13 : decode cX8_clashes 13 = .ok (.aload_n 0, 1) := by decide +kernel
theorem dX8_clashes_14 : decode cX8_clashes 14 = .ok (.iconst 1, 1) := by decide +kernel
theorem dX8_clashes_15 : decode cX8_clashes 15 = .ok (.invokevirtual 96, 3) := by decide +kernel
theorem dX8_clashes_18 : decode cX8_clashes 18 = .ok (.ireturn, 1) := by decide +kernel
theorem dX8_clashes_19 : decode cX8_clashes 19 = .ok (.iconst 0, 1) := by decide +kernel
theorem dX8_clashes_20 : decode cX8_clashes 20 = .ok (.istore_n 2, 1) := by decide +kernel
theorem dX8_clashes_21 : decode cX8_clashes 21 = .ok (.iload_n 2, 1) := by decide +kernel
theorem dX8_clashes_22 : decode cX8_clashes 22 = .ok (.sipush 256, 3) := by decide +kernel
theorem dX8_clashes_25 : decode cX8_clashes 25 = .ok (.if_icmp .ge 29, 3) := by decide +kernel
theorem dX8_clashes_28 : decode cX8_clashes 28 = .ok (.aload_n 0, 1) := by decide +kernel
theorem dX8_clashes_29 : decode cX8_clashes 29 = .ok (.getfield 67, 3) := by decide +kernel
theorem dX8_clashes_32 : decode cX8_clashes 32 = .ok (.iload_n 2, 1) := by decide +kernel
theorem dX8_clashes_33 : decode cX8_clashes 33 = .ok (.aload_n 0, 1) := by decide +kernel
theorem dX8_clashes_34 : decode cX8_clashes 34 = .ok (.iload_n 1, 1) := by decide +kernel
theorem dX8_clashes_35 : decode cX8_clashes 35 = .ok (.iload_n 2, 1) := by decide +kernel
theorem dX8_clashes_36 : decode cX8_clashes 36 = .ok (.invokevirtual 157, 3) := by decide +kernel
theorem dX8_clashes_39 : decode cX8_clashes 39 = .ok (.ifCond .eq 7, 3) := by decide +kernel
theorem dX8_clashes_42 : decode cX8_clashes 42 = .ok (.iconst 1, 1) := by decide +kernel
theorem dX8_clashes_43 : decode cX8_clashes 43 = .ok (.goto 4, 3) := by decide +kernel
theorem dX8_clashes_46 : decode cX8_clashes 46 = .ok (.iconst (-1), 1) := by decide +kernel
theorem dX8_clashes_47 : decode cX8_clashes 47 = .ok (.iastore, 1) := by decide +kernel
theorem dX8_clashes_48 : decode cX8_clashes 48 = .ok (.iinc 2 1, 3) := by decide +kernel
theorem dX8_clashes_51 : decode cX8_clashes 51 = .ok (.goto (-30), 3) := by decide +kernel
theorem dX8_clashes_54 : decode cX8_clashes 54 = .ok (.aload_n 0, 1) := by decide +kernel
theorem dX8_clashes_55 : decode cX8_clashes 55 = .ok (.invokevirtual 160, 3) := by decide +kernel
theorem dX8_clashes_58 : decode cX8_clashes 58 = .ok (.ireturn, 1) := by decide +kernel
theorem dX8_reconcile_0 : decode cX8_reconcile 0 = .ok (.aload_n 0, 1) := by decide +kernel
theorem dX8_reconcile_1 : decode cX8_reconcile 1 = .ok (.iconst 0, 1) := by decide +kernel
theorem dX8_reconcile_2 : decode cX8_reconcile 2 = .ok (.putfield 85, 3) := by decide +kernel
theorem dX8_reconcile_5 : decode cX8_reconcile 5 = .ok (.aload_n 0, 1) := by decide +kernel
theorem dX8_reconcile_6 : decode cX8_reconcile 6 = .ok (.iload_n 1, 1) := by decide +kernel
theorem dX8_reconcile_7 : decode cX8_reconcile 7 = .ok (.invokevirtual 154, 3) := by decide +kernel
theorem dX8_reconcile_10 : decode cX8_reconcile 10 = .ok (.ifCond .ne 9, 3) := by decide +kernel
theorem dX8_reconcile_13 : decode cX8_reconcile 13 = .ok (.aload_n 0, 1) := by decide +kernel
theorem dX8_reconcile_14 : decode cX8_reconcile 14 = .ok (.iconst 1, 1) := by decide +kernel
theorem dX8_reconcile_15 : decode cX8_reconcile 15 = .ok (.invokevirtual 96, 3) := by decide +kernel
theorem dX8_reconcile_18 : decode cX8_reconcile 18 = .ok (.ireturn, 1) := by decide +kernel
theorem dX8_reconcile_19 : decode cX8_reconcile 19 = .ok (.iload_n 2, 1) := by decide +kernel
theorem dX8_reconcile_20 : decode cX8_reconcile 20 = .ok (.bipush 118, 2) := by decide +kernel
theorem dX8_reconcile_22 : decode cX8_reconcile 22 = .ok (.if_icmp .eq 15, 3) := by decide +kernel
theorem dX8_reconcile_25 : decode cX8_reconcile 25 = .ok (.iload_n 2, 1) := by decide +kernel
theorem dX8_reconcile_26 : decode cX8_reconcile 26 = .ok (.bipush 108, 2) := by decide +kernel
theorem dX8_reconcile_28 : decode cX8_reconcile 28 = .ok (.if_icmp .eq 9, 3) := by decide +kernel
theorem dX8_reconcile_31 : decode cX8_reconcile 31 = .ok (.aload_n 0, 1) := by decide +kernel
theorem dX8_reconcile_32 : decode cX8_reconcile 32 = .ok (.iconst 2, 1) := by decide +kernel
theorem dX8_reconcile_33 : decode cX8_reconcile 33 = .ok (.invokevirtual 96, 3) := by decide +kernel
theorem dX8_reconcile_36 : decode cX8_reconcile 36 = .ok (.ireturn, 1) := by decide +kernel
theorem dX8_reconcile_37 : decode cX8_reconcile 37 = .ok (.aload_n 0, 1) := by decide +kernel
theorem dX8_reconcile_38 : decode cX8_reconcile 38 = .ok (.getfield 9, 3) := by decide +kernel
theorem dX8_reconcile_41 : decode cX8_reconcile 41 = .ok (.iconst (-1), 1) := by decide +kernel
theorem dX8_reconcile_42 : decode cX8_reconcile 42 = .ok (.if_icmp .ne 9, 3) := by decide +kernel
theorem dX8_reconcile_45 : decode cX8_reconcile 45 = .ok (.aload_n 0, 1) := by decide +kernel
theorem dX8_reconcile_46 : decode cX8_reconcile 46 = .ok (.iconst 3, 1) := by decide +kernel
theorem dX8_reconcile_47 : decode cX8_reconcile 47 = .ok (.invokevirtual 96, 3) := by decide +kernel
theorem dX8_reconcile_50 : decode cX8_reconcile 50 = .ok (.ireturn, 1) := by decide +kernel
theorem dX8_reconcile_51 : decode cX8_reconcile 51 = .ok (.aload_n 0, 1) := by decide +kernel
theorem dX8_reconcile_52 : decode cX8_reconcile 52 = .ok (.getfield 52, 3) := by decide +kernel
theorem dX8_reconcile_55 : decode cX8_reconcile 55 = .ok (.iload_n 1, 1) := by decide +kernel
theorem dX8_reconcile_56 : decode cX8_reconcile 56 = .ok (.iaload, 1) := by decide +kernel
theorem dX8_reconcile_57 : decode cX8_reconcile 57 = .ok (.istore_n 3, 1) := by decide +kernel
theorem dX8_reconcile_58 : decode cX8_reconcile 58 = .ok (.iconst 0, 1) := by decide +kernel
theorem dX8_reconcile_59 : decode cX8_reconcile 59 = .ok (.istore 4, 2) := by decide +kernel
theorem dX8_reconcile_61 : decode cX8_reconcile 61 = .ok (.iconst 0, 1) := by decide +kernel
theorem dX8_reconcile_62 : decode cX8_reconcile 62 = .ok (.istore 5, 2) := by decide +kernel
theorem dX8_reconcile_64 : decode cX8_reconcile 64 = .ok (.iload 5, 2) := by decide +kernel
theorem dX8_reconcile_66 : decode cX8_reconcile 66 = .ok (.sipush 256, 3) := by decide +kernel
theorem dX8_reconcile_69 : decode cX8_reconcile 69 = .ok (.if_icmp .ge 144, 3) := by decide +kernel
theorem dX8_reconcile_72 : decode cX8_reconcile 72 = .ok (.sipush 256, 3) := by decide +kernel
theorem dX8_reconcile_75 : decode cX8_reconcile 75 = .ok (.iload_n 1, 1) := by decide +kernel
theorem dX8_reconcile_76 : decode cX8_reconcile 76 = .ok (.imul, 1) := by decide +kernel
theorem dX8_reconcile_77 : decode cX8_reconcile 77 = .ok (.iload 5, 2) := by decide +kernel
theorem dX8_reconcile_79 : decode cX8_reconcile 79 = .ok (.iadd, 1) := by decide +kernel
theorem dX8_reconcile_80 : decode cX8_reconcile 80 = .ok (.istore 6, 2) := by decide +kernel
theorem dX8_reconcile_82 : decode cX8_reconcile 82 = .ok (.aload_n 0, 1) := by decide +kernel
theorem dX8_reconcile_83 : decode cX8_reconcile 83 = .ok (.getfield 55, 3) := by decide +kernel
theorem dX8_reconcile_86 : decode cX8_reconcile 86 = .ok (.iload 6, 2) := by decide +kernel
theorem dX8_reconcile_88 : decode cX8_reconcile 88 = .ok (.baload, 1) := by decide +kernel
theorem dX8_reconcile_89 : decode cX8_reconcile 89 = .ok (.ifCond .eq 41, 3) := by decide +kernel
theorem dX8_reconcile_92 : decode cX8_reconcile 92 = .ok (.aload_n 0, 1) := by decide +kernel
theorem dX8_reconcile_93 : decode cX8_reconcile 93 = .ok (.getfield 61, 3) := by decide +kernel
theorem dX8_reconcile_96 : decode cX8_reconcile 96 = .ok (.iload 6, 2) := by decide +kernel
theorem dX8_reconcile_98 : decode cX8_reconcile 98 = .ok (.iaload, 1) := by decide +kernel
theorem dX8_reconcile_99 : decode cX8_reconcile 99 = .ok (.aload_n 0, 1) := by decide +kernel
theorem dX8_reconcile_100 : decode cX8_reconcile 100 = .ok (.getfield 58, 3) := by decide +kernel
theorem dX8_reconcile_103 : decode cX8_reconcile 103 = .ok (.iload 6, 2) := by decide +kernel
theorem dX8_reconcile_105 : decode cX8_reconcile 105 = .ok (.iaload, 1) := by decide +kernel
theorem dX8_reconcile_106 : decode cX8_reconcile 106 = .ok (.if_icmp .eq 24, 3) := by decide +kernel
theorem dX8_reconcile_109 : decode cX8_reconcile 109 = .ok (.aload_n 0, 1) := by decide +kernel
theorem dX8_reconcile_110 : decode cX8_reconcile 110 = .ok (.iload_n 3, 1) := by decide +kernel
theorem dX8_reconcile_111 : decode cX8_reconcile 111 = .ok (.iload 5, 2) := by decide +kernel
theorem dX8_reconcile_113 : decode cX8_reconcile 113 = .ok (.invokevirtual 92, 3) := by decide +kernel
theorem dX8_reconcile_116 : decode cX8_reconcile 116 = .ok (.aload_n 0, 1) := by decide +kernel
theorem dX8_reconcile_117 : decode cX8_reconcile 117 = .ok (.getfield 58, 3) := by decide +kernel
theorem dX8_reconcile_120 : decode cX8_reconcile 120 = .ok (.iload 6, 2) := by decide +kernel
theorem dX8_reconcile_122 : decode cX8_reconcile 122 = .ok (.iaload, 1) := by decide +kernel
theorem dX8_reconcile_123 : decode cX8_reconcile 123 = .ok (.if_icmp .ne 7, 3) := by decide +kernel
theorem dX8_reconcile_126 : decode cX8_reconcile 126 = .ok (.iconst 1, 1) := by decide +kernel
theorem dX8_reconcile_127 : decode cX8_reconcile 127 = .ok (.goto 4, 3) := by decide +kernel
theorem dX8_reconcile_130 : decode cX8_reconcile 130 = .ok (.iconst 0, 1) := by decide +kernel
theorem dX8_reconcile_131 : decode cX8_reconcile 131 = .ok (.istore 7, 2) := by decide +kernel
theorem dX8_reconcile_133 : decode cX8_reconcile 133 = .ok (.iload 7, 2) := by decide +kernel
theorem dX8_reconcile_135 : decode cX8_reconcile 135 = .ok (.ifCond .ne 19, 3) := by decide +kernel
theorem dX8_reconcile_138 : decode cX8_reconcile 138 = .ok (.iload_n 2, 1) := by decide +kernel
theorem dX8_reconcile_139 : decode cX8_reconcile 139 = .ok (.bipush 118, 2) := by decide +kernel
theorem dX8_reconcile_141 : decode cX8_reconcile 141 = .ok (.if_icmp .ne 66, 3) := by decide +kernel
theorem dX8_reconcile_144 : decode cX8_reconcile 144 = .ok (.aload_n 0, 1) := by decide +kernel
theorem dX8_reconcile_145 : decode cX8_reconcile 145 = .ok (.iload_n 1, 1) := by decide +kernel
theorem dX8_reconcile_146 : decode cX8_reconcile 146 = .ok (.iload 5, 2) := by decide +kernel
theorem dX8_reconcile_148 : decode cX8_reconcile 148 = .ok (.invokevirtual 157, 3) := by decide +kernel
theorem dX8_reconcile_151 : decode cX8_reconcile 151 = .ok (.ifCond .eq 56, 3) := by decide +kernel
theorem dX8_reconcile_154 : decode cX8_reconcile 154 = .ok (.iconst 0, 1) := by decide +kernel
theorem dX8_reconcile_155 : decode cX8_reconcile 155 = .ok (.istore 8, 2) := by decide +kernel
theorem dX8_reconcile_157 : decode cX8_reconcile 157 = .ok (.iload 8, 2) := by decide +kernel
theorem dX8_reconcile_159 : decode cX8_reconcile 159 = .ok (.sipush 256, 3) := by decide +kernel
theorem dX8_reconcile_162 : decode cX8_reconcile 162 = .ok (.if_icmp .ge 28, 3) := by decide +kernel
theorem dX8_reconcile_165 : decode cX8_reconcile 165 = .ok (.aload_n 0, 1) := by decide +kernel
theorem dX8_reconcile_166 : decode cX8_reconcile 166 = .ok (.getfield 73, 3) := by decide +kernel
theorem dX8_reconcile_169 : decode cX8_reconcile 169 = .ok (.iload 8, 2) := by decide +kernel
theorem dX8_reconcile_171 : decode cX8_reconcile 171 = .ok (.iload 8, 2) := by decide +kernel
theorem dX8_reconcile_173 : decode cX8_reconcile 173 = .ok (.iload 5, 2) := by decide +kernel
theorem dX8_reconcile_175 : decode cX8_reconcile 175 = .ok (.if_icmp .ne 7, 3) := by decide +kernel
theorem dX8_reconcile_178 : decode cX8_reconcile 178 = .ok (.iconst 1, 1) := by decide +kernel
theorem dX8_reconcile_179 : decode cX8_reconcile 179 = .ok (.goto 4, 3) := by decide +kernel
theorem dX8_reconcile_182 : decode cX8_reconcile 182 = .ok (.iconst 0, 1) := by decide +kernel
theorem dX8_reconcile_183 : decode cX8_reconcile 183 = .ok (.bastore, 1) := by decide +kernel
theorem dX8_reconcile_184 : decode cX8_reconcile 184 = .ok (.iinc 8 1, 3) := by decide +kernel
theorem dX8_reconcile_187 : decode cX8_reconcile 187 = .ok (.goto (-30), 3) := by decide +kernel
theorem dX8_reconcile_190 : decode cX8_reconcile 190 = .ok (.iload 4, 2) := by decide +kernel
theorem dX8_reconcile_192 : decode cX8_reconcile 192 = .ok (.aload_n 0, 1) := by decide +kernel
theorem dX8_reconcile_193 : decode cX8_reconcile 193 = .ok (.iload_n 3, 1) := by decide +kernel
theorem dX8_reconcile_194 : decode cX8_reconcile 194 = .ok (.aload_n 0, 1) := by decide +kernel
theorem dX8_reconcile_195 : decode cX8_reconcile 195 = .ok (.getfield 61, 3) := by decide +kernel
theorem dX8_reconcile_198 : decode cX8_reconcile 198 = .ok (.iload 6, 2) := by decide +kernel
theorem dX8_reconcile_200 : decode cX8_reconcile 200 = .ok (.iaload, 1) := by decide +kernel
theorem dX8_reconcile_201 : decode cX8_reconcile 201 = .ok (.invokevirtual 117, 3) := by decide +kernel
theorem dX8_reconcile_204 : decode cX8_reconcile 204 = .ok (.iadd, 1) := by decide +kernel
theorem dX8_reconcile_205 : decode cX8_reconcile 205 = .ok (.istore 4, 2) := by decide +kernel
theorem dX8_reconcile_207 : decode cX8_reconcile 207 = .ok (.iinc 5 1, 3) := by decide +kernel
theorem dX8_reconcile_210 : decode cX8_reconcile 210 = .ok (.goto (-146), 3) := by decide +kernel
theorem dX8_reconcile_213 : decode cX8_reconcile 213 = .ok (.iconst 0, 1) := by decide +kernel
theorem dX8_reconcile_214 : decode cX8_reconcile 214 = .ok (.istore 5, 2) := by decide +kernel
theorem dX8_reconcile_216 : decode cX8_reconcile 216 = .ok (.iload 5, 2) := by decide +kernel
theorem dX8_reconcile_218 : decode cX8_reconcile 218 = .ok (.sipush 256, 3) := by decide +kernel
theorem dX8_reconcile_221 : decode cX8_reconcile 221 = .ok (.if_icmp .ge 49, 3) := by decide +kernel
theorem dX8_reconcile_224 : decode cX8_reconcile 224 = .ok (.aload_n 0, 1) := by decide +kernel
theorem dX8_reconcile_225 : decode cX8_reconcile 225 = .ok (.getfield 58, 3) := by decide +kernel
theorem dX8_reconcile_228 : decode cX8_reconcile 228 = .ok (.sipush 256, 3) := by decide +kernel
theorem dX8_reconcile_231 : decode cX8_reconcile 231 = .ok (.iload_n 1, 1) := by decide +kernel
theorem dX8_reconcile_232 : decode cX8_reconcile 232 = .ok (.imul, 1) := by decide +kernel
theorem dX8_reconcile_233 : decode cX8_reconcile 233 = .ok (.iload 5, 2) := by decide +kernel
theorem dX8_reconcile_235 : decode cX8_reconcile 235 = .ok (.iadd, 1) := by decide +kernel
theorem dX8_reconcile_236 : decode cX8_reconcile 236 = .ok (.aload_n 0, 1) := by decide +kernel
theorem dX8_reconcile_237 : decode cX8_reconcile 237 = .ok (.iload_n 3, 1) := by decide +kernel
theorem dX8_reconcile_238 : decode cX8_reconcile 238 = .ok (.iload 5, 2) := by decide +kernel
theorem dX8_reconcile_240 : decode cX8_reconcile 240 = .ok (.invokevirtual 92, 3) := by decide +kernel
theorem dX8_reconcile_243 : decode cX8_reconcile 243 = .ok (.iastore, 1) := by decide +kernel
theorem dX8_reconcile_244 : decode cX8_reconcile 244 = .ok (.aload_n 0, 1) := by decide +kernel
theorem dX8_reconcile_245 : decode cX8_reconcile 245 = .ok (.getfield 61, 3) := by decide +kernel
theorem dX8_reconcile_248 : decode cX8_reconcile 248 = .ok (.sipush 256, 3) := by decide +kernel
theorem dX8_reconcile_251 : decode cX8_reconcile 251 = .ok (.iload_n 1, 1) := by decide +kernel
theorem dX8_reconcile_252 : decode cX8_reconcile 252 = .ok (.imul, 1) := by decide +kernel
theorem dX8_reconcile_253 : decode cX8_reconcile 253 = .ok (.iload 5, 2) := by decide +kernel
theorem dX8_reconcile_255 : decode cX8_reconcile 255 = .ok (.iadd, 1) := by decide +kernel
theorem dX8_reconcile_256 : decode cX8_reconcile 256 = .ok (.aload_n 0, 1) := by decide +kernel
theorem dX8_reconcile_257 : decode cX8_reconcile 257 = .ok (.iload_n 3, 1) := by decide +kernel
theorem dX8_reconcile_258 : decode cX8_reconcile 258 = .ok (.iload 5, 2) := by decide +kernel
theorem dX8_reconcile_260 : decode cX8_reconcile 260 = .ok (.invokevirtual 92, 3) := by decide +kernel
theorem dX8_reconcile_263 : decode cX8_reconcile 263 = .ok (.iastore, 1) := by decide +kernel
theorem dX8_reconcile_264 : decode cX8_reconcile 264 = .ok (.iinc 5 1, 3) := by decide +kernel
theorem dX8_reconcile_267 : decode cX8_reconcile 267 = .ok (.goto (-51), 3) := by decide +kernel
theorem dX8_reconcile_270 : decode cX8_reconcile 270 = .ok (.iload 4, 2) := by decide +kernel
theorem dX8_reconcile_272 : decode cX8_reconcile 272 = .ok (.ireturn, 1) := by decide +kernel
theorem dX8_areLayers_0 : decode cX8_areLayers 0 = .ok (.iload_n 0, 1) := by decide +kernel
theorem dX8_areLayers_1 : decode cX8_areLayers 1 = .ok (.invokestatic 106, 3) := by decide +kernel
theorem dX8_areLayers_4 : decode cX8_areLayers 4 = .ok (.ifCond .eq 19, 3) := by decide +kernel
theorem dX8_areLayers_7 : decode cX8_areLayers 7 = .ok (.iload_n 1, 1) := by decide +kernel
theorem dX8_areLayers_8 : decode cX8_areLayers 8 = .ok (.invokestatic 106, 3) := by decide +kernel
theorem dX8_areLayers_11 : decode cX8_areLayers 11 = .ok (.ifCond .eq 12, 3) := by decide +kernel
theorem dX8_areLayers_14 : decode cX8_areLayers 14 = .ok (.iload_n 0, 1) := by decide +kernel
theorem dX8_areLayers_15 : decode cX8_areLayers 15 = .ok (.iload_n 1, 1) := by decide +kernel
theorem dX8_areLayers_16 : decode cX8_areLayers 16 = .ok (.if_icmp .eq 7, 3) := by decide +kernel
theorem dX8_areLayers_19 : decode cX8_areLayers 19 = .ok (.iconst 1, 1) := by decide +kernel
theorem dX8_areLayers_20 : decode cX8_areLayers 20 = .ok (.goto 4, 3) := by decide +kernel
theorem dX8_areLayers_23 : decode cX8_areLayers 23 = .ok (.iconst 0, 1) := by decide +kernel
theorem dX8_areLayers_24 : decode cX8_areLayers 24 = .ok (.ireturn, 1) := by decide +kernel
theorem dX8_overlay_0 : decode cX8_overlay 0 = .ok (.iconst 0, 1) := by decide +kernel
theorem dX8_overlay_1 : decode cX8_overlay 1 = .ok (.istore_n 3, 1) := by decide +kernel
theorem dX8_overlay_2 : decode cX8_overlay 2 = .ok (.iload_n 3, 1) := by decide +kernel
theorem dX8_overlay_3 : decode cX8_overlay 3 = .ok (.sipush 256, 3) := by decide +kernel
theorem dX8_overlay_6 : decode cX8_overlay 6 = .ok (.if_icmp .ge 71, 3) := by decide +kernel
theorem dX8_overlay_9 : decode cX8_overlay 9 = .ok (.aload_n 0, 1) := by decide +kernel
theorem dX8_overlay_10 : decode cX8_overlay 10 = .ok (.iload_n 1, 1) := by decide +kernel
theorem dX8_overlay_11 : decode cX8_overlay 11 = .ok (.iload_n 3, 1) := by decide +kernel
theorem dX8_overlay_12 : decode cX8_overlay 12 = .ok (.invokevirtual 92, 3) := by decide +kernel
theorem dX8_overlay_15 : decode cX8_overlay 15 = .ok (.iconst (-1), 1) := by decide +kernel
theorem dX8_overlay_16 : decode cX8_overlay 16 = .ok (.if_icmp .ne 17, 3) := by decide +kernel
theorem dX8_overlay_19 : decode cX8_overlay 19 = .ok (.aload_n 0, 1) := by decide +kernel
theorem dX8_overlay_20 : decode cX8_overlay 20 = .ok (.iload_n 2, 1) := by decide +kernel
theorem dX8_overlay_21 : decode cX8_overlay 21 = .ok (.iload_n 3, 1) := by decide +kernel
theorem dX8_overlay_22 : decode cX8_overlay 22 = .ok (.invokevirtual 92, 3) := by decide +kernel
theorem dX8_overlay_25 : decode cX8_overlay 25 = .ok (.iconst (-1), 1) := by decide +kernel
theorem dX8_overlay_26 : decode cX8_overlay 26 = .ok (.if_icmp .ne 7, 3) := by decide +kernel
theorem dX8_overlay_29 : decode cX8_overlay 29 = .ok (.iconst 1, 1) := by decide +kernel
theorem dX8_overlay_30 : decode cX8_overlay 30 = .ok (.goto 4, 3) := by decide +kernel
theorem dX8_overlay_33 : decode cX8_overlay 33 = .ok (.iconst 0, 1) := by decide +kernel
theorem dX8_overlay_34 : decode cX8_overlay 34 = .ok (.istore 4, 2) := by decide +kernel
theorem dX8_overlay_36 : decode cX8_overlay 36 = .ok (.aload_n 0, 1) := by decide +kernel
theorem dX8_overlay_37 : decode cX8_overlay 37 = .ok (.getfield 67, 3) := by decide +kernel
theorem dX8_overlay_40 : decode cX8_overlay 40 = .ok (.iload_n 3, 1) := by decide +kernel
theorem dX8_overlay_41 : decode cX8_overlay 41 = .ok (.iload 4, 2) := by decide +kernel
theorem dX8_overlay_43 : decode cX8_overlay 43 = .ok (.ifCond .eq 7, 3) := by decide +kernel
theorem dX8_overlay_46 : decode cX8_overlay 46 = .ok (.iconst (-1), 1) := by decide +kernel
theorem dX8_overlay_47 : decode cX8_overlay 47 = .ok (.goto 23, 3) := by decide +kernel
theorem dX8_overlay_50 : decode cX8_overlay 50 = .ok (.bipush 11, 2) := by decide +kernel
theorem dX8_overlay_52 : decode cX8_overlay 52 = .ok (.aload_n 0, 1) := by decide +kernel
theorem dX8_overlay_53 : decode cX8_overlay 53 = .ok (.iload_n 1, 1) := by decide +kernel
theorem dX8_overlay_54 : decode cX8_overlay 54 = .ok (.iload_n 3, 1) := by decide +kernel
theorem dX8_overlay_55 : decode cX8_overlay 55 = .ok (.invokevirtual 92, 3) := by decide +kernel
theorem dX8_overlay_58 : decode cX8_overlay 58 = .ok (.iconst 1, 1) := by decide +kernel
theorem dX8_overlay_59 : decode cX8_overlay 59 = .ok (.iadd, 1) := by decide +kernel
theorem dX8_overlay_60 : decode cX8_overlay 60 = .ok (.imul, 1) := by decide +kernel
theorem dX8_overlay_61 : decode cX8_overlay 61 = .ok (.aload_n 0, 1) := by decide +kernel
theorem dX8_overlay_62 : decode cX8_overlay 62 = .ok (.iload_n 2, 1) := by decide +kernel
theorem dX8_overlay_63 : decode cX8_overlay 63 = .ok (.iload_n 3, 1) := by decide +kernel
theorem dX8_overlay_64 : decode cX8_overlay 64 = .ok (.invokevirtual 92, 3) := by decide +kernel
theorem dX8_overlay_67 : decode cX8_overlay 67 = .ok (.iadd, 1) := by decide +kernel
theorem dX8_overlay_68 : decode cX8_overlay 68 = .ok (.iconst 1, 1) := by decide +kernel
theorem dX8_overlay_69 : decode cX8_overlay 69 = .ok (.iadd, 1) := by decide +kernel
theorem dX8_overlay_70 : decode cX8_overlay 70 = .ok (.iastore, 1) := by decide +kernel
theorem dX8_overlay_71 : decode cX8_overlay 71 = .ok (.iinc 3 1, 3) := by decide +kernel
theorem dX8_overlay_74 : decode cX8_overlay 74 = .ok (.goto (-72), 3) := by decide +kernel
theorem dX8_overlay_77 : decode cX8_overlay 77 = .ok (.aload_n 0, 1) := by decide +kernel
theorem dX8_overlay_78 : decode cX8_overlay 78 = .ok (.invokevirtual 160, 3) := by decide +kernel
theorem dX8_overlay_81 : decode cX8_overlay 81 = .ok (.ireturn, 1) := by decide +kernel
theorem dX8_pieces_0 : decode cX8_pieces 0 = .ok (.aload_n 0, 1) := by decide +kernel
theorem dX8_pieces_1 : decode cX8_pieces 1 = .ok (.iconst 0, 1) := by decide +kernel
theorem dX8_pieces_2 : decode cX8_pieces 2 = .ok (.putfield 85, 3) := by decide +kernel
theorem dX8_pieces_5 : decode cX8_pieces 5 = .ok (.iload_n 1, 1) := by decide +kernel
theorem dX8_pieces_6 : decode cX8_pieces 6 = .ok (.iload_n 2, 1) := by decide +kernel
theorem dX8_pieces_7 : decode cX8_pieces 7 = .ok (.invokestatic 164, 3) := by decide +kernel
theorem dX8_pieces_10 : decode cX8_pieces 10 = .ok (.ifCond .eq 12, 3) := by decide +kernel
theorem dX8_pieces_13 : decode cX8_pieces 13 = .ok (.aload_n 0, 1) := by decide +kernel
theorem dX8_pieces_14 : decode cX8_pieces 14 = .ok (.iload_n 1, 1) := by decide +kernel
theorem dX8_pieces_15 : decode cX8_pieces 15 = .ok (.iload_n 2, 1) := by decide +kernel
theorem dX8_pieces_16 : decode cX8_pieces 16 = .ok (.invokevirtual 167, 3) := by decide +kernel
theorem dX8_pieces_19 : decode cX8_pieces 19 = .ok (.goto 8, 3) := by decide +kernel
theorem dX8_pieces_22 : decode cX8_pieces 22 = .ok (.aload_n 0, 1) := by decide +kernel
theorem dX8_pieces_23 : decode cX8_pieces 23 = .ok (.iconst 1, 1) := by decide +kernel
theorem dX8_pieces_24 : decode cX8_pieces 24 = .ok (.invokevirtual 96, 3) := by decide +kernel
theorem dX8_pieces_27 : decode cX8_pieces 27 = .ok (.ireturn, 1) := by decide +kernel
theorem dX8_pieceSize_0 : decode cX8_pieceSize 0 = .ok (.aload_n 0, 1) := by decide +kernel
theorem dX8_pieceSize_1 : decode cX8_pieceSize 1 = .ok (.iconst 0, 1) := by decide +kernel
theorem dX8_pieceSize_2 : decode cX8_pieceSize 2 = .ok (.putfield 85, 3) := by decide +kernel
theorem dX8_pieceSize_5 : decode cX8_pieceSize 5 = .ok (.iload_n 1, 1) := by decide +kernel
theorem dX8_pieceSize_6 : decode cX8_pieceSize 6 = .ok (.iload_n 2, 1) := by decide +kernel
theorem dX8_pieceSize_7 : decode cX8_pieceSize 7 = .ok (.invokestatic 164, 3) := by decide +kernel
theorem dX8_pieceSize_10 : decode cX8_pieceSize 10 = .ok (.ifCond .ne 9, 3) := by decide +kernel
theorem dX8_pieceSize_13 : decode cX8_pieceSize 13 = .ok (.aload_n 0, 1) := by decide +kernel
theorem dX8_pieceSize_14 : decode cX8_pieceSize 14 = .ok (.iconst 1, 1) := by decide +kernel
theorem dX8_pieceSize_15 : decode cX8_pieceSize 15 = .ok (.invokevirtual 96, 3) := by decide +kernel
theorem dX8_pieceSize_18 : decode cX8_pieceSize 18 = .ok (.ireturn, 1) := by decide +kernel
theorem dX8_pieceSize_19 : decode cX8_pieceSize 19 = .ok (.iload_n 3, 1) := by decide +kernel
theorem dX8_pieceSize_20 : decode cX8_pieceSize 20 = .ok (.iconst 0, 1) := by decide +kernel
theorem dX8_pieceSize_21 : decode cX8_pieceSize 21 = .ok (.aload_n 0, 1) := by decide +kernel
theorem dX8_pieceSize_22 : decode cX8_pieceSize 22 = .ok (.iload_n 1, 1) := by decide +kernel
theorem dX8_pieceSize_23 : decode cX8_pieceSize 23 = .ok (.iload_n 2, 1) := by decide +kernel
theorem dX8_pieceSize_24 : decode cX8_pieceSize 24 = .ok (.invokevirtual 167, 3) := by decide +kernel
theorem dX8_pieceSize_27 : decode cX8_pieceSize 27 = .ok (.iconst 1, 1) := by decide +kernel
theorem dX8_pieceSize_28 : decode cX8_pieceSize 28 = .ok (.isub, 1) := by decide +kernel
theorem dX8_pieceSize_29 : decode cX8_pieceSize 29 = .ok (.invokestatic 88, 3) := by decide +kernel
theorem dX8_pieceSize_32 : decode cX8_pieceSize 32 = .ok (.ifCond .ne 9, 3) := by decide +kernel
theorem dX8_pieceSize_35 : decode cX8_pieceSize 35 = .ok (.aload_n 0, 1) := by decide +kernel
theorem dX8_pieceSize_36 : decode cX8_pieceSize 36 = .ok (.iconst 2, 1) := by decide +kernel
theorem dX8_pieceSize_37 : decode cX8_pieceSize 37 = .ok (.invokevirtual 96, 3) := by decide +kernel
theorem dX8_pieceSize_40 : decode cX8_pieceSize 40 = .ok (.ireturn, 1) := by decide +kernel
theorem dX8_pieceSize_41 : decode cX8_pieceSize 41 = .ok (.iconst 0, 1) := by decide +kernel
theorem dX8_pieceSize_42 : decode cX8_pieceSize 42 = .ok (.istore 4, 2) := by decide +kernel
theorem dX8_pieceSize_44 : decode cX8_pieceSize 44 = .ok (.iconst 0, 1) := by decide +kernel
theorem dX8_pieceSize_45 : decode cX8_pieceSize 45 = .ok (.istore 5, 2) := by decide +kernel
theorem dX8_pieceSize_47 : decode cX8_pieceSize 47 = .ok (.iload 5, 2) := by decide +kernel
theorem dX8_pieceSize_49 : decode cX8_pieceSize 49 = .ok (.sipush 256, 3) := by decide +kernel
theorem dX8_pieceSize_52 : decode cX8_pieceSize 52 = .ok (.if_icmp .ge 30, 3) := by decide +kernel
theorem dX8_pieceSize_55 : decode cX8_pieceSize 55 = .ok (.iload 4, 2) := by decide +kernel
theorem dX8_pieceSize_57 : decode cX8_pieceSize 57 = .ok (.aload_n 0, 1) := by decide +kernel
theorem dX8_pieceSize_58 : decode cX8_pieceSize 58 = .ok (.getfield 64, 3) := by decide +kernel
theorem dX8_pieceSize_61 : decode cX8_pieceSize 61 = .ok (.iload 5, 2) := by decide +kernel
theorem dX8_pieceSize_63 : decode cX8_pieceSize 63 = .ok (.iaload, 1) := by decide +kernel
theorem dX8_pieceSize_64 : decode cX8_pieceSize 64 = .ok (.iload_n 3, 1) := by decide +kernel
theorem dX8_pieceSize_65 : decode cX8_pieceSize 65 = .ok (.if_icmp .ne 7, 3) := by decide +kernel
theorem dX8_pieceSize_68 : decode cX8_pieceSize 68 = .ok (.iconst 1, 1) := by decide +kernel
theorem dX8_pieceSize_69 : decode cX8_pieceSize 69 = .ok (.goto 4, 3) := by decide +kernel
theorem dX8_pieceSize_72 : decode cX8_pieceSize 72 = .ok (.iconst 0, 1) := by decide +kernel
theorem dX8_pieceSize_73 : decode cX8_pieceSize 73 = .ok (.iadd, 1) := by decide +kernel
theorem dX8_pieceSize_74 : decode cX8_pieceSize 74 = .ok (.istore 4, 2) := by decide +kernel
theorem dX8_pieceSize_76 : decode cX8_pieceSize 76 = .ok (.iinc 5 1, 3) := by decide +kernel
theorem dX8_pieceSize_79 : decode cX8_pieceSize 79 = .ok (.goto (-32), 3) := by decide +kernel
theorem dX8_pieceSize_82 : decode cX8_pieceSize 82 = .ok (.iload 4, 2) := by decide +kernel
theorem dX8_pieceSize_84 : decode cX8_pieceSize 84 = .ok (.ireturn, 1) := by decide +kernel
theorem dX8_parent_0 : decode cX8_parent 0 = .ok (.aload_n 0, 1) := by decide +kernel
theorem dX8_parent_1 : decode cX8_parent 1 = .ok (.iconst 0, 1) := by decide +kernel
theorem dX8_parent_2 : decode cX8_parent 2 = .ok (.putfield 85, 3) := by decide +kernel
theorem dX8_parent_5 : decode cX8_parent 5 = .ok (.iload_n 1, 1) := by decide +kernel
theorem dX8_parent_6 : decode cX8_parent 6 = .ok (.iload_n 2, 1) := by decide +kernel
theorem dX8_parent_7 : decode cX8_parent 7 = .ok (.invokestatic 164, 3) := by decide +kernel
theorem dX8_parent_10 : decode cX8_parent 10 = .ok (.ifCond .ne 9, 3) := by decide +kernel
theorem dX8_parent_13 : decode cX8_parent 13 = .ok (.aload_n 0, 1) := by decide +kernel
theorem dX8_parent_14 : decode cX8_parent 14 = .ok (.iconst 1, 1) := by decide +kernel
theorem dX8_parent_15 : decode cX8_parent 15 = .ok (.invokevirtual 96, 3) := by decide +kernel
theorem dX8_parent_18 : decode cX8_parent 18 = .ok (.ireturn, 1) := by decide +kernel
theorem dX8_parent_19 : decode cX8_parent 19 = .ok (.iload_n 3, 1) := by decide +kernel
theorem dX8_parent_20 : decode cX8_parent 20 = .ok (.iconst 0, 1) := by decide +kernel
theorem dX8_parent_21 : decode cX8_parent 21 = .ok (.aload_n 0, 1) := by decide +kernel
theorem dX8_parent_22 : decode cX8_parent 22 = .ok (.iload_n 1, 1) := by decide +kernel
theorem dX8_parent_23 : decode cX8_parent 23 = .ok (.iload_n 2, 1) := by decide +kernel
theorem dX8_parent_24 : decode cX8_parent 24 = .ok (.invokevirtual 167, 3) := by decide +kernel
theorem dX8_parent_27 : decode cX8_parent 27 = .ok (.iconst 1, 1) := by decide +kernel
theorem dX8_parent_28 : decode cX8_parent 28 = .ok (.isub, 1) := by decide +kernel
theorem dX8_parent_29 : decode cX8_parent 29 = .ok (.invokestatic 88, 3) := by decide +kernel
theorem dX8_parent_32 : decode cX8_parent 32 = .ok (.ifCond .ne 9, 3) := by decide +kernel
theorem dX8_parent_35 : decode cX8_parent 35 = .ok (.aload_n 0, 1) := by decide +kernel
theorem dX8_parent_36 : decode cX8_parent 36 = .ok (.iconst 2, 1) := by decide +kernel
theorem dX8_parent_37 : decode cX8_parent 37 = .ok (.invokevirtual 96, 3) := by decide +kernel
theorem dX8_parent_40 : decode cX8_parent 40 = .ok (.ireturn, 1) := by decide +kernel
theorem dX8_parent_41 : decode cX8_parent 41 = .ok (.iconst 0, 1) := by decide +kernel
theorem dX8_parent_42 : decode cX8_parent 42 = .ok (.istore 5, 2) := by decide +kernel
theorem dX8_parent_44 : decode cX8_parent 44 = .ok (.aload_n 0, 1) := by decide +kernel
theorem dX8_parent_45 : decode cX8_parent 45 = .ok (.getfield 64, 3) := by decide +kernel
theorem dX8_parent_48 : decode cX8_parent 48 = .ok (.iload 5, 2) := by decide +kernel
theorem dX8_parent_50 : decode cX8_parent 50 = .ok (.iaload, 1) := by decide +kernel
theorem dX8_parent_51 : decode cX8_parent 51 = .ok (.iload_n 3, 1) := by decide +kernel
theorem dX8_parent_52 : decode cX8_parent 52 = .ok (.if_icmp .eq 9, 3) := by decide +kernel
theorem dX8_parent_55 : decode cX8_parent 55 = .ok (.iinc 5 1, 3) := by decide +kernel
theorem dX8_parent_58 : decode cX8_parent 58 = .ok (.goto (-14), 3) := by decide +kernel
theorem dX8_parent_61 : decode cX8_parent 61 = .ok (.aload_n 0, 1) := by decide +kernel
theorem dX8_parent_62 : decode cX8_parent 62 = .ok (.iload 4, 2) := by decide +kernel
theorem dX8_parent_64 : decode cX8_parent 64 = .ok (.ifCond .eq 7, 3) := by decide +kernel
theorem dX8_parent_67 : decode cX8_parent 67 = .ok (.iload_n 2, 1) := by decide +kernel
theorem dX8_parent_68 : decode cX8_parent 68 = .ok (.goto 4, 3) := by decide +kernel
theorem dX8_parent_71 : decode cX8_parent 71 = .ok (.iload_n 1, 1) := by decide +kernel
theorem dX8_parent_72 : decode cX8_parent 72 = .ok (.iload 5, 2) := by decide +kernel
theorem dX8_parent_74 : decode cX8_parent 74 = .ok (.invokevirtual 92, 3) := by decide +kernel
theorem dX8_parent_77 : decode cX8_parent 77 = .ok (.ireturn, 1) := by decide +kernel
theorem dX8_common_0 : decode cX8_common 0 = .ok (.iconst 0, 1) := by decide +kernel
theorem dX8_common_1 : decode cX8_common 1 = .ok (.istore 5, 2) := by decide +kernel
theorem dX8_common_3 : decode cX8_common 3 = .ok (.iconst 0, 1) := by decide +kernel
theorem dX8_common_4 : decode cX8_common 4 = .ok (.istore 6, 2) := by decide +kernel
theorem dX8_common_6 : decode cX8_common 6 = .ok (.iload 6, 2) := by decide +kernel
theorem dX8_common_8 : decode cX8_common 8 = .ok (.sipush 256, 3) := by decide +kernel
theorem dX8_common_11 : decode cX8_common 11 = .ok (.if_icmp .ge 42, 3) := by decide +kernel
theorem dX8_common_14 : decode cX8_common 14 = .ok (.iload 5, 2) := by decide +kernel
theorem dX8_common_16 : decode cX8_common 16 = .ok (.aload_n 0, 1) := by decide +kernel
theorem dX8_common_17 : decode cX8_common 17 = .ok (.iload_n 1, 1) := by decide +kernel
theorem dX8_common_18 : decode cX8_common 18 = .ok (.iload 6, 2) := by decide +kernel
theorem dX8_common_20 : decode cX8_common 20 = .ok (.invokevirtual 92, 3) := by decide +kernel
theorem dX8_common_23 : decode cX8_common 23 = .ok (.iload_n 2, 1) := by decide +kernel
theorem dX8_common_24 : decode cX8_common 24 = .ok (.if_icmp .ne 19, 3) := by decide +kernel
theorem dX8_common_27 : decode cX8_common 27 = .ok (.aload_n 0, 1) := by decide +kernel
theorem dX8_common_28 : decode cX8_common 28 = .ok (.iload_n 3, 1) := by decide +kernel
theorem dX8_common_29 : decode cX8_common 29 = .ok (.iload 6, 2) := by decide +kernel
theorem dX8_common_31 : decode cX8_common 31 = .ok (.invokevirtual 92, 3) := by decide +kernel
theorem dX8_common_34 : decode cX8_common 34 = .ok (.iload 4, 2) := by decide +kernel
theorem dX8_common_36 : decode cX8_common 36 = .ok (.if_icmp .ne 7, 3) := by decide +kernel
theorem dX8_common_39 : decode cX8_common 39 = .ok (.iconst 1, 1) := by decide +kernel
theorem dX8_common_40 : decode cX8_common 40 = .ok (.goto 4, 3) := by decide +kernel
theorem dX8_common_43 : decode cX8_common 43 = .ok (.iconst 0, 1) := by decide +kernel
theorem dX8_common_44 : decode cX8_common 44 = .ok (.iadd, 1) := by decide +kernel
theorem dX8_common_45 : decode cX8_common 45 = .ok (.istore 5, 2) := by decide +kernel
theorem dX8_common_47 : decode cX8_common 47 = .ok (.iinc 6 1, 3) := by decide +kernel
theorem dX8_common_50 : decode cX8_common 50 = .ok (.goto (-44), 3) := by decide +kernel
theorem dX8_common_53 : decode cX8_common 53 = .ok (.iload 5, 2) := by decide +kernel
theorem dX8_common_55 : decode cX8_common 55 = .ok (.ireturn, 1) := by decide +kernel
theorem dX8_matched_0 : decode cX8_matched 0 = .ok (.iconst (-1), 1) := by decide +kernel
theorem dX8_matched_1 : decode cX8_matched 1 = .ok (.istore 4, 2) := by decide +kernel
theorem dX8_matched_3 : decode cX8_matched 3 = .ok (.iconst 0, 1) := by decide +kernel
theorem dX8_matched_4 : decode cX8_matched 4 = .ok (.istore 5, 2) := by decide +kernel
theorem dX8_matched_6 : decode cX8_matched 6 = .ok (.iload 5, 2) := by decide +kernel
theorem dX8_matched_8 : decode cX8_matched 8 = .ok (.bipush 10, 2) := by decide +kernel
theorem dX8_matched_10 : decode cX8_matched 10 = .ok (.if_icmp .ge 54, 3) := by decide +kernel
theorem dX8_matched_13 : decode cX8_matched 13 = .ok (.aload_n 0, 1) := by decide +kernel
theorem dX8_matched_14 : decode cX8_matched 14 = .ok (.iload_n 1, 1) := by decide +kernel
theorem dX8_matched_15 : decode cX8_matched 15 = .ok (.iload_n 2, 1) := by decide +kernel
theorem dX8_matched_16 : decode cX8_matched 16 = .ok (.iload_n 3, 1) := by decide +kernel
theorem dX8_matched_17 : decode cX8_matched 17 = .ok (.iload 5, 2) := by decide +kernel
theorem dX8_matched_19 : decode cX8_matched 19 = .ok (.invokevirtual 170, 3) := by decide +kernel
theorem dX8_matched_22 : decode cX8_matched 22 = .ok (.istore 6, 2) := by decide +kernel
theorem dX8_matched_24 : decode cX8_matched 24 = .ok (.iload 6, 2) := by decide +kernel
theorem dX8_matched_26 : decode cX8_matched 26 = .ok (.ifCond .le 28, 3) := by decide +kernel
theorem dX8_matched_29 : decode cX8_matched 29 = .ok (.iload 4, 2) := by decide +kernel
theorem dX8_matched_31 : decode cX8_matched 31 = .ok (.iconst (-1), 1) := by decide +kernel
theorem dX8_matched_32 : decode cX8_matched 32 = .ok (.if_icmp .eq 17, 3) := by decide +kernel
theorem dX8_matched_35 : decode cX8_matched 35 = .ok (.iload 6, 2) := by decide +kernel
theorem dX8_matched_37 : decode cX8_matched 37 = .ok (.aload_n 0, 1) := by decide +kernel
theorem dX8_matched_38 : decode cX8_matched 38 = .ok (.iload_n 1, 1) := by decide +kernel
theorem dX8_matched_39 : decode cX8_matched 39 = .ok (.iload_n 2, 1) := by decide +kernel
theorem dX8_matched_40 : decode cX8_matched 40 = .ok (.iload_n 3, 1) := by decide +kernel
theorem dX8_matched_41 : decode cX8_matched 41 = .ok (.iload 4, 2) := by decide +kernel
theorem dX8_matched_43 : decode cX8_matched 43 = .ok (.invokevirtual 170, 3) := by decide +kernel
theorem dX8_matched_46 : decode cX8_matched 46 = .ok (.if_icmp .le 8, 3) := by decide +kernel
theorem dX8_matched_49 : decode cX8_matched 49 = .ok (.iload 5, 2) := by decide +kernel
theorem dX8_matched_51 : decode cX8_matched 51 = .ok (.goto 5, 3) := by decide +kernel
theorem dX8_matched_54 : decode cX8_matched 54 = .ok (.iload 4, 2) := by decide +kernel
theorem dX8_matched_56 : decode cX8_matched 56 = .ok (.istore 4, 2) := by decide +kernel
theorem dX8_matched_58 : decode cX8_matched 58 = .ok (.iinc 5 1, 3) := by decide +kernel
theorem dX8_matched_61 : decode cX8_matched 61 = .ok (.goto (-55), 3) := by decide +kernel
theorem dX8_matched_64 : decode cX8_matched 64 = .ok (.iload 4, 2) := by decide +kernel
theorem dX8_matched_66 : decode cX8_matched 66 = .ok (.ireturn, 1) := by decide +kernel
theorem dX8_match_0 : decode cX8_match 0 = .ok (.aload_n 0, 1) := by decide +kernel
theorem dX8_match_1 : decode cX8_match 1 = .ok (.iconst 0, 1) := by decide +kernel
theorem dX8_match_2 : decode cX8_match 2 = .ok (.putfield 85, 3) := by decide +kernel
theorem dX8_match_5 : decode cX8_match 5 = .ok (.iload_n 1, 1) := by decide +kernel
theorem dX8_match_6 : decode cX8_match 6 = .ok (.iload_n 3, 1) := by decide +kernel
theorem dX8_match_7 : decode cX8_match 7 = .ok (.invokestatic 164, 3) := by decide +kernel
theorem dX8_match_10 : decode cX8_match 10 = .ok (.ifCond .ne 9, 3) := by decide +kernel
theorem dX8_match_13 : decode cX8_match 13 = .ok (.aload_n 0, 1) := by decide +kernel
theorem dX8_match_14 : decode cX8_match 14 = .ok (.iconst 1, 1) := by decide +kernel
theorem dX8_match_15 : decode cX8_match 15 = .ok (.invokevirtual 96, 3) := by decide +kernel
theorem dX8_match_18 : decode cX8_match 18 = .ok (.ireturn, 1) := by decide +kernel
theorem dX8_match_19 : decode cX8_match 19 = .ok (.iload_n 2, 1) := by decide +kernel
theorem dX8_match_20 : decode cX8_match 20 = .ok (.invokestatic 110, 3) := by decide +kernel
theorem dX8_match_23 : decode cX8_match 23 = .ok (.ifCond .ne 9, 3) := by decide +kernel
theorem dX8_match_26 : decode cX8_match 26 = .ok (.aload_n 0, 1) := by decide +kernel
theorem dX8_match_27 : decode cX8_match 27 = .ok (.iconst 2, 1) := by decide +kernel
theorem dX8_match_28 : decode cX8_match 28 = .ok (.invokevirtual 96, 3) := by decide +kernel
theorem dX8_match_31 : decode cX8_match 31 = .ok (.ireturn, 1) := by decide +kernel
theorem dX8_match_32 : decode cX8_match 32 = .ok (.aload_n 0, 1) := by decide +kernel
theorem dX8_match_33 : decode cX8_match 33 = .ok (.iload_n 1, 1) := by decide +kernel
theorem dX8_match_34 : decode cX8_match 34 = .ok (.iload_n 2, 1) := by decide +kernel
theorem dX8_match_35 : decode cX8_match 35 = .ok (.iload_n 3, 1) := by decide +kernel
theorem dX8_match_36 : decode cX8_match 36 = .ok (.invokevirtual 174, 3) := by decide +kernel
theorem dX8_match_39 : decode cX8_match 39 = .ok (.istore 4, 2) := by decide +kernel
theorem dX8_match_41 : decode cX8_match 41 = .ok (.iload 4, 2) := by decide +kernel
theorem dX8_match_43 : decode cX8_match 43 = .ok (.iconst (-1), 1) := by decide +kernel
theorem dX8_match_44 : decode cX8_match 44 = .ok (.if_icmp .ne 11, 3) := by decide +kernel
theorem dX8_match_47 : decode cX8_match 47 = .ok (.aload_n 0, 1) := by decide +kernel
theorem dX8_match_48 : decode cX8_match 48 = .ok (.iconst 3, 1) := by decide +kernel
theorem dX8_match_49 : decode cX8_match 49 = .ok (.invokevirtual 96, 3) := by decide +kernel
theorem dX8_match_52 : decode cX8_match 52 = .ok (.goto 5, 3) := by decide +kernel
theorem dX8_match_55 : decode cX8_match 55 = .ok (.iload 4, 2) := by decide +kernel
theorem dX8_match_57 : decode cX8_match 57 = .ok (.ireturn, 1) := by decide +kernel
theorem dX8_matchKind_0 : decode cX8_matchKind 0 = .ok (.aload_n 0, 1) := by decide +kernel
theorem dX8_matchKind_1 : decode cX8_matchKind 1 = .ok (.iload_n 1, 1) := by decide +kernel
theorem dX8_matchKind_2 : decode cX8_matchKind 2 = .ok (.iload_n 3, 1) := by decide +kernel
theorem dX8_matchKind_3 : decode cX8_matchKind 3 = .ok (.invokestatic 164, 3) := by decide +kernel
theorem dX8_matchKind_6 : decode cX8_matchKind 6 = .ok (.ifCond .ne 7, 3) := by decide +kernel
theorem dX8_matchKind_9 : decode cX8_matchKind 9 = .ok (.iconst 1, 1) := by decide +kernel
theorem dX8_matchKind_10 : decode cX8_matchKind 10 = .ok (.goto 15, 3) := by decide +kernel
theorem dX8_matchKind_13 : decode cX8_matchKind 13 = .ok (.iload_n 2, 1) := by decide +kernel
theorem dX8_matchKind_14 : decode cX8_matchKind 14 = .ok (.invokestatic 110, 3) := by decide +kernel
theorem dX8_matchKind_17 : decode cX8_matchKind 17 = .ok (.ifCond .ne 7, 3) := by decide +kernel
theorem dX8_matchKind_20 : decode cX8_matchKind 20 = .ok (.iconst 2, 1) := by decide +kernel
theorem dX8_matchKind_21 : decode cX8_matchKind 21 = .ok (.goto 4, 3) := by decide +kernel
theorem dX8_matchKind_24 : decode cX8_matchKind 24 = .ok (.iconst 0, 1) := by decide +kernel
theorem dX8_matchKind_25 : decode cX8_matchKind 25 = .ok (.putfield 85, 3) := by decide +kernel
theorem dX8_matchKind_28 : decode cX8_matchKind 28 = .ok (.aload_n 0, 1) := by decide +kernel
theorem dX8_matchKind_29 : decode cX8_matchKind 29 = .ok (.getfield 85, 3) := by decide +kernel
theorem dX8_matchKind_32 : decode cX8_matchKind 32 = .ok (.ifCond .le 5, 3) := by decide +kernel
theorem dX8_matchKind_35 : decode cX8_matchKind 35 = .ok (.iconst 0, 1) := by decide +kernel
theorem dX8_matchKind_36 : decode cX8_matchKind 36 = .ok (.ireturn, 1) := by decide +kernel
theorem dX8_matchKind_37 : decode cX8_matchKind 37 = .ok (.aload_n 0, 1) := by decide +kernel
theorem dX8_matchKind_38 : decode cX8_matchKind 38 = .ok (.iload_n 1, 1) := by decide +kernel
theorem dX8_matchKind_39 : decode cX8_matchKind 39 = .ok (.iload_n 2, 1) := by decide +kernel
theorem dX8_matchKind_40 : decode cX8_matchKind 40 = .ok (.iload_n 3, 1) := by decide +kernel
theorem dX8_matchKind_41 : decode cX8_matchKind 41 = .ok (.invokevirtual 174, 3) := by decide +kernel
theorem dX8_matchKind_44 : decode cX8_matchKind 44 = .ok (.istore 4, 2) := by decide +kernel
theorem dX8_matchKind_46 : decode cX8_matchKind 46 = .ok (.iload 4, 2) := by decide +kernel
theorem dX8_matchKind_48 : decode cX8_matchKind 48 = .ok (.iconst (-1), 1) := by decide +kernel
theorem dX8_matchKind_49 : decode cX8_matchKind 49 = .ok (.if_icmp .ne 6, 3) := by decide +kernel
theorem dX8_matchKind_52 : decode cX8_matchKind 52 = .ok (.bipush 110, 2) := by decide +kernel
theorem dX8_matchKind_54 : decode cX8_matchKind 54 = .ok (.ireturn, 1) := by decide +kernel
theorem dX8_matchKind_55 : decode cX8_matchKind 55 = .ok (.iconst 2, 1) := by decide +kernel
theorem dX8_matchKind_56 : decode cX8_matchKind 56 = .ok (.aload_n 0, 1) := by decide +kernel
theorem dX8_matchKind_57 : decode cX8_matchKind 57 = .ok (.iload_n 1, 1) := by decide +kernel
theorem dX8_matchKind_58 : decode cX8_matchKind 58 = .ok (.iload_n 2, 1) := by decide +kernel
theorem dX8_matchKind_59 : decode cX8_matchKind 59 = .ok (.iload_n 3, 1) := by decide +kernel
theorem dX8_matchKind_60 : decode cX8_matchKind 60 = .ok (.iload 4, 2) := by decide +kernel
theorem dX8_matchKind_62 : decode cX8_matchKind 62 = .ok (.invokevirtual 170, 3) := by decide +kernel
theorem dX8_matchKind_65 : decode cX8_matchKind 65 = .ok (.imul, 1) := by decide +kernel
theorem dX8_matchKind_66 : decode cX8_matchKind 66 = .ok (.istore 5, 2) := by decide +kernel
theorem dX8_matchKind_68 : decode cX8_matchKind 68 = .ok (.iload 5, 2) := by decide +kernel
theorem dX8_matchKind_70 : decode cX8_matchKind 70 = .ok (.aload_n 0, 1) := by decide +kernel
theorem dX8_matchKind_71 : decode cX8_matchKind 71 = .ok (.iload_n 1, 1) := by decide +kernel
theorem dX8_matchKind_72 : decode cX8_matchKind 72 = .ok (.iload_n 2, 1) := by decide +kernel
theorem dX8_matchKind_73 : decode cX8_matchKind 73 = .ok (.invokevirtual 103, 3) := by decide +kernel
theorem dX8_matchKind_76 : decode cX8_matchKind 76 = .ok (.if_icmp .le 20, 3) := by decide +kernel
theorem dX8_matchKind_79 : decode cX8_matchKind 79 = .ok (.iload 5, 2) := by decide +kernel
theorem dX8_matchKind_81 : decode cX8_matchKind 81 = .ok (.aload_n 0, 1) := by decide +kernel
theorem dX8_matchKind_82 : decode cX8_matchKind 82 = .ok (.iload_n 3, 1) := by decide +kernel
theorem dX8_matchKind_83 : decode cX8_matchKind 83 = .ok (.iload 4, 2) := by decide +kernel
theorem dX8_matchKind_85 : decode cX8_matchKind 85 = .ok (.invokevirtual 103, 3) := by decide +kernel
theorem dX8_matchKind_88 : decode cX8_matchKind 88 = .ok (.if_icmp .le 8, 3) := by decide +kernel
theorem dX8_matchKind_91 : decode cX8_matchKind 91 = .ok (.bipush 115, 2) := by decide +kernel
theorem dX8_matchKind_93 : decode cX8_matchKind 93 = .ok (.goto 5, 3) := by decide +kernel
theorem dX8_matchKind_96 : decode cX8_matchKind 96 = .ok (.bipush 100, 2) := by decide +kernel
theorem dX8_matchKind_98 : decode cX8_matchKind 98 = .ok (.ireturn, 1) := by decide +kernel
theorem dX8_coarseAt_0 : decode cX8_coarseAt 0 = .ok (.aload_n 0, 1) := by decide +kernel
theorem dX8_coarseAt_1 : decode cX8_coarseAt 1 = .ok (.iload_n 1, 1) := by decide +kernel
theorem dX8_coarseAt_2 : decode cX8_coarseAt 2 = .ok (.iload_n 2, 1) := by decide +kernel
theorem dX8_coarseAt_3 : decode cX8_coarseAt 3 = .ok (.invokevirtual 92, 3) := by decide +kernel
theorem dX8_coarseAt_6 : decode cX8_coarseAt 6 = .ok (.iconst (-1), 1) := by decide +kernel
theorem dX8_coarseAt_7 : decode cX8_coarseAt 7 = .ok (.if_icmp .ne 7, 3) := by decide +kernel
theorem dX8_coarseAt_10 : decode cX8_coarseAt 10 = .ok (.iconst (-1), 1) := by decide +kernel
theorem dX8_coarseAt_11 : decode cX8_coarseAt 11 = .ok (.goto 14, 3) := by decide +kernel
theorem dX8_coarseAt_14 : decode cX8_coarseAt 14 = .ok (.aload_n 0, 1) := by decide +kernel
theorem dX8_coarseAt_15 : decode cX8_coarseAt 15 = .ok (.getfield 76, 3) := by decide +kernel
theorem dX8_coarseAt_18 : decode cX8_coarseAt 18 = .ok (.aload_n 0, 1) := by decide +kernel
theorem dX8_coarseAt_19 : decode cX8_coarseAt 19 = .ok (.iload_n 1, 1) := by decide +kernel
theorem dX8_coarseAt_20 : decode cX8_coarseAt 20 = .ok (.iload_n 2, 1) := by decide +kernel
theorem dX8_coarseAt_21 : decode cX8_coarseAt 21 = .ok (.invokevirtual 92, 3) := by decide +kernel
theorem dX8_coarseAt_24 : decode cX8_coarseAt 24 = .ok (.iaload, 1) := by decide +kernel
theorem dX8_coarseAt_25 : decode cX8_coarseAt 25 = .ok (.ireturn, 1) := by decide +kernel
theorem dX8_coarseSize_0 : decode cX8_coarseSize 0 = .ok (.iconst 0, 1) := by decide +kernel
theorem dX8_coarseSize_1 : decode cX8_coarseSize 1 = .ok (.istore_n 3, 1) := by decide +kernel
theorem dX8_coarseSize_2 : decode cX8_coarseSize 2 = .ok (.iconst 0, 1) := by decide +kernel
theorem dX8_coarseSize_3 : decode cX8_coarseSize 3 = .ok (.istore 4, 2) := by decide +kernel
theorem dX8_coarseSize_5 : decode cX8_coarseSize 5 = .ok (.iload 4, 2) := by decide +kernel
theorem dX8_coarseSize_7 : decode cX8_coarseSize 7 = .ok (.sipush 256, 3) := by decide +kernel
theorem dX8_coarseSize_10 : decode cX8_coarseSize 10 = .ok (.if_icmp .ge 28, 3) := by decide +kernel
theorem dX8_coarseSize_13 : decode cX8_coarseSize 13 = .ok (.iload_n 3, 1) := by decide +kernel
theorem dX8_coarseSize_14 : decode cX8_coarseSize 14 = .ok (.aload_n 0, 1) := by decide +kernel
theorem dX8_coarseSize_15 : decode cX8_coarseSize 15 = .ok (.iload_n 1, 1) := by decide +kernel
theorem dX8_coarseSize_16 : decode cX8_coarseSize 16 = .ok (.iload 4, 2) := by decide +kernel
theorem dX8_coarseSize_18 : decode cX8_coarseSize 18 = .ok (.invokevirtual 177, 3) := by decide +kernel
theorem dX8_coarseSize_21 : decode cX8_coarseSize 21 = .ok (.iload_n 2, 1) := by decide +kernel
theorem dX8_coarseSize_22 : decode cX8_coarseSize 22 = .ok (.if_icmp .ne 7, 3) := by decide +kernel
theorem dX8_coarseSize_25 : decode cX8_coarseSize 25 = .ok (.iconst 1, 1) := by decide +kernel
theorem dX8_coarseSize_26 : decode cX8_coarseSize 26 = .ok (.goto 4, 3) := by decide +kernel
theorem dX8_coarseSize_29 : decode cX8_coarseSize 29 = .ok (.iconst 0, 1) := by decide +kernel
theorem dX8_coarseSize_30 : decode cX8_coarseSize 30 = .ok (.iadd, 1) := by decide +kernel
theorem dX8_coarseSize_31 : decode cX8_coarseSize 31 = .ok (.istore_n 3, 1) := by decide +kernel
theorem dX8_coarseSize_32 : decode cX8_coarseSize 32 = .ok (.iinc 4 1, 3) := by decide +kernel
theorem dX8_coarseSize_35 : decode cX8_coarseSize 35 = .ok (.goto (-30), 3) := by decide +kernel
theorem dX8_coarseSize_38 : decode cX8_coarseSize 38 = .ok (.iload_n 3, 1) := by decide +kernel
theorem dX8_coarseSize_39 : decode cX8_coarseSize 39 = .ok (.ireturn, 1) := by decide +kernel
theorem dX8_coarseBorder_0 : decode cX8_coarseBorder 0 = .ok (.iconst 0, 1) := by decide +kernel
theorem dX8_coarseBorder_1 : decode cX8_coarseBorder 1 = .ok (.istore 4, 2) := by decide +kernel
theorem dX8_coarseBorder_3 : decode cX8_coarseBorder 3 = .ok (.iconst 0, 1) := by decide +kernel
theorem dX8_coarseBorder_4 : decode cX8_coarseBorder 4 = .ok (.istore 5, 2) := by decide +kernel
theorem dX8_coarseBorder_6 : decode cX8_coarseBorder 6 = .ok (.iload 5, 2) := by decide +kernel
theorem dX8_coarseBorder_8 : decode cX8_coarseBorder 8 = .ok (.sipush 256, 3) := by decide +kernel
theorem dX8_coarseBorder_11 : decode cX8_coarseBorder 11 = .ok (.if_icmp .ge 71, 3) := by decide +kernel
theorem dX8_coarseBorder_14 : decode cX8_coarseBorder 14 = .ok (.iconst 0, 1) := by decide +kernel
theorem dX8_coarseBorder_15 : decode cX8_coarseBorder 15 = .ok (.istore 6, 2) := by decide +kernel
theorem dX8_coarseBorder_17 : decode cX8_coarseBorder 17 = .ok (.iload 6, 2) := by decide +kernel
theorem dX8_coarseBorder_19 : decode cX8_coarseBorder 19 = .ok (.iconst 4, 1) := by decide +kernel
theorem dX8_coarseBorder_20 : decode cX8_coarseBorder 20 = .ok (.if_icmp .ge 56, 3) := by decide +kernel
theorem dX8_coarseBorder_23 : decode cX8_coarseBorder 23 = .ok (.aload_n 0, 1) := by decide +kernel
theorem dX8_coarseBorder_24 : decode cX8_coarseBorder 24 = .ok (.iload_n 1, 1) := by decide +kernel
theorem dX8_coarseBorder_25 : decode cX8_coarseBorder 25 = .ok (.iload 5, 2) := by decide +kernel
theorem dX8_coarseBorder_27 : decode cX8_coarseBorder 27 = .ok (.invokevirtual 177, 3) := by decide +kernel
theorem dX8_coarseBorder_30 : decode cX8_coarseBorder 30 = .ok (.iload_n 2, 1) := by decide +kernel
theorem dX8_coarseBorder_31 : decode cX8_coarseBorder 31 = .ok (.if_icmp .ne 45, 3) := by decide +kernel
theorem dX8_coarseBorder_34 : decode cX8_coarseBorder 34 = .ok (.iload 5, 2) := by decide +kernel
theorem dX8_coarseBorder_36 : decode cX8_coarseBorder 36 = .ok (.iload 6, 2) := by decide +kernel
theorem dX8_coarseBorder_38 : decode cX8_coarseBorder 38 = .ok (.invokestatic 129, 3) := by decide +kernel
theorem dX8_coarseBorder_41 : decode cX8_coarseBorder 41 = .ok (.istore 7, 2) := by decide +kernel
theorem dX8_coarseBorder_43 : decode cX8_coarseBorder 43 = .ok (.iload 4, 2) := by decide +kernel
theorem dX8_coarseBorder_45 : decode cX8_coarseBorder 45 = .ok (.iload 7, 2) := by decide +kernel
theorem dX8_coarseBorder_47 : decode cX8_coarseBorder 47 = .ok (.iconst (-1), 1) := by decide +kernel
theorem dX8_coarseBorder_48 : decode cX8_coarseBorder 48 = .ok (.if_icmp .eq 18, 3) := by decide +kernel
theorem dX8_coarseBorder_51 : decode cX8_coarseBorder 51 = .ok (.aload_n 0, 1) := by decide +kernel
theorem dX8_coarseBorder_52 : decode cX8_coarseBorder 52 = .ok (.iload_n 1, 1) := by decide +kernel
theorem dX8_coarseBorder_53 : decode cX8_coarseBorder 53 = .ok (.iload 7, 2) := by decide +kernel
theorem dX8_coarseBorder_55 : decode cX8_coarseBorder 55 = .ok (.invokevirtual 177, 3) := by decide +kernel
theorem dX8_coarseBorder_58 : decode cX8_coarseBorder 58 = .ok (.iload_n 3, 1) := by decide +kernel
theorem dX8_coarseBorder_59 : decode cX8_coarseBorder 59 = .ok (.if_icmp .ne 7, 3) := by decide +kernel
theorem dX8_coarseBorder_62 : decode cX8_coarseBorder 62 = .ok (.iconst 1, 1) := by decide +kernel
theorem dX8_coarseBorder_63 : decode cX8_coarseBorder 63 = .ok (.goto 4, 3) := by decide +kernel
theorem dX8_coarseBorder_66 : decode cX8_coarseBorder 66 = .ok (.iconst 0, 1) := by decide +kernel
theorem dX8_coarseBorder_67 : decode cX8_coarseBorder 67 = .ok (.iadd, 1) := by decide +kernel
theorem dX8_coarseBorder_68 : decode cX8_coarseBorder 68 = .ok (.istore 4, 2) := by decide +kernel
theorem dX8_coarseBorder_70 : decode cX8_coarseBorder 70 = .ok (.iinc 6 1, 3) := by decide +kernel
theorem dX8_coarseBorder_73 : decode cX8_coarseBorder 73 = .ok (.goto (-56), 3) := by decide +kernel
theorem dX8_coarseBorder_76 : decode cX8_coarseBorder 76 = .ok (.iinc 5 1, 3) := by decide +kernel
theorem dX8_coarseBorder_79 : decode cX8_coarseBorder 79 = .ok (.goto (-73), 3) := by decide +kernel
theorem dX8_coarseBorder_82 : decode cX8_coarseBorder 82 = .ok (.iload 4, 2) := by decide +kernel
theorem dX8_coarseBorder_84 : decode cX8_coarseBorder 84 = .ok (.ireturn, 1) := by decide +kernel
theorem dX8_beside__0 : decode cX8_beside_ 0 = .ok (.iload_n 3, 1) := by decide +kernel
theorem dX8_beside__1 : decode cX8_beside_ 1 = .ok (.istore 4, 2) := by decide +kernel
theorem dX8_beside__3 : decode cX8_beside_ 3 = .ok (.iconst 0, 1) := by decide +kernel
theorem dX8_beside__4 : decode cX8_beside_ 4 = .ok (.istore 5, 2) := by decide +kernel
theorem dX8_beside__6 : decode cX8_beside_ 6 = .ok (.iconst 0, 1) := by decide +kernel
theorem dX8_beside__7 : decode cX8_beside_ 7 = .ok (.istore 6, 2) := by decide +kernel
theorem dX8_beside__9 : decode cX8_beside_ 9 = .ok (.iload 6, 2) := by decide +kernel
theorem dX8_beside__11 : decode cX8_beside_ 11 = .ok (.bipush 10, 2) := by decide +kernel
theorem dX8_beside__13 : decode cX8_beside_ 13 = .ok (.if_icmp .ge 44, 3) := by decide +kernel
theorem dX8_beside__16 : decode cX8_beside_ 16 = .ok (.iload 6, 2) := by decide +kernel
theorem dX8_beside__18 : decode cX8_beside_ 18 = .ok (.iload_n 2, 1) := by decide +kernel
theorem dX8_beside__19 : decode cX8_beside_ 19 = .ok (.if_icmp .ne 7, 3) := by decide +kernel
theorem dX8_beside__22 : decode cX8_beside_ 22 = .ok (.iconst 0, 1) := by decide +kernel
theorem dX8_beside__23 : decode cX8_beside_ 23 = .ok (.goto 11, 3) := by decide +kernel
theorem dX8_beside__26 : decode cX8_beside_ 26 = .ok (.aload_n 0, 1) := by decide +kernel
theorem dX8_beside__27 : decode cX8_beside_ 27 = .ok (.iload_n 1, 1) := by decide +kernel
theorem dX8_beside__28 : decode cX8_beside_ 28 = .ok (.iload_n 2, 1) := by decide +kernel
theorem dX8_beside__29 : decode cX8_beside_ 29 = .ok (.iload 6, 2) := by decide +kernel
theorem dX8_beside__31 : decode cX8_beside_ 31 = .ok (.invokevirtual 180, 3) := by decide +kernel
theorem dX8_beside__34 : decode cX8_beside_ 34 = .ok (.istore 7, 2) := by decide +kernel
theorem dX8_beside__36 : decode cX8_beside_ 36 = .ok (.iload 7, 2) := by decide +kernel
theorem dX8_beside__38 : decode cX8_beside_ 38 = .ok (.iload 5, 2) := by decide +kernel
theorem dX8_beside__40 : decode cX8_beside_ 40 = .ok (.if_icmp .le 11, 3) := by decide +kernel
theorem dX8_beside__43 : decode cX8_beside_ 43 = .ok (.iload 6, 2) := by decide +kernel
theorem dX8_beside__45 : decode cX8_beside_ 45 = .ok (.istore 4, 2) := by decide +kernel
theorem dX8_beside__47 : decode cX8_beside_ 47 = .ok (.iload 7, 2) := by decide +kernel
theorem dX8_beside__49 : decode cX8_beside_ 49 = .ok (.istore 5, 2) := by decide +kernel
theorem dX8_beside__51 : decode cX8_beside_ 51 = .ok (.iinc 6 1, 3) := by decide +kernel
theorem dX8_beside__54 : decode cX8_beside_ 54 = .ok (.goto (-45), 3) := by decide +kernel
theorem dX8_beside__57 : decode cX8_beside_ 57 = .ok (.iload 4, 2) := by decide +kernel
theorem dX8_beside__59 : decode cX8_beside_ 59 = .ok (.ireturn, 1) := by decide +kernel
theorem dX8_coarsens_0 : decode cX8_coarsens 0 = .ok (.iconst 0, 1) := by decide +kernel
theorem dX8_coarsens_1 : decode cX8_coarsens 1 = .ok (.istore_n 3, 1) := by decide +kernel
theorem dX8_coarsens_2 : decode cX8_coarsens 2 = .ok (.iload_n 3, 1) := by decide +kernel
theorem dX8_coarsens_3 : decode cX8_coarsens 3 = .ok (.bipush 10, 2) := by decide +kernel
theorem dX8_coarsens_5 : decode cX8_coarsens 5 = .ok (.if_icmp .ge 16, 3) := by decide +kernel
theorem dX8_coarsens_8 : decode cX8_coarsens 8 = .ok (.aload_n 0, 1) := by decide +kernel
theorem dX8_coarsens_9 : decode cX8_coarsens 9 = .ok (.getfield 76, 3) := by decide +kernel
theorem dX8_coarsens_12 : decode cX8_coarsens 12 = .ok (.iload_n 3, 1) := by decide +kernel
theorem dX8_coarsens_13 : decode cX8_coarsens 13 = .ok (.iload_n 3, 1) := by decide +kernel
theorem dX8_coarsens_14 : decode cX8_coarsens 14 = .ok (.iastore, 1) := by decide +kernel
theorem dX8_coarsens_15 : decode cX8_coarsens 15 = .ok (.iinc 3 1, 3) := by decide +kernel
theorem dX8_coarsens_18 : decode cX8_coarsens 18 = .ok (.goto (-16), 3) := by decide +kernel
theorem dX8_coarsens_21 : decode cX8_coarsens 21 = .ok (.iconst 1, 1) := by decide +kernel
theorem dX8_coarsens_22 : decode cX8_coarsens 22 = .ok (.istore_n 3, 1) := by decide +kernel
theorem dX8_coarsens_23 : decode cX8_coarsens 23 = .ok (.iload_n 3, 1) := by decide +kernel
theorem dX8_coarsens_24 : decode cX8_coarsens 24 = .ok (.ifCond .eq 177, 3) := by decide +kernel
theorem dX8_coarsens_27 : decode cX8_coarsens 27 = .ok (.iconst (-1), 1) := by decide +kernel
theorem dX8_coarsens_28 : decode cX8_coarsens 28 = .ok (.istore 4, 2) := by decide +kernel
theorem dX8_coarsens_30 : decode cX8_coarsens 30 = .ok (.iconst 0, 1) := by decide +kernel
theorem dX8_coarsens_31 : decode cX8_coarsens 31 = .ok (.istore 5, 2) := by decide +kernel
theorem dX8_coarsens_33 : decode cX8_coarsens 33 = .ok (.iload 5, 2) := by decide +kernel
theorem dX8_coarsens_35 : decode cX8_coarsens 35 = .ok (.bipush 10, 2) := by decide +kernel
theorem dX8_coarsens_37 : decode cX8_coarsens 37 = .ok (.if_icmp .ge 80, 3) := by decide +kernel
theorem dX8_coarsens_40 : decode cX8_coarsens 40 = .ok (.aload_n 0, 1) := by decide +kernel
theorem dX8_coarsens_41 : decode cX8_coarsens 41 = .ok (.iload_n 1, 1) := by decide +kernel
theorem dX8_coarsens_42 : decode cX8_coarsens 42 = .ok (.iload 5, 2) := by decide +kernel
theorem dX8_coarsens_44 : decode cX8_coarsens 44 = .ok (.invokevirtual 183, 3) := by decide +kernel
theorem dX8_coarsens_47 : decode cX8_coarsens 47 = .ok (.istore 6, 2) := by decide +kernel
theorem dX8_coarsens_49 : decode cX8_coarsens 49 = .ok (.iload 6, 2) := by decide +kernel
theorem dX8_coarsens_51 : decode cX8_coarsens 51 = .ok (.ifCond .le 25, 3) := by decide +kernel
theorem dX8_coarsens_54 : decode cX8_coarsens 54 = .ok (.iload 6, 2) := by decide +kernel
theorem dX8_coarsens_56 : decode cX8_coarsens 56 = .ok (.iload_n 2, 1) := by decide +kernel
theorem dX8_coarsens_57 : decode cX8_coarsens 57 = .ok (.if_icmp .ge 19, 3) := by decide +kernel
theorem dX8_coarsens_60 : decode cX8_coarsens 60 = .ok (.aload_n 0, 1) := by decide +kernel
theorem dX8_coarsens_61 : decode cX8_coarsens 61 = .ok (.iload_n 1, 1) := by decide +kernel
theorem dX8_coarsens_62 : decode cX8_coarsens 62 = .ok (.iload 5, 2) := by decide +kernel
theorem dX8_coarsens_64 : decode cX8_coarsens 64 = .ok (.iconst (-1), 1) := by decide +kernel
theorem dX8_coarsens_65 : decode cX8_coarsens 65 = .ok (.invokevirtual 186, 3) := by decide +kernel
theorem dX8_coarsens_68 : decode cX8_coarsens 68 = .ok (.iconst (-1), 1) := by decide +kernel
theorem dX8_coarsens_69 : decode cX8_coarsens 69 = .ok (.if_icmp .eq 7, 3) := by decide +kernel
theorem dX8_coarsens_72 : decode cX8_coarsens 72 = .ok (.iconst 1, 1) := by decide +kernel
theorem dX8_coarsens_73 : decode cX8_coarsens 73 = .ok (.goto 4, 3) := by decide +kernel
theorem dX8_coarsens_76 : decode cX8_coarsens 76 = .ok (.iconst 0, 1) := by decide +kernel
theorem dX8_coarsens_77 : decode cX8_coarsens 77 = .ok (.istore 7, 2) := by decide +kernel
theorem dX8_coarsens_79 : decode cX8_coarsens 79 = .ok (.iload 7, 2) := by decide +kernel
theorem dX8_coarsens_81 : decode cX8_coarsens 81 = .ok (.ifCond .eq 26, 3) := by decide +kernel
theorem dX8_coarsens_84 : decode cX8_coarsens 84 = .ok (.iload 4, 2) := by decide +kernel
theorem dX8_coarsens_86 : decode cX8_coarsens 86 = .ok (.iconst (-1), 1) := by decide +kernel
theorem dX8_coarsens_87 : decode cX8_coarsens 87 = .ok (.if_icmp .eq 15, 3) := by decide +kernel
theorem dX8_coarsens_90 : decode cX8_coarsens 90 = .ok (.iload 6, 2) := by decide +kernel
theorem dX8_coarsens_92 : decode cX8_coarsens 92 = .ok (.aload_n 0, 1) := by decide +kernel
theorem dX8_coarsens_93 : decode cX8_coarsens 93 = .ok (.iload_n 1, 1) := by decide +kernel
theorem dX8_coarsens_94 : decode cX8_coarsens 94 = .ok (.iload 4, 2) := by decide +kernel
theorem dX8_coarsens_96 : decode cX8_coarsens 96 = .ok (.invokevirtual 183, 3) := by decide +kernel
theorem dX8_coarsens_99 : decode cX8_coarsens 99 = .ok (.if_icmp .ge 8, 3) := by decide +kernel
theorem dX8_coarsens_102 : decode cX8_coarsens 102 = .ok (.iload 5, 2) := by decide +kernel
theorem dX8_coarsens_104 : decode cX8_coarsens 104 = .ok (.goto 5, 3) := by decide +kernel
theorem dX8_coarsens_107 : decode cX8_coarsens 107 = .ok (.iload 4, 2) := by decide +kernel
theorem dX8_coarsens_109 : decode cX8_coarsens 109 = .ok (.istore 4, 2) := by decide +kernel
theorem dX8_coarsens_111 : decode cX8_coarsens 111 = .ok (.iinc 5 1, 3) := by decide +kernel
theorem dX8_coarsens_114 : decode cX8_coarsens 114 = .ok (.goto (-81), 3) := by decide +kernel
theorem dX8_coarsens_117 : decode cX8_coarsens 117 = .ok (.iload 4, 2) := by decide +kernel
theorem dX8_coarsens_119 : decode cX8_coarsens 119 = .ok (.iconst (-1), 1) := by decide +kernel
theorem dX8_coarsens_120 : decode cX8_coarsens 120 = .ok (.if_icmp .eq 7, 3) := by decide +kernel
theorem dX8_coarsens_123 : decode cX8_coarsens 123 = .ok (.iconst 1, 1) := by decide +kernel
theorem dX8_coarsens_124 : decode cX8_coarsens 124 = .ok (.goto 4, 3) := by decide +kernel
theorem dX8_coarsens_127 : decode cX8_coarsens 127 = .ok (.iconst 0, 1) := by decide +kernel
theorem dX8_coarsens_128 : decode cX8_coarsens 128 = .ok (.istore_n 3, 1) := by decide +kernel
theorem dX8_coarsens_129 : decode cX8_coarsens 129 = .ok (.iload_n 3, 1) := by decide +kernel
theorem dX8_coarsens_130 : decode cX8_coarsens 130 = .ok (.ifCond .eq 14, 3) := by decide +kernel
theorem dX8_coarsens_133 : decode cX8_coarsens 133 = .ok (.aload_n 0, 1) := by decide +kernel
theorem dX8_coarsens_134 : decode cX8_coarsens 134 = .ok (.iload_n 1, 1) := by decide +kernel
theorem dX8_coarsens_135 : decode cX8_coarsens 135 = .ok (.iload 4, 2) := by decide +kernel
theorem dX8_coarsens_137 : decode cX8_coarsens 137 = .ok (.iconst (-1), 1) := by decide +kernel
theorem dX8_coarsens_138 : decode cX8_coarsens 138 = .ok (.invokevirtual 186, 3) := by decide +kernel
theorem dX8_coarsens_141 : decode cX8_coarsens 141 = .ok (.goto 4, 3) := by decide +kernel
theorem dX8_coarsens_144 : decode cX8_coarsens 144 = .ok (.iconst (-1), 1) := by decide +kernel
theorem dX8_coarsens_145 : decode cX8_coarsens 145 = .ok (.istore 5, 2) := by decide +kernel
theorem dX8_coarsens_147 : decode cX8_coarsens 147 = .ok (.iconst 0, 1) := by decide +kernel
theorem dX8_coarsens_148 : decode cX8_coarsens 148 = .ok (.istore 6, 2) := by decide +kernel
theorem dX8_coarsens_150 : decode cX8_coarsens 150 = .ok (.iload 6, 2) := by decide +kernel
theorem dX8_coarsens_152 : decode cX8_coarsens 152 = .ok (.bipush 10, 2) := by decide +kernel
theorem dX8_coarsens_154 : decode cX8_coarsens 154 = .ok (.if_icmp .ge 44, 3) := by decide +kernel
theorem dX8_coarsens_157 : decode cX8_coarsens 157 = .ok (.iload_n 3, 1) := by decide +kernel
theorem dX8_coarsens_158 : decode cX8_coarsens 158 = .ok (.ifCond .eq 40, 3) := by decide +kernel
theorem dX8_coarsens_161 : decode cX8_coarsens 161 = .ok (.aload_n 0, 1) := by decide +kernel
theorem dX8_coarsens_162 : decode cX8_coarsens 162 = .ok (.getfield 76, 3) := by decide +kernel
theorem dX8_coarsens_165 : decode cX8_coarsens 165 = .ok (.iload 6, 2) := by decide +kernel
theorem dX8_coarsens_167 : decode cX8_coarsens 167 = .ok (.aload_n 0, 1) := by decide +kernel
theorem dX8_coarsens_168 : decode cX8_coarsens 168 = .ok (.getfield 76, 3) := by decide +kernel
theorem dX8_coarsens_171 : decode cX8_coarsens 171 = .ok (.iload 6, 2) := by decide +kernel
theorem dX8_coarsens_173 : decode cX8_coarsens 173 = .ok (.iaload, 1) := by decide +kernel
theorem dX8_coarsens_174 : decode cX8_coarsens 174 = .ok (.iload 4, 2) := by decide +kernel
theorem dX8_coarsens_176 : decode cX8_coarsens 176 = .ok (.if_icmp .ne 8, 3) := by decide +kernel
theorem dX8_coarsens_179 : decode cX8_coarsens 179 = .ok (.iload 5, 2) := by decide +kernel
theorem dX8_coarsens_181 : decode cX8_coarsens 181 = .ok (.goto 10, 3) := by decide +kernel
theorem dX8_coarsens_184 : decode cX8_coarsens 184 = .ok (.aload_n 0, 1) := by decide +kernel
theorem dX8_coarsens_185 : decode cX8_coarsens 185 = .ok (.getfield 76, 3) := by decide +kernel
theorem dX8_coarsens_188 : decode cX8_coarsens 188 = .ok (.iload 6, 2) := by decide +kernel
theorem dX8_coarsens_190 : decode cX8_coarsens 190 = .ok (.iaload, 1) := by decide +kernel
theorem dX8_coarsens_191 : decode cX8_coarsens 191 = .ok (.iastore, 1) := by decide +kernel
theorem dX8_coarsens_192 : decode cX8_coarsens 192 = .ok (.iinc 6 1, 3) := by decide +kernel
theorem dX8_coarsens_195 : decode cX8_coarsens 195 = .ok (.goto (-45), 3) := by decide +kernel
theorem dX8_coarsens_198 : decode cX8_coarsens 198 = .ok (.goto (-175), 3) := by decide +kernel
theorem dX8_coarsens_201 : decode cX8_coarsens 201 = .ok (.return_, 1) := by decide +kernel
theorem dX8_coarse_0 : decode cX8_coarse 0 = .ok (.aload_n 0, 1) := by decide +kernel
theorem dX8_coarse_1 : decode cX8_coarse 1 = .ok (.iconst 0, 1) := by decide +kernel
theorem dX8_coarse_2 : decode cX8_coarse 2 = .ok (.putfield 85, 3) := by decide +kernel
theorem dX8_coarse_5 : decode cX8_coarse 5 = .ok (.iload_n 1, 1) := by decide +kernel
theorem dX8_coarse_6 : decode cX8_coarse 6 = .ok (.invokestatic 106, 3) := by decide +kernel
theorem dX8_coarse_9 : decode cX8_coarse 9 = .ok (.ifCond .ne 9, 3) := by decide +kernel
theorem dX8_coarse_12 : decode cX8_coarse 12 = .ok (.aload_n 0, 1) := by decide +kernel
theorem dX8_coarse_13 : decode cX8_coarse 13 = .ok (.iconst 1, 1) := by decide +kernel
theorem dX8_coarse_14 : decode cX8_coarse 14 = .ok (.invokevirtual 96, 3) := by decide +kernel
theorem dX8_coarse_17 : decode cX8_coarse 17 = .ok (.ireturn, 1) := by decide +kernel
theorem dX8_coarse_18 : decode cX8_coarse 18 = .ok (.iload_n 2, 1) := by decide +kernel
theorem dX8_coarse_19 : decode cX8_coarse 19 = .ok (.iconst 1, 1) := by decide +kernel
theorem dX8_coarse_20 : decode cX8_coarse 20 = .ok (.sipush 256, 3) := by decide +kernel
theorem dX8_coarse_23 : decode cX8_coarse 23 = .ok (.invokestatic 88, 3) := by decide +kernel
theorem dX8_coarse_26 : decode cX8_coarse 26 = .ok (.ifCond .eq 10, 3) := by decide +kernel
theorem dX8_coarse_29 : decode cX8_coarse 29 = .ok (.iload_n 3, 1) := by decide +kernel
theorem dX8_coarse_30 : decode cX8_coarse 30 = .ok (.invokestatic 110, 3) := by decide +kernel
theorem dX8_coarse_33 : decode cX8_coarse 33 = .ok (.ifCond .ne 9, 3) := by decide +kernel
theorem dX8_coarse_36 : decode cX8_coarse 36 = .ok (.aload_n 0, 1) := by decide +kernel
theorem dX8_coarse_37 : decode cX8_coarse 37 = .ok (.iconst 2, 1) := by decide +kernel
theorem dX8_coarse_38 : decode cX8_coarse 38 = .ok (.invokevirtual 96, 3) := by decide +kernel
theorem dX8_coarse_41 : decode cX8_coarse 41 = .ok (.ireturn, 1) := by decide +kernel
theorem dX8_coarse_42 : decode cX8_coarse 42 = .ok (.aload_n 0, 1) := by decide +kernel
theorem dX8_coarse_43 : decode cX8_coarse 43 = .ok (.iload_n 1, 1) := by decide +kernel
theorem dX8_coarse_44 : decode cX8_coarse 44 = .ok (.iload_n 3, 1) := by decide +kernel
theorem dX8_coarse_45 : decode cX8_coarse 45 = .ok (.invokevirtual 103, 3) := by decide +kernel
theorem dX8_coarse_48 : decode cX8_coarse 48 = .ok (.ifCond .ne 9, 3) := by decide +kernel
theorem dX8_coarse_51 : decode cX8_coarse 51 = .ok (.aload_n 0, 1) := by decide +kernel
theorem dX8_coarse_52 : decode cX8_coarse 52 = .ok (.iconst 3, 1) := by decide +kernel
theorem dX8_coarse_53 : decode cX8_coarse 53 = .ok (.invokevirtual 96, 3) := by decide +kernel
theorem dX8_coarse_56 : decode cX8_coarse 56 = .ok (.ireturn, 1) := by decide +kernel
theorem dX8_coarse_57 : decode cX8_coarse 57 = .ok (.aload_n 0, 1) := by decide +kernel
theorem dX8_coarse_58 : decode cX8_coarse 58 = .ok (.iload_n 1, 1) := by decide +kernel
theorem dX8_coarse_59 : decode cX8_coarse 59 = .ok (.iload_n 2, 1) := by decide +kernel
theorem dX8_coarse_60 : decode cX8_coarse 60 = .ok (.invokevirtual 188, 3) := by decide +kernel
theorem dX8_coarse_63 : decode cX8_coarse 63 = .ok (.aload_n 0, 1) := by decide +kernel
theorem dX8_coarse_64 : decode cX8_coarse 64 = .ok (.getfield 76, 3) := by decide +kernel
theorem dX8_coarse_67 : decode cX8_coarse 67 = .ok (.iload_n 3, 1) := by decide +kernel
theorem dX8_coarse_68 : decode cX8_coarse 68 = .ok (.iaload, 1) := by decide +kernel
theorem dX8_coarse_69 : decode cX8_coarse 69 = .ok (.ireturn, 1) := by decide +kernel
theorem dX8_coarseAreas_0 : decode cX8_coarseAreas 0 = .ok (.aload_n 0, 1) := by decide +kernel
theorem dX8_coarseAreas_1 : decode cX8_coarseAreas 1 = .ok (.iconst 0, 1) := by decide +kernel
theorem dX8_coarseAreas_2 : decode cX8_coarseAreas 2 = .ok (.putfield 85, 3) := by decide +kernel
theorem dX8_coarseAreas_5 : decode cX8_coarseAreas 5 = .ok (.iload_n 1, 1) := by decide +kernel
theorem dX8_coarseAreas_6 : decode cX8_coarseAreas 6 = .ok (.invokestatic 106, 3) := by decide +kernel
theorem dX8_coarseAreas_9 : decode cX8_coarseAreas 9 = .ok (.ifCond .ne 9, 3) := by decide +kernel
theorem dX8_coarseAreas_12 : decode cX8_coarseAreas 12 = .ok (.aload_n 0, 1) := by decide +kernel
theorem dX8_coarseAreas_13 : decode cX8_coarseAreas 13 = .ok (.iconst 1, 1) := by decide +kernel
theorem dX8_coarseAreas_14 : decode cX8_coarseAreas 14 = .ok (.invokevirtual 96, 3) := by decide +kernel
theorem dX8_coarseAreas_17 : decode cX8_coarseAreas 17 = .ok (.ireturn, 1) := by decide +kernel
theorem dX8_coarseAreas_18 : decode cX8_coarseAreas 18 = .ok (.iload_n 2, 1) := by decide +kernel
theorem dX8_coarseAreas_19 : decode cX8_coarseAreas 19 = .ok (.iconst 1, 1) := by decide +kernel
theorem dX8_coarseAreas_20 : decode cX8_coarseAreas 20 = .ok (.sipush 256, 3) := by decide +kernel
theorem dX8_coarseAreas_23 : decode cX8_coarseAreas 23 = .ok (.invokestatic 88, 3) := by decide +kernel
theorem dX8_coarseAreas_26 : decode cX8_coarseAreas 26 = .ok (.ifCond .ne 9, 3) := by decide +kernel
theorem dX8_coarseAreas_29 : decode cX8_coarseAreas 29 = .ok (.aload_n 0, 1) := by decide +kernel
theorem dX8_coarseAreas_30 : decode cX8_coarseAreas 30 = .ok (.iconst 2, 1) := by decide +kernel
theorem dX8_coarseAreas_31 : decode cX8_coarseAreas 31 = .ok (.invokevirtual 96, 3) := by decide +kernel
theorem dX8_coarseAreas_34 : decode cX8_coarseAreas 34 = .ok (.ireturn, 1) := by decide +kernel
theorem dX8_coarseAreas_35 : decode cX8_coarseAreas 35 = .ok (.aload_n 0, 1) := by decide +kernel
theorem dX8_coarseAreas_36 : decode cX8_coarseAreas 36 = .ok (.iload_n 1, 1) := by decide +kernel
theorem dX8_coarseAreas_37 : decode cX8_coarseAreas 37 = .ok (.iload_n 2, 1) := by decide +kernel
theorem dX8_coarseAreas_38 : decode cX8_coarseAreas 38 = .ok (.invokevirtual 188, 3) := by decide +kernel
theorem dX8_coarseAreas_41 : decode cX8_coarseAreas 41 = .ok (.iconst 0, 1) := by decide +kernel
theorem dX8_coarseAreas_42 : decode cX8_coarseAreas 42 = .ok (.istore_n 3, 1) := by decide +kernel
theorem dX8_coarseAreas_43 : decode cX8_coarseAreas 43 = .ok (.iconst 0, 1) := by decide +kernel
theorem dX8_coarseAreas_44 : decode cX8_coarseAreas 44 = .ok (.istore 4, 2) := by decide +kernel
theorem dX8_coarseAreas_46 : decode cX8_coarseAreas 46 = .ok (.iload 4, 2) := by decide +kernel
theorem dX8_coarseAreas_48 : decode cX8_coarseAreas 48 = .ok (.bipush 10, 2) := by decide +kernel
theorem dX8_coarseAreas_50 : decode cX8_coarseAreas 50 = .ok (.if_icmp .ge 27, 3) := by decide +kernel
theorem dX8_coarseAreas_53 : decode cX8_coarseAreas 53 = .ok (.iload_n 3, 1) := by decide +kernel
theorem dX8_coarseAreas_54 : decode cX8_coarseAreas 54 = .ok (.aload_n 0, 1) := by decide +kernel
theorem dX8_coarseAreas_55 : decode cX8_coarseAreas 55 = .ok (.iload_n 1, 1) := by decide +kernel
theorem dX8_coarseAreas_56 : decode cX8_coarseAreas 56 = .ok (.iload 4, 2) := by decide +kernel
theorem dX8_coarseAreas_58 : decode cX8_coarseAreas 58 = .ok (.invokevirtual 183, 3) := by decide +kernel
theorem dX8_coarseAreas_61 : decode cX8_coarseAreas 61 = .ok (.ifCond .le 7, 3) := by decide +kernel
theorem dX8_coarseAreas_64 : decode cX8_coarseAreas 64 = .ok (.iconst 1, 1) := by decide +kernel
theorem dX8_coarseAreas_65 : decode cX8_coarseAreas 65 = .ok (.goto 4, 3) := by decide +kernel
theorem dX8_coarseAreas_68 : decode cX8_coarseAreas 68 = .ok (.iconst 0, 1) := by decide +kernel
theorem dX8_coarseAreas_69 : decode cX8_coarseAreas 69 = .ok (.iadd, 1) := by decide +kernel
theorem dX8_coarseAreas_70 : decode cX8_coarseAreas 70 = .ok (.istore_n 3, 1) := by decide +kernel
theorem dX8_coarseAreas_71 : decode cX8_coarseAreas 71 = .ok (.iinc 4 1, 3) := by decide +kernel
theorem dX8_coarseAreas_74 : decode cX8_coarseAreas 74 = .ok (.goto (-28), 3) := by decide +kernel
theorem dX8_coarseAreas_77 : decode cX8_coarseAreas 77 = .ok (.iload_n 3, 1) := by decide +kernel
theorem dX8_coarseAreas_78 : decode cX8_coarseAreas 78 = .ok (.ireturn, 1) := by decide +kernel
theorem dX8_name_0 : decode cX8_name 0 = .ok (.aload_n 0, 1) := by decide +kernel
theorem dX8_name_1 : decode cX8_name 1 = .ok (.iload_n 1, 1) := by decide +kernel
theorem dX8_name_2 : decode cX8_name 2 = .ok (.iload_n 2, 1) := by decide +kernel
theorem dX8_name_3 : decode cX8_name 3 = .ok (.invokevirtual 136, 3) := by decide +kernel
theorem dX8_name_6 : decode cX8_name 6 = .ok (.ifCond .ne 5, 3) := by decide +kernel
theorem dX8_name_9 : decode cX8_name 9 = .ok (.iconst 0, 1) := by decide +kernel
theorem dX8_name_10 : decode cX8_name 10 = .ok (.ireturn, 1) := by decide +kernel
theorem dX8_name_11 : decode cX8_name 11 = .ok (.iload_n 3, 1) := by decide +kernel
theorem dX8_name_12 : decode cX8_name 12 = .ok (.iconst 0, 1) := by decide +kernel
theorem dX8_name_13 : decode cX8_name 13 = .ok (.bipush 6, 2) := by decide +kernel
theorem dX8_name_15 : decode cX8_name 15 = .ok (.invokestatic 88, 3) := by decide +kernel
theorem dX8_name_18 : decode cX8_name 18 = .ok (.ifCond .ne 9, 3) := by decide +kernel
theorem dX8_name_21 : decode cX8_name 21 = .ok (.aload_n 0, 1) := by decide +kernel
theorem dX8_name_22 : decode cX8_name 22 = .ok (.iconst 2, 1) := by decide +kernel
theorem dX8_name_23 : decode cX8_name 23 = .ok (.invokevirtual 96, 3) := by decide +kernel
theorem dX8_name_26 : decode cX8_name 26 = .ok (.ireturn, 1) := by decide +kernel
theorem dX8_name_27 : decode cX8_name 27 = .ok (.aload_n 0, 1) := by decide +kernel
theorem dX8_name_28 : decode cX8_name 28 = .ok (.getfield 24, 3) := by decide +kernel
theorem dX8_name_31 : decode cX8_name 31 = .ok (.bipush 10, 2) := by decide +kernel
theorem dX8_name_33 : decode cX8_name 33 = .ok (.iload_n 1, 1) := by decide +kernel
theorem dX8_name_34 : decode cX8_name 34 = .ok (.imul, 1) := by decide +kernel
theorem dX8_name_35 : decode cX8_name 35 = .ok (.iload_n 2, 1) := by decide +kernel
theorem dX8_name_36 : decode cX8_name 36 = .ok (.iadd, 1) := by decide +kernel
theorem dX8_name_37 : decode cX8_name 37 = .ok (.iaload, 1) := by decide +kernel
theorem dX8_name_38 : decode cX8_name 38 = .ok (.istore 4, 2) := by decide +kernel
theorem dX8_name_40 : decode cX8_name 40 = .ok (.aload_n 0, 1) := by decide +kernel
theorem dX8_name_41 : decode cX8_name 41 = .ok (.getfield 24, 3) := by decide +kernel
theorem dX8_name_44 : decode cX8_name 44 = .ok (.bipush 10, 2) := by decide +kernel
theorem dX8_name_46 : decode cX8_name 46 = .ok (.iload_n 1, 1) := by decide +kernel
theorem dX8_name_47 : decode cX8_name 47 = .ok (.imul, 1) := by decide +kernel
theorem dX8_name_48 : decode cX8_name 48 = .ok (.iload_n 2, 1) := by decide +kernel
theorem dX8_name_49 : decode cX8_name 49 = .ok (.iadd, 1) := by decide +kernel
theorem dX8_name_50 : decode cX8_name 50 = .ok (.iload_n 3, 1) := by decide +kernel
theorem dX8_name_51 : decode cX8_name 51 = .ok (.iastore, 1) := by decide +kernel
theorem dX8_name_52 : decode cX8_name 52 = .ok (.iload 4, 2) := by decide +kernel
theorem dX8_name_54 : decode cX8_name 54 = .ok (.ireturn, 1) := by decide +kernel
theorem dX8_canStand_0 : decode cX8_canStand 0 = .ok (.aload_n 0, 1) := by decide +kernel
theorem dX8_canStand_1 : decode cX8_canStand 1 = .ok (.getfield 24, 3) := by decide +kernel
theorem dX8_canStand_4 : decode cX8_canStand 4 = .ok (.bipush 10, 2) := by decide +kernel
theorem dX8_canStand_6 : decode cX8_canStand 6 = .ok (.iload_n 1, 1) := by decide +kernel
theorem dX8_canStand_7 : decode cX8_canStand 7 = .ok (.imul, 1) := by decide +kernel
theorem dX8_canStand_8 : decode cX8_canStand 8 = .ok (.iload_n 2, 1) := by decide +kernel
theorem dX8_canStand_9 : decode cX8_canStand 9 = .ok (.iadd, 1) := by decide +kernel
theorem dX8_canStand_10 : decode cX8_canStand 10 = .ok (.iaload, 1) := by decide +kernel
theorem dX8_canStand_11 : decode cX8_canStand 11 = .ok (.istore 4, 2) := by decide +kernel
theorem dX8_canStand_13 : decode cX8_canStand 13 = .ok (.iload_n 3, 1) := by decide +kernel
theorem dX8_canStand_14 : decode cX8_canStand 14 = .ok (.bipush 16, 2) := by decide +kernel
theorem dX8_canStand_16 : decode cX8_canStand 16 = .ok (.irem, 1) := by decide +kernel
theorem dX8_canStand_17 : decode cX8_canStand 17 = .ok (.iload 4, 2) := by decide +kernel
theorem dX8_canStand_19 : decode cX8_canStand 19 = .ok (.iadd, 1) := by decide +kernel
theorem dX8_canStand_20 : decode cX8_canStand 20 = .ok (.bipush 16, 2) := by decide +kernel
theorem dX8_canStand_22 : decode cX8_canStand 22 = .ok (.if_icmp .le 5, 3) := by decide +kernel
theorem dX8_canStand_25 : decode cX8_canStand 25 = .ok (.iconst 0, 1) := by decide +kernel
theorem dX8_canStand_26 : decode cX8_canStand 26 = .ok (.ireturn, 1) := by decide +kernel
theorem dX8_canStand_27 : decode cX8_canStand 27 = .ok (.iload_n 3, 1) := by decide +kernel
theorem dX8_canStand_28 : decode cX8_canStand 28 = .ok (.istore 5, 2) := by decide +kernel
theorem dX8_canStand_30 : decode cX8_canStand 30 = .ok (.iload 5, 2) := by decide +kernel
theorem dX8_canStand_32 : decode cX8_canStand 32 = .ok (.iload_n 3, 1) := by decide +kernel
theorem dX8_canStand_33 : decode cX8_canStand 33 = .ok (.iload 4, 2) := by decide +kernel
theorem dX8_canStand_35 : decode cX8_canStand 35 = .ok (.iadd, 1) := by decide +kernel
theorem dX8_canStand_36 : decode cX8_canStand 36 = .ok (.if_icmp .ge 96, 3) := by decide +kernel
theorem dX8_canStand_39 : decode cX8_canStand 39 = .ok (.aload_n 0, 1) := by decide +kernel
theorem dX8_canStand_40 : decode cX8_canStand 40 = .ok (.iload_n 1, 1) := by decide +kernel
theorem dX8_canStand_41 : decode cX8_canStand 41 = .ok (.iload 5, 2) := by decide +kernel
theorem dX8_canStand_43 : decode cX8_canStand 43 = .ok (.invokevirtual 92, 3) := by decide +kernel
theorem dX8_canStand_46 : decode cX8_canStand 46 = .ok (.iload_n 2, 1) := by decide +kernel
theorem dX8_canStand_47 : decode cX8_canStand 47 = .ok (.if_icmp .ne 17, 3) := by decide +kernel
theorem dX8_canStand_50 : decode cX8_canStand 50 = .ok (.aload_n 0, 1) := by decide +kernel
theorem dX8_canStand_51 : decode cX8_canStand 51 = .ok (.getfield 82, 3) := by decide +kernel
theorem dX8_canStand_54 : decode cX8_canStand 54 = .ok (.iload 5, 2) := by decide +kernel
theorem dX8_canStand_56 : decode cX8_canStand 56 = .ok (.baload, 1) := by decide +kernel
theorem dX8_canStand_57 : decode cX8_canStand 57 = .ok (.ifCond .ne 7, 3) := by decide +kernel
theorem dX8_canStand_60 : decode cX8_canStand 60 = .ok (.iconst 1, 1) := by decide +kernel
theorem dX8_canStand_61 : decode cX8_canStand 61 = .ok (.goto 4, 3) := by decide +kernel
theorem dX8_canStand_64 : decode cX8_canStand 64 = .ok (.iconst 0, 1) := by decide +kernel
theorem dX8_canStand_65 : decode cX8_canStand 65 = .ok (.istore 6, 2) := by decide +kernel
theorem dX8_canStand_67 : decode cX8_canStand 67 = .ok (.iconst 0, 1) := by decide +kernel
theorem dX8_canStand_68 : decode cX8_canStand 68 = .ok (.istore 7, 2) := by decide +kernel
theorem dX8_canStand_70 : decode cX8_canStand 70 = .ok (.iload 7, 2) := by decide +kernel
theorem dX8_canStand_72 : decode cX8_canStand 72 = .ok (.iconst 4, 1) := by decide +kernel
theorem dX8_canStand_73 : decode cX8_canStand 73 = .ok (.if_icmp .ge 46, 3) := by decide +kernel
theorem dX8_canStand_76 : decode cX8_canStand 76 = .ok (.iload 5, 2) := by decide +kernel
theorem dX8_canStand_78 : decode cX8_canStand 78 = .ok (.iload 7, 2) := by decide +kernel
theorem dX8_canStand_80 : decode cX8_canStand 80 = .ok (.invokestatic 129, 3) := by decide +kernel
theorem dX8_canStand_83 : decode cX8_canStand 83 = .ok (.istore 8, 2) := by decide +kernel
theorem dX8_canStand_85 : decode cX8_canStand 85 = .ok (.iload 6, 2) := by decide +kernel
theorem dX8_canStand_87 : decode cX8_canStand 87 = .ok (.ifCond .eq 23, 3) := by decide +kernel
theorem dX8_canStand_90 : decode cX8_canStand 90 = .ok (.iload 8, 2) := by decide +kernel
theorem dX8_canStand_92 : decode cX8_canStand 92 = .ok (.iconst (-1), 1) := by decide +kernel
theorem dX8_canStand_93 : decode cX8_canStand 93 = .ok (.if_icmp .eq 13, 3) := by decide +kernel
theorem dX8_canStand_96 : decode cX8_canStand 96 = .ok (.aload_n 0, 1) := by decide +kernel
theorem dX8_canStand_97 : decode cX8_canStand 97 = .ok (.getfield 82, 3) := by decide +kernel
theorem dX8_canStand_100 : decode cX8_canStand 100 = .ok (.iload 8, 2) := by decide +kernel
theorem dX8_canStand_102 : decode cX8_canStand 102 = .ok (.baload, 1) := by decide +kernel
theorem dX8_canStand_103 : decode cX8_canStand 103 = .ok (.ifCond .ne 7, 3) := by decide +kernel
theorem dX8_canStand_106 : decode cX8_canStand 106 = .ok (.iconst 1, 1) := by decide +kernel
theorem dX8_canStand_107 : decode cX8_canStand 107 = .ok (.goto 4, 3) := by decide +kernel
theorem dX8_canStand_110 : decode cX8_canStand 110 = .ok (.iconst 0, 1) := by decide +kernel
theorem dX8_canStand_111 : decode cX8_canStand 111 = .ok (.istore 6, 2) := by decide +kernel
theorem dX8_canStand_113 : decode cX8_canStand 113 = .ok (.iinc 7 1, 3) := by decide +kernel
theorem dX8_canStand_116 : decode cX8_canStand 116 = .ok (.goto (-46), 3) := by decide +kernel
theorem dX8_canStand_119 : decode cX8_canStand 119 = .ok (.iload 6, 2) := by decide +kernel
theorem dX8_canStand_121 : decode cX8_canStand 121 = .ok (.ifCond .ne 5, 3) := by decide +kernel
theorem dX8_canStand_124 : decode cX8_canStand 124 = .ok (.iconst 0, 1) := by decide +kernel
theorem dX8_canStand_125 : decode cX8_canStand 125 = .ok (.ireturn, 1) := by decide +kernel
theorem dX8_canStand_126 : decode cX8_canStand 126 = .ok (.iinc 5 1, 3) := by decide +kernel
theorem dX8_canStand_129 : decode cX8_canStand 129 = .ok (.goto (-99), 3) := by decide +kernel
theorem dX8_canStand_132 : decode cX8_canStand 132 = .ok (.iconst 1, 1) := by decide +kernel
theorem dX8_canStand_133 : decode cX8_canStand 133 = .ok (.ireturn, 1) := by decide +kernel
theorem dX8_places_0 : decode cX8_places 0 = .ok (.iconst 0, 1) := by decide +kernel
theorem dX8_places_1 : decode cX8_places 1 = .ok (.istore_n 3, 1) := by decide +kernel
theorem dX8_places_2 : decode cX8_places 2 = .ok (.iconst 0, 1) := by decide +kernel
theorem dX8_places_3 : decode cX8_places 3 = .ok (.istore 4, 2) := by decide +kernel
theorem dX8_places_5 : decode cX8_places 5 = .ok (.aload_n 0, 1) := by decide +kernel
theorem dX8_places_6 : decode cX8_places 6 = .ok (.iload_n 1, 1) := by decide +kernel
theorem dX8_places_7 : decode cX8_places 7 = .ok (.iload_n 2, 1) := by decide +kernel
theorem dX8_places_8 : decode cX8_places 8 = .ok (.invokevirtual 103, 3) := by decide +kernel
theorem dX8_places_11 : decode cX8_places 11 = .ok (.istore 5, 2) := by decide +kernel
theorem dX8_places_13 : decode cX8_places 13 = .ok (.iconst 0, 1) := by decide +kernel
theorem dX8_places_14 : decode cX8_places 14 = .ok (.istore 6, 2) := by decide +kernel
theorem dX8_places_16 : decode cX8_places 16 = .ok (.iload 6, 2) := by decide +kernel
theorem dX8_places_18 : decode cX8_places 18 = .ok (.sipush 256, 3) := by decide +kernel
theorem dX8_places_21 : decode cX8_places 21 = .ok (.if_icmp .ge 57, 3) := by decide +kernel
theorem dX8_places_24 : decode cX8_places 24 = .ok (.iload_n 3, 1) := by decide +kernel
theorem dX8_places_25 : decode cX8_places 25 = .ok (.aload_n 0, 1) := by decide +kernel
theorem dX8_places_26 : decode cX8_places 26 = .ok (.iload_n 1, 1) := by decide +kernel
theorem dX8_places_27 : decode cX8_places 27 = .ok (.iload 6, 2) := by decide +kernel
theorem dX8_places_29 : decode cX8_places 29 = .ok (.invokevirtual 92, 3) := by decide +kernel
theorem dX8_places_32 : decode cX8_places 32 = .ok (.iload_n 2, 1) := by decide +kernel
theorem dX8_places_33 : decode cX8_places 33 = .ok (.if_icmp .ne 11, 3) := by decide +kernel
theorem dX8_places_36 : decode cX8_places 36 = .ok (.iload 6, 2) := by decide +kernel
theorem dX8_places_38 : decode cX8_places 38 = .ok (.bipush 16, 2) := by decide +kernel
theorem dX8_places_40 : decode cX8_places 40 = .ok (.irem, 1) := by decide +kernel
theorem dX8_places_41 : decode cX8_places 41 = .ok (.goto 4, 3) := by decide +kernel
theorem dX8_places_44 : decode cX8_places 44 = .ok (.iconst 0, 1) := by decide +kernel
theorem dX8_places_45 : decode cX8_places 45 = .ok (.iadd, 1) := by decide +kernel
theorem dX8_places_46 : decode cX8_places 46 = .ok (.istore_n 3, 1) := by decide +kernel
theorem dX8_places_47 : decode cX8_places 47 = .ok (.iload 4, 2) := by decide +kernel
theorem dX8_places_49 : decode cX8_places 49 = .ok (.aload_n 0, 1) := by decide +kernel
theorem dX8_places_50 : decode cX8_places 50 = .ok (.iload_n 1, 1) := by decide +kernel
theorem dX8_places_51 : decode cX8_places 51 = .ok (.iload 6, 2) := by decide +kernel
theorem dX8_places_53 : decode cX8_places 53 = .ok (.invokevirtual 92, 3) := by decide +kernel
theorem dX8_places_56 : decode cX8_places 56 = .ok (.iload_n 2, 1) := by decide +kernel
theorem dX8_places_57 : decode cX8_places 57 = .ok (.if_icmp .ne 11, 3) := by decide +kernel
theorem dX8_places_60 : decode cX8_places 60 = .ok (.iload 6, 2) := by decide +kernel
theorem dX8_places_62 : decode cX8_places 62 = .ok (.bipush 16, 2) := by decide +kernel
theorem dX8_places_64 : decode cX8_places 64 = .ok (.idiv, 1) := by decide +kernel
theorem dX8_places_65 : decode cX8_places 65 = .ok (.goto 4, 3) := by decide +kernel
theorem dX8_places_68 : decode cX8_places 68 = .ok (.iconst 0, 1) := by decide +kernel
theorem dX8_places_69 : decode cX8_places 69 = .ok (.iadd, 1) := by decide +kernel
theorem dX8_places_70 : decode cX8_places 70 = .ok (.istore 4, 2) := by decide +kernel
theorem dX8_places_72 : decode cX8_places 72 = .ok (.iinc 6 1, 3) := by decide +kernel
theorem dX8_places_75 : decode cX8_places 75 = .ok (.goto (-59), 3) := by decide +kernel
theorem dX8_places_78 : decode cX8_places 78 = .ok (.iconst (-1), 1) := by decide +kernel
theorem dX8_places_79 : decode cX8_places 79 = .ok (.istore 6, 2) := by decide +kernel
theorem dX8_places_81 : decode cX8_places 81 = .ok (.iconst 0, 1) := by decide +kernel
theorem dX8_places_82 : decode cX8_places 82 = .ok (.istore 7, 2) := by decide +kernel
theorem dX8_places_84 : decode cX8_places 84 = .ok (.iconst 0, 1) := by decide +kernel
theorem dX8_places_85 : decode cX8_places 85 = .ok (.istore 8, 2) := by decide +kernel
theorem dX8_places_87 : decode cX8_places 87 = .ok (.iload 8, 2) := by decide +kernel
theorem dX8_places_89 : decode cX8_places 89 = .ok (.sipush 256, 3) := by decide +kernel
theorem dX8_places_92 : decode cX8_places 92 = .ok (.if_icmp .ge 90, 3) := by decide +kernel
theorem dX8_places_95 : decode cX8_places 95 = .ok (.iload 5, 2) := by decide +kernel
theorem dX8_places_97 : decode cX8_places 97 = .ok (.ifCond .le 85, 3) := by decide +kernel
theorem dX8_places_100 : decode cX8_places 100 = .ok (.iload 8, 2) := by decide +kernel
theorem dX8_places_102 : decode cX8_places 102 = .ok (.bipush 16, 2) := by decide +kernel
theorem dX8_places_104 : decode cX8_places 104 = .ok (.irem, 1) := by decide +kernel
theorem dX8_places_105 : decode cX8_places 105 = .ok (.aload_n 0, 1) := by decide +kernel
theorem dX8_places_106 : decode cX8_places 106 = .ok (.getfield 24, 3) := by decide +kernel
theorem dX8_places_109 : decode cX8_places 109 = .ok (.bipush 10, 2) := by decide +kernel
theorem dX8_places_111 : decode cX8_places 111 = .ok (.iload_n 1, 1) := by decide +kernel
theorem dX8_places_112 : decode cX8_places 112 = .ok (.imul, 1) := by decide +kernel
theorem dX8_places_113 : decode cX8_places 113 = .ok (.iload_n 2, 1) := by decide +kernel
theorem dX8_places_114 : decode cX8_places 114 = .ok (.iadd, 1) := by decide +kernel
theorem dX8_places_115 : decode cX8_places 115 = .ok (.iaload, 1) := by decide +kernel
theorem dX8_places_116 : decode cX8_places 116 = .ok (.iconst 2, 1) := by decide +kernel
theorem dX8_places_117 : decode cX8_places 117 = .ok (.idiv, 1) := by decide +kernel
theorem dX8_places_118 : decode cX8_places 118 = .ok (.iadd, 1) := by decide +kernel
theorem dX8_places_119 : decode cX8_places 119 = .ok (.iload_n 3, 1) := by decide +kernel
theorem dX8_places_120 : decode cX8_places 120 = .ok (.iload 5, 2) := by decide +kernel
theorem dX8_places_122 : decode cX8_places 122 = .ok (.idiv, 1) := by decide +kernel
theorem dX8_places_123 : decode cX8_places 123 = .ok (.isub, 1) := by decide +kernel
theorem dX8_places_124 : decode cX8_places 124 = .ok (.invokestatic 140, 3) := by decide +kernel
theorem dX8_places_127 : decode cX8_places 127 = .ok (.iload 8, 2) := by decide +kernel
theorem dX8_places_129 : decode cX8_places 129 = .ok (.bipush 16, 2) := by decide +kernel
theorem dX8_places_131 : decode cX8_places 131 = .ok (.idiv, 1) := by decide +kernel
theorem dX8_places_132 : decode cX8_places 132 = .ok (.iload 4, 2) := by decide +kernel
theorem dX8_places_134 : decode cX8_places 134 = .ok (.iload 5, 2) := by decide +kernel
theorem dX8_places_136 : decode cX8_places 136 = .ok (.idiv, 1) := by decide +kernel
theorem dX8_places_137 : decode cX8_places 137 = .ok (.isub, 1) := by decide +kernel
theorem dX8_places_138 : decode cX8_places 138 = .ok (.invokestatic 140, 3) := by decide +kernel
theorem dX8_places_141 : decode cX8_places 141 = .ok (.iadd, 1) := by decide +kernel
theorem dX8_places_142 : decode cX8_places 142 = .ok (.istore 9, 2) := by decide +kernel
theorem dX8_places_144 : decode cX8_places 144 = .ok (.aload_n 0, 1) := by decide +kernel
theorem dX8_places_145 : decode cX8_places 145 = .ok (.iload_n 1, 1) := by decide +kernel
theorem dX8_places_146 : decode cX8_places 146 = .ok (.iload_n 2, 1) := by decide +kernel
theorem dX8_places_147 : decode cX8_places 147 = .ok (.iload 8, 2) := by decide +kernel
theorem dX8_places_149 : decode cX8_places 149 = .ok (.invokevirtual 192, 3) := by decide +kernel
theorem dX8_places_152 : decode cX8_places 152 = .ok (.ifCond .eq 24, 3) := by decide +kernel
theorem dX8_places_155 : decode cX8_places 155 = .ok (.iload 6, 2) := by decide +kernel
theorem dX8_places_157 : decode cX8_places 157 = .ok (.iconst (-1), 1) := by decide +kernel
theorem dX8_places_158 : decode cX8_places 158 = .ok (.if_icmp .eq 10, 3) := by decide +kernel
theorem dX8_places_161 : decode cX8_places 161 = .ok (.iload 9, 2) := by decide +kernel
theorem dX8_places_163 : decode cX8_places 163 = .ok (.iload 7, 2) := by decide +kernel
theorem dX8_places_165 : decode cX8_places 165 = .ok (.if_icmp .ge 11, 3) := by decide +kernel
theorem dX8_places_168 : decode cX8_places 168 = .ok (.iload 8, 2) := by decide +kernel
theorem dX8_places_170 : decode cX8_places 170 = .ok (.istore 6, 2) := by decide +kernel
theorem dX8_places_172 : decode cX8_places 172 = .ok (.iload 9, 2) := by decide +kernel
theorem dX8_places_174 : decode cX8_places 174 = .ok (.istore 7, 2) := by decide +kernel
theorem dX8_places_176 : decode cX8_places 176 = .ok (.iinc 8 1, 3) := by decide +kernel
theorem dX8_places_179 : decode cX8_places 179 = .ok (.goto (-92), 3) := by decide +kernel
theorem dX8_places_182 : decode cX8_places 182 = .ok (.aload_n 0, 1) := by decide +kernel
theorem dX8_places_183 : decode cX8_places 183 = .ok (.getfield 79, 3) := by decide +kernel
theorem dX8_places_186 : decode cX8_places 186 = .ok (.iload_n 2, 1) := by decide +kernel
theorem dX8_places_187 : decode cX8_places 187 = .ok (.iload 6, 2) := by decide +kernel
theorem dX8_places_189 : decode cX8_places 189 = .ok (.iastore, 1) := by decide +kernel
theorem dX8_places_190 : decode cX8_places 190 = .ok (.iload 6, 2) := by decide +kernel
theorem dX8_places_192 : decode cX8_places 192 = .ok (.istore 8, 2) := by decide +kernel
theorem dX8_places_194 : decode cX8_places 194 = .ok (.iload 6, 2) := by decide +kernel
theorem dX8_places_196 : decode cX8_places 196 = .ok (.iconst (-1), 1) := by decide +kernel
theorem dX8_places_197 : decode cX8_places 197 = .ok (.if_icmp .eq 36, 3) := by decide +kernel
theorem dX8_places_200 : decode cX8_places 200 = .ok (.iload 8, 2) := by decide +kernel
theorem dX8_places_202 : decode cX8_places 202 = .ok (.iload 6, 2) := by decide +kernel
theorem dX8_places_204 : decode cX8_places 204 = .ok (.aload_n 0, 1) := by decide +kernel
theorem dX8_places_205 : decode cX8_places 205 = .ok (.getfield 24, 3) := by decide +kernel
theorem dX8_places_208 : decode cX8_places 208 = .ok (.bipush 10, 2) := by decide +kernel
theorem dX8_places_210 : decode cX8_places 210 = .ok (.iload_n 1, 1) := by decide +kernel
theorem dX8_places_211 : decode cX8_places 211 = .ok (.imul, 1) := by decide +kernel
theorem dX8_places_212 : decode cX8_places 212 = .ok (.iload_n 2, 1) := by decide +kernel
theorem dX8_places_213 : decode cX8_places 213 = .ok (.iadd, 1) := by decide +kernel
theorem dX8_places_214 : decode cX8_places 214 = .ok (.iaload, 1) := by decide +kernel
theorem dX8_places_215 : decode cX8_places 215 = .ok (.iadd, 1) := by decide +kernel
theorem dX8_places_216 : decode cX8_places 216 = .ok (.if_icmp .ge 17, 3) := by decide +kernel
theorem dX8_places_219 : decode cX8_places 219 = .ok (.aload_n 0, 1) := by decide +kernel
theorem dX8_places_220 : decode cX8_places 220 = .ok (.getfield 82, 3) := by decide +kernel
theorem dX8_places_223 : decode cX8_places 223 = .ok (.iload 8, 2) := by decide +kernel
theorem dX8_places_225 : decode cX8_places 225 = .ok (.iconst 1, 1) := by decide +kernel
theorem dX8_places_226 : decode cX8_places 226 = .ok (.bastore, 1) := by decide +kernel
theorem dX8_places_227 : decode cX8_places 227 = .ok (.iinc 8 1, 3) := by decide +kernel
theorem dX8_places_230 : decode cX8_places 230 = .ok (.goto (-36), 3) := by decide +kernel
theorem dX8_places_233 : decode cX8_places 233 = .ok (.return_, 1) := by decide +kernel
theorem dX8_placeOf_0 : decode cX8_placeOf 0 = .ok (.aload_n 0, 1) := by decide +kernel
theorem dX8_placeOf_1 : decode cX8_placeOf 1 = .ok (.iload_n 1, 1) := by decide +kernel
theorem dX8_placeOf_2 : decode cX8_placeOf 2 = .ok (.iload_n 2, 1) := by decide +kernel
theorem dX8_placeOf_3 : decode cX8_placeOf 3 = .ok (.invokevirtual 136, 3) := by decide +kernel
theorem dX8_placeOf_6 : decode cX8_placeOf 6 = .ok (.ifCond .ne 5, 3) := by decide +kernel
theorem dX8_placeOf_9 : decode cX8_placeOf 9 = .ok (.iconst 0, 1) := by decide +kernel
theorem dX8_placeOf_10 : decode cX8_placeOf 10 = .ok (.ireturn, 1) := by decide +kernel
theorem dX8_placeOf_11 : decode cX8_placeOf 11 = .ok (.iconst 0, 1) := by decide +kernel
theorem dX8_placeOf_12 : decode cX8_placeOf 12 = .ok (.istore_n 3, 1) := by decide +kernel
theorem dX8_placeOf_13 : decode cX8_placeOf 13 = .ok (.iload_n 3, 1) := by decide +kernel
theorem dX8_placeOf_14 : decode cX8_placeOf 14 = .ok (.sipush 256, 3) := by decide +kernel
theorem dX8_placeOf_17 : decode cX8_placeOf 17 = .ok (.if_icmp .ge 16, 3) := by decide +kernel
theorem dX8_placeOf_20 : decode cX8_placeOf 20 = .ok (.aload_n 0, 1) := by decide +kernel
theorem dX8_placeOf_21 : decode cX8_placeOf 21 = .ok (.getfield 82, 3) := by decide +kernel
theorem dX8_placeOf_24 : decode cX8_placeOf 24 = .ok (.iload_n 3, 1) := by decide +kernel
theorem dX8_placeOf_25 : decode cX8_placeOf 25 = .ok (.iconst 0, 1) := by decide +kernel
theorem dX8_placeOf_26 : decode cX8_placeOf 26 = .ok (.bastore, 1) := by decide +kernel
theorem dX8_placeOf_27 : decode cX8_placeOf 27 = .ok (.iinc 3 1, 3) := by decide +kernel
theorem dX8_placeOf_30 : decode cX8_placeOf 30 = .ok (.goto (-17), 3) := by decide +kernel
theorem dX8_placeOf_33 : decode cX8_placeOf 33 = .ok (.iconst 0, 1) := by decide +kernel
theorem dX8_placeOf_34 : decode cX8_placeOf 34 = .ok (.istore_n 3, 1) := by decide +kernel
theorem dX8_placeOf_35 : decode cX8_placeOf 35 = .ok (.iload_n 3, 1) := by decide +kernel
theorem dX8_placeOf_36 : decode cX8_placeOf 36 = .ok (.bipush 10, 2) := by decide +kernel
theorem dX8_placeOf_38 : decode cX8_placeOf 38 = .ok (.if_icmp .ge 35, 3) := by decide +kernel
theorem dX8_placeOf_41 : decode cX8_placeOf 41 = .ok (.aload_n 0, 1) := by decide +kernel
theorem dX8_placeOf_42 : decode cX8_placeOf 42 = .ok (.getfield 79, 3) := by decide +kernel
theorem dX8_placeOf_45 : decode cX8_placeOf 45 = .ok (.iload_n 3, 1) := by decide +kernel
theorem dX8_placeOf_46 : decode cX8_placeOf 46 = .ok (.aload_n 0, 1) := by decide +kernel
theorem dX8_placeOf_47 : decode cX8_placeOf 47 = .ok (.getfield 24, 3) := by decide +kernel
theorem dX8_placeOf_50 : decode cX8_placeOf 50 = .ok (.bipush 10, 2) := by decide +kernel
theorem dX8_placeOf_52 : decode cX8_placeOf 52 = .ok (.iload_n 1, 1) := by decide +kernel
theorem dX8_placeOf_53 : decode cX8_placeOf 53 = .ok (.imul, 1) := by decide +kernel
theorem dX8_placeOf_54 : decode cX8_placeOf 54 = .ok (.iload_n 3, 1) := by decide +kernel
theorem dX8_placeOf_55 : decode cX8_placeOf 55 = .ok (.iadd, 1) := by decide +kernel
theorem dX8_placeOf_56 : decode cX8_placeOf 56 = .ok (.iaload, 1) := by decide +kernel
theorem dX8_placeOf_57 : decode cX8_placeOf 57 = .ok (.ifCond .le 8, 3) := by decide +kernel
theorem dX8_placeOf_60 : decode cX8_placeOf 60 = .ok (.bipush (-2), 2) := by decide +kernel
theorem dX8_placeOf_62 : decode cX8_placeOf 62 = .ok (.goto 4, 3) := by decide +kernel
theorem dX8_placeOf_65 : decode cX8_placeOf 65 = .ok (.iconst (-1), 1) := by decide +kernel
theorem dX8_placeOf_66 : decode cX8_placeOf 66 = .ok (.iastore, 1) := by decide +kernel
theorem dX8_placeOf_67 : decode cX8_placeOf 67 = .ok (.iinc 3 1, 3) := by decide +kernel
theorem dX8_placeOf_70 : decode cX8_placeOf 70 = .ok (.goto (-35), 3) := by decide +kernel
theorem dX8_placeOf_73 : decode cX8_placeOf 73 = .ok (.iconst 1, 1) := by decide +kernel
theorem dX8_placeOf_74 : decode cX8_placeOf 74 = .ok (.istore_n 3, 1) := by decide +kernel
theorem dX8_placeOf_75 : decode cX8_placeOf 75 = .ok (.iload_n 3, 1) := by decide +kernel
theorem dX8_placeOf_76 : decode cX8_placeOf 76 = .ok (.ifCond .eq 92, 3) := by decide +kernel
theorem dX8_placeOf_79 : decode cX8_placeOf 79 = .ok (.iconst (-1), 1) := by decide +kernel
theorem dX8_placeOf_80 : decode cX8_placeOf 80 = .ok (.istore 4, 2) := by decide +kernel
theorem dX8_placeOf_82 : decode cX8_placeOf 82 = .ok (.iconst 0, 1) := by decide +kernel
theorem dX8_placeOf_83 : decode cX8_placeOf 83 = .ok (.istore 5, 2) := by decide +kernel
theorem dX8_placeOf_85 : decode cX8_placeOf 85 = .ok (.iload 5, 2) := by decide +kernel
theorem dX8_placeOf_87 : decode cX8_placeOf 87 = .ok (.bipush 10, 2) := by decide +kernel
theorem dX8_placeOf_89 : decode cX8_placeOf 89 = .ok (.if_icmp .ge 53, 3) := by decide +kernel
theorem dX8_placeOf_92 : decode cX8_placeOf 92 = .ok (.aload_n 0, 1) := by decide +kernel
theorem dX8_placeOf_93 : decode cX8_placeOf 93 = .ok (.getfield 79, 3) := by decide +kernel
theorem dX8_placeOf_96 : decode cX8_placeOf 96 = .ok (.iload 5, 2) := by decide +kernel
theorem dX8_placeOf_98 : decode cX8_placeOf 98 = .ok (.iaload, 1) := by decide +kernel
theorem dX8_placeOf_99 : decode cX8_placeOf 99 = .ok (.bipush (-2), 2) := by decide +kernel
theorem dX8_placeOf_101 : decode cX8_placeOf 101 = .ok (.if_icmp .ne 31, 3) := by decide +kernel
theorem dX8_placeOf_104 : decode cX8_placeOf 104 = .ok (.iload 4, 2) := by decide +kernel
theorem dX8_placeOf_106 : decode cX8_placeOf 106 = .ok (.iconst (-1), 1) := by decide +kernel
theorem dX8_placeOf_107 : decode cX8_placeOf 107 = .ok (.if_icmp .eq 20, 3) := by decide +kernel
theorem dX8_placeOf_110 : decode cX8_placeOf 110 = .ok (.aload_n 0, 1) := by decide +kernel
theorem dX8_placeOf_111 : decode cX8_placeOf 111 = .ok (.iload_n 1, 1) := by decide +kernel
theorem dX8_placeOf_112 : decode cX8_placeOf 112 = .ok (.iload 5, 2) := by decide +kernel
theorem dX8_placeOf_114 : decode cX8_placeOf 114 = .ok (.invokevirtual 103, 3) := by decide +kernel
theorem dX8_placeOf_117 : decode cX8_placeOf 117 = .ok (.aload_n 0, 1) := by decide +kernel
theorem dX8_placeOf_118 : decode cX8_placeOf 118 = .ok (.iload_n 1, 1) := by decide +kernel
theorem dX8_placeOf_119 : decode cX8_placeOf 119 = .ok (.iload 4, 2) := by decide +kernel
theorem dX8_placeOf_121 : decode cX8_placeOf 121 = .ok (.invokevirtual 103, 3) := by decide +kernel
theorem dX8_placeOf_124 : decode cX8_placeOf 124 = .ok (.if_icmp .le 8, 3) := by decide +kernel
theorem dX8_placeOf_127 : decode cX8_placeOf 127 = .ok (.iload 5, 2) := by decide +kernel
theorem dX8_placeOf_129 : decode cX8_placeOf 129 = .ok (.goto 5, 3) := by decide +kernel
theorem dX8_placeOf_132 : decode cX8_placeOf 132 = .ok (.iload 4, 2) := by decide +kernel
theorem dX8_placeOf_134 : decode cX8_placeOf 134 = .ok (.istore 4, 2) := by decide +kernel
theorem dX8_placeOf_136 : decode cX8_placeOf 136 = .ok (.iinc 5 1, 3) := by decide +kernel
theorem dX8_placeOf_139 : decode cX8_placeOf 139 = .ok (.goto (-54), 3) := by decide +kernel
theorem dX8_placeOf_142 : decode cX8_placeOf 142 = .ok (.iload 4, 2) := by decide +kernel
theorem dX8_placeOf_144 : decode cX8_placeOf 144 = .ok (.iconst (-1), 1) := by decide +kernel
theorem dX8_placeOf_145 : decode cX8_placeOf 145 = .ok (.if_icmp .eq 7, 3) := by decide +kernel
theorem dX8_placeOf_148 : decode cX8_placeOf 148 = .ok (.iconst 1, 1) := by decide +kernel
theorem dX8_placeOf_149 : decode cX8_placeOf 149 = .ok (.goto 4, 3) := by decide +kernel
theorem dX8_placeOf_152 : decode cX8_placeOf 152 = .ok (.iconst 0, 1) := by decide +kernel
theorem dX8_placeOf_153 : decode cX8_placeOf 153 = .ok (.istore_n 3, 1) := by decide +kernel
theorem dX8_placeOf_154 : decode cX8_placeOf 154 = .ok (.iload_n 3, 1) := by decide +kernel
theorem dX8_placeOf_155 : decode cX8_placeOf 155 = .ok (.ifCond .eq 10, 3) := by decide +kernel
theorem dX8_placeOf_158 : decode cX8_placeOf 158 = .ok (.aload_n 0, 1) := by decide +kernel
theorem dX8_placeOf_159 : decode cX8_placeOf 159 = .ok (.iload_n 1, 1) := by decide +kernel
theorem dX8_placeOf_160 : decode cX8_placeOf 160 = .ok (.iload 4, 2) := by decide +kernel
theorem dX8_placeOf_162 : decode cX8_placeOf 162 = .ok (.invokevirtual 195, 3) := by decide +kernel
theorem dX8_placeOf_165 : decode cX8_placeOf 165 = .ok (.goto (-90), 3) := by decide +kernel
theorem dX8_placeOf_168 : decode cX8_placeOf 168 = .ok (.aload_n 0, 1) := by decide +kernel
theorem dX8_placeOf_169 : decode cX8_placeOf 169 = .ok (.getfield 79, 3) := by decide +kernel
theorem dX8_placeOf_172 : decode cX8_placeOf 172 = .ok (.iload_n 2, 1) := by decide +kernel
theorem dX8_placeOf_173 : decode cX8_placeOf 173 = .ok (.iaload, 1) := by decide +kernel
theorem dX8_placeOf_174 : decode cX8_placeOf 174 = .ok (.iconst (-1), 1) := by decide +kernel
theorem dX8_placeOf_175 : decode cX8_placeOf 175 = .ok (.if_icmp .ne 11, 3) := by decide +kernel
theorem dX8_placeOf_178 : decode cX8_placeOf 178 = .ok (.aload_n 0, 1) := by decide +kernel
theorem dX8_placeOf_179 : decode cX8_placeOf 179 = .ok (.iconst 3, 1) := by decide +kernel
theorem dX8_placeOf_180 : decode cX8_placeOf 180 = .ok (.invokevirtual 96, 3) := by decide +kernel
theorem dX8_placeOf_183 : decode cX8_placeOf 183 = .ok (.goto 9, 3) := by decide +kernel
theorem dX8_placeOf_186 : decode cX8_placeOf 186 = .ok (.aload_n 0, 1) := by decide +kernel
theorem dX8_placeOf_187 : decode cX8_placeOf 187 = .ok (.getfield 79, 3) := by decide +kernel
theorem dX8_placeOf_190 : decode cX8_placeOf 190 = .ok (.iload_n 2, 1) := by decide +kernel
theorem dX8_placeOf_191 : decode cX8_placeOf 191 = .ok (.iaload, 1) := by decide +kernel
theorem dX8_placeOf_192 : decode cX8_placeOf 192 = .ok (.ireturn, 1) := by decide +kernel
theorem dX8_values_0 : decode cX8_values 0 = .ok (.aload_n 0, 1) := by decide +kernel
theorem dX8_values_1 : decode cX8_values 1 = .ok (.iload_n 1, 1) := by decide +kernel
theorem dX8_values_2 : decode cX8_values 2 = .ok (.invokestatic 106, 3) := by decide +kernel
theorem dX8_values_5 : decode cX8_values 5 = .ok (.ifCond .eq 7, 3) := by decide +kernel
theorem dX8_values_8 : decode cX8_values 8 = .ok (.iconst 0, 1) := by decide +kernel
theorem dX8_values_9 : decode cX8_values 9 = .ok (.goto 4, 3) := by decide +kernel
theorem dX8_values_12 : decode cX8_values 12 = .ok (.iconst 1, 1) := by decide +kernel
theorem dX8_values_13 : decode cX8_values 13 = .ok (.putfield 85, 3) := by decide +kernel
theorem dX8_values_16 : decode cX8_values 16 = .ok (.lconst 0, 1) := by decide +kernel
theorem dX8_values_17 : decode cX8_values 17 = .ok (.lstore_n 2, 1) := by decide +kernel
theorem dX8_values_18 : decode cX8_values 18 = .ok (.iconst 0, 1) := by decide +kernel
theorem dX8_values_19 : decode cX8_values 19 = .ok (.istore 4, 2) := by decide +kernel
theorem dX8_values_21 : decode cX8_values 21 = .ok (.iload 4, 2) := by decide +kernel
theorem dX8_values_23 : decode cX8_values 23 = .ok (.bipush 10, 2) := by decide +kernel
theorem dX8_values_25 : decode cX8_values 25 = .ok (.if_icmp .ge 32, 3) := by decide +kernel
theorem dX8_values_28 : decode cX8_values 28 = .ok (.aload_n 0, 1) := by decide +kernel
theorem dX8_values_29 : decode cX8_values 29 = .ok (.getfield 85, 3) := by decide +kernel
theorem dX8_values_32 : decode cX8_values 32 = .ok (.ifCond .ne 25, 3) := by decide +kernel
theorem dX8_values_35 : decode cX8_values 35 = .ok (.lload_n 2, 1) := by decide +kernel
theorem dX8_values_36 : decode cX8_values 36 = .ok (.aload_n 0, 1) := by decide +kernel
theorem dX8_values_37 : decode cX8_values 37 = .ok (.getfield 21, 3) := by decide +kernel
theorem dX8_values_40 : decode cX8_values 40 = .ok (.bipush 10, 2) := by decide +kernel
theorem dX8_values_42 : decode cX8_values 42 = .ok (.iload_n 1, 1) := by decide +kernel
theorem dX8_values_43 : decode cX8_values 43 = .ok (.imul, 1) := by decide +kernel
theorem dX8_values_44 : decode cX8_values 44 = .ok (.iload 4, 2) := by decide +kernel
theorem dX8_values_46 : decode cX8_values 46 = .ok (.iadd, 1) := by decide +kernel
theorem dX8_values_47 : decode cX8_values 47 = .ok (.iaload, 1) := by decide +kernel
theorem dX8_values_48 : decode cX8_values 48 = .ok (.i2l, 1) := by decide +kernel
theorem dX8_values_49 : decode cX8_values 49 = .ok (.ladd, 1) := by decide +kernel
theorem dX8_values_50 : decode cX8_values 50 = .ok (.lstore_n 2, 1) := by decide +kernel
theorem dX8_values_51 : decode cX8_values 51 = .ok (.iinc 4 1, 3) := by decide +kernel
theorem dX8_values_54 : decode cX8_values 54 = .ok (.goto (-33), 3) := by decide +kernel
theorem dX8_values_57 : decode cX8_values 57 = .ok (.lload_n 2, 1) := by decide +kernel
theorem dX8_values_58 : decode cX8_values 58 = .ok (.lreturn, 1) := by decide +kernel
theorem dX8_covered_0 : decode cX8_covered 0 = .ok (.aload_n 0, 1) := by decide +kernel
theorem dX8_covered_1 : decode cX8_covered 1 = .ok (.iload_n 1, 1) := by decide +kernel
theorem dX8_covered_2 : decode cX8_covered 2 = .ok (.invokestatic 106, 3) := by decide +kernel
theorem dX8_covered_5 : decode cX8_covered 5 = .ok (.ifCond .eq 7, 3) := by decide +kernel
theorem dX8_covered_8 : decode cX8_covered 8 = .ok (.iconst 0, 1) := by decide +kernel
theorem dX8_covered_9 : decode cX8_covered 9 = .ok (.goto 4, 3) := by decide +kernel
theorem dX8_covered_12 : decode cX8_covered 12 = .ok (.iconst 1, 1) := by decide +kernel
theorem dX8_covered_13 : decode cX8_covered 13 = .ok (.putfield 85, 3) := by decide +kernel
theorem dX8_covered_16 : decode cX8_covered 16 = .ok (.aload_n 0, 1) := by decide +kernel
theorem dX8_covered_17 : decode cX8_covered 17 = .ok (.getfield 85, 3) := by decide +kernel
theorem dX8_covered_20 : decode cX8_covered 20 = .ok (.ifCond .le 7, 3) := by decide +kernel
theorem dX8_covered_23 : decode cX8_covered 23 = .ok (.fconst 0, 1) := by decide +kernel
theorem dX8_covered_24 : decode cX8_covered 24 = .ok (.goto 17, 3) := by decide +kernel
theorem dX8_covered_27 : decode cX8_covered 27 = .ok (.sipush 256, 3) := by decide +kernel
theorem dX8_covered_30 : decode cX8_covered 30 = .ok (.aload_n 0, 1) := by decide +kernel
theorem dX8_covered_31 : decode cX8_covered 31 = .ok (.iload_n 1, 1) := by decide +kernel
theorem dX8_covered_32 : decode cX8_covered 32 = .ok (.iconst (-1), 1) := by decide +kernel
theorem dX8_covered_33 : decode cX8_covered 33 = .ok (.invokevirtual 103, 3) := by decide +kernel
theorem dX8_covered_36 : decode cX8_covered 36 = .ok (.isub, 1) := by decide +kernel
theorem dX8_covered_37 : decode cX8_covered 37 = .ok (.i2f, 1) := by decide +kernel
theorem dX8_covered_38 : decode cX8_covered 38 = .ok (.ldc 198, 2) := by decide +kernel
theorem dX8_covered_40 : decode cX8_covered 40 = .ok (.fdiv, 1) := by decide +kernel
theorem dX8_covered_41 : decode cX8_covered 41 = .ok (.freturn, 1) := by decide +kernel
theorem dX8_meanPiece_0 : decode cX8_meanPiece 0 = .ok (.aload_n 0, 1) := by decide +kernel
theorem dX8_meanPiece_1 : decode cX8_meanPiece 1 = .ok (.iload_n 1, 1) := by decide +kernel
theorem dX8_meanPiece_2 : decode cX8_meanPiece 2 = .ok (.iload_n 2, 1) := by decide +kernel
theorem dX8_meanPiece_3 : decode cX8_meanPiece 3 = .ok (.invokestatic 164, 3) := by decide +kernel
theorem dX8_meanPiece_6 : decode cX8_meanPiece 6 = .ok (.ifCond .eq 7, 3) := by decide +kernel
theorem dX8_meanPiece_9 : decode cX8_meanPiece 9 = .ok (.iconst 0, 1) := by decide +kernel
theorem dX8_meanPiece_10 : decode cX8_meanPiece 10 = .ok (.goto 4, 3) := by decide +kernel
theorem dX8_meanPiece_13 : decode cX8_meanPiece 13 = .ok (.iconst 1, 1) := by decide +kernel
theorem dX8_meanPiece_14 : decode cX8_meanPiece 14 = .ok (.putfield 85, 3) := by decide +kernel
theorem dX8_meanPiece_17 : decode cX8_meanPiece 17 = .ok (.aload_n 0, 1) := by decide +kernel
theorem dX8_meanPiece_18 : decode cX8_meanPiece 18 = .ok (.getfield 85, 3) := by decide +kernel
theorem dX8_meanPiece_21 : decode cX8_meanPiece 21 = .ok (.ifCond .le 5, 3) := by decide +kernel
theorem dX8_meanPiece_24 : decode cX8_meanPiece 24 = .ok (.dconst 0, 1) := by decide +kernel
theorem dX8_meanPiece_25 : decode cX8_meanPiece 25 = .ok (.dreturn, 1) := by decide +kernel
theorem dX8_meanPiece_26 : decode cX8_meanPiece 26 = .ok (.aload_n 0, 1) := by decide +kernel
theorem dX8_meanPiece_27 : decode cX8_meanPiece 27 = .ok (.iload_n 1, 1) := by decide +kernel
theorem dX8_meanPiece_28 : decode cX8_meanPiece 28 = .ok (.iload_n 2, 1) := by decide +kernel
theorem dX8_meanPiece_29 : decode cX8_meanPiece 29 = .ok (.invokevirtual 167, 3) := by decide +kernel
theorem dX8_meanPiece_32 : decode cX8_meanPiece 32 = .ok (.istore_n 3, 1) := by decide +kernel
theorem dX8_meanPiece_33 : decode cX8_meanPiece 33 = .ok (.iconst 0, 1) := by decide +kernel
theorem dX8_meanPiece_34 : decode cX8_meanPiece 34 = .ok (.istore 4, 2) := by decide +kernel
theorem dX8_meanPiece_36 : decode cX8_meanPiece 36 = .ok (.iconst 0, 1) := by decide +kernel
theorem dX8_meanPiece_37 : decode cX8_meanPiece 37 = .ok (.istore 5, 2) := by decide +kernel
theorem dX8_meanPiece_39 : decode cX8_meanPiece 39 = .ok (.iload 5, 2) := by decide +kernel
theorem dX8_meanPiece_41 : decode cX8_meanPiece 41 = .ok (.sipush 256, 3) := by decide +kernel
theorem dX8_meanPiece_44 : decode cX8_meanPiece 44 = .ok (.if_icmp .ge 30, 3) := by decide +kernel
theorem dX8_meanPiece_47 : decode cX8_meanPiece 47 = .ok (.iload 4, 2) := by decide +kernel
theorem dX8_meanPiece_49 : decode cX8_meanPiece 49 = .ok (.aload_n 0, 1) := by decide +kernel
theorem dX8_meanPiece_50 : decode cX8_meanPiece 50 = .ok (.getfield 64, 3) := by decide +kernel
theorem dX8_meanPiece_53 : decode cX8_meanPiece 53 = .ok (.iload 5, 2) := by decide +kernel
theorem dX8_meanPiece_55 : decode cX8_meanPiece 55 = .ok (.iaload, 1) := by decide +kernel
theorem dX8_meanPiece_56 : decode cX8_meanPiece 56 = .ok (.iconst (-1), 1) := by decide +kernel
theorem dX8_meanPiece_57 : decode cX8_meanPiece 57 = .ok (.if_icmp .ne 7, 3) := by decide +kernel
theorem dX8_meanPiece_60 : decode cX8_meanPiece 60 = .ok (.iconst 0, 1) := by decide +kernel
theorem dX8_meanPiece_61 : decode cX8_meanPiece 61 = .ok (.goto 4, 3) := by decide +kernel
theorem dX8_meanPiece_64 : decode cX8_meanPiece 64 = .ok (.iconst 1, 1) := by decide +kernel
theorem dX8_meanPiece_65 : decode cX8_meanPiece 65 = .ok (.iadd, 1) := by decide +kernel
theorem dX8_meanPiece_66 : decode cX8_meanPiece 66 = .ok (.istore 4, 2) := by decide +kernel
theorem dX8_meanPiece_68 : decode cX8_meanPiece 68 = .ok (.iinc 5 1, 3) := by decide +kernel
theorem dX8_meanPiece_71 : decode cX8_meanPiece 71 = .ok (.goto (-32), 3) := by decide +kernel
theorem dX8_meanPiece_74 : decode cX8_meanPiece 74 = .ok (.aload_n 0, 1) := by decide +kernel
theorem dX8_meanPiece_75 : decode cX8_meanPiece 75 = .ok (.iload_n 3, 1) := by decide +kernel
theorem dX8_meanPiece_76 : decode cX8_meanPiece 76 = .ok (.ifCond .ne 7, 3) := by decide +kernel
theorem dX8_meanPiece_79 : decode cX8_meanPiece 79 = .ok (.iconst 2, 1) := by decide +kernel
theorem dX8_meanPiece_80 : decode cX8_meanPiece 80 = .ok (.goto 4, 3) := by decide +kernel
theorem dX8_meanPiece_83 : decode cX8_meanPiece 83 = .ok (.iconst 0, 1) := by decide +kernel
theorem dX8_meanPiece_84 : decode cX8_meanPiece 84 = .ok (.putfield 85, 3) := by decide +kernel
theorem dX8_meanPiece_87 : decode cX8_meanPiece 87 = .ok (.aload_n 0, 1) := by decide +kernel
theorem dX8_meanPiece_88 : decode cX8_meanPiece 88 = .ok (.getfield 85, 3) := by decide +kernel
theorem dX8_meanPiece_91 : decode cX8_meanPiece 91 = .ok (.ifCond .le 7, 3) := by decide +kernel
theorem dX8_meanPiece_94 : decode cX8_meanPiece 94 = .ok (.dconst 0, 1) := by decide +kernel
theorem dX8_meanPiece_95 : decode cX8_meanPiece 95 = .ok (.goto 9, 3) := by decide +kernel
theorem dX8_meanPiece_98 : decode cX8_meanPiece 98 = .ok (.iload 4, 2) := by decide +kernel
theorem dX8_meanPiece_100 : decode cX8_meanPiece 100 = .ok (.i2d, 1) := by decide +kernel
theorem dX8_meanPiece_101 : decode cX8_meanPiece 101 = .ok (.iload_n 3, 1) := by decide +kernel
theorem dX8_meanPiece_102 : decode cX8_meanPiece 102 = .ok (.i2d, 1) := by decide +kernel
theorem dX8_meanPiece_103 : decode cX8_meanPiece 103 = .ok (.ddiv, 1) := by decide +kernel
theorem dX8_meanPiece_104 : decode cX8_meanPiece 104 = .ok (.dreturn, 1) := by decide +kernel
theorem dX8_isSound_0 : decode cX8_isSound 0 = .ok (.aload_n 0, 1) := by decide +kernel
theorem dX8_isSound_1 : decode cX8_isSound 1 = .ok (.iconst 0, 1) := by decide +kernel
theorem dX8_isSound_2 : decode cX8_isSound 2 = .ok (.putfield 85, 3) := by decide +kernel
theorem dX8_isSound_5 : decode cX8_isSound 5 = .ok (.iconst 1, 1) := by decide +kernel
theorem dX8_isSound_6 : decode cX8_isSound 6 = .ok (.ireturn, 1) := by decide +kernel
