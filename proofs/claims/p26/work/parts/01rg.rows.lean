theorem dJ9_floorMod_7cf53_0 : decode cJ9_floorMod_7cf53 0 = .ok (.iload_n 0, 1) := by decide +kernel
theorem dJ9_floorMod_7cf53_1 : decode cJ9_floorMod_7cf53 1 = .ok (.iload_n 1, 1) := by decide +kernel
theorem dJ9_floorMod_7cf53_2 : decode cJ9_floorMod_7cf53 2 = .ok (.irem, 1) := by decide +kernel
theorem dJ9_floorMod_7cf53_3 : decode cJ9_floorMod_7cf53 3 = .ok (.istore_n 2, 1) := by decide +kernel
theorem dJ9_floorMod_7cf53_4 : decode cJ9_floorMod_7cf53 4 = .ok (.iload_n 0, 1) := by decide +kernel
theorem dJ9_floorMod_7cf53_5 : decode cJ9_floorMod_7cf53 5 = .ok (.iload_n 1, 1) := by decide +kernel
theorem dJ9_floorMod_7cf53_6 : decode cJ9_floorMod_7cf53 6 = .ok (.ixor, 1) := by decide +kernel
theorem dJ9_floorMod_7cf53_7 : decode cJ9_floorMod_7cf53 7 = .ok (.ifCond .ge 11, 3) := by decide +kernel
theorem dJ9_floorMod_7cf53_10 : decode cJ9_floorMod_7cf53 10 = .ok (.iload_n 2, 1) := by decide +kernel
theorem dJ9_floorMod_7cf53_11 : decode cJ9_floorMod_7cf53 11 = .ok (.ifCond .eq 7, 3) := by decide +kernel
theorem dJ9_floorMod_7cf53_14 : decode cJ9_floorMod_7cf53 14 = .ok (.iload_n 2, 1) := by decide +kernel
theorem dJ9_floorMod_7cf53_15 : decode cJ9_floorMod_7cf53 15 = .ok (.iload_n 1, 1) := by decide +kernel
theorem dJ9_floorMod_7cf53_16 : decode cJ9_floorMod_7cf53 16 = .ok (.iadd, 1) := by decide +kernel
theorem dJ9_floorMod_7cf53_17 : decode cJ9_floorMod_7cf53 17 = .ok (.ireturn, 1) := by decide +kernel
theorem dJ9_floorMod_7cf53_18 : decode cJ9_floorMod_7cf53 18 = .ok (.iload_n 2, 1) := by decide +kernel
theorem dJ9_floorMod_7cf53_19 : decode cJ9_floorMod_7cf53 19 = .ok (.ireturn, 1) := by decide +kernel
theorem dJ9_abs_294c1_0 : decode cJ9_abs_294c1 0 = .ok (.dload_n 0, 1) := by decide +kernel
theorem dJ9_abs_294c1_1 : decode cJ9_abs_294c1 1 = .ok (.invokestatic 79, 3) := by decide +kernel
theorem dJ9_abs_294c1_4 : decode cJ9_abs_294c1 4 = .ok (.ldc2_w 135, 3) := by decide +kernel
theorem dJ9_abs_294c1_7 : decode cJ9_abs_294c1 7 = .ok (.land, 1) := by decide +kernel
theorem dJ9_abs_294c1_8 : decode cJ9_abs_294c1 8 = .ok (.invokestatic 166, 3) := by decide +kernel
theorem dJ9_abs_294c1_11 : decode cJ9_abs_294c1 11 = .ok (.dreturn, 1) := by decide +kernel
theorem dJ9_max_7cf53_0 : decode cJ9_max_7cf53 0 = .ok (.iload_n 0, 1) := by decide +kernel
theorem dJ9_max_7cf53_1 : decode cJ9_max_7cf53 1 = .ok (.iload_n 1, 1) := by decide +kernel
theorem dJ9_max_7cf53_2 : decode cJ9_max_7cf53 2 = .ok (.if_icmp .lt 7, 3) := by decide +kernel
theorem dJ9_max_7cf53_5 : decode cJ9_max_7cf53 5 = .ok (.iload_n 0, 1) := by decide +kernel
theorem dJ9_max_7cf53_6 : decode cJ9_max_7cf53 6 = .ok (.goto 4, 3) := by decide +kernel
theorem dJ9_max_7cf53_9 : decode cJ9_max_7cf53 9 = .ok (.iload_n 1, 1) := by decide +kernel
theorem dJ9_max_7cf53_10 : decode cJ9_max_7cf53 10 = .ok (.ireturn, 1) := by decide +kernel
theorem dJ9_min_7cf53_0 : decode cJ9_min_7cf53 0 = .ok (.iload_n 0, 1) := by decide +kernel
theorem dJ9_min_7cf53_1 : decode cJ9_min_7cf53 1 = .ok (.iload_n 1, 1) := by decide +kernel
theorem dJ9_min_7cf53_2 : decode cJ9_min_7cf53 2 = .ok (.if_icmp .gt 7, 3) := by decide +kernel
theorem dJ9_min_7cf53_5 : decode cJ9_min_7cf53 5 = .ok (.iload_n 0, 1) := by decide +kernel
theorem dJ9_min_7cf53_6 : decode cJ9_min_7cf53 6 = .ok (.goto 4, 3) := by decide +kernel
theorem dJ9_min_7cf53_9 : decode cJ9_min_7cf53 9 = .ok (.iload_n 1, 1) := by decide +kernel
theorem dJ9_min_7cf53_10 : decode cJ9_min_7cf53 10 = .ok (.ireturn, 1) := by decide +kernel
theorem dL_below_0 : decode cL_below 0 = .ok (.iload_n 0, 1) := by decide +kernel
theorem dL_below_1 : decode cL_below 1 = .ok (.ldc 7, 2) := by decide +kernel
theorem dL_below_3 : decode cL_below 3 = .ok (.iand, 1) := by decide +kernel
theorem dL_below_4 : decode cL_below 4 = .ok (.iload_n 1, 1) := by decide +kernel
theorem dL_below_5 : decode cL_below 5 = .ok (.irem, 1) := by decide +kernel
theorem dL_below_6 : decode cL_below 6 = .ok (.ireturn, 1) := by decide +kernel
theorem dL_cell_0 : decode cL_cell 0 = .ok (.iload_n 1, 1) := by decide +kernel
theorem dL_cell_1 : decode cL_cell 1 = .ok (.aload_n 0, 1) := by decide +kernel
theorem dL_cell_2 : decode cL_cell 2 = .ok (.arraylength, 1) := by decide +kernel
theorem dL_cell_3 : decode cL_cell 3 = .ok (.if_icmp .ge 9, 3) := by decide +kernel
theorem dL_cell_6 : decode cL_cell 6 = .ok (.aload_n 0, 1) := by decide +kernel
theorem dL_cell_7 : decode cL_cell 7 = .ok (.iload_n 1, 1) := by decide +kernel
theorem dL_cell_8 : decode cL_cell 8 = .ok (.iaload, 1) := by decide +kernel
theorem dL_cell_9 : decode cL_cell 9 = .ok (.goto 9, 3) := by decide +kernel
theorem dL_cell_12 : decode cL_cell 12 = .ok (.ldc 8, 2) := by decide +kernel
theorem dL_cell_14 : decode cL_cell 14 = .ok (.iload_n 1, 1) := by decide +kernel
theorem dL_cell_15 : decode cL_cell 15 = .ok (.iconst 3, 1) := by decide +kernel
theorem dL_cell_16 : decode cL_cell 16 = .ok (.iadd, 1) := by decide +kernel
theorem dL_cell_17 : decode cL_cell 17 = .ok (.imul, 1) := by decide +kernel
theorem dL_cell_18 : decode cL_cell 18 = .ok (.ireturn, 1) := by decide +kernel
theorem dL_bench_0 : decode cL_bench 0 = .ok (.new 9, 3) := by decide +kernel
theorem dL_bench_3 : decode cL_bench 3 = .ok (.dup, 1) := by decide +kernel
theorem dL_bench_4 : decode cL_bench 4 = .ok (.invokespecial 11, 3) := by decide +kernel
theorem dL_bench_7 : decode cL_bench 7 = .ok (.astore_n 2, 1) := by decide +kernel
theorem dL_bench_8 : decode cL_bench 8 = .ok (.aload_n 2, 1) := by decide +kernel
theorem dL_bench_9 : decode cL_bench 9 = .ok (.iload_n 1, 1) := by decide +kernel
theorem dL_bench_10 : decode cL_bench 10 = .ok (.invokevirtual 12, 3) := by decide +kernel
theorem dL_bench_13 : decode cL_bench 13 = .ok (.pop, 1) := by decide +kernel
theorem dL_bench_14 : decode cL_bench 14 = .ok (.aload_n 2, 1) := by decide +kernel
theorem dL_bench_15 : decode cL_bench 15 = .ok (.iconst 0, 1) := by decide +kernel
theorem dL_bench_16 : decode cL_bench 16 = .ok (.invokevirtual 12, 3) := by decide +kernel
theorem dL_bench_19 : decode cL_bench 19 = .ok (.pop, 1) := by decide +kernel
theorem dL_bench_20 : decode cL_bench 20 = .ok (.aload_n 2, 1) := by decide +kernel
theorem dL_bench_21 : decode cL_bench 21 = .ok (.iconst 0, 1) := by decide +kernel
theorem dL_bench_22 : decode cL_bench 22 = .ok (.invokevirtual 12, 3) := by decide +kernel
theorem dL_bench_25 : decode cL_bench 25 = .ok (.pop, 1) := by decide +kernel
theorem dL_bench_26 : decode cL_bench 26 = .ok (.aload_n 2, 1) := by decide +kernel
theorem dL_bench_27 : decode cL_bench 27 = .ok (.iconst 0, 1) := by decide +kernel
theorem dL_bench_28 : decode cL_bench 28 = .ok (.invokevirtual 12, 3) := by decide +kernel
theorem dL_bench_31 : decode cL_bench 31 = .ok (.pop, 1) := by decide +kernel
theorem dL_bench_32 : decode cL_bench 32 = .ok (.aload_n 0, 1) := by decide +kernel
theorem dL_bench_33 : decode cL_bench 33 = .ok (.iconst 0, 1) := by decide +kernel
theorem dL_bench_34 : decode cL_bench 34 = .ok (.invokestatic 16, 3) := by decide +kernel
theorem dL_bench_37 : decode cL_bench 37 = .ok (.iconst 4, 1) := by decide +kernel
theorem dL_bench_38 : decode cL_bench 38 = .ok (.invokestatic 22, 3) := by decide +kernel
theorem dL_bench_41 : decode cL_bench 41 = .ok (.ifCond .ne 20, 3) := by decide +kernel
theorem dL_bench_44 : decode cL_bench 44 = .ok (.aload_n 2, 1) := by decide +kernel
theorem dL_bench_45 : decode cL_bench 45 = .ok (.bipush 7, 2) := by decide +kernel
theorem dL_bench_47 : decode cL_bench 47 = .ok (.aload_n 0, 1) := by decide +kernel
theorem dL_bench_48 : decode cL_bench 48 = .ok (.iconst 1, 1) := by decide +kernel
theorem dL_bench_49 : decode cL_bench 49 = .ok (.invokestatic 16, 3) := by decide +kernel
theorem dL_bench_52 : decode cL_bench 52 = .ok (.iconst 3, 1) := by decide +kernel
theorem dL_bench_53 : decode cL_bench 53 = .ok (.invokestatic 22, 3) := by decide +kernel
theorem dL_bench_56 : decode cL_bench 56 = .ok (.iadd, 1) := by decide +kernel
theorem dL_bench_57 : decode cL_bench 57 = .ok (.invokevirtual 26, 3) := by decide +kernel
theorem dL_bench_60 : decode cL_bench 60 = .ok (.pop, 1) := by decide +kernel
theorem dL_bench_61 : decode cL_bench 61 = .ok (.iconst 0, 1) := by decide +kernel
theorem dL_bench_62 : decode cL_bench 62 = .ok (.istore_n 3, 1) := by decide +kernel
theorem dL_bench_63 : decode cL_bench 63 = .ok (.iload_n 3, 1) := by decide +kernel
theorem dL_bench_64 : decode cL_bench 64 = .ok (.iconst 3, 1) := by decide +kernel
theorem dL_bench_65 : decode cL_bench 65 = .ok (.aload_n 0, 1) := by decide +kernel
theorem dL_bench_66 : decode cL_bench 66 = .ok (.iconst 0, 1) := by decide +kernel
theorem dL_bench_67 : decode cL_bench 67 = .ok (.invokestatic 16, 3) := by decide +kernel
theorem dL_bench_70 : decode cL_bench 70 = .ok (.iconst 3, 1) := by decide +kernel
theorem dL_bench_71 : decode cL_bench 71 = .ok (.ishr, 1) := by decide +kernel
theorem dL_bench_72 : decode cL_bench 72 = .ok (.iconst 4, 1) := by decide +kernel
theorem dL_bench_73 : decode cL_bench 73 = .ok (.invokestatic 22, 3) := by decide +kernel
theorem dL_bench_76 : decode cL_bench 76 = .ok (.iadd, 1) := by decide +kernel
theorem dL_bench_77 : decode cL_bench 77 = .ok (.if_icmp .ge 20, 3) := by decide +kernel
theorem dL_bench_80 : decode cL_bench 80 = .ok (.aload_n 2, 1) := by decide +kernel
theorem dL_bench_81 : decode cL_bench 81 = .ok (.aload_n 0, 1) := by decide +kernel
theorem dL_bench_82 : decode cL_bench 82 = .ok (.iconst 2, 1) := by decide +kernel
theorem dL_bench_83 : decode cL_bench 83 = .ok (.iload_n 3, 1) := by decide +kernel
theorem dL_bench_84 : decode cL_bench 84 = .ok (.iadd, 1) := by decide +kernel
theorem dL_bench_85 : decode cL_bench 85 = .ok (.invokestatic 16, 3) := by decide +kernel
theorem dL_bench_88 : decode cL_bench 88 = .ok (.invokestatic 29, 3) := by decide +kernel
theorem dL_bench_91 : decode cL_bench 91 = .ok (.iinc 3 1, 3) := by decide +kernel
theorem dL_bench_94 : decode cL_bench 94 = .ok (.goto (-31), 3) := by decide +kernel
theorem dL_bench_97 : decode cL_bench 97 = .ok (.aload_n 2, 1) := by decide +kernel
theorem dL_bench_98 : decode cL_bench 98 = .ok (.iconst 0, 1) := by decide +kernel
theorem dL_bench_99 : decode cL_bench 99 = .ok (.iconst 1, 1) := by decide +kernel
theorem dL_bench_100 : decode cL_bench 100 = .ok (.invokevirtual 33, 3) := by decide +kernel
theorem dL_bench_103 : decode cL_bench 103 = .ok (.istore_n 3, 1) := by decide +kernel
theorem dL_bench_104 : decode cL_bench 104 = .ok (.iload_n 3, 1) := by decide +kernel
theorem dL_bench_105 : decode cL_bench 105 = .ok (.ifCond .ne 9, 3) := by decide +kernel
theorem dL_bench_108 : decode cL_bench 108 = .ok (.aload_n 2, 1) := by decide +kernel
theorem dL_bench_109 : decode cL_bench 109 = .ok (.iconst 0, 1) := by decide +kernel
theorem dL_bench_110 : decode cL_bench 110 = .ok (.invokevirtual 36, 3) := by decide +kernel
theorem dL_bench_113 : decode cL_bench 113 = .ok (.pop, 1) := by decide +kernel
theorem dL_bench_114 : decode cL_bench 114 = .ok (.iconst 0, 1) := by decide +kernel
theorem dL_bench_115 : decode cL_bench 115 = .ok (.istore 4, 2) := by decide +kernel
theorem dL_bench_117 : decode cL_bench 117 = .ok (.iload 4, 2) := by decide +kernel
theorem dL_bench_119 : decode cL_bench 119 = .ok (.aload_n 0, 1) := by decide +kernel
theorem dL_bench_120 : decode cL_bench 120 = .ok (.bipush 9, 2) := by decide +kernel
theorem dL_bench_122 : decode cL_bench 122 = .ok (.invokestatic 16, 3) := by decide +kernel
theorem dL_bench_125 : decode cL_bench 125 = .ok (.iconst 3, 1) := by decide +kernel
theorem dL_bench_126 : decode cL_bench 126 = .ok (.invokestatic 22, 3) := by decide +kernel
theorem dL_bench_129 : decode cL_bench 129 = .ok (.if_icmp .ge 34, 3) := by decide +kernel
theorem dL_bench_132 : decode cL_bench 132 = .ok (.aload_n 2, 1) := by decide +kernel
theorem dL_bench_133 : decode cL_bench 133 = .ok (.iconst 0, 1) := by decide +kernel
theorem dL_bench_134 : decode cL_bench 134 = .ok (.aload_n 0, 1) := by decide +kernel
theorem dL_bench_135 : decode cL_bench 135 = .ok (.bipush 10, 2) := by decide +kernel
theorem dL_bench_137 : decode cL_bench 137 = .ok (.iload 4, 2) := by decide +kernel
theorem dL_bench_139 : decode cL_bench 139 = .ok (.iadd, 1) := by decide +kernel
theorem dL_bench_140 : decode cL_bench 140 = .ok (.invokestatic 16, 3) := by decide +kernel
theorem dL_bench_143 : decode cL_bench 143 = .ok (.aload_n 2, 1) := by decide +kernel
theorem dL_bench_144 : decode cL_bench 144 = .ok (.iconst 0, 1) := by decide +kernel
theorem dL_bench_145 : decode cL_bench 145 = .ok (.iconst 1, 1) := by decide +kernel
theorem dL_bench_146 : decode cL_bench 146 = .ok (.invokevirtual 33, 3) := by decide +kernel
theorem dL_bench_149 : decode cL_bench 149 = .ok (.invokestatic 22, 3) := by decide +kernel
theorem dL_bench_152 : decode cL_bench 152 = .ok (.iconst 1, 1) := by decide +kernel
theorem dL_bench_153 : decode cL_bench 153 = .ok (.invokevirtual 39, 3) := by decide +kernel
theorem dL_bench_156 : decode cL_bench 156 = .ok (.pop, 1) := by decide +kernel
theorem dL_bench_157 : decode cL_bench 157 = .ok (.iinc 4 1, 3) := by decide +kernel
theorem dL_bench_160 : decode cL_bench 160 = .ok (.goto (-43), 3) := by decide +kernel
theorem dL_bench_163 : decode cL_bench 163 = .ok (.iconst 0, 1) := by decide +kernel
theorem dL_bench_164 : decode cL_bench 164 = .ok (.istore 4, 2) := by decide +kernel
theorem dL_bench_166 : decode cL_bench 166 = .ok (.iload 4, 2) := by decide +kernel
theorem dL_bench_168 : decode cL_bench 168 = .ok (.iconst 1, 1) := by decide +kernel
theorem dL_bench_169 : decode cL_bench 169 = .ok (.aload_n 0, 1) := by decide +kernel
theorem dL_bench_170 : decode cL_bench 170 = .ok (.bipush 13, 2) := by decide +kernel
theorem dL_bench_172 : decode cL_bench 172 = .ok (.invokestatic 16, 3) := by decide +kernel
theorem dL_bench_175 : decode cL_bench 175 = .ok (.iconst 3, 1) := by decide +kernel
theorem dL_bench_176 : decode cL_bench 176 = .ok (.invokestatic 22, 3) := by decide +kernel
theorem dL_bench_179 : decode cL_bench 179 = .ok (.iadd, 1) := by decide +kernel
theorem dL_bench_180 : decode cL_bench 180 = .ok (.if_icmp .ge 89, 3) := by decide +kernel
theorem dL_bench_183 : decode cL_bench 183 = .ok (.aload_n 0, 1) := by decide +kernel
theorem dL_bench_184 : decode cL_bench 184 = .ok (.bipush 14, 2) := by decide +kernel
theorem dL_bench_186 : decode cL_bench 186 = .ok (.iload 4, 2) := by decide +kernel
theorem dL_bench_188 : decode cL_bench 188 = .ok (.iadd, 1) := by decide +kernel
theorem dL_bench_189 : decode cL_bench 189 = .ok (.invokestatic 16, 3) := by decide +kernel
theorem dL_bench_192 : decode cL_bench 192 = .ok (.iconst 4, 1) := by decide +kernel
theorem dL_bench_193 : decode cL_bench 193 = .ok (.invokestatic 22, 3) := by decide +kernel
theorem dL_bench_196 : decode cL_bench 196 = .ok (.ifCond .ne 37, 3) := by decide +kernel
theorem dL_bench_199 : decode cL_bench 199 = .ok (.aload_n 2, 1) := by decide +kernel
theorem dL_bench_200 : decode cL_bench 200 = .ok (.iconst 0, 1) := by decide +kernel
theorem dL_bench_201 : decode cL_bench 201 = .ok (.aload_n 0, 1) := by decide +kernel
theorem dL_bench_202 : decode cL_bench 202 = .ok (.bipush 14, 2) := by decide +kernel
theorem dL_bench_204 : decode cL_bench 204 = .ok (.iload 4, 2) := by decide +kernel
theorem dL_bench_206 : decode cL_bench 206 = .ok (.iadd, 1) := by decide +kernel
theorem dL_bench_207 : decode cL_bench 207 = .ok (.invokestatic 16, 3) := by decide +kernel
theorem dL_bench_210 : decode cL_bench 210 = .ok (.iconst 3, 1) := by decide +kernel
theorem dL_bench_211 : decode cL_bench 211 = .ok (.ishr, 1) := by decide +kernel
theorem dL_bench_212 : decode cL_bench 212 = .ok (.aload_n 2, 1) := by decide +kernel
theorem dL_bench_213 : decode cL_bench 213 = .ok (.iconst 0, 1) := by decide +kernel
theorem dL_bench_214 : decode cL_bench 214 = .ok (.iconst 1, 1) := by decide +kernel
theorem dL_bench_215 : decode cL_bench 215 = .ok (.invokevirtual 33, 3) := by decide +kernel
theorem dL_bench_218 : decode cL_bench 218 = .ok (.invokestatic 22, 3) := by decide +kernel
theorem dL_bench_221 : decode cL_bench 221 = .ok (.aload_n 2, 1) := by decide +kernel
theorem dL_bench_222 : decode cL_bench 222 = .ok (.iconst 0, 1) := by decide +kernel
theorem dL_bench_223 : decode cL_bench 223 = .ok (.iconst 1, 1) := by decide +kernel
theorem dL_bench_224 : decode cL_bench 224 = .ok (.invokevirtual 33, 3) := by decide +kernel
theorem dL_bench_227 : decode cL_bench 227 = .ok (.iconst 1, 1) := by decide +kernel
theorem dL_bench_228 : decode cL_bench 228 = .ok (.isub, 1) := by decide +kernel
theorem dL_bench_229 : decode cL_bench 229 = .ok (.invokevirtual 43, 3) := by decide +kernel
theorem dL_bench_232 : decode cL_bench 232 = .ok (.pop, 1) := by decide +kernel
theorem dL_bench_233 : decode cL_bench 233 = .ok (.aload_n 2, 1) := by decide +kernel
theorem dL_bench_234 : decode cL_bench 234 = .ok (.iconst 0, 1) := by decide +kernel
theorem dL_bench_235 : decode cL_bench 235 = .ok (.invokevirtual 47, 3) := by decide +kernel
theorem dL_bench_238 : decode cL_bench 238 = .ok (.pop, 1) := by decide +kernel
theorem dL_bench_239 : decode cL_bench 239 = .ok (.aload_n 0, 1) := by decide +kernel
theorem dL_bench_240 : decode cL_bench 240 = .ok (.bipush 14, 2) := by decide +kernel
theorem dL_bench_242 : decode cL_bench 242 = .ok (.iload 4, 2) := by decide +kernel
theorem dL_bench_244 : decode cL_bench 244 = .ok (.iadd, 1) := by decide +kernel
theorem dL_bench_245 : decode cL_bench 245 = .ok (.invokestatic 16, 3) := by decide +kernel
theorem dL_bench_248 : decode cL_bench 248 = .ok (.iconst 5, 1) := by decide +kernel
theorem dL_bench_249 : decode cL_bench 249 = .ok (.ishr, 1) := by decide +kernel
theorem dL_bench_250 : decode cL_bench 250 = .ok (.iconst 2, 1) := by decide +kernel
theorem dL_bench_251 : decode cL_bench 251 = .ok (.invokestatic 22, 3) := by decide +kernel
theorem dL_bench_254 : decode cL_bench 254 = .ok (.ifCond .ne 9, 3) := by decide +kernel
theorem dL_bench_257 : decode cL_bench 257 = .ok (.aload_n 2, 1) := by decide +kernel
theorem dL_bench_258 : decode cL_bench 258 = .ok (.iconst 0, 1) := by decide +kernel
theorem dL_bench_259 : decode cL_bench 259 = .ok (.invokevirtual 50, 3) := by decide +kernel
theorem dL_bench_262 : decode cL_bench 262 = .ok (.pop, 1) := by decide +kernel
theorem dL_bench_263 : decode cL_bench 263 = .ok (.iinc 4 1, 3) := by decide +kernel
theorem dL_bench_266 : decode cL_bench 266 = .ok (.goto (-100), 3) := by decide +kernel
theorem dL_bench_269 : decode cL_bench 269 = .ok (.aload_n 2, 1) := by decide +kernel
theorem dL_bench_270 : decode cL_bench 270 = .ok (.areturn, 1) := by decide +kernel
theorem dL_write_0 : decode cL_write 0 = .ok (.iload_n 1, 1) := by decide +kernel
theorem dL_write_1 : decode cL_write 1 = .ok (.bipush 9, 2) := by decide +kernel
theorem dL_write_3 : decode cL_write 3 = .ok (.invokestatic 22, 3) := by decide +kernel
theorem dL_write_6 : decode cL_write 6 = .ok (.lookupswitch 53 #[(0, 26), (1, 44)], 26) := by decide +kernel
theorem dL_write_32 : decode cL_write 32 = .ok (.aload_n 0, 1) := by decide +kernel
theorem dL_write_33 : decode cL_write 33 = .ok (.iconst 0, 1) := by decide +kernel
theorem dL_write_34 : decode cL_write 34 = .ok (.iload_n 1, 1) := by decide +kernel
theorem dL_write_35 : decode cL_write 35 = .ok (.iconst 3, 1) := by decide +kernel
theorem dL_write_36 : decode cL_write 36 = .ok (.ishr, 1) := by decide +kernel
theorem dL_write_37 : decode cL_write 37 = .ok (.sipush 256, 3) := by decide +kernel
theorem dL_write_40 : decode cL_write 40 = .ok (.invokestatic 22, 3) := by decide +kernel
theorem dL_write_43 : decode cL_write 43 = .ok (.invokevirtual 53, 3) := by decide +kernel
theorem dL_write_46 : decode cL_write 46 = .ok (.pop, 1) := by decide +kernel
theorem dL_write_47 : decode cL_write 47 = .ok (.goto 76, 3) := by decide +kernel
theorem dL_write_50 : decode cL_write 50 = .ok (.aload_n 0, 1) := by decide +kernel
theorem dL_write_51 : decode cL_write 51 = .ok (.iconst 0, 1) := by decide +kernel
theorem dL_write_52 : decode cL_write 52 = .ok (.invokevirtual 36, 3) := by decide +kernel
theorem dL_write_55 : decode cL_write 55 = .ok (.pop, 1) := by decide +kernel
theorem dL_write_56 : decode cL_write 56 = .ok (.goto 67, 3) := by decide +kernel
theorem dL_write_59 : decode cL_write 59 = .ok (.aload_n 0, 1) := by decide +kernel
theorem dL_write_60 : decode cL_write 60 = .ok (.iconst 0, 1) := by decide +kernel
theorem dL_write_61 : decode cL_write 61 = .ok (.iload_n 1, 1) := by decide +kernel
theorem dL_write_62 : decode cL_write 62 = .ok (.iconst 3, 1) := by decide +kernel
theorem dL_write_63 : decode cL_write 63 = .ok (.ishr, 1) := by decide +kernel
theorem dL_write_64 : decode cL_write 64 = .ok (.iconst 5, 1) := by decide +kernel
theorem dL_write_65 : decode cL_write 65 = .ok (.invokestatic 22, 3) := by decide +kernel
theorem dL_write_68 : decode cL_write 68 = .ok (.iconst 1, 1) := by decide +kernel
theorem dL_write_69 : decode cL_write 69 = .ok (.iload_n 1, 1) := by decide +kernel
theorem dL_write_70 : decode cL_write 70 = .ok (.iconst 5, 1) := by decide +kernel
theorem dL_write_71 : decode cL_write 71 = .ok (.ishr, 1) := by decide +kernel
theorem dL_write_72 : decode cL_write 72 = .ok (.iconst 2, 1) := by decide +kernel
theorem dL_write_73 : decode cL_write 73 = .ok (.invokestatic 22, 3) := by decide +kernel
theorem dL_write_76 : decode cL_write 76 = .ok (.iadd, 1) := by decide +kernel
theorem dL_write_77 : decode cL_write 77 = .ok (.iload_n 1, 1) := by decide +kernel
theorem dL_write_78 : decode cL_write 78 = .ok (.bipush 6, 2) := by decide +kernel
theorem dL_write_80 : decode cL_write 80 = .ok (.ishr, 1) := by decide +kernel
theorem dL_write_81 : decode cL_write 81 = .ok (.iconst 5, 1) := by decide +kernel
theorem dL_write_82 : decode cL_write 82 = .ok (.invokestatic 22, 3) := by decide +kernel
theorem dL_write_85 : decode cL_write 85 = .ok (.iload_n 1, 1) := by decide +kernel
theorem dL_write_86 : decode cL_write 86 = .ok (.iconst 4, 1) := by decide +kernel
theorem dL_write_87 : decode cL_write 87 = .ok (.ishr, 1) := by decide +kernel
theorem dL_write_88 : decode cL_write 88 = .ok (.iconst 3, 1) := by decide +kernel
theorem dL_write_89 : decode cL_write 89 = .ok (.invokestatic 22, 3) := by decide +kernel
theorem dL_write_92 : decode cL_write 92 = .ok (.ifCond .ne 9, 3) := by decide +kernel
theorem dL_write_95 : decode cL_write 95 = .ok (.sipush 255, 3) := by decide +kernel
theorem dL_write_98 : decode cL_write 98 = .ok (.goto 4, 3) := by decide +kernel
theorem dL_write_101 : decode cL_write 101 = .ok (.iconst 0, 1) := by decide +kernel
theorem dL_write_102 : decode cL_write 102 = .ok (.iadd, 1) := by decide +kernel
theorem dL_write_103 : decode cL_write 103 = .ok (.iload_n 1, 1) := by decide +kernel
theorem dL_write_104 : decode cL_write 104 = .ok (.bipush 7, 2) := by decide +kernel
theorem dL_write_106 : decode cL_write 106 = .ok (.ishr, 1) := by decide +kernel
theorem dL_write_107 : decode cL_write 107 = .ok (.iconst 5, 1) := by decide +kernel
theorem dL_write_108 : decode cL_write 108 = .ok (.invokestatic 22, 3) := by decide +kernel
theorem dL_write_111 : decode cL_write 111 = .ok (.ifCond .le 7, 3) := by decide +kernel
theorem dL_write_114 : decode cL_write 114 = .ok (.iconst 1, 1) := by decide +kernel
theorem dL_write_115 : decode cL_write 115 = .ok (.goto 4, 3) := by decide +kernel
theorem dL_write_118 : decode cL_write 118 = .ok (.iconst 0, 1) := by decide +kernel
theorem dL_write_119 : decode cL_write 119 = .ok (.invokevirtual 55, 3) := by decide +kernel
theorem dL_write_122 : decode cL_write 122 = .ok (.pop, 1) := by decide +kernel
theorem dL_write_123 : decode cL_write 123 = .ok (.goto 5, 3) := by decide +kernel
theorem dL_write_126 : decode cL_write 126 = .ok (.astore_n 2, 1) := by decide +kernel
theorem dL_write_127 : decode cL_write 127 = .ok (.return_, 1) := by decide +kernel
theorem dL_write_128 : decode cL_write 128 = .ok (.return_, 1) := by decide +kernel
theorem dL_gone_0 : decode cL_gone 0 = .ok (.iconst 0, 1) := by decide +kernel
theorem dL_gone_1 : decode cL_gone 1 = .ok (.istore_n 2, 1) := by decide +kernel
theorem dL_gone_2 : decode cL_gone 2 = .ok (.iconst 0, 1) := by decide +kernel
theorem dL_gone_3 : decode cL_gone 3 = .ok (.istore_n 3, 1) := by decide +kernel
theorem dL_gone_4 : decode cL_gone 4 = .ok (.iload_n 3, 1) := by decide +kernel
theorem dL_gone_5 : decode cL_gone 5 = .ok (.aload_n 0, 1) := by decide +kernel
theorem dL_gone_6 : decode cL_gone 6 = .ok (.iload_n 1, 1) := by decide +kernel
theorem dL_gone_7 : decode cL_gone 7 = .ok (.iconst 1, 1) := by decide +kernel
theorem dL_gone_8 : decode cL_gone 8 = .ok (.invokevirtual 33, 3) := by decide +kernel
theorem dL_gone_11 : decode cL_gone 11 = .ok (.if_icmp .ge 28, 3) := by decide +kernel
theorem dL_gone_14 : decode cL_gone 14 = .ok (.iload_n 2, 1) := by decide +kernel
theorem dL_gone_15 : decode cL_gone 15 = .ok (.aload_n 0, 1) := by decide +kernel
theorem dL_gone_16 : decode cL_gone 16 = .ok (.iload_n 1, 1) := by decide +kernel
theorem dL_gone_17 : decode cL_gone 17 = .ok (.iload_n 3, 1) := by decide +kernel
theorem dL_gone_18 : decode cL_gone 18 = .ok (.iconst 3, 1) := by decide +kernel
theorem dL_gone_19 : decode cL_gone 19 = .ok (.invokevirtual 68, 3) := by decide +kernel
theorem dL_gone_22 : decode cL_gone 22 = .ok (.iconst 2, 1) := by decide +kernel
theorem dL_gone_23 : decode cL_gone 23 = .ok (.if_icmp .ne 7, 3) := by decide +kernel
theorem dL_gone_26 : decode cL_gone 26 = .ok (.iconst 1, 1) := by decide +kernel
theorem dL_gone_27 : decode cL_gone 27 = .ok (.goto 4, 3) := by decide +kernel
theorem dL_gone_30 : decode cL_gone 30 = .ok (.iconst 0, 1) := by decide +kernel
theorem dL_gone_31 : decode cL_gone 31 = .ok (.iadd, 1) := by decide +kernel
theorem dL_gone_32 : decode cL_gone 32 = .ok (.istore_n 2, 1) := by decide +kernel
theorem dL_gone_33 : decode cL_gone 33 = .ok (.iinc 3 1, 3) := by decide +kernel
theorem dL_gone_36 : decode cL_gone 36 = .ok (.goto (-32), 3) := by decide +kernel
theorem dL_gone_39 : decode cL_gone 39 = .ok (.iload_n 2, 1) := by decide +kernel
theorem dL_gone_40 : decode cL_gone 40 = .ok (.ireturn, 1) := by decide +kernel
theorem dL_isSo_0 : decode cL_isSo 0 = .ok (.aload_n 0, 1) := by decide +kernel
theorem dL_isSo_1 : decode cL_isSo 1 = .ok (.iload_n 1, 1) := by decide +kernel
theorem dL_isSo_2 : decode cL_isSo 2 = .ok (.iconst 2, 1) := by decide +kernel
theorem dL_isSo_3 : decode cL_isSo 3 = .ok (.invokevirtual 33, 3) := by decide +kernel
theorem dL_isSo_6 : decode cL_isSo 6 = .ok (.istore_n 2, 1) := by decide +kernel
theorem dL_isSo_7 : decode cL_isSo 7 = .ok (.aload_n 0, 1) := by decide +kernel
theorem dL_isSo_8 : decode cL_isSo 8 = .ok (.iload_n 1, 1) := by decide +kernel
theorem dL_isSo_9 : decode cL_isSo 9 = .ok (.iconst 3, 1) := by decide +kernel
theorem dL_isSo_10 : decode cL_isSo 10 = .ok (.invokevirtual 33, 3) := by decide +kernel
theorem dL_isSo_13 : decode cL_isSo 13 = .ok (.istore_n 3, 1) := by decide +kernel
theorem dL_isSo_14 : decode cL_isSo 14 = .ok (.aload_n 0, 1) := by decide +kernel
theorem dL_isSo_15 : decode cL_isSo 15 = .ok (.iload_n 1, 1) := by decide +kernel
theorem dL_isSo_16 : decode cL_isSo 16 = .ok (.iconst 4, 1) := by decide +kernel
theorem dL_isSo_17 : decode cL_isSo 17 = .ok (.invokevirtual 33, 3) := by decide +kernel
theorem dL_isSo_20 : decode cL_isSo 20 = .ok (.istore 4, 2) := by decide +kernel
theorem dL_isSo_22 : decode cL_isSo 22 = .ok (.iload_n 2, 1) := by decide +kernel
theorem dL_isSo_23 : decode cL_isSo 23 = .ok (.ifCond .ne 7, 3) := by decide +kernel
theorem dL_isSo_26 : decode cL_isSo 26 = .ok (.iconst 0, 1) := by decide +kernel
theorem dL_isSo_27 : decode cL_isSo 27 = .ok (.goto 6, 3) := by decide +kernel
theorem dL_isSo_30 : decode cL_isSo 30 = .ok (.sipush 400, 3) := by decide +kernel
theorem dL_isSo_33 : decode cL_isSo 33 = .ok (.istore 5, 2) := by decide +kernel
theorem dL_isSo_35 : decode cL_isSo 35 = .ok (.iconst 0, 1) := by decide +kernel
theorem dL_isSo_36 : decode cL_isSo 36 = .ok (.istore 6, 2) := by decide +kernel
theorem dL_isSo_38 : decode cL_isSo 38 = .ok (.iconst 0, 1) := by decide +kernel
theorem dL_isSo_39 : decode cL_isSo 39 = .ok (.istore 7, 2) := by decide +kernel
theorem dL_isSo_41 : decode cL_isSo 41 = .ok (.iload 7, 2) := by decide +kernel
theorem dL_isSo_43 : decode cL_isSo 43 = .ok (.iload_n 2, 1) := by decide +kernel
theorem dL_isSo_44 : decode cL_isSo 44 = .ok (.if_icmp .ge 75, 3) := by decide +kernel
theorem dL_isSo_47 : decode cL_isSo 47 = .ok (.aload_n 0, 1) := by decide +kernel
theorem dL_isSo_48 : decode cL_isSo 48 = .ok (.iload_n 1, 1) := by decide +kernel
theorem dL_isSo_49 : decode cL_isSo 49 = .ok (.iload 7, 2) := by decide +kernel
theorem dL_isSo_51 : decode cL_isSo 51 = .ok (.iconst 0, 1) := by decide +kernel
theorem dL_isSo_52 : decode cL_isSo 52 = .ok (.invokevirtual 90, 3) := by decide +kernel
theorem dL_isSo_55 : decode cL_isSo 55 = .ok (.istore 8, 2) := by decide +kernel
theorem dL_isSo_57 : decode cL_isSo 57 = .ok (.iload 5, 2) := by decide +kernel
theorem dL_isSo_59 : decode cL_isSo 59 = .ok (.iload 8, 2) := by decide +kernel
theorem dL_isSo_61 : decode cL_isSo 61 = .ok (.invokestatic 87, 3) := by decide +kernel
theorem dL_isSo_64 : decode cL_isSo 64 = .ok (.istore 5, 2) := by decide +kernel
theorem dL_isSo_66 : decode cL_isSo 66 = .ok (.iload 6, 2) := by decide +kernel
theorem dL_isSo_68 : decode cL_isSo 68 = .ok (.iload 8, 2) := by decide +kernel
theorem dL_isSo_70 : decode cL_isSo 70 = .ok (.invokestatic 71, 3) := by decide +kernel
theorem dL_isSo_73 : decode cL_isSo 73 = .ok (.istore 6, 2) := by decide +kernel
theorem dL_isSo_75 : decode cL_isSo 75 = .ok (.iload 8, 2) := by decide +kernel
theorem dL_isSo_77 : decode cL_isSo 77 = .ok (.sipush 400, 3) := by decide +kernel
theorem dL_isSo_80 : decode cL_isSo 80 = .ok (.if_icmp .gt 31, 3) := by decide +kernel
theorem dL_isSo_83 : decode cL_isSo 83 = .ok (.aload_n 0, 1) := by decide +kernel
theorem dL_isSo_84 : decode cL_isSo 84 = .ok (.iload_n 1, 1) := by decide +kernel
theorem dL_isSo_85 : decode cL_isSo 85 = .ok (.iload 7, 2) := by decide +kernel
theorem dL_isSo_87 : decode cL_isSo 87 = .ok (.invokevirtual 101, 3) := by decide +kernel
theorem dL_isSo_90 : decode cL_isSo 90 = .ok (.ldc2_w 105, 3) := by decide +kernel
theorem dL_isSo_93 : decode cL_isSo 93 = .ok (.dcmp .g, 1) := by decide +kernel
theorem dL_isSo_94 : decode cL_isSo 94 = .ok (.ifCond .lt 17, 3) := by decide +kernel
theorem dL_isSo_97 : decode cL_isSo 97 = .ok (.aload_n 0, 1) := by decide +kernel
theorem dL_isSo_98 : decode cL_isSo 98 = .ok (.iload_n 1, 1) := by decide +kernel
theorem dL_isSo_99 : decode cL_isSo 99 = .ok (.iload 7, 2) := by decide +kernel
theorem dL_isSo_101 : decode cL_isSo 101 = .ok (.invokevirtual 101, 3) := by decide +kernel
theorem dL_isSo_104 : decode cL_isSo 104 = .ok (.ldc2_w 107, 3) := by decide +kernel
theorem dL_isSo_107 : decode cL_isSo 107 = .ok (.dcmp .l, 1) := by decide +kernel
theorem dL_isSo_108 : decode cL_isSo 108 = .ok (.ifCond .le 5, 3) := by decide +kernel
theorem dL_isSo_111 : decode cL_isSo 111 = .ok (.iconst 0, 1) := by decide +kernel
theorem dL_isSo_112 : decode cL_isSo 112 = .ok (.ireturn, 1) := by decide +kernel
theorem dL_isSo_113 : decode cL_isSo 113 = .ok (.iinc 7 1, 3) := by decide +kernel
theorem dL_isSo_116 : decode cL_isSo 116 = .ok (.goto (-75), 3) := by decide +kernel
theorem dL_isSo_119 : decode cL_isSo 119 = .ok (.iload_n 3, 1) := by decide +kernel
theorem dL_isSo_120 : decode cL_isSo 120 = .ok (.iload 5, 2) := by decide +kernel
theorem dL_isSo_122 : decode cL_isSo 122 = .ok (.if_icmp .ne 46, 3) := by decide +kernel
theorem dL_isSo_125 : decode cL_isSo 125 = .ok (.iload 4, 2) := by decide +kernel
theorem dL_isSo_127 : decode cL_isSo 127 = .ok (.iload 6, 2) := by decide +kernel
theorem dL_isSo_129 : decode cL_isSo 129 = .ok (.iload 5, 2) := by decide +kernel
theorem dL_isSo_131 : decode cL_isSo 131 = .ok (.isub, 1) := by decide +kernel
theorem dL_isSo_132 : decode cL_isSo 132 = .ok (.if_icmp .lt 36, 3) := by decide +kernel
theorem dL_isSo_135 : decode cL_isSo 135 = .ok (.iload 4, 2) := by decide +kernel
theorem dL_isSo_137 : decode cL_isSo 137 = .ok (.iload 6, 2) := by decide +kernel
theorem dL_isSo_139 : decode cL_isSo 139 = .ok (.if_icmp .gt 29, 3) := by decide +kernel
theorem dL_isSo_142 : decode cL_isSo 142 = .ok (.iload_n 2, 1) := by decide +kernel
theorem dL_isSo_143 : decode cL_isSo 143 = .ok (.iconst 2, 1) := by decide +kernel
theorem dL_isSo_144 : decode cL_isSo 144 = .ok (.if_icmp .ge 8, 3) := by decide +kernel
theorem dL_isSo_147 : decode cL_isSo 147 = .ok (.iload 4, 2) := by decide +kernel
theorem dL_isSo_149 : decode cL_isSo 149 = .ok (.ifCond .ne 19, 3) := by decide +kernel
theorem dL_isSo_152 : decode cL_isSo 152 = .ok (.iload_n 2, 1) := by decide +kernel
theorem dL_isSo_153 : decode cL_isSo 153 = .ok (.iconst 3, 1) := by decide +kernel
theorem dL_isSo_154 : decode cL_isSo 154 = .ok (.if_icmp .gt 14, 3) := by decide +kernel
theorem dL_isSo_157 : decode cL_isSo 157 = .ok (.aload_n 0, 1) := by decide +kernel
theorem dL_isSo_158 : decode cL_isSo 158 = .ok (.iload_n 1, 1) := by decide +kernel
theorem dL_isSo_159 : decode cL_isSo 159 = .ok (.bipush 10, 2) := by decide +kernel
theorem dL_isSo_161 : decode cL_isSo 161 = .ok (.invokevirtual 33, 3) := by decide +kernel
theorem dL_isSo_164 : decode cL_isSo 164 = .ok (.iload_n 2, 1) := by decide +kernel
theorem dL_isSo_165 : decode cL_isSo 165 = .ok (.if_icmp .ge 5, 3) := by decide +kernel
theorem dL_isSo_168 : decode cL_isSo 168 = .ok (.iconst 0, 1) := by decide +kernel
theorem dL_isSo_169 : decode cL_isSo 169 = .ok (.ireturn, 1) := by decide +kernel
theorem dL_isSo_170 : decode cL_isSo 170 = .ok (.aload_n 0, 1) := by decide +kernel
theorem dL_isSo_171 : decode cL_isSo 171 = .ok (.iload_n 1, 1) := by decide +kernel
theorem dL_isSo_172 : decode cL_isSo 172 = .ok (.invokevirtual 109, 3) := by decide +kernel
theorem dL_isSo_175 : decode cL_isSo 175 = .ok (.dstore 7, 2) := by decide +kernel
theorem dL_isSo_177 : decode cL_isSo 177 = .ok (.iload_n 3, 1) := by decide +kernel
theorem dL_isSo_178 : decode cL_isSo 178 = .ok (.iload 4, 2) := by decide +kernel
theorem dL_isSo_180 : decode cL_isSo 180 = .ok (.iadd, 1) := by decide +kernel
theorem dL_isSo_181 : decode cL_isSo 181 = .ok (.ifCond .ne 13, 3) := by decide +kernel
theorem dL_isSo_184 : decode cL_isSo 184 = .ok (.dload 7, 2) := by decide +kernel
theorem dL_isSo_186 : decode cL_isSo 186 = .ok (.dconst 0, 1) := by decide +kernel
theorem dL_isSo_187 : decode cL_isSo 187 = .ok (.dcmp .l, 1) := by decide +kernel
theorem dL_isSo_188 : decode cL_isSo 188 = .ok (.ifCond .eq 32, 3) := by decide +kernel
theorem dL_isSo_191 : decode cL_isSo 191 = .ok (.goto 27, 3) := by decide +kernel
theorem dL_isSo_194 : decode cL_isSo 194 = .ok (.dconst 1, 1) := by decide +kernel
theorem dL_isSo_195 : decode cL_isSo 195 = .ok (.dload 7, 2) := by decide +kernel
theorem dL_isSo_197 : decode cL_isSo 197 = .ok (.dsub, 1) := by decide +kernel
theorem dL_isSo_198 : decode cL_isSo 198 = .ok (.iload_n 3, 1) := by decide +kernel
theorem dL_isSo_199 : decode cL_isSo 199 = .ok (.iload 4, 2) := by decide +kernel
theorem dL_isSo_201 : decode cL_isSo 201 = .ok (.iadd, 1) := by decide +kernel
theorem dL_isSo_202 : decode cL_isSo 202 = .ok (.i2d, 1) := by decide +kernel
theorem dL_isSo_203 : decode cL_isSo 203 = .ok (.dmul, 1) := by decide +kernel
theorem dL_isSo_204 : decode cL_isSo 204 = .ok (.iload 4, 2) := by decide +kernel
theorem dL_isSo_206 : decode cL_isSo 206 = .ok (.i2d, 1) := by decide +kernel
theorem dL_isSo_207 : decode cL_isSo 207 = .ok (.dsub, 1) := by decide +kernel
theorem dL_isSo_208 : decode cL_isSo 208 = .ok (.invokestatic 113, 3) := by decide +kernel
theorem dL_isSo_211 : decode cL_isSo 211 = .ok (.ldc2_w 117, 3) := by decide +kernel
theorem dL_isSo_214 : decode cL_isSo 214 = .ok (.dcmp .l, 1) := by decide +kernel
theorem dL_isSo_215 : decode cL_isSo 215 = .ok (.ifCond .le 5, 3) := by decide +kernel
theorem dL_isSo_218 : decode cL_isSo 218 = .ok (.iconst 0, 1) := by decide +kernel
theorem dL_isSo_219 : decode cL_isSo 219 = .ok (.ireturn, 1) := by decide +kernel
theorem dL_isSo_220 : decode cL_isSo 220 = .ok (.aload_n 0, 1) := by decide +kernel
theorem dL_isSo_221 : decode cL_isSo 221 = .ok (.iload_n 1, 1) := by decide +kernel
theorem dL_isSo_222 : decode cL_isSo 222 = .ok (.iconst 5, 1) := by decide +kernel
theorem dL_isSo_223 : decode cL_isSo 223 = .ok (.invokevirtual 33, 3) := by decide +kernel
theorem dL_isSo_226 : decode cL_isSo 226 = .ok (.istore 9, 2) := by decide +kernel
theorem dL_isSo_228 : decode cL_isSo 228 = .ok (.iconst 0, 1) := by decide +kernel
theorem dL_isSo_229 : decode cL_isSo 229 = .ok (.istore 10, 2) := by decide +kernel
theorem dL_isSo_231 : decode cL_isSo 231 = .ok (.iconst 0, 1) := by decide +kernel
theorem dL_isSo_232 : decode cL_isSo 232 = .ok (.istore 11, 2) := by decide +kernel
theorem dL_isSo_234 : decode cL_isSo 234 = .ok (.iconst 0, 1) := by decide +kernel
theorem dL_isSo_235 : decode cL_isSo 235 = .ok (.istore 12, 2) := by decide +kernel
theorem dL_isSo_237 : decode cL_isSo 237 = .ok (.iconst 0, 1) := by decide +kernel
theorem dL_isSo_238 : decode cL_isSo 238 = .ok (.istore 13, 2) := by decide +kernel
theorem dL_isSo_240 : decode cL_isSo 240 = .ok (.iload 13, 2) := by decide +kernel
theorem dL_isSo_242 : decode cL_isSo 242 = .ok (.iload 9, 2) := by decide +kernel
theorem dL_isSo_244 : decode cL_isSo 244 = .ok (.if_icmp .ge 221, 3) := by decide +kernel
theorem dL_isSo_247 : decode cL_isSo 247 = .ok (.aload_n 0, 1) := by decide +kernel
theorem dL_isSo_248 : decode cL_isSo 248 = .ok (.iload_n 1, 1) := by decide +kernel
theorem dL_isSo_249 : decode cL_isSo 249 = .ok (.iload 13, 2) := by decide +kernel
theorem dL_isSo_251 : decode cL_isSo 251 = .ok (.iconst 0, 1) := by decide +kernel
theorem dL_isSo_252 : decode cL_isSo 252 = .ok (.invokevirtual 119, 3) := by decide +kernel
theorem dL_isSo_255 : decode cL_isSo 255 = .ok (.istore 14, 2) := by decide +kernel
theorem dL_isSo_257 : decode cL_isSo 257 = .ok (.aload_n 0, 1) := by decide +kernel
theorem dL_isSo_258 : decode cL_isSo 258 = .ok (.iload_n 1, 1) := by decide +kernel
theorem dL_isSo_259 : decode cL_isSo 259 = .ok (.iload 13, 2) := by decide +kernel
theorem dL_isSo_261 : decode cL_isSo 261 = .ok (.iconst 2, 1) := by decide +kernel
theorem dL_isSo_262 : decode cL_isSo 262 = .ok (.invokevirtual 119, 3) := by decide +kernel
theorem dL_isSo_265 : decode cL_isSo 265 = .ok (.istore 15, 2) := by decide +kernel
theorem dL_isSo_267 : decode cL_isSo 267 = .ok (.iload 14, 2) := by decide +kernel
theorem dL_isSo_269 : decode cL_isSo 269 = .ok (.bipush 10, 2) := by decide +kernel
theorem dL_isSo_271 : decode cL_isSo 271 = .ok (.iadd, 1) := by decide +kernel
theorem dL_isSo_272 : decode cL_isSo 272 = .ok (.iconst 3, 1) := by decide +kernel
theorem dL_isSo_273 : decode cL_isSo 273 = .ok (.iload 15, 2) := by decide +kernel
theorem dL_isSo_275 : decode cL_isSo 275 = .ok (.iadd, 1) := by decide +kernel
theorem dL_isSo_276 : decode cL_isSo 276 = .ok (.aload_n 0, 1) := by decide +kernel
theorem dL_isSo_277 : decode cL_isSo 277 = .ok (.iload_n 1, 1) := by decide +kernel
theorem dL_isSo_278 : decode cL_isSo 278 = .ok (.iconst 0, 1) := by decide +kernel
theorem dL_isSo_279 : decode cL_isSo 279 = .ok (.invokevirtual 33, 3) := by decide +kernel
theorem dL_isSo_282 : decode cL_isSo 282 = .ok (.iconst 2, 1) := by decide +kernel
theorem dL_isSo_283 : decode cL_isSo 283 = .ok (.if_icmp .ne 8, 3) := by decide +kernel
theorem dL_isSo_286 : decode cL_isSo 286 = .ok (.bipush 10, 2) := by decide +kernel
theorem dL_isSo_288 : decode cL_isSo 288 = .ok (.goto 5, 3) := by decide +kernel
theorem dL_isSo_291 : decode cL_isSo 291 = .ok (.bipush 16, 2) := by decide +kernel
theorem dL_isSo_293 : decode cL_isSo 293 = .ok (.imul, 1) := by decide +kernel
theorem dL_isSo_294 : decode cL_isSo 294 = .ok (.iadd, 1) := by decide +kernel
theorem dL_isSo_295 : decode cL_isSo 295 = .ok (.istore 16, 2) := by decide +kernel
theorem dL_isSo_297 : decode cL_isSo 297 = .ok (.iload 14, 2) := by decide +kernel
theorem dL_isSo_299 : decode cL_isSo 299 = .ok (.iload 11, 2) := by decide +kernel
theorem dL_isSo_301 : decode cL_isSo 301 = .ok (.if_icmp .lt 94, 3) := by decide +kernel
theorem dL_isSo_304 : decode cL_isSo 304 = .ok (.iload 15, 2) := by decide +kernel
theorem dL_isSo_306 : decode cL_isSo 306 = .ok (.iconst 1, 1) := by decide +kernel
theorem dL_isSo_307 : decode cL_isSo 307 = .ok (.if_icmp .lt 88, 3) := by decide +kernel
theorem dL_isSo_310 : decode cL_isSo 310 = .ok (.iload 15, 2) := by decide +kernel
theorem dL_isSo_312 : decode cL_isSo 312 = .ok (.iconst 4, 1) := by decide +kernel
theorem dL_isSo_313 : decode cL_isSo 313 = .ok (.if_icmp .gt 82, 3) := by decide +kernel
theorem dL_isSo_316 : decode cL_isSo 316 = .ok (.iload 16, 2) := by decide +kernel
theorem dL_isSo_318 : decode cL_isSo 318 = .ok (.iload_n 3, 1) := by decide +kernel
theorem dL_isSo_319 : decode cL_isSo 319 = .ok (.if_icmp .gt 76, 3) := by decide +kernel
theorem dL_isSo_322 : decode cL_isSo 322 = .ok (.aload_n 0, 1) := by decide +kernel
theorem dL_isSo_323 : decode cL_isSo 323 = .ok (.iload_n 1, 1) := by decide +kernel
theorem dL_isSo_324 : decode cL_isSo 324 = .ok (.iload 14, 2) := by decide +kernel
theorem dL_isSo_326 : decode cL_isSo 326 = .ok (.invokevirtual 122, 3) := by decide +kernel
theorem dL_isSo_329 : decode cL_isSo 329 = .ok (.iconst 1, 1) := by decide +kernel
theorem dL_isSo_330 : decode cL_isSo 330 = .ok (.if_icmp .ne 65, 3) := by decide +kernel
theorem dL_isSo_333 : decode cL_isSo 333 = .ok (.aload_n 0, 1) := by decide +kernel
theorem dL_isSo_334 : decode cL_isSo 334 = .ok (.iload_n 1, 1) := by decide +kernel
theorem dL_isSo_335 : decode cL_isSo 335 = .ok (.iload 14, 2) := by decide +kernel
theorem dL_isSo_337 : decode cL_isSo 337 = .ok (.iconst 4, 1) := by decide +kernel
theorem dL_isSo_338 : decode cL_isSo 338 = .ok (.iadd, 1) := by decide +kernel
theorem dL_isSo_339 : decode cL_isSo 339 = .ok (.invokevirtual 122, 3) := by decide +kernel
theorem dL_isSo_342 : decode cL_isSo 342 = .ok (.ifCond .ne 53, 3) := by decide +kernel
theorem dL_isSo_345 : decode cL_isSo 345 = .ok (.aload_n 0, 1) := by decide +kernel
theorem dL_isSo_346 : decode cL_isSo 346 = .ok (.iload_n 1, 1) := by decide +kernel
theorem dL_isSo_347 : decode cL_isSo 347 = .ok (.iload 14, 2) := by decide +kernel
theorem dL_isSo_349 : decode cL_isSo 349 = .ok (.bipush 9, 2) := by decide +kernel
theorem dL_isSo_351 : decode cL_isSo 351 = .ok (.iadd, 1) := by decide +kernel
theorem dL_isSo_352 : decode cL_isSo 352 = .ok (.invokevirtual 122, 3) := by decide +kernel
theorem dL_isSo_355 : decode cL_isSo 355 = .ok (.iconst 1, 1) := by decide +kernel
theorem dL_isSo_356 : decode cL_isSo 356 = .ok (.if_icmp .ne 39, 3) := by decide +kernel
theorem dL_isSo_359 : decode cL_isSo 359 = .ok (.aload_n 0, 1) := by decide +kernel
theorem dL_isSo_360 : decode cL_isSo 360 = .ok (.iload_n 1, 1) := by decide +kernel
theorem dL_isSo_361 : decode cL_isSo 361 = .ok (.iload 13, 2) := by decide +kernel
theorem dL_isSo_363 : decode cL_isSo 363 = .ok (.iconst 4, 1) := by decide +kernel
theorem dL_isSo_364 : decode cL_isSo 364 = .ok (.iload 15, 2) := by decide +kernel
theorem dL_isSo_366 : decode cL_isSo 366 = .ok (.iadd, 1) := by decide +kernel
theorem dL_isSo_367 : decode cL_isSo 367 = .ok (.invokevirtual 119, 3) := by decide +kernel
theorem dL_isSo_370 : decode cL_isSo 370 = .ok (.iconst (-1), 1) := by decide +kernel
theorem dL_isSo_371 : decode cL_isSo 371 = .ok (.if_icmp .lt 24, 3) := by decide +kernel
theorem dL_isSo_374 : decode cL_isSo 374 = .ok (.iload 15, 2) := by decide +kernel
theorem dL_isSo_376 : decode cL_isSo 376 = .ok (.iconst 4, 1) := by decide +kernel
theorem dL_isSo_377 : decode cL_isSo 377 = .ok (.if_icmp .ge 20, 3) := by decide +kernel
theorem dL_isSo_380 : decode cL_isSo 380 = .ok (.aload_n 0, 1) := by decide +kernel
theorem dL_isSo_381 : decode cL_isSo 381 = .ok (.iload_n 1, 1) := by decide +kernel
theorem dL_isSo_382 : decode cL_isSo 382 = .ok (.iload 13, 2) := by decide +kernel
theorem dL_isSo_384 : decode cL_isSo 384 = .ok (.iconst 5, 1) := by decide +kernel
theorem dL_isSo_385 : decode cL_isSo 385 = .ok (.iload 15, 2) := by decide +kernel
theorem dL_isSo_387 : decode cL_isSo 387 = .ok (.iadd, 1) := by decide +kernel
theorem dL_isSo_388 : decode cL_isSo 388 = .ok (.invokevirtual 119, 3) := by decide +kernel
theorem dL_isSo_391 : decode cL_isSo 391 = .ok (.iconst (-1), 1) := by decide +kernel
theorem dL_isSo_392 : decode cL_isSo 392 = .ok (.if_icmp .eq 5, 3) := by decide +kernel
theorem dL_isSo_395 : decode cL_isSo 395 = .ok (.iconst 0, 1) := by decide +kernel
theorem dL_isSo_396 : decode cL_isSo 396 = .ok (.ireturn, 1) := by decide +kernel
theorem dL_isSo_397 : decode cL_isSo 397 = .ok (.iload 16, 2) := by decide +kernel
theorem dL_isSo_399 : decode cL_isSo 399 = .ok (.istore 11, 2) := by decide +kernel
theorem dL_isSo_401 : decode cL_isSo 401 = .ok (.iload 10, 2) := by decide +kernel
theorem dL_isSo_403 : decode cL_isSo 403 = .ok (.aload_n 0, 1) := by decide +kernel
theorem dL_isSo_404 : decode cL_isSo 404 = .ok (.iload_n 1, 1) := by decide +kernel
theorem dL_isSo_405 : decode cL_isSo 405 = .ok (.iload 13, 2) := by decide +kernel
theorem dL_isSo_407 : decode cL_isSo 407 = .ok (.iconst 3, 1) := by decide +kernel
theorem dL_isSo_408 : decode cL_isSo 408 = .ok (.invokevirtual 119, 3) := by decide +kernel
theorem dL_isSo_411 : decode cL_isSo 411 = .ok (.iadd, 1) := by decide +kernel
theorem dL_isSo_412 : decode cL_isSo 412 = .ok (.istore 10, 2) := by decide +kernel
theorem dL_isSo_414 : decode cL_isSo 414 = .ok (.iconst 0, 1) := by decide +kernel
theorem dL_isSo_415 : decode cL_isSo 415 = .ok (.istore 17, 2) := by decide +kernel
theorem dL_isSo_417 : decode cL_isSo 417 = .ok (.iload 17, 2) := by decide +kernel
theorem dL_isSo_419 : decode cL_isSo 419 = .ok (.iload 13, 2) := by decide +kernel
theorem dL_isSo_421 : decode cL_isSo 421 = .ok (.if_icmp .ge 38, 3) := by decide +kernel
theorem dL_isSo_424 : decode cL_isSo 424 = .ok (.iload 12, 2) := by decide +kernel
theorem dL_isSo_426 : decode cL_isSo 426 = .ok (.aload_n 0, 1) := by decide +kernel
theorem dL_isSo_427 : decode cL_isSo 427 = .ok (.iload_n 1, 1) := by decide +kernel
theorem dL_isSo_428 : decode cL_isSo 428 = .ok (.iload 17, 2) := by decide +kernel
theorem dL_isSo_430 : decode cL_isSo 430 = .ok (.iconst 1, 1) := by decide +kernel
theorem dL_isSo_431 : decode cL_isSo 431 = .ok (.invokevirtual 119, 3) := by decide +kernel
theorem dL_isSo_434 : decode cL_isSo 434 = .ok (.aload_n 0, 1) := by decide +kernel
theorem dL_isSo_435 : decode cL_isSo 435 = .ok (.iload_n 1, 1) := by decide +kernel
theorem dL_isSo_436 : decode cL_isSo 436 = .ok (.iload 13, 2) := by decide +kernel
theorem dL_isSo_438 : decode cL_isSo 438 = .ok (.iconst 1, 1) := by decide +kernel
theorem dL_isSo_439 : decode cL_isSo 439 = .ok (.invokevirtual 119, 3) := by decide +kernel
theorem dL_isSo_442 : decode cL_isSo 442 = .ok (.if_icmp .ne 7, 3) := by decide +kernel
theorem dL_isSo_445 : decode cL_isSo 445 = .ok (.iconst 1, 1) := by decide +kernel
theorem dL_isSo_446 : decode cL_isSo 446 = .ok (.goto 4, 3) := by decide +kernel
theorem dL_isSo_449 : decode cL_isSo 449 = .ok (.iconst 0, 1) := by decide +kernel
theorem dL_isSo_450 : decode cL_isSo 450 = .ok (.ior, 1) := by decide +kernel
theorem dL_isSo_451 : decode cL_isSo 451 = .ok (.istore 12, 2) := by decide +kernel
theorem dL_isSo_453 : decode cL_isSo 453 = .ok (.iinc 17 1, 3) := by decide +kernel
theorem dL_isSo_456 : decode cL_isSo 456 = .ok (.goto (-39), 3) := by decide +kernel
theorem dL_isSo_459 : decode cL_isSo 459 = .ok (.iinc 13 1, 3) := by decide +kernel
theorem dL_isSo_462 : decode cL_isSo 462 = .ok (.goto (-222), 3) := by decide +kernel
theorem dL_isSo_465 : decode cL_isSo 465 = .ok (.iload 9, 2) := by decide +kernel
theorem dL_isSo_467 : decode cL_isSo 467 = .ok (.iload 10, 2) := by decide +kernel
theorem dL_isSo_469 : decode cL_isSo 469 = .ok (.if_icmp .le 7, 3) := by decide +kernel
theorem dL_isSo_472 : decode cL_isSo 472 = .ok (.iconst 1, 1) := by decide +kernel
theorem dL_isSo_473 : decode cL_isSo 473 = .ok (.goto 4, 3) := by decide +kernel
theorem dL_isSo_476 : decode cL_isSo 476 = .ok (.iconst 0, 1) := by decide +kernel
theorem dL_isSo_477 : decode cL_isSo 477 = .ok (.iload 12, 2) := by decide +kernel
theorem dL_isSo_479 : decode cL_isSo 479 = .ok (.ifCond .eq 7, 3) := by decide +kernel
theorem dL_isSo_482 : decode cL_isSo 482 = .ok (.iconst 2, 1) := by decide +kernel
theorem dL_isSo_483 : decode cL_isSo 483 = .ok (.goto 4, 3) := by decide +kernel
theorem dL_isSo_486 : decode cL_isSo 486 = .ok (.iconst 0, 1) := by decide +kernel
theorem dL_isSo_487 : decode cL_isSo 487 = .ok (.iadd, 1) := by decide +kernel
theorem dL_isSo_488 : decode cL_isSo 488 = .ok (.iload 4, 2) := by decide +kernel
theorem dL_isSo_490 : decode cL_isSo 490 = .ok (.ifCond .le 7, 3) := by decide +kernel
theorem dL_isSo_493 : decode cL_isSo 493 = .ok (.iconst 4, 1) := by decide +kernel
theorem dL_isSo_494 : decode cL_isSo 494 = .ok (.goto 4, 3) := by decide +kernel
theorem dL_isSo_497 : decode cL_isSo 497 = .ok (.iconst 0, 1) := by decide +kernel
theorem dL_isSo_498 : decode cL_isSo 498 = .ok (.iadd, 1) := by decide +kernel
theorem dL_isSo_499 : decode cL_isSo 499 = .ok (.aload_n 0, 1) := by decide +kernel
theorem dL_isSo_500 : decode cL_isSo 500 = .ok (.iload_n 1, 1) := by decide +kernel
theorem dL_isSo_501 : decode cL_isSo 501 = .ok (.bipush 7, 2) := by decide +kernel
theorem dL_isSo_503 : decode cL_isSo 503 = .ok (.invokevirtual 33, 3) := by decide +kernel
theorem dL_isSo_506 : decode cL_isSo 506 = .ok (.ifCond .le 8, 3) := by decide +kernel
theorem dL_isSo_509 : decode cL_isSo 509 = .ok (.bipush 8, 2) := by decide +kernel
theorem dL_isSo_511 : decode cL_isSo 511 = .ok (.goto 4, 3) := by decide +kernel
theorem dL_isSo_514 : decode cL_isSo 514 = .ok (.iconst 0, 1) := by decide +kernel
theorem dL_isSo_515 : decode cL_isSo 515 = .ok (.iadd, 1) := by decide +kernel
theorem dL_isSo_516 : decode cL_isSo 516 = .ok (.bipush 16, 2) := by decide +kernel
theorem dL_isSo_518 : decode cL_isSo 518 = .ok (.aload_n 0, 1) := by decide +kernel
theorem dL_isSo_519 : decode cL_isSo 519 = .ok (.iload_n 1, 1) := by decide +kernel
theorem dL_isSo_520 : decode cL_isSo 520 = .ok (.bipush 8, 2) := by decide +kernel
theorem dL_isSo_522 : decode cL_isSo 522 = .ok (.invokevirtual 33, 3) := by decide +kernel
theorem dL_isSo_525 : decode cL_isSo 525 = .ok (.imul, 1) := by decide +kernel
theorem dL_isSo_526 : decode cL_isSo 526 = .ok (.iadd, 1) := by decide +kernel
theorem dL_isSo_527 : decode cL_isSo 527 = .ok (.iload_n 3, 1) := by decide +kernel
theorem dL_isSo_528 : decode cL_isSo 528 = .ok (.sipush 300, 3) := by decide +kernel
theorem dL_isSo_531 : decode cL_isSo 531 = .ok (.if_icmp .le 8, 3) := by decide +kernel
theorem dL_isSo_534 : decode cL_isSo 534 = .ok (.bipush 32, 2) := by decide +kernel
theorem dL_isSo_536 : decode cL_isSo 536 = .ok (.goto 4, 3) := by decide +kernel
theorem dL_isSo_539 : decode cL_isSo 539 = .ok (.iconst 0, 1) := by decide +kernel
theorem dL_isSo_540 : decode cL_isSo 540 = .ok (.iadd, 1) := by decide +kernel
theorem dL_isSo_541 : decode cL_isSo 541 = .ok (.istore 13, 2) := by decide +kernel
theorem dL_isSo_543 : decode cL_isSo 543 = .ok (.aload_n 0, 1) := by decide +kernel
theorem dL_isSo_544 : decode cL_isSo 544 = .ok (.iload_n 1, 1) := by decide +kernel
theorem dL_isSo_545 : decode cL_isSo 545 = .ok (.invokevirtual 80, 3) := by decide +kernel
theorem dL_isSo_548 : decode cL_isSo 548 = .ok (.istore 14, 2) := by decide +kernel
theorem dL_isSo_550 : decode cL_isSo 550 = .ok (.aload_n 0, 1) := by decide +kernel
theorem dL_isSo_551 : decode cL_isSo 551 = .ok (.iload_n 1, 1) := by decide +kernel
theorem dL_isSo_552 : decode cL_isSo 552 = .ok (.bipush 6, 2) := by decide +kernel
theorem dL_isSo_554 : decode cL_isSo 554 = .ok (.invokevirtual 33, 3) := by decide +kernel
theorem dL_isSo_557 : decode cL_isSo 557 = .ok (.iload 10, 2) := by decide +kernel
theorem dL_isSo_559 : decode cL_isSo 559 = .ok (.if_icmp .ne 79, 3) := by decide +kernel
theorem dL_isSo_562 : decode cL_isSo 562 = .ok (.aload_n 0, 1) := by decide +kernel
theorem dL_isSo_563 : decode cL_isSo 563 = .ok (.iload_n 1, 1) := by decide +kernel
theorem dL_isSo_564 : decode cL_isSo 564 = .ok (.bipush 9, 2) := by decide +kernel
theorem dL_isSo_566 : decode cL_isSo 566 = .ok (.invokevirtual 33, 3) := by decide +kernel
theorem dL_isSo_569 : decode cL_isSo 569 = .ok (.iload 13, 2) := by decide +kernel
theorem dL_isSo_571 : decode cL_isSo 571 = .ok (.if_icmp .ne 67, 3) := by decide +kernel
theorem dL_isSo_574 : decode cL_isSo 574 = .ok (.aload_n 0, 1) := by decide +kernel
theorem dL_isSo_575 : decode cL_isSo 575 = .ok (.iload_n 1, 1) := by decide +kernel
theorem dL_isSo_576 : decode cL_isSo 576 = .ok (.invokevirtual 125, 3) := by decide +kernel
theorem dL_isSo_579 : decode cL_isSo 579 = .ok (.iload 13, 2) := by decide +kernel
theorem dL_isSo_581 : decode cL_isSo 581 = .ok (.iconst (-1), 1) := by decide +kernel
theorem dL_isSo_582 : decode cL_isSo 582 = .ok (.ixor, 1) := by decide +kernel
theorem dL_isSo_583 : decode cL_isSo 583 = .ok (.iand, 1) := by decide +kernel
theorem dL_isSo_584 : decode cL_isSo 584 = .ok (.ifCond .ne 54, 3) := by decide +kernel
theorem dL_isSo_587 : decode cL_isSo 587 = .ok (.aload_n 0, 1) := by decide +kernel
theorem dL_isSo_588 : decode cL_isSo 588 = .ok (.iload_n 1, 1) := by decide +kernel
theorem dL_isSo_589 : decode cL_isSo 589 = .ok (.aload_n 0, 1) := by decide +kernel
theorem dL_isSo_590 : decode cL_isSo 590 = .ok (.iload_n 1, 1) := by decide +kernel
theorem dL_isSo_591 : decode cL_isSo 591 = .ok (.iconst 0, 1) := by decide +kernel
theorem dL_isSo_592 : decode cL_isSo 592 = .ok (.invokevirtual 33, 3) := by decide +kernel
theorem dL_isSo_595 : decode cL_isSo 595 = .ok (.invokevirtual 128, 3) := by decide +kernel
theorem dL_isSo_598 : decode cL_isSo 598 = .ok (.iload 10, 2) := by decide +kernel
theorem dL_isSo_600 : decode cL_isSo 600 = .ok (.if_icmp .ne 38, 3) := by decide +kernel
theorem dL_isSo_603 : decode cL_isSo 603 = .ok (.iload 14, 2) := by decide +kernel
theorem dL_isSo_605 : decode cL_isSo 605 = .ok (.sipush 400, 3) := by decide +kernel
theorem dL_isSo_608 : decode cL_isSo 608 = .ok (.if_icmp .gt 30, 3) := by decide +kernel
theorem dL_isSo_611 : decode cL_isSo 611 = .ok (.iload 14, 2) := by decide +kernel
theorem dL_isSo_613 : decode cL_isSo 613 = .ok (.ifCond .le 7, 3) := by decide +kernel
theorem dL_isSo_616 : decode cL_isSo 616 = .ok (.iconst 1, 1) := by decide +kernel
theorem dL_isSo_617 : decode cL_isSo 617 = .ok (.goto 4, 3) := by decide +kernel
theorem dL_isSo_620 : decode cL_isSo 620 = .ok (.iconst 0, 1) := by decide +kernel
theorem dL_isSo_621 : decode cL_isSo 621 = .ok (.iload 10, 2) := by decide +kernel
theorem dL_isSo_623 : decode cL_isSo 623 = .ok (.ifCond .le 7, 3) := by decide +kernel
theorem dL_isSo_626 : decode cL_isSo 626 = .ok (.iconst 1, 1) := by decide +kernel
theorem dL_isSo_627 : decode cL_isSo 627 = .ok (.goto 4, 3) := by decide +kernel
theorem dL_isSo_630 : decode cL_isSo 630 = .ok (.iconst 0, 1) := by decide +kernel
theorem dL_isSo_631 : decode cL_isSo 631 = .ok (.if_icmp .ne 7, 3) := by decide +kernel
theorem dL_isSo_634 : decode cL_isSo 634 = .ok (.iconst 1, 1) := by decide +kernel
theorem dL_isSo_635 : decode cL_isSo 635 = .ok (.goto 4, 3) := by decide +kernel
theorem dL_isSo_638 : decode cL_isSo 638 = .ok (.iconst 0, 1) := by decide +kernel
theorem dL_isSo_639 : decode cL_isSo 639 = .ok (.ireturn, 1) := by decide +kernel
