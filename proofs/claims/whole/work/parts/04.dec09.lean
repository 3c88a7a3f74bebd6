theorem d_Mo_reckon_19 : decode b_Mo_reckon 19 = .ok (.iconst 1, 1) := by decide +kernel
theorem d_Mo_reckon_20 : decode b_Mo_reckon 20 = .ok (.goto 4, 3) := by decide +kernel
theorem d_Mo_reckon_24 : decode b_Mo_reckon 24 = .ok (.istore 6, 2) := by decide +kernel
theorem d_Mo_reckon_26 : decode b_Mo_reckon 26 = .ok (.iload 6, 2) := by decide +kernel
theorem d_Mo_reckon_28 : decode b_Mo_reckon 28 = .ok (.ifCond .eq 18, 3) := by decide +kernel
theorem d_Mo_reckon_31 : decode b_Mo_reckon 31 = .ok (.aload_n 0, 1) := by decide +kernel
theorem d_Mo_reckon_32 : decode b_Mo_reckon 32 = .ok (.aload_n 0, 1) := by decide +kernel
theorem d_Mo_reckon_33 : decode b_Mo_reckon 33 = .ok (.iload_n 1, 1) := by decide +kernel
theorem d_Mo_reckon_34 : decode b_Mo_reckon 34 = .ok (.iload_n 3, 1) := by decide +kernel
theorem d_Mo_reckon_35 : decode b_Mo_reckon 35 = .ok (.iload 4, 2) := by decide +kernel
theorem d_Mo_reckon_37 : decode b_Mo_reckon 37 = .ok (.invokevirtual 151, 3) := by decide +kernel
theorem d_Mo_reckon_40 : decode b_Mo_reckon 40 = .ok (.invokevirtual 144, 3) := by decide +kernel
theorem d_Mo_reckon_43 : decode b_Mo_reckon 43 = .ok (.goto 53, 3) := by decide +kernel
theorem d_Mo_reckon_96 : decode b_Mo_reckon 96 = .ok (.return_, 1) := by decide +kernel
theorem d_Mo_reckon_4 : decode b_Mo_reckon 4 = .ok (.iload 5, 2) := by decide +kernel
theorem d_Mo_reckon_6 : decode b_Mo_reckon 6 = .ok (.ifCond .eq 17, 3) := by decide +kernel
theorem d_Mo_reckon_23 : decode b_Mo_reckon 23 = .ok (.iconst 0, 1) := by decide +kernel
theorem d_Mo_reckon_46 : decode b_Mo_reckon 46 = .ok (.iload_n 2, 1) := by decide +kernel
theorem d_Mo_reckon_47 : decode b_Mo_reckon 47 = .ok (.bipush 32, 2) := by decide +kernel
theorem d_Mo_reckon_49 : decode b_Mo_reckon 49 = .ok (.if_icmp .ne 22, 3) := by decide +kernel
theorem d_Mo_reckon_71 : decode b_Mo_reckon 71 = .ok (.iload_n 2, 1) := by decide +kernel
theorem d_Mo_reckon_72 : decode b_Mo_reckon 72 = .ok (.bipush 32, 2) := by decide +kernel
theorem d_Mo_reckon_74 : decode b_Mo_reckon 74 = .ok (.if_icmp .ne 18, 3) := by decide +kernel
theorem d_Mo_reckon_92 : decode b_Mo_reckon 92 = .ok (.aload_n 0, 1) := by decide +kernel
theorem d_Mo_reckon_93 : decode b_Mo_reckon 93 = .ok (.invokevirtual 121, 3) := by decide +kernel
theorem d_Mo_reckon_52 : decode b_Mo_reckon 52 = .ok (.iload_n 1, 1) := by decide +kernel
theorem d_Mo_reckon_53 : decode b_Mo_reckon 53 = .ok (.iconst 5, 1) := by decide +kernel
theorem d_Mo_reckon_54 : decode b_Mo_reckon 54 = .ok (.if_icmp .ne 17, 3) := by decide +kernel
theorem d_Mo_reckon_77 : decode b_Mo_reckon 77 = .ok (.iload_n 1, 1) := by decide +kernel
theorem d_Mo_reckon_78 : decode b_Mo_reckon 78 = .ok (.ifCond .ne 14, 3) := by decide +kernel
theorem d_Mo_reckon_81 : decode b_Mo_reckon 81 = .ok (.aload_n 0, 1) := by decide +kernel
theorem d_Mo_reckon_82 : decode b_Mo_reckon 82 = .ok (.iload_n 3, 1) := by decide +kernel
theorem d_Mo_reckon_83 : decode b_Mo_reckon 83 = .ok (.iload 4, 2) := by decide +kernel
theorem d_Mo_reckon_85 : decode b_Mo_reckon 85 = .ok (.isub, 1) := by decide +kernel
theorem d_Mo_reckon_86 : decode b_Mo_reckon 86 = .ok (.invokevirtual 144, 3) := by decide +kernel
theorem d_Mo_reckon_89 : decode b_Mo_reckon 89 = .ok (.goto 7, 3) := by decide +kernel
theorem d_Mo_reckon_57 : decode b_Mo_reckon 57 = .ok (.aload_n 0, 1) := by decide +kernel
theorem d_Mo_reckon_58 : decode b_Mo_reckon 58 = .ok (.iload_n 3, 1) := by decide +kernel
theorem d_Mo_reckon_59 : decode b_Mo_reckon 59 = .ok (.iload 4, 2) := by decide +kernel
theorem d_Mo_reckon_61 : decode b_Mo_reckon 61 = .ok (.bipush 31, 2) := by decide +kernel
theorem d_Mo_reckon_63 : decode b_Mo_reckon 63 = .ok (.iand, 1) := by decide +kernel
theorem d_Mo_reckon_64 : decode b_Mo_reckon 64 = .ok (.ishr, 1) := by decide +kernel
theorem d_Mo_reckon_65 : decode b_Mo_reckon 65 = .ok (.invokevirtual 144, 3) := by decide +kernel
theorem d_Mo_reckon_68 : decode b_Mo_reckon 68 = .ok (.goto 28, 3) := by decide +kernel
theorem d_Mo_reckon_9 : decode b_Mo_reckon 9 = .ok (.iload_n 1, 1) := by decide +kernel
theorem d_Mo_reckon_10 : decode b_Mo_reckon 10 = .ok (.iconst 1, 1) := by decide +kernel
theorem d_Mo_reckon_11 : decode b_Mo_reckon 11 = .ok (.if_icmp .eq 12, 3) := by decide +kernel
theorem d_Mo_reckon_14 : decode b_Mo_reckon 14 = .ok (.iload_n 1, 1) := by decide +kernel
theorem d_Mo_reckon_15 : decode b_Mo_reckon 15 = .ok (.iconst 5, 1) := by decide +kernel
theorem d_Mo_reckon_16 : decode b_Mo_reckon 16 = .ok (.if_icmp .eq 7, 3) := by decide +kernel
theorem d_Mo_jump_0 : decode b_Mo_jump 0 = .ok (.iload_n 1, 1) := by decide +kernel
theorem d_Mo_jump_1 : decode b_Mo_jump 1 = .ok (.ifCond .eq 10, 3) := by decide +kernel
theorem d_Mo_jump_11 : decode b_Mo_jump 11 = .ok (.aload_n 0, 1) := by decide +kernel
theorem d_Mo_jump_12 : decode b_Mo_jump 12 = .ok (.aload_n 0, 1) := by decide +kernel
theorem d_Mo_jump_13 : decode b_Mo_jump 13 = .ok (.getfield 124, 3) := by decide +kernel
theorem d_Mo_jump_16 : decode b_Mo_jump 16 = .ok (.iconst 4, 1) := by decide +kernel
theorem d_Mo_jump_17 : decode b_Mo_jump 17 = .ok (.iadd, 1) := by decide +kernel
theorem d_Mo_jump_18 : decode b_Mo_jump 18 = .ok (.invokevirtual 144, 3) := by decide +kernel
theorem d_Mo_jump_21 : decode b_Mo_jump 21 = .ok (.aload_n 0, 1) := by decide +kernel
theorem d_Mo_jump_22 : decode b_Mo_jump 22 = .ok (.iload_n 2, 1) := by decide +kernel
theorem d_Mo_jump_23 : decode b_Mo_jump 23 = .ok (.invokevirtual 131, 3) := by decide +kernel
theorem d_Mo_jump_26 : decode b_Mo_jump 26 = .ok (.return_, 1) := by decide +kernel
theorem d_Mo_jump_4 : decode b_Mo_jump 4 = .ok (.aload_n 0, 1) := by decide +kernel
theorem d_Mo_jump_5 : decode b_Mo_jump 5 = .ok (.invokevirtual 121, 3) := by decide +kernel
theorem d_Mo_jump_8 : decode b_Mo_jump 8 = .ok (.goto 18, 3) := by decide +kernel
theorem d_Mo_rest_0 : decode b_Mo_rest 0 = .ok (.aload_n 0, 1) := by decide +kernel
theorem d_Mo_rest_1 : decode b_Mo_rest 1 = .ok (.getfield 100, 3) := by decide +kernel
theorem d_Mo_rest_4 : decode b_Mo_rest 4 = .ok (.bipush 115, 2) := by decide +kernel
theorem d_Mo_rest_6 : decode b_Mo_rest 6 = .ok (.if_icmp .ne 12, 3) := by decide +kernel
theorem d_Mo_rest_18 : decode b_Mo_rest 18 = .ok (.aload_n 0, 1) := by decide +kernel
theorem d_Mo_rest_19 : decode b_Mo_rest 19 = .ok (.getfield 100, 3) := by decide +kernel
theorem d_Mo_rest_22 : decode b_Mo_rest 22 = .ok (.ldc 183, 2) := by decide +kernel
theorem d_Mo_rest_24 : decode b_Mo_rest 24 = .ok (.if_icmp .ne 12, 3) := by decide +kernel
theorem d_Mo_rest_36 : decode b_Mo_rest 36 = .ok (.aload_n 0, 1) := by decide +kernel
theorem d_Mo_rest_37 : decode b_Mo_rest 37 = .ok (.iconst 0, 1) := by decide +kernel
theorem d_Mo_rest_38 : decode b_Mo_rest 38 = .ok (.bipush 7, 2) := by decide +kernel
theorem d_Mo_rest_40 : decode b_Mo_rest 40 = .ok (.invokevirtual 103, 3) := by decide +kernel
theorem d_Mo_rest_43 : decode b_Mo_rest 43 = .ok (.bipush 15, 2) := by decide +kernel
theorem d_Mo_rest_45 : decode b_Mo_rest 45 = .ok (.if_icmp .ne 7, 3) := by decide +kernel
theorem d_Mo_rest_52 : decode b_Mo_rest 52 = .ok (.aload_n 0, 1) := by decide +kernel
theorem d_Mo_rest_53 : decode b_Mo_rest 53 = .ok (.invokevirtual 121, 3) := by decide +kernel
theorem d_Mo_rest_56 : decode b_Mo_rest 56 = .ok (.return_, 1) := by decide +kernel
theorem d_Mo_rest_48 : decode b_Mo_rest 48 = .ok (.iload_n 1, 1) := by decide +kernel
theorem d_Mo_rest_49 : decode b_Mo_rest 49 = .ok (.ifCond .eq 7, 3) := by decide +kernel
theorem d_Mo_rest_27 : decode b_Mo_rest 27 = .ok (.aload_n 0, 1) := by decide +kernel
theorem d_Mo_rest_28 : decode b_Mo_rest 28 = .ok (.iconst 4, 1) := by decide +kernel
theorem d_Mo_rest_29 : decode b_Mo_rest 29 = .ok (.iconst 0, 1) := by decide +kernel
theorem d_Mo_rest_30 : decode b_Mo_rest 30 = .ok (.invokevirtual 66, 3) := by decide +kernel
theorem d_Mo_rest_33 : decode b_Mo_rest 33 = .ok (.goto 23, 3) := by decide +kernel
theorem d_Mo_rest_9 : decode b_Mo_rest 9 = .ok (.aload_n 0, 1) := by decide +kernel
theorem d_Mo_rest_10 : decode b_Mo_rest 10 = .ok (.iconst 3, 1) := by decide +kernel
theorem d_Mo_rest_11 : decode b_Mo_rest 11 = .ok (.iconst 0, 1) := by decide +kernel
theorem d_Mo_rest_12 : decode b_Mo_rest 12 = .ok (.invokevirtual 66, 3) := by decide +kernel
theorem d_Mo_rest_15 : decode b_Mo_rest 15 = .ok (.goto 41, 3) := by decide +kernel
theorem d_Mo_execute_0 : decode b_Mo_execute 0 = .ok (.aload_n 0, 1) := by decide +kernel
theorem d_Mo_execute_1 : decode b_Mo_execute 1 = .ok (.bipush 12, 2) := by decide +kernel
theorem d_Mo_execute_3 : decode b_Mo_execute 3 = .ok (.iconst 3, 1) := by decide +kernel
theorem d_Mo_execute_4 : decode b_Mo_execute 4 = .ok (.invokevirtual 103, 3) := by decide +kernel
theorem d_Mo_execute_7 : decode b_Mo_execute 7 = .ok (.istore_n 1, 1) := by decide +kernel
theorem d_Mo_execute_8 : decode b_Mo_execute 8 = .ok (.aload_n 0, 1) := by decide +kernel
theorem d_Mo_execute_9 : decode b_Mo_execute 9 = .ok (.aload_n 0, 1) := by decide +kernel
theorem d_Mo_execute_10 : decode b_Mo_execute 10 = .ok (.bipush 15, 2) := by decide +kernel
theorem d_Mo_execute_12 : decode b_Mo_execute 12 = .ok (.iconst 5, 1) := by decide +kernel
theorem d_Mo_execute_13 : decode b_Mo_execute 13 = .ok (.invokevirtual 103, 3) := by decide +kernel
theorem d_Mo_execute_16 : decode b_Mo_execute 16 = .ok (.invokevirtual 154, 3) := by decide +kernel
theorem d_Mo_execute_19 : decode b_Mo_execute 19 = .ok (.istore_n 2, 1) := by decide +kernel
theorem d_Mo_execute_20 : decode b_Mo_execute 20 = .ok (.aload_n 0, 1) := by decide +kernel
theorem d_Mo_execute_21 : decode b_Mo_execute 21 = .ok (.aload_n 0, 1) := by decide +kernel
theorem d_Mo_execute_22 : decode b_Mo_execute 22 = .ok (.bipush 20, 2) := by decide +kernel
theorem d_Mo_execute_24 : decode b_Mo_execute 24 = .ok (.iconst 5, 1) := by decide +kernel
theorem d_Mo_execute_25 : decode b_Mo_execute 25 = .ok (.invokevirtual 103, 3) := by decide +kernel
theorem d_Mo_execute_28 : decode b_Mo_execute 28 = .ok (.invokevirtual 154, 3) := by decide +kernel
theorem d_Mo_execute_31 : decode b_Mo_execute 31 = .ok (.istore_n 3, 1) := by decide +kernel
theorem d_Mo_execute_32 : decode b_Mo_execute 32 = .ok (.aload_n 0, 1) := by decide +kernel
theorem d_Mo_execute_33 : decode b_Mo_execute 33 = .ok (.getfield 100, 3) := by decide +kernel
theorem d_Mo_execute_36 : decode b_Mo_execute 36 = .ok (.bipush 20, 2) := by decide +kernel
theorem d_Mo_execute_38 : decode b_Mo_execute 38 = .ok (.ishr, 1) := by decide +kernel
theorem d_Mo_execute_39 : decode b_Mo_execute 39 = .ok (.istore 4, 2) := by decide +kernel
theorem d_Mo_execute_41 : decode b_Mo_execute 41 = .ok (.aload_n 0, 1) := by decide +kernel
theorem d_Mo_execute_42 : decode b_Mo_execute 42 = .ok (.iconst 0, 1) := by decide +kernel
theorem d_Mo_execute_43 : decode b_Mo_execute 43 = .ok (.bipush 7, 2) := by decide +kernel
theorem d_Mo_execute_45 : decode b_Mo_execute 45 = .ok (.invokevirtual 103, 3) := by decide +kernel
theorem d_Mo_execute_48 : decode b_Mo_execute 48 = .ok (.lookupswitch 256 #[(3, 170), (19, 197), (23, 99), (35, 182), (51, 237), (55, 84), (99, 160), (103, 145), (111, 119)], 84) := by decide +kernel
theorem d_Mo_execute_218 : decode b_Mo_execute 218 = .ok (.aload_n 0, 1) := by decide +kernel
theorem d_Mo_execute_219 : decode b_Mo_execute 219 = .ok (.iload_n 1, 1) := by decide +kernel
theorem d_Mo_execute_220 : decode b_Mo_execute 220 = .ok (.iload_n 2, 1) := by decide +kernel
theorem d_Mo_execute_221 : decode b_Mo_execute 221 = .ok (.iload 4, 2) := by decide +kernel
theorem d_Mo_execute_223 : decode b_Mo_execute 223 = .ok (.iadd, 1) := by decide +kernel
theorem d_Mo_execute_224 : decode b_Mo_execute 224 = .ok (.invokevirtual 167, 3) := by decide +kernel
theorem d_Mo_execute_227 : decode b_Mo_execute 227 = .ok (.goto 82, 3) := by decide +kernel
theorem d_Mo_execute_309 : decode b_Mo_execute 309 = .ok (.return_, 1) := by decide +kernel
theorem d_Mo_execute_245 : decode b_Mo_execute 245 = .ok (.aload_n 0, 1) := by decide +kernel
theorem d_Mo_execute_246 : decode b_Mo_execute 246 = .ok (.iload_n 1, 1) := by decide +kernel
theorem d_Mo_execute_247 : decode b_Mo_execute 247 = .ok (.aload_n 0, 1) := by decide +kernel
theorem d_Mo_execute_248 : decode b_Mo_execute 248 = .ok (.bipush 25, 2) := by decide +kernel
theorem d_Mo_execute_250 : decode b_Mo_execute 250 = .ok (.bipush 7, 2) := by decide +kernel
theorem d_Mo_execute_252 : decode b_Mo_execute 252 = .ok (.invokevirtual 103, 3) := by decide +kernel
theorem d_Mo_execute_255 : decode b_Mo_execute 255 = .ok (.iload_n 2, 1) := by decide +kernel
theorem d_Mo_execute_256 : decode b_Mo_execute 256 = .ok (.iload_n 1, 1) := by decide +kernel
theorem d_Mo_execute_257 : decode b_Mo_execute 257 = .ok (.iconst 1, 1) := by decide +kernel
theorem d_Mo_execute_258 : decode b_Mo_execute 258 = .ok (.if_icmp .eq 8, 3) := by decide +kernel
theorem d_Mo_execute_266 : decode b_Mo_execute 266 = .ok (.aload_n 0, 1) := by decide +kernel
theorem d_Mo_execute_267 : decode b_Mo_execute 267 = .ok (.bipush 20, 2) := by decide +kernel
theorem d_Mo_execute_269 : decode b_Mo_execute 269 = .ok (.iconst 5, 1) := by decide +kernel
theorem d_Mo_execute_270 : decode b_Mo_execute 270 = .ok (.invokevirtual 103, 3) := by decide +kernel
theorem d_Mo_execute_273 : decode b_Mo_execute 273 = .ok (.goto 5, 3) := by decide +kernel
theorem d_Mo_execute_278 : decode b_Mo_execute 278 = .ok (.iconst 1, 1) := by decide +kernel
theorem d_Mo_execute_279 : decode b_Mo_execute 279 = .ok (.invokevirtual 176, 3) := by decide +kernel
theorem d_Mo_execute_282 : decode b_Mo_execute 282 = .ok (.goto 27, 3) := by decide +kernel
theorem d_Mo_execute_261 : decode b_Mo_execute 261 = .ok (.iload_n 1, 1) := by decide +kernel
theorem d_Mo_execute_262 : decode b_Mo_execute 262 = .ok (.iconst 5, 1) := by decide +kernel
theorem d_Mo_execute_263 : decode b_Mo_execute 263 = .ok (.if_icmp .ne 13, 3) := by decide +kernel
theorem d_Mo_execute_276 : decode b_Mo_execute 276 = .ok (.iload 4, 2) := by decide +kernel
theorem d_Mo_execute_147 : decode b_Mo_execute 147 = .ok (.aload_n 0, 1) := by decide +kernel
theorem d_Mo_execute_148 : decode b_Mo_execute 148 = .ok (.aload_n 0, 1) := by decide +kernel
theorem d_Mo_execute_149 : decode b_Mo_execute 149 = .ok (.getfield 124, 3) := by decide +kernel
theorem d_Mo_execute_152 : decode b_Mo_execute 152 = .ok (.aload_n 0, 1) := by decide +kernel
theorem d_Mo_execute_153 : decode b_Mo_execute 153 = .ok (.getfield 100, 3) := by decide +kernel
theorem d_Mo_execute_156 : decode b_Mo_execute 156 = .ok (.sipush (-4096), 3) := by decide +kernel
theorem d_Mo_execute_159 : decode b_Mo_execute 159 = .ok (.iand, 1) := by decide +kernel
theorem d_Mo_execute_160 : decode b_Mo_execute 160 = .ok (.iadd, 1) := by decide +kernel
theorem d_Mo_execute_161 : decode b_Mo_execute 161 = .ok (.invokevirtual 144, 3) := by decide +kernel
theorem d_Mo_execute_164 : decode b_Mo_execute 164 = .ok (.goto 145, 3) := by decide +kernel
theorem d_Mo_execute_230 : decode b_Mo_execute 230 = .ok (.aload_n 0, 1) := by decide +kernel
theorem d_Mo_execute_231 : decode b_Mo_execute 231 = .ok (.iload_n 1, 1) := by decide +kernel
theorem d_Mo_execute_232 : decode b_Mo_execute 232 = .ok (.iload_n 2, 1) := by decide +kernel
theorem d_Mo_execute_233 : decode b_Mo_execute 233 = .ok (.aload_n 0, 1) := by decide +kernel
theorem d_Mo_execute_234 : decode b_Mo_execute 234 = .ok (.invokevirtual 170, 3) := by decide +kernel
theorem d_Mo_execute_237 : decode b_Mo_execute 237 = .ok (.iadd, 1) := by decide +kernel
theorem d_Mo_execute_238 : decode b_Mo_execute 238 = .ok (.iload_n 3, 1) := by decide +kernel
theorem d_Mo_execute_239 : decode b_Mo_execute 239 = .ok (.invokevirtual 173, 3) := by decide +kernel
theorem d_Mo_execute_242 : decode b_Mo_execute 242 = .ok (.goto 67, 3) := by decide +kernel
theorem d_Mo_execute_285 : decode b_Mo_execute 285 = .ok (.aload_n 0, 1) := by decide +kernel
theorem d_Mo_execute_286 : decode b_Mo_execute 286 = .ok (.iload_n 1, 1) := by decide +kernel
theorem d_Mo_execute_287 : decode b_Mo_execute 287 = .ok (.aload_n 0, 1) := by decide +kernel
theorem d_Mo_execute_288 : decode b_Mo_execute 288 = .ok (.bipush 25, 2) := by decide +kernel
theorem d_Mo_execute_290 : decode b_Mo_execute 290 = .ok (.bipush 7, 2) := by decide +kernel
theorem d_Mo_execute_292 : decode b_Mo_execute 292 = .ok (.invokevirtual 103, 3) := by decide +kernel
theorem d_Mo_execute_295 : decode b_Mo_execute 295 = .ok (.iload_n 2, 1) := by decide +kernel
theorem d_Mo_execute_296 : decode b_Mo_execute 296 = .ok (.iload_n 3, 1) := by decide +kernel
theorem d_Mo_execute_297 : decode b_Mo_execute 297 = .ok (.iconst 0, 1) := by decide +kernel
theorem d_Mo_execute_298 : decode b_Mo_execute 298 = .ok (.invokevirtual 176, 3) := by decide +kernel
theorem d_Mo_execute_301 : decode b_Mo_execute 301 = .ok (.goto 8, 3) := by decide +kernel
theorem d_Mo_execute_132 : decode b_Mo_execute 132 = .ok (.aload_n 0, 1) := by decide +kernel
theorem d_Mo_execute_133 : decode b_Mo_execute 133 = .ok (.aload_n 0, 1) := by decide +kernel
theorem d_Mo_execute_134 : decode b_Mo_execute 134 = .ok (.getfield 100, 3) := by decide +kernel
theorem d_Mo_execute_137 : decode b_Mo_execute 137 = .ok (.sipush (-4096), 3) := by decide +kernel
theorem d_Mo_execute_140 : decode b_Mo_execute 140 = .ok (.iand, 1) := by decide +kernel
theorem d_Mo_execute_141 : decode b_Mo_execute 141 = .ok (.invokevirtual 144, 3) := by decide +kernel
theorem d_Mo_execute_144 : decode b_Mo_execute 144 = .ok (.goto 165, 3) := by decide +kernel
theorem d_Mo_execute_208 : decode b_Mo_execute 208 = .ok (.aload_n 0, 1) := by decide +kernel
theorem d_Mo_execute_209 : decode b_Mo_execute 209 = .ok (.iload_n 1, 1) := by decide +kernel
theorem d_Mo_execute_210 : decode b_Mo_execute 210 = .ok (.iload_n 2, 1) := by decide +kernel
theorem d_Mo_execute_211 : decode b_Mo_execute 211 = .ok (.iload_n 3, 1) := by decide +kernel
theorem d_Mo_execute_212 : decode b_Mo_execute 212 = .ok (.invokevirtual 163, 3) := by decide +kernel
theorem d_Mo_execute_215 : decode b_Mo_execute 215 = .ok (.goto 94, 3) := by decide +kernel
theorem d_Mo_execute_193 : decode b_Mo_execute 193 = .ok (.aload_n 0, 1) := by decide +kernel
theorem d_Mo_execute_194 : decode b_Mo_execute 194 = .ok (.iload_n 1, 1) := by decide +kernel
theorem d_Mo_execute_195 : decode b_Mo_execute 195 = .ok (.iload_n 2, 1) := by decide +kernel
theorem d_Mo_execute_196 : decode b_Mo_execute 196 = .ok (.iload 4, 2) := by decide +kernel
theorem d_Mo_execute_198 : decode b_Mo_execute 198 = .ok (.iadd, 1) := by decide +kernel
theorem d_Mo_execute_199 : decode b_Mo_execute 199 = .ok (.bipush (-2), 2) := by decide +kernel
theorem d_Mo_execute_201 : decode b_Mo_execute 201 = .ok (.iand, 1) := by decide +kernel
theorem d_Mo_execute_202 : decode b_Mo_execute 202 = .ok (.invokevirtual 160, 3) := by decide +kernel
theorem d_Mo_execute_205 : decode b_Mo_execute 205 = .ok (.goto 104, 3) := by decide +kernel
theorem d_Mo_execute_167 : decode b_Mo_execute 167 = .ok (.aload_n 0, 1) := by decide +kernel
theorem d_Mo_execute_168 : decode b_Mo_execute 168 = .ok (.aload_n 0, 1) := by decide +kernel
theorem d_Mo_execute_169 : decode b_Mo_execute 169 = .ok (.getfield 124, 3) := by decide +kernel
theorem d_Mo_execute_172 : decode b_Mo_execute 172 = .ok (.iconst 4, 1) := by decide +kernel
theorem d_Mo_execute_173 : decode b_Mo_execute 173 = .ok (.iadd, 1) := by decide +kernel
theorem d_Mo_execute_174 : decode b_Mo_execute 174 = .ok (.invokevirtual 144, 3) := by decide +kernel
theorem d_Mo_execute_177 : decode b_Mo_execute 177 = .ok (.aload_n 0, 1) := by decide +kernel
theorem d_Mo_execute_178 : decode b_Mo_execute 178 = .ok (.aload_n 0, 1) := by decide +kernel
theorem d_Mo_execute_179 : decode b_Mo_execute 179 = .ok (.getfield 124, 3) := by decide +kernel
theorem d_Mo_execute_182 : decode b_Mo_execute 182 = .ok (.aload_n 0, 1) := by decide +kernel
theorem d_Mo_execute_183 : decode b_Mo_execute 183 = .ok (.invokevirtual 157, 3) := by decide +kernel
theorem d_Mo_execute_186 : decode b_Mo_execute 186 = .ok (.iadd, 1) := by decide +kernel
theorem d_Mo_execute_187 : decode b_Mo_execute 187 = .ok (.invokevirtual 131, 3) := by decide +kernel
theorem d_Mo_execute_190 : decode b_Mo_execute 190 = .ok (.goto 119, 3) := by decide +kernel
theorem d_Mo_execute_304 : decode b_Mo_execute 304 = .ok (.aload_n 0, 1) := by decide +kernel
theorem d_Mo_execute_305 : decode b_Mo_execute 305 = .ok (.iload_n 1, 1) := by decide +kernel
theorem d_Mo_execute_306 : decode b_Mo_execute 306 = .ok (.invokevirtual 180, 3) := by decide +kernel
theorem d_Mo_change_0 : decode b_Mo_change 0 = .ok (.iload_n 1, 1) := by decide +kernel
theorem d_Mo_change_1 : decode b_Mo_change 1 = .ok (.bipush 64, 2) := by decide +kernel
theorem d_Mo_change_3 : decode b_Mo_change 3 = .ok (.if_icmp .ge 22, 3) := by decide +kernel
theorem d_Mo_change_25 : decode b_Mo_change 25 = .ok (.iload_n 1, 1) := by decide +kernel
theorem d_Mo_change_26 : decode b_Mo_change 26 = .ok (.sipush 160, 3) := by decide +kernel
theorem d_Mo_change_29 : decode b_Mo_change 29 = .ok (.if_icmp .ge 28, 3) := by decide +kernel
theorem d_Mo_change_57 : decode b_Mo_change 57 = .ok (.aload_n 0, 1) := by decide +kernel
theorem d_Mo_change_58 : decode b_Mo_change 58 = .ok (.getfield 23, 3) := by decide +kernel
theorem d_Mo_change_61 : decode b_Mo_change 61 = .ok (.iload_n 1, 1) := by decide +kernel
theorem d_Mo_change_62 : decode b_Mo_change 62 = .ok (.sipush 160, 3) := by decide +kernel
theorem d_Mo_change_65 : decode b_Mo_change 65 = .ok (.isub, 1) := by decide +kernel
theorem d_Mo_change_66 : decode b_Mo_change 66 = .ok (.aload_n 0, 1) := by decide +kernel
theorem d_Mo_change_67 : decode b_Mo_change 67 = .ok (.getfield 23, 3) := by decide +kernel
theorem d_Mo_change_70 : decode b_Mo_change 70 = .ok (.iload_n 1, 1) := by decide +kernel
theorem d_Mo_change_71 : decode b_Mo_change 71 = .ok (.sipush 160, 3) := by decide +kernel
theorem d_Mo_change_74 : decode b_Mo_change 74 = .ok (.isub, 1) := by decide +kernel
theorem d_Mo_change_75 : decode b_Mo_change 75 = .ok (.laload, 1) := by decide +kernel
theorem d_Mo_change_76 : decode b_Mo_change 76 = .ok (.lconst 1, 1) := by decide +kernel
theorem d_Mo_change_77 : decode b_Mo_change 77 = .ok (.iload_n 2, 1) := by decide +kernel
theorem d_Mo_change_78 : decode b_Mo_change 78 = .ok (.lshl, 1) := by decide +kernel
theorem d_Mo_change_79 : decode b_Mo_change 79 = .ok (.lxor, 1) := by decide +kernel
theorem d_Mo_change_80 : decode b_Mo_change 80 = .ok (.lastore, 1) := by decide +kernel
theorem d_Mo_change_81 : decode b_Mo_change 81 = .ok (.return_, 1) := by decide +kernel
theorem d_Mo_change_32 : decode b_Mo_change 32 = .ok (.aload_n 0, 1) := by decide +kernel
theorem d_Mo_change_33 : decode b_Mo_change 33 = .ok (.getfield 20, 3) := by decide +kernel
theorem d_Mo_change_36 : decode b_Mo_change 36 = .ok (.iload_n 1, 1) := by decide +kernel
theorem d_Mo_change_37 : decode b_Mo_change 37 = .ok (.bipush 64, 2) := by decide +kernel
theorem d_Mo_change_39 : decode b_Mo_change 39 = .ok (.isub, 1) := by decide +kernel
theorem d_Mo_change_40 : decode b_Mo_change 40 = .ok (.aload_n 0, 1) := by decide +kernel
theorem d_Mo_change_41 : decode b_Mo_change 41 = .ok (.getfield 20, 3) := by decide +kernel
theorem d_Mo_change_44 : decode b_Mo_change 44 = .ok (.iload_n 1, 1) := by decide +kernel
theorem d_Mo_change_45 : decode b_Mo_change 45 = .ok (.bipush 64, 2) := by decide +kernel
theorem d_Mo_change_47 : decode b_Mo_change 47 = .ok (.isub, 1) := by decide +kernel
theorem d_Mo_change_48 : decode b_Mo_change 48 = .ok (.iaload, 1) := by decide +kernel
theorem d_Mo_change_49 : decode b_Mo_change 49 = .ok (.iconst 1, 1) := by decide +kernel
theorem d_Mo_change_50 : decode b_Mo_change 50 = .ok (.iload_n 2, 1) := by decide +kernel
theorem d_Mo_change_51 : decode b_Mo_change 51 = .ok (.ishl, 1) := by decide +kernel
theorem d_Mo_change_52 : decode b_Mo_change 52 = .ok (.ixor, 1) := by decide +kernel
theorem d_Mo_change_53 : decode b_Mo_change 53 = .ok (.iastore, 1) := by decide +kernel
theorem d_Mo_change_54 : decode b_Mo_change 54 = .ok (.goto 27, 3) := by decide +kernel
theorem d_Mo_change_6 : decode b_Mo_change 6 = .ok (.aload_n 0, 1) := by decide +kernel
theorem d_Mo_change_7 : decode b_Mo_change 7 = .ok (.getfield 13, 3) := by decide +kernel
theorem d_Mo_change_10 : decode b_Mo_change 10 = .ok (.iload_n 1, 1) := by decide +kernel
theorem d_Mo_change_11 : decode b_Mo_change 11 = .ok (.aload_n 0, 1) := by decide +kernel
theorem d_Mo_change_12 : decode b_Mo_change 12 = .ok (.getfield 13, 3) := by decide +kernel
theorem d_Mo_change_15 : decode b_Mo_change 15 = .ok (.iload_n 1, 1) := by decide +kernel
theorem d_Mo_change_16 : decode b_Mo_change 16 = .ok (.laload, 1) := by decide +kernel
theorem d_Mo_change_17 : decode b_Mo_change 17 = .ok (.lconst 1, 1) := by decide +kernel
theorem d_Mo_change_18 : decode b_Mo_change 18 = .ok (.iload_n 2, 1) := by decide +kernel
theorem d_Mo_change_19 : decode b_Mo_change 19 = .ok (.lshl, 1) := by decide +kernel
theorem d_Mo_change_20 : decode b_Mo_change 20 = .ok (.lxor, 1) := by decide +kernel
theorem d_Mo_change_21 : decode b_Mo_change 21 = .ok (.lastore, 1) := by decide +kernel
theorem d_Mo_change_22 : decode b_Mo_change 22 = .ok (.goto 59, 3) := by decide +kernel
theorem d_Mo_makeFaults_0 : decode b_Mo_makeFaults 0 = .ok (.iconst 0, 1) := by decide +kernel
theorem d_Mo_makeFaults_1 : decode b_Mo_makeFaults 1 = .ok (.istore_n 1, 1) := by decide +kernel
theorem d_Mo_makeFaults_2 : decode b_Mo_makeFaults 2 = .ok (.iconst 0, 1) := by decide +kernel
theorem d_Mo_makeFaults_3 : decode b_Mo_makeFaults 3 = .ok (.istore_n 2, 1) := by decide +kernel
theorem d_Mo_makeFaults_4 : decode b_Mo_makeFaults 4 = .ok (.iload_n 2, 1) := by decide +kernel
theorem d_Mo_makeFaults_5 : decode b_Mo_makeFaults 5 = .ok (.aload_n 0, 1) := by decide +kernel
theorem d_Mo_makeFaults_6 : decode b_Mo_makeFaults 6 = .ok (.getfield 187, 3) := by decide +kernel
theorem d_Mo_makeFaults_9 : decode b_Mo_makeFaults 9 = .ok (.if_icmp .ge 87, 3) := by decide +kernel
theorem d_Mo_makeFaults_96 : decode b_Mo_makeFaults 96 = .ok (.aload_n 0, 1) := by decide +kernel
theorem d_Mo_makeFaults_97 : decode b_Mo_makeFaults 97 = .ok (.iload_n 1, 1) := by decide +kernel
theorem d_Mo_makeFaults_98 : decode b_Mo_makeFaults 98 = .ok (.putfield 187, 3) := by decide +kernel
theorem d_Mo_makeFaults_101 : decode b_Mo_makeFaults 101 = .ok (.return_, 1) := by decide +kernel
theorem d_Mo_makeFaults_12 : decode b_Mo_makeFaults 12 = .ok (.aload_n 0, 1) := by decide +kernel
theorem d_Mo_makeFaults_13 : decode b_Mo_makeFaults 13 = .ok (.getfield 26, 3) := by decide +kernel
theorem d_Mo_makeFaults_16 : decode b_Mo_makeFaults 16 = .ok (.iconst 3, 1) := by decide +kernel
theorem d_Mo_makeFaults_17 : decode b_Mo_makeFaults 17 = .ok (.iload_n 2, 1) := by decide +kernel
theorem d_Mo_makeFaults_18 : decode b_Mo_makeFaults 18 = .ok (.imul, 1) := by decide +kernel
theorem d_Mo_makeFaults_19 : decode b_Mo_makeFaults 19 = .ok (.iaload, 1) := by decide +kernel
theorem d_Mo_makeFaults_20 : decode b_Mo_makeFaults 20 = .ok (.aload_n 0, 1) := by decide +kernel
theorem d_Mo_makeFaults_21 : decode b_Mo_makeFaults 21 = .ok (.getfield 190, 3) := by decide +kernel
theorem d_Mo_makeFaults_24 : decode b_Mo_makeFaults 24 = .ok (.if_icmp .ne 30, 3) := by decide +kernel
theorem d_Mo_makeFaults_54 : decode b_Mo_makeFaults 54 = .ok (.iconst 0, 1) := by decide +kernel
theorem d_Mo_makeFaults_55 : decode b_Mo_makeFaults 55 = .ok (.istore_n 3, 1) := by decide +kernel
theorem d_Mo_makeFaults_56 : decode b_Mo_makeFaults 56 = .ok (.iload_n 3, 1) := by decide +kernel
theorem d_Mo_makeFaults_57 : decode b_Mo_makeFaults 57 = .ok (.iconst 3, 1) := by decide +kernel
