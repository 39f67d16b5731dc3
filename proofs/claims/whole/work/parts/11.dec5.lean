theorem d_MD_show_153 : decode M_MD_show.2.1 153 = .ok (.getfield 41, 3) := by decide +kernel
theorem d_MD_show_156 : decode M_MD_show.2.1 156 = .ok (.iload_n 1, 1) := by decide +kernel
theorem d_MD_show_157 : decode M_MD_show.2.1 157 = .ok (.iaload, 1) := by decide +kernel
theorem d_MD_show_158 : decode M_MD_show.2.1 158 = .ok (.if_icmp .ge 187, 3) := by decide +kernel
theorem d_MD_show_161 : decode M_MD_show.2.1 161 = .ok (.aload_n 0, 1) := by decide +kernel
theorem d_MD_show_162 : decode M_MD_show.2.1 162 = .ok (.iload_n 1, 1) := by decide +kernel
theorem d_MD_show_163 : decode M_MD_show.2.1 163 = .ok (.iload 11, 2) := by decide +kernel
theorem d_MD_show_165 : decode M_MD_show.2.1 165 = .ok (.invokevirtual 131, 3) := by decide +kernel
theorem d_MD_show_168 : decode M_MD_show.2.1 168 = .ok (.istore 12, 2) := by decide +kernel
theorem d_MD_show_170 : decode M_MD_show.2.1 170 = .ok (.iload 12, 2) := by decide +kernel
theorem d_MD_show_172 : decode M_MD_show.2.1 172 = .ok (.iload 4, 2) := by decide +kernel
theorem d_MD_show_174 : decode M_MD_show.2.1 174 = .ok (.invokestatic 146, 3) := by decide +kernel
theorem d_MD_show_177 : decode M_MD_show.2.1 177 = .ok (.istore 13, 2) := by decide +kernel
theorem d_MD_show_179 : decode M_MD_show.2.1 179 = .ok (.iload 11, 2) := by decide +kernel
theorem d_MD_show_181 : decode M_MD_show.2.1 181 = .ok (.iload 8, 2) := by decide +kernel
theorem d_MD_show_183 : decode M_MD_show.2.1 183 = .ok (.if_icmp .lt 30, 3) := by decide +kernel
theorem d_MD_show_186 : decode M_MD_show.2.1 186 = .ok (.aload_n 0, 1) := by decide +kernel
theorem d_MD_show_187 : decode M_MD_show.2.1 187 = .ok (.getfield 47, 3) := by decide +kernel
theorem d_MD_show_190 : decode M_MD_show.2.1 190 = .ok (.iload_n 1, 1) := by decide +kernel
theorem d_MD_show_191 : decode M_MD_show.2.1 191 = .ok (.iaload, 1) := by decide +kernel
theorem d_MD_show_192 : decode M_MD_show.2.1 192 = .ok (.iconst 2, 1) := by decide +kernel
theorem d_MD_show_193 : decode M_MD_show.2.1 193 = .ok (.if_icmp .ne 20, 3) := by decide +kernel
theorem d_MD_show_196 : decode M_MD_show.2.1 196 = .ok (.iload 4, 2) := by decide +kernel
theorem d_MD_show_198 : decode M_MD_show.2.1 198 = .ok (.ifCond .eq 8, 3) := by decide +kernel
theorem d_MD_show_201 : decode M_MD_show.2.1 201 = .ok (.iload 12, 2) := by decide +kernel
theorem d_MD_show_203 : decode M_MD_show.2.1 203 = .ok (.goto 5, 3) := by decide +kernel
theorem d_MD_show_206 : decode M_MD_show.2.1 206 = .ok (.bipush 32, 2) := by decide +kernel
theorem d_MD_show_208 : decode M_MD_show.2.1 208 = .ok (.istore 13, 2) := by decide +kernel
theorem d_MD_show_210 : decode M_MD_show.2.1 210 = .ok (.goto 120, 3) := by decide +kernel
theorem d_MD_show_213 : decode M_MD_show.2.1 213 = .ok (.iload 11, 2) := by decide +kernel
theorem d_MD_show_215 : decode M_MD_show.2.1 215 = .ok (.iload 7, 2) := by decide +kernel
theorem d_MD_show_217 : decode M_MD_show.2.1 217 = .ok (.if_icmp .lt 113, 3) := by decide +kernel
theorem d_MD_show_220 : decode M_MD_show.2.1 220 = .ok (.iload 11, 2) := by decide +kernel
theorem d_MD_show_222 : decode M_MD_show.2.1 222 = .ok (.iload 8, 2) := by decide +kernel
theorem d_MD_show_224 : decode M_MD_show.2.1 224 = .ok (.if_icmp .ge 106, 3) := by decide +kernel
theorem d_MD_show_227 : decode M_MD_show.2.1 227 = .ok (.iload 11, 2) := by decide +kernel
theorem d_MD_show_229 : decode M_MD_show.2.1 229 = .ok (.iload 9, 2) := by decide +kernel
theorem d_MD_show_231 : decode M_MD_show.2.1 231 = .ok (.if_icmp .ge 20, 3) := by decide +kernel
theorem d_MD_show_234 : decode M_MD_show.2.1 234 = .ok (.iload 10, 2) := by decide +kernel
theorem d_MD_show_236 : decode M_MD_show.2.1 236 = .ok (.bipush 42, 2) := by decide +kernel
theorem d_MD_show_238 : decode M_MD_show.2.1 238 = .ok (.if_icmp .ne 8, 3) := by decide +kernel
theorem d_MD_show_241 : decode M_MD_show.2.1 241 = .ok (.bipush 42, 2) := by decide +kernel
theorem d_MD_show_243 : decode M_MD_show.2.1 243 = .ok (.goto 47, 3) := by decide +kernel
theorem d_MD_show_246 : decode M_MD_show.2.1 246 = .ok (.bipush 32, 2) := by decide +kernel
theorem d_MD_show_248 : decode M_MD_show.2.1 248 = .ok (.goto 42, 3) := by decide +kernel
theorem d_MD_show_251 : decode M_MD_show.2.1 251 = .ok (.aload_n 0, 1) := by decide +kernel
theorem d_MD_show_252 : decode M_MD_show.2.1 252 = .ok (.iload_n 1, 1) := by decide +kernel
theorem d_MD_show_253 : decode M_MD_show.2.1 253 = .ok (.iload 11, 2) := by decide +kernel
theorem d_MD_show_255 : decode M_MD_show.2.1 255 = .ok (.invokevirtual 134, 3) := by decide +kernel
theorem d_MD_show_258 : decode M_MD_show.2.1 258 = .ok (.ifCond .eq 18, 3) := by decide +kernel
theorem d_MD_show_261 : decode M_MD_show.2.1 261 = .ok (.bipush 48, 2) := by decide +kernel
theorem d_MD_show_263 : decode M_MD_show.2.1 263 = .ok (.aload_n 0, 1) := by decide +kernel
theorem d_MD_show_264 : decode M_MD_show.2.1 264 = .ok (.iload_n 1, 1) := by decide +kernel
theorem d_MD_show_265 : decode M_MD_show.2.1 265 = .ok (.iload 11, 2) := by decide +kernel
theorem d_MD_show_267 : decode M_MD_show.2.1 267 = .ok (.lload 5, 2) := by decide +kernel
theorem d_MD_show_269 : decode M_MD_show.2.1 269 = .ok (.invokevirtual 142, 3) := by decide +kernel
theorem d_MD_show_272 : decode M_MD_show.2.1 272 = .ok (.iadd, 1) := by decide +kernel
theorem d_MD_show_273 : decode M_MD_show.2.1 273 = .ok (.goto 17, 3) := by decide +kernel
theorem d_MD_show_276 : decode M_MD_show.2.1 276 = .ok (.iload 12, 2) := by decide +kernel
theorem d_MD_show_278 : decode M_MD_show.2.1 278 = .ok (.bipush 66, 2) := by decide +kernel
theorem d_MD_show_280 : decode M_MD_show.2.1 280 = .ok (.if_icmp .ne 8, 3) := by decide +kernel
theorem d_MD_show_283 : decode M_MD_show.2.1 283 = .ok (.bipush 32, 2) := by decide +kernel
theorem d_MD_show_285 : decode M_MD_show.2.1 285 = .ok (.goto 5, 3) := by decide +kernel
theorem d_MD_show_288 : decode M_MD_show.2.1 288 = .ok (.iload 12, 2) := by decide +kernel
theorem d_MD_show_290 : decode M_MD_show.2.1 290 = .ok (.istore 13, 2) := by decide +kernel
theorem d_MD_show_292 : decode M_MD_show.2.1 292 = .ok (.iload 10, 2) := by decide +kernel
theorem d_MD_show_294 : decode M_MD_show.2.1 294 = .ok (.invokestatic 65, 3) := by decide +kernel
theorem d_MD_show_297 : decode M_MD_show.2.1 297 = .ok (.ifCond .eq 29, 3) := by decide +kernel
theorem d_MD_show_300 : decode M_MD_show.2.1 300 = .ok (.iload 9, 2) := by decide +kernel
theorem d_MD_show_302 : decode M_MD_show.2.1 302 = .ok (.iload 8, 2) := by decide +kernel
theorem d_MD_show_304 : decode M_MD_show.2.1 304 = .ok (.if_icmp .ge 22, 3) := by decide +kernel
theorem d_MD_show_307 : decode M_MD_show.2.1 307 = .ok (.iload 11, 2) := by decide +kernel
theorem d_MD_show_309 : decode M_MD_show.2.1 309 = .ok (.iload 9, 2) := by decide +kernel
theorem d_MD_show_311 : decode M_MD_show.2.1 311 = .ok (.iconst 1, 1) := by decide +kernel
theorem d_MD_show_312 : decode M_MD_show.2.1 312 = .ok (.isub, 1) := by decide +kernel
theorem d_MD_show_313 : decode M_MD_show.2.1 313 = .ok (.if_icmp .ne 13, 3) := by decide +kernel
theorem d_MD_show_316 : decode M_MD_show.2.1 316 = .ok (.iload 10, 2) := by decide +kernel
theorem d_MD_show_318 : decode M_MD_show.2.1 318 = .ok (.iload 4, 2) := by decide +kernel
theorem d_MD_show_320 : decode M_MD_show.2.1 320 = .ok (.invokestatic 146, 3) := by decide +kernel
theorem d_MD_show_323 : decode M_MD_show.2.1 323 = .ok (.goto 5, 3) := by decide +kernel
theorem d_MD_show_326 : decode M_MD_show.2.1 326 = .ok (.iload 13, 2) := by decide +kernel
theorem d_MD_show_328 : decode M_MD_show.2.1 328 = .ok (.istore 13, 2) := by decide +kernel
theorem d_MD_show_330 : decode M_MD_show.2.1 330 = .ok (.aload_n 0, 1) := by decide +kernel
theorem d_MD_show_331 : decode M_MD_show.2.1 331 = .ok (.getfield 50, 3) := by decide +kernel
theorem d_MD_show_334 : decode M_MD_show.2.1 334 = .ok (.iload 11, 2) := by decide +kernel
theorem d_MD_show_336 : decode M_MD_show.2.1 336 = .ok (.iload 13, 2) := by decide +kernel
theorem d_MD_show_338 : decode M_MD_show.2.1 338 = .ok (.iastore, 1) := by decide +kernel
theorem d_MD_show_339 : decode M_MD_show.2.1 339 = .ok (.iinc 11 1, 3) := by decide +kernel
theorem d_MD_show_342 : decode M_MD_show.2.1 342 = .ok (.goto (-192), 3) := by decide +kernel
theorem d_MD_show_345 : decode M_MD_show.2.1 345 = .ok (.return_, 1) := by decide +kernel
theorem d_MD_digitOf_0 : decode M_MD_digitOf.2.1 0 = .ok (.iconst 0, 1) := by decide +kernel
theorem d_MD_digitOf_1 : decode M_MD_digitOf.2.1 1 = .ok (.istore 5, 2) := by decide +kernel
theorem d_MD_digitOf_3 : decode M_MD_digitOf.2.1 3 = .ok (.iload_n 2, 1) := by decide +kernel
theorem d_MD_digitOf_4 : decode M_MD_digitOf.2.1 4 = .ok (.iconst 1, 1) := by decide +kernel
theorem d_MD_digitOf_5 : decode M_MD_digitOf.2.1 5 = .ok (.iadd, 1) := by decide +kernel
theorem d_MD_digitOf_6 : decode M_MD_digitOf.2.1 6 = .ok (.istore 6, 2) := by decide +kernel
theorem d_MD_digitOf_8 : decode M_MD_digitOf.2.1 8 = .ok (.iload 6, 2) := by decide +kernel
theorem d_MD_digitOf_10 : decode M_MD_digitOf.2.1 10 = .ok (.aload_n 0, 1) := by decide +kernel
theorem d_MD_digitOf_11 : decode M_MD_digitOf.2.1 11 = .ok (.getfield 41, 3) := by decide +kernel
theorem d_MD_digitOf_14 : decode M_MD_digitOf.2.1 14 = .ok (.iload_n 1, 1) := by decide +kernel
theorem d_MD_digitOf_15 : decode M_MD_digitOf.2.1 15 = .ok (.iaload, 1) := by decide +kernel
theorem d_MD_digitOf_16 : decode M_MD_digitOf.2.1 16 = .ok (.aload_n 0, 1) := by decide +kernel
theorem d_MD_digitOf_17 : decode M_MD_digitOf.2.1 17 = .ok (.getfield 47, 3) := by decide +kernel
theorem d_MD_digitOf_20 : decode M_MD_digitOf.2.1 20 = .ok (.iload_n 1, 1) := by decide +kernel
theorem d_MD_digitOf_21 : decode M_MD_digitOf.2.1 21 = .ok (.iaload, 1) := by decide +kernel
theorem d_MD_digitOf_22 : decode M_MD_digitOf.2.1 22 = .ok (.isub, 1) := by decide +kernel
theorem d_MD_digitOf_23 : decode M_MD_digitOf.2.1 23 = .ok (.if_icmp .ge 30, 3) := by decide +kernel
theorem d_MD_digitOf_26 : decode M_MD_digitOf.2.1 26 = .ok (.aload_n 0, 1) := by decide +kernel
theorem d_MD_digitOf_27 : decode M_MD_digitOf.2.1 27 = .ok (.iload_n 1, 1) := by decide +kernel
theorem d_MD_digitOf_28 : decode M_MD_digitOf.2.1 28 = .ok (.iload 6, 2) := by decide +kernel
theorem d_MD_digitOf_30 : decode M_MD_digitOf.2.1 30 = .ok (.invokevirtual 134, 3) := by decide +kernel
theorem d_MD_digitOf_33 : decode M_MD_digitOf.2.1 33 = .ok (.ifCond .eq 10, 3) := by decide +kernel
theorem d_MD_digitOf_36 : decode M_MD_digitOf.2.1 36 = .ok (.iload 5, 2) := by decide +kernel
theorem d_MD_digitOf_38 : decode M_MD_digitOf.2.1 38 = .ok (.iconst 1, 1) := by decide +kernel
theorem d_MD_digitOf_39 : decode M_MD_digitOf.2.1 39 = .ok (.iadd, 1) := by decide +kernel
theorem d_MD_digitOf_40 : decode M_MD_digitOf.2.1 40 = .ok (.goto 5, 3) := by decide +kernel
theorem d_MD_digitOf_43 : decode M_MD_digitOf.2.1 43 = .ok (.iload 5, 2) := by decide +kernel
theorem d_MD_digitOf_45 : decode M_MD_digitOf.2.1 45 = .ok (.istore 5, 2) := by decide +kernel
theorem d_MD_digitOf_47 : decode M_MD_digitOf.2.1 47 = .ok (.iinc 6 1, 3) := by decide +kernel
theorem d_MD_digitOf_50 : decode M_MD_digitOf.2.1 50 = .ok (.goto (-42), 3) := by decide +kernel
theorem d_MD_digitOf_53 : decode M_MD_digitOf.2.1 53 = .ok (.lload_n 3, 1) := by decide +kernel
theorem d_MD_digitOf_54 : decode M_MD_digitOf.2.1 54 = .ok (.iload 5, 2) := by decide +kernel
theorem d_MD_digitOf_56 : decode M_MD_digitOf.2.1 56 = .ok (.invokestatic 138, 3) := by decide +kernel
theorem d_MD_digitOf_59 : decode M_MD_digitOf.2.1 59 = .ok (.ldiv, 1) := by decide +kernel
theorem d_MD_digitOf_60 : decode M_MD_digitOf.2.1 60 = .ok (.ldc2_w 129, 3) := by decide +kernel
theorem d_MD_digitOf_63 : decode M_MD_digitOf.2.1 63 = .ok (.lrem, 1) := by decide +kernel
theorem d_MD_digitOf_64 : decode M_MD_digitOf.2.1 64 = .ok (.l2i, 1) := by decide +kernel
theorem d_MD_digitOf_65 : decode M_MD_digitOf.2.1 65 = .ok (.ireturn, 1) := by decide +kernel
theorem d_MD_power_0 : decode M_MD_power.2.1 0 = .ok (.lconst 1, 1) := by decide +kernel
theorem d_MD_power_1 : decode M_MD_power.2.1 1 = .ok (.lstore_n 1, 1) := by decide +kernel
theorem d_MD_power_2 : decode M_MD_power.2.1 2 = .ok (.iconst 0, 1) := by decide +kernel
theorem d_MD_power_3 : decode M_MD_power.2.1 3 = .ok (.istore_n 3, 1) := by decide +kernel
theorem d_MD_power_4 : decode M_MD_power.2.1 4 = .ok (.iload_n 3, 1) := by decide +kernel
theorem d_MD_power_5 : decode M_MD_power.2.1 5 = .ok (.iload_n 0, 1) := by decide +kernel
theorem d_MD_power_6 : decode M_MD_power.2.1 6 = .ok (.if_icmp .ge 15, 3) := by decide +kernel
theorem d_MD_power_9 : decode M_MD_power.2.1 9 = .ok (.lload_n 1, 1) := by decide +kernel
theorem d_MD_power_10 : decode M_MD_power.2.1 10 = .ok (.ldc2_w 129, 3) := by decide +kernel
theorem d_MD_power_13 : decode M_MD_power.2.1 13 = .ok (.lmul, 1) := by decide +kernel
theorem d_MD_power_14 : decode M_MD_power.2.1 14 = .ok (.lstore_n 1, 1) := by decide +kernel
theorem d_MD_power_15 : decode M_MD_power.2.1 15 = .ok (.iinc 3 1, 3) := by decide +kernel
theorem d_MD_power_18 : decode M_MD_power.2.1 18 = .ok (.goto (-14), 3) := by decide +kernel
theorem d_MD_power_21 : decode M_MD_power.2.1 21 = .ok (.lload_n 1, 1) := by decide +kernel
theorem d_MD_power_22 : decode M_MD_power.2.1 22 = .ok (.lreturn, 1) := by decide +kernel
theorem d_MD_signOf_0 : decode M_MD_signOf.2.1 0 = .ok (.iload_n 0, 1) := by decide +kernel
theorem d_MD_signOf_1 : decode M_MD_signOf.2.1 1 = .ok (.bipush 36, 2) := by decide +kernel
theorem d_MD_signOf_3 : decode M_MD_signOf.2.1 3 = .ok (.if_icmp .ne 8, 3) := by decide +kernel
theorem d_MD_signOf_6 : decode M_MD_signOf.2.1 6 = .ok (.bipush 36, 2) := by decide +kernel
theorem d_MD_signOf_8 : decode M_MD_signOf.2.1 8 = .ok (.goto 25, 3) := by decide +kernel
theorem d_MD_signOf_11 : decode M_MD_signOf.2.1 11 = .ok (.iload_n 1, 1) := by decide +kernel
theorem d_MD_signOf_12 : decode M_MD_signOf.2.1 12 = .ok (.ifCond .eq 8, 3) := by decide +kernel
theorem d_MD_signOf_15 : decode M_MD_signOf.2.1 15 = .ok (.bipush 45, 2) := by decide +kernel
theorem d_MD_signOf_17 : decode M_MD_signOf.2.1 17 = .ok (.goto 16, 3) := by decide +kernel
theorem d_MD_signOf_20 : decode M_MD_signOf.2.1 20 = .ok (.iload_n 0, 1) := by decide +kernel
theorem d_MD_signOf_21 : decode M_MD_signOf.2.1 21 = .ok (.bipush 43, 2) := by decide +kernel
theorem d_MD_signOf_23 : decode M_MD_signOf.2.1 23 = .ok (.if_icmp .ne 8, 3) := by decide +kernel
theorem d_MD_signOf_26 : decode M_MD_signOf.2.1 26 = .ok (.bipush 43, 2) := by decide +kernel
theorem d_MD_signOf_28 : decode M_MD_signOf.2.1 28 = .ok (.goto 5, 3) := by decide +kernel
theorem d_MD_signOf_31 : decode M_MD_signOf.2.1 31 = .ok (.bipush 32, 2) := by decide +kernel
theorem d_MD_signOf_33 : decode M_MD_signOf.2.1 33 = .ok (.ireturn, 1) := by decide +kernel
theorem d_MD_readPacked_0 : decode M_MD_readPacked.2.1 0 = .ok (.iconst 2, 1) := by decide +kernel
theorem d_MD_readPacked_1 : decode M_MD_readPacked.2.1 1 = .ok (.iload_n 2, 1) := by decide +kernel
theorem d_MD_readPacked_2 : decode M_MD_readPacked.2.1 2 = .ok (.iconst 2, 1) := by decide +kernel
theorem d_MD_readPacked_3 : decode M_MD_readPacked.2.1 3 = .ok (.idiv, 1) := by decide +kernel
theorem d_MD_readPacked_4 : decode M_MD_readPacked.2.1 4 = .ok (.imul, 1) := by decide +kernel
theorem d_MD_readPacked_5 : decode M_MD_readPacked.2.1 5 = .ok (.iconst 1, 1) := by decide +kernel
theorem d_MD_readPacked_6 : decode M_MD_readPacked.2.1 6 = .ok (.iadd, 1) := by decide +kernel
theorem d_MD_readPacked_7 : decode M_MD_readPacked.2.1 7 = .ok (.istore_n 3, 1) := by decide +kernel
theorem d_MD_readPacked_8 : decode M_MD_readPacked.2.1 8 = .ok (.lconst 0, 1) := by decide +kernel
theorem d_MD_readPacked_9 : decode M_MD_readPacked.2.1 9 = .ok (.lstore 4, 2) := by decide +kernel
theorem d_MD_readPacked_11 : decode M_MD_readPacked.2.1 11 = .ok (.iconst 0, 1) := by decide +kernel
theorem d_MD_readPacked_12 : decode M_MD_readPacked.2.1 12 = .ok (.istore 6, 2) := by decide +kernel
theorem d_MD_readPacked_14 : decode M_MD_readPacked.2.1 14 = .ok (.iload 6, 2) := by decide +kernel
theorem d_MD_readPacked_16 : decode M_MD_readPacked.2.1 16 = .ok (.iload_n 3, 1) := by decide +kernel
theorem d_MD_readPacked_17 : decode M_MD_readPacked.2.1 17 = .ok (.if_icmp .ge 70, 3) := by decide +kernel
theorem d_MD_readPacked_20 : decode M_MD_readPacked.2.1 20 = .ok (.aload_n 0, 1) := by decide +kernel
theorem d_MD_readPacked_21 : decode M_MD_readPacked.2.1 21 = .ok (.iload_n 1, 1) := by decide +kernel
theorem d_MD_readPacked_22 : decode M_MD_readPacked.2.1 22 = .ok (.iload 6, 2) := by decide +kernel
theorem d_MD_readPacked_24 : decode M_MD_readPacked.2.1 24 = .ok (.invokevirtual 161, 3) := by decide +kernel
theorem d_MD_readPacked_27 : decode M_MD_readPacked.2.1 27 = .ok (.istore 7, 2) := by decide +kernel
theorem d_MD_readPacked_29 : decode M_MD_readPacked.2.1 29 = .ok (.aload_n 0, 1) := by decide +kernel
theorem d_MD_readPacked_30 : decode M_MD_readPacked.2.1 30 = .ok (.aload_n 0, 1) := by decide +kernel
theorem d_MD_readPacked_31 : decode M_MD_readPacked.2.1 31 = .ok (.getfield 158, 3) := by decide +kernel
theorem d_MD_readPacked_34 : decode M_MD_readPacked.2.1 34 = .ok (.ifCond .eq 31, 3) := by decide +kernel
theorem d_MD_readPacked_37 : decode M_MD_readPacked.2.1 37 = .ok (.iload 7, 2) := by decide +kernel
theorem d_MD_readPacked_39 : decode M_MD_readPacked.2.1 39 = .ok (.bipush 9, 2) := by decide +kernel
theorem d_MD_readPacked_41 : decode M_MD_readPacked.2.1 41 = .ok (.if_icmp .gt 24, 3) := by decide +kernel
theorem d_MD_readPacked_44 : decode M_MD_readPacked.2.1 44 = .ok (.iload 6, 2) := by decide +kernel
theorem d_MD_readPacked_46 : decode M_MD_readPacked.2.1 46 = .ok (.ifCond .gt 15, 3) := by decide +kernel
theorem d_MD_readPacked_49 : decode M_MD_readPacked.2.1 49 = .ok (.iload_n 2, 1) := by decide +kernel
theorem d_MD_readPacked_50 : decode M_MD_readPacked.2.1 50 = .ok (.iconst 2, 1) := by decide +kernel
theorem d_MD_readPacked_51 : decode M_MD_readPacked.2.1 51 = .ok (.irem, 1) := by decide +kernel
theorem d_MD_readPacked_52 : decode M_MD_readPacked.2.1 52 = .ok (.iconst 1, 1) := by decide +kernel
theorem d_MD_readPacked_53 : decode M_MD_readPacked.2.1 53 = .ok (.if_icmp .eq 8, 3) := by decide +kernel
theorem d_MD_readPacked_56 : decode M_MD_readPacked.2.1 56 = .ok (.iload 7, 2) := by decide +kernel
theorem d_MD_readPacked_58 : decode M_MD_readPacked.2.1 58 = .ok (.ifCond .ne 7, 3) := by decide +kernel
theorem d_MD_readPacked_61 : decode M_MD_readPacked.2.1 61 = .ok (.iconst 1, 1) := by decide +kernel
theorem d_MD_readPacked_62 : decode M_MD_readPacked.2.1 62 = .ok (.goto 4, 3) := by decide +kernel
theorem d_MD_readPacked_65 : decode M_MD_readPacked.2.1 65 = .ok (.iconst 0, 1) := by decide +kernel
theorem d_MD_readPacked_66 : decode M_MD_readPacked.2.1 66 = .ok (.putfield 158, 3) := by decide +kernel
theorem d_MD_readPacked_69 : decode M_MD_readPacked.2.1 69 = .ok (.ldc2_w 129, 3) := by decide +kernel
theorem d_MD_readPacked_72 : decode M_MD_readPacked.2.1 72 = .ok (.lload 4, 2) := by decide +kernel
theorem d_MD_readPacked_74 : decode M_MD_readPacked.2.1 74 = .ok (.lmul, 1) := by decide +kernel
theorem d_MD_readPacked_75 : decode M_MD_readPacked.2.1 75 = .ok (.iload 7, 2) := by decide +kernel
theorem d_MD_readPacked_77 : decode M_MD_readPacked.2.1 77 = .ok (.i2l, 1) := by decide +kernel
theorem d_MD_readPacked_78 : decode M_MD_readPacked.2.1 78 = .ok (.ladd, 1) := by decide +kernel
theorem d_MD_readPacked_79 : decode M_MD_readPacked.2.1 79 = .ok (.lstore 4, 2) := by decide +kernel
theorem d_MD_readPacked_81 : decode M_MD_readPacked.2.1 81 = .ok (.iinc 6 1, 3) := by decide +kernel
theorem d_MD_readPacked_84 : decode M_MD_readPacked.2.1 84 = .ok (.goto (-70), 3) := by decide +kernel
theorem d_MD_readPacked_87 : decode M_MD_readPacked.2.1 87 = .ok (.aload_n 0, 1) := by decide +kernel
theorem d_MD_readPacked_88 : decode M_MD_readPacked.2.1 88 = .ok (.iload_n 1, 1) := by decide +kernel
theorem d_MD_readPacked_89 : decode M_MD_readPacked.2.1 89 = .ok (.iload_n 3, 1) := by decide +kernel
theorem d_MD_readPacked_90 : decode M_MD_readPacked.2.1 90 = .ok (.invokevirtual 161, 3) := by decide +kernel
theorem d_MD_readPacked_93 : decode M_MD_readPacked.2.1 93 = .ok (.istore 6, 2) := by decide +kernel
theorem d_MD_readPacked_95 : decode M_MD_readPacked.2.1 95 = .ok (.aload_n 0, 1) := by decide +kernel
theorem d_MD_readPacked_96 : decode M_MD_readPacked.2.1 96 = .ok (.aload_n 0, 1) := by decide +kernel
theorem d_MD_readPacked_97 : decode M_MD_readPacked.2.1 97 = .ok (.getfield 158, 3) := by decide +kernel
theorem d_MD_readPacked_100 : decode M_MD_readPacked.2.1 100 = .ok (.ifCond .eq 33, 3) := by decide +kernel
theorem d_MD_readPacked_103 : decode M_MD_readPacked.2.1 103 = .ok (.aload_n 0, 1) := by decide +kernel
theorem d_MD_readPacked_104 : decode M_MD_readPacked.2.1 104 = .ok (.getfield 31, 3) := by decide +kernel
theorem d_MD_readPacked_107 : decode M_MD_readPacked.2.1 107 = .ok (.iload_n 1, 1) := by decide +kernel
theorem d_MD_readPacked_108 : decode M_MD_readPacked.2.1 108 = .ok (.baload, 1) := by decide +kernel
theorem d_MD_readPacked_109 : decode M_MD_readPacked.2.1 109 = .ok (.ifCond .eq 13, 3) := by decide +kernel
theorem d_MD_readPacked_112 : decode M_MD_readPacked.2.1 112 = .ok (.iload 6, 2) := by decide +kernel
theorem d_MD_readPacked_114 : decode M_MD_readPacked.2.1 114 = .ok (.bipush 10, 2) := by decide +kernel
theorem d_MD_readPacked_116 : decode M_MD_readPacked.2.1 116 = .ok (.if_icmp .lt 17, 3) := by decide +kernel
theorem d_MD_readPacked_119 : decode M_MD_readPacked.2.1 119 = .ok (.goto 10, 3) := by decide +kernel
theorem d_MD_readPacked_122 : decode M_MD_readPacked.2.1 122 = .ok (.iload 6, 2) := by decide +kernel
theorem d_MD_readPacked_124 : decode M_MD_readPacked.2.1 124 = .ok (.bipush 15, 2) := by decide +kernel
theorem d_MD_readPacked_126 : decode M_MD_readPacked.2.1 126 = .ok (.if_icmp .ne 7, 3) := by decide +kernel
theorem d_MD_readPacked_129 : decode M_MD_readPacked.2.1 129 = .ok (.iconst 1, 1) := by decide +kernel
theorem d_MD_readPacked_130 : decode M_MD_readPacked.2.1 130 = .ok (.goto 4, 3) := by decide +kernel
theorem d_MD_readPacked_133 : decode M_MD_readPacked.2.1 133 = .ok (.iconst 0, 1) := by decide +kernel
theorem d_MD_readPacked_134 : decode M_MD_readPacked.2.1 134 = .ok (.putfield 158, 3) := by decide +kernel
theorem d_MD_readPacked_137 : decode M_MD_readPacked.2.1 137 = .ok (.aload_n 0, 1) := by decide +kernel
theorem d_MD_readPacked_138 : decode M_MD_readPacked.2.1 138 = .ok (.getfield 31, 3) := by decide +kernel
theorem d_MD_readPacked_141 : decode M_MD_readPacked.2.1 141 = .ok (.iload_n 1, 1) := by decide +kernel
theorem d_MD_readPacked_142 : decode M_MD_readPacked.2.1 142 = .ok (.baload, 1) := by decide +kernel
theorem d_MD_readPacked_143 : decode M_MD_readPacked.2.1 143 = .ok (.ifCond .eq 23, 3) := by decide +kernel
theorem d_MD_readPacked_146 : decode M_MD_readPacked.2.1 146 = .ok (.iload 6, 2) := by decide +kernel
theorem d_MD_readPacked_148 : decode M_MD_readPacked.2.1 148 = .ok (.bipush 11, 2) := by decide +kernel
theorem d_MD_readPacked_150 : decode M_MD_readPacked.2.1 150 = .ok (.if_icmp .eq 10, 3) := by decide +kernel
theorem d_MD_readPacked_153 : decode M_MD_readPacked.2.1 153 = .ok (.iload 6, 2) := by decide +kernel
theorem d_MD_readPacked_155 : decode M_MD_readPacked.2.1 155 = .ok (.bipush 13, 2) := by decide +kernel
theorem d_MD_readPacked_157 : decode M_MD_readPacked.2.1 157 = .ok (.if_icmp .ne 9, 3) := by decide +kernel
theorem d_MD_readPacked_160 : decode M_MD_readPacked.2.1 160 = .ok (.lload 4, 2) := by decide +kernel
theorem d_MD_readPacked_162 : decode M_MD_readPacked.2.1 162 = .ok (.lneg, 1) := by decide +kernel
theorem d_MD_readPacked_163 : decode M_MD_readPacked.2.1 163 = .ok (.goto 5, 3) := by decide +kernel
theorem d_MD_readPacked_166 : decode M_MD_readPacked.2.1 166 = .ok (.lload 4, 2) := by decide +kernel
theorem d_MD_readPacked_168 : decode M_MD_readPacked.2.1 168 = .ok (.lreturn, 1) := by decide +kernel
theorem d_MD_half_0 : decode M_MD_half.2.1 0 = .ok (.aload_n 0, 1) := by decide +kernel
theorem d_MD_half_1 : decode M_MD_half.2.1 1 = .ok (.getfield 7, 3) := by decide +kernel
theorem d_MD_half_4 : decode M_MD_half.2.1 4 = .ok (.aload_n 0, 1) := by decide +kernel
theorem d_MD_half_5 : decode M_MD_half.2.1 5 = .ok (.getfield 19, 3) := by decide +kernel
theorem d_MD_half_8 : decode M_MD_half.2.1 8 = .ok (.iload_n 1, 1) := by decide +kernel
theorem d_MD_half_9 : decode M_MD_half.2.1 9 = .ok (.iaload, 1) := by decide +kernel
theorem d_MD_half_10 : decode M_MD_half.2.1 10 = .ok (.iload_n 2, 1) := by decide +kernel
theorem d_MD_half_11 : decode M_MD_half.2.1 11 = .ok (.iconst 2, 1) := by decide +kernel
theorem d_MD_half_12 : decode M_MD_half.2.1 12 = .ok (.idiv, 1) := by decide +kernel
theorem d_MD_half_13 : decode M_MD_half.2.1 13 = .ok (.iadd, 1) := by decide +kernel
theorem d_MD_half_14 : decode M_MD_half.2.1 14 = .ok (.iaload, 1) := by decide +kernel
theorem d_MD_half_15 : decode M_MD_half.2.1 15 = .ok (.istore_n 3, 1) := by decide +kernel
theorem d_MD_half_16 : decode M_MD_half.2.1 16 = .ok (.iload_n 2, 1) := by decide +kernel
theorem d_MD_half_17 : decode M_MD_half.2.1 17 = .ok (.iconst 2, 1) := by decide +kernel
theorem d_MD_half_18 : decode M_MD_half.2.1 18 = .ok (.irem, 1) := by decide +kernel
theorem d_MD_half_19 : decode M_MD_half.2.1 19 = .ok (.ifCond .ne 10, 3) := by decide +kernel
theorem d_MD_half_22 : decode M_MD_half.2.1 22 = .ok (.iload_n 3, 1) := by decide +kernel
theorem d_MD_half_23 : decode M_MD_half.2.1 23 = .ok (.bipush 16, 2) := by decide +kernel
theorem d_MD_half_25 : decode M_MD_half.2.1 25 = .ok (.idiv, 1) := by decide +kernel
theorem d_MD_half_26 : decode M_MD_half.2.1 26 = .ok (.goto 7, 3) := by decide +kernel
theorem d_MD_half_29 : decode M_MD_half.2.1 29 = .ok (.iload_n 3, 1) := by decide +kernel
theorem d_MD_half_30 : decode M_MD_half.2.1 30 = .ok (.bipush 16, 2) := by decide +kernel
theorem d_MD_half_32 : decode M_MD_half.2.1 32 = .ok (.irem, 1) := by decide +kernel
theorem d_MD_half_33 : decode M_MD_half.2.1 33 = .ok (.ireturn, 1) := by decide +kernel
theorem d_MD_readBinary_0 : decode M_MD_readBinary.2.1 0 = .ok (.iload_n 2, 1) := by decide +kernel
theorem d_MD_readBinary_1 : decode M_MD_readBinary.2.1 1 = .ok (.iconst 4, 1) := by decide +kernel
theorem d_MD_readBinary_2 : decode M_MD_readBinary.2.1 2 = .ok (.if_icmp .gt 7, 3) := by decide +kernel
theorem d_MD_readBinary_5 : decode M_MD_readBinary.2.1 5 = .ok (.iconst 2, 1) := by decide +kernel
theorem d_MD_readBinary_6 : decode M_MD_readBinary.2.1 6 = .ok (.goto 4, 3) := by decide +kernel
theorem d_MD_readBinary_9 : decode M_MD_readBinary.2.1 9 = .ok (.iconst 4, 1) := by decide +kernel
theorem d_MD_readBinary_10 : decode M_MD_readBinary.2.1 10 = .ok (.istore_n 3, 1) := by decide +kernel
theorem d_MD_readBinary_11 : decode M_MD_readBinary.2.1 11 = .ok (.lconst 0, 1) := by decide +kernel
theorem d_MD_readBinary_12 : decode M_MD_readBinary.2.1 12 = .ok (.lstore 4, 2) := by decide +kernel
theorem d_MD_readBinary_14 : decode M_MD_readBinary.2.1 14 = .ok (.lconst 1, 1) := by decide +kernel
theorem d_MD_readBinary_15 : decode M_MD_readBinary.2.1 15 = .ok (.lstore 6, 2) := by decide +kernel
theorem d_MD_readBinary_17 : decode M_MD_readBinary.2.1 17 = .ok (.iconst 0, 1) := by decide +kernel
theorem d_MD_readBinary_18 : decode M_MD_readBinary.2.1 18 = .ok (.istore 8, 2) := by decide +kernel
theorem d_MD_readBinary_20 : decode M_MD_readBinary.2.1 20 = .ok (.iload 8, 2) := by decide +kernel
theorem d_MD_readBinary_22 : decode M_MD_readBinary.2.1 22 = .ok (.iload_n 3, 1) := by decide +kernel
theorem d_MD_readBinary_23 : decode M_MD_readBinary.2.1 23 = .ok (.if_icmp .ge 41, 3) := by decide +kernel
theorem d_MD_readBinary_26 : decode M_MD_readBinary.2.1 26 = .ok (.ldc2_w 164, 3) := by decide +kernel
theorem d_MD_readBinary_29 : decode M_MD_readBinary.2.1 29 = .ok (.lload 4, 2) := by decide +kernel
theorem d_MD_readBinary_31 : decode M_MD_readBinary.2.1 31 = .ok (.lmul, 1) := by decide +kernel
theorem d_MD_readBinary_32 : decode M_MD_readBinary.2.1 32 = .ok (.aload_n 0, 1) := by decide +kernel
theorem d_MD_readBinary_33 : decode M_MD_readBinary.2.1 33 = .ok (.getfield 7, 3) := by decide +kernel
theorem d_MD_readBinary_36 : decode M_MD_readBinary.2.1 36 = .ok (.aload_n 0, 1) := by decide +kernel
theorem d_MD_readBinary_37 : decode M_MD_readBinary.2.1 37 = .ok (.getfield 19, 3) := by decide +kernel
theorem d_MD_readBinary_40 : decode M_MD_readBinary.2.1 40 = .ok (.iload_n 1, 1) := by decide +kernel
theorem d_MD_readBinary_41 : decode M_MD_readBinary.2.1 41 = .ok (.iaload, 1) := by decide +kernel
theorem d_MD_readBinary_42 : decode M_MD_readBinary.2.1 42 = .ok (.iload 8, 2) := by decide +kernel
theorem d_MD_readBinary_44 : decode M_MD_readBinary.2.1 44 = .ok (.iadd, 1) := by decide +kernel
theorem d_MD_readBinary_45 : decode M_MD_readBinary.2.1 45 = .ok (.iaload, 1) := by decide +kernel
theorem d_MD_readBinary_46 : decode M_MD_readBinary.2.1 46 = .ok (.i2l, 1) := by decide +kernel
theorem d_MD_readBinary_47 : decode M_MD_readBinary.2.1 47 = .ok (.ladd, 1) := by decide +kernel
theorem d_MD_readBinary_48 : decode M_MD_readBinary.2.1 48 = .ok (.lstore 4, 2) := by decide +kernel
theorem d_MD_readBinary_50 : decode M_MD_readBinary.2.1 50 = .ok (.ldc2_w 164, 3) := by decide +kernel
theorem d_MD_readBinary_53 : decode M_MD_readBinary.2.1 53 = .ok (.lload 6, 2) := by decide +kernel
theorem d_MD_readBinary_55 : decode M_MD_readBinary.2.1 55 = .ok (.lmul, 1) := by decide +kernel
theorem d_MD_readBinary_56 : decode M_MD_readBinary.2.1 56 = .ok (.lstore 6, 2) := by decide +kernel
theorem d_MD_readBinary_58 : decode M_MD_readBinary.2.1 58 = .ok (.iinc 8 1, 3) := by decide +kernel
theorem d_MD_readBinary_61 : decode M_MD_readBinary.2.1 61 = .ok (.goto (-41), 3) := by decide +kernel
theorem d_MD_readBinary_64 : decode M_MD_readBinary.2.1 64 = .ok (.aload_n 0, 1) := by decide +kernel
theorem d_MD_readBinary_65 : decode M_MD_readBinary.2.1 65 = .ok (.getfield 31, 3) := by decide +kernel
theorem d_MD_readBinary_68 : decode M_MD_readBinary.2.1 68 = .ok (.iload_n 1, 1) := by decide +kernel
theorem d_MD_readBinary_69 : decode M_MD_readBinary.2.1 69 = .ok (.baload, 1) := by decide +kernel
theorem d_MD_readBinary_70 : decode M_MD_readBinary.2.1 70 = .ok (.ifCond .eq 23, 3) := by decide +kernel
theorem d_MD_readBinary_73 : decode M_MD_readBinary.2.1 73 = .ok (.ldc2_w 166, 3) := by decide +kernel
theorem d_MD_readBinary_76 : decode M_MD_readBinary.2.1 76 = .ok (.lload 4, 2) := by decide +kernel
theorem d_MD_readBinary_78 : decode M_MD_readBinary.2.1 78 = .ok (.lmul, 1) := by decide +kernel
theorem d_MD_readBinary_79 : decode M_MD_readBinary.2.1 79 = .ok (.lload 6, 2) := by decide +kernel
theorem d_MD_readBinary_81 : decode M_MD_readBinary.2.1 81 = .ok (.lcmp, 1) := by decide +kernel
theorem d_MD_readBinary_82 : decode M_MD_readBinary.2.1 82 = .ok (.ifCond .lt 11, 3) := by decide +kernel
theorem d_MD_readBinary_85 : decode M_MD_readBinary.2.1 85 = .ok (.lload 4, 2) := by decide +kernel
theorem d_MD_readBinary_87 : decode M_MD_readBinary.2.1 87 = .ok (.lload 6, 2) := by decide +kernel
theorem d_MD_readBinary_89 : decode M_MD_readBinary.2.1 89 = .ok (.lsub, 1) := by decide +kernel
theorem d_MD_readBinary_90 : decode M_MD_readBinary.2.1 90 = .ok (.goto 5, 3) := by decide +kernel
theorem d_MD_readBinary_93 : decode M_MD_readBinary.2.1 93 = .ok (.lload 4, 2) := by decide +kernel
theorem d_MD_readBinary_95 : decode M_MD_readBinary.2.1 95 = .ok (.lstore 4, 2) := by decide +kernel
theorem d_MD_readBinary_97 : decode M_MD_readBinary.2.1 97 = .ok (.iload_n 2, 1) := by decide +kernel
theorem d_MD_readBinary_98 : decode M_MD_readBinary.2.1 98 = .ok (.invokestatic 138, 3) := by decide +kernel
theorem d_MD_readBinary_101 : decode M_MD_readBinary.2.1 101 = .ok (.lstore 8, 2) := by decide +kernel
theorem d_MD_readBinary_103 : decode M_MD_readBinary.2.1 103 = .ok (.aload_n 0, 1) := by decide +kernel
theorem d_MD_readBinary_104 : decode M_MD_readBinary.2.1 104 = .ok (.aload_n 0, 1) := by decide +kernel
theorem d_MD_readBinary_105 : decode M_MD_readBinary.2.1 105 = .ok (.getfield 158, 3) := by decide +kernel
theorem d_MD_readBinary_108 : decode M_MD_readBinary.2.1 108 = .ok (.ifCond .eq 24, 3) := by decide +kernel
theorem d_MD_readBinary_111 : decode M_MD_readBinary.2.1 111 = .ok (.lload 4, 2) := by decide +kernel
theorem d_MD_readBinary_113 : decode M_MD_readBinary.2.1 113 = .ok (.lload 8, 2) := by decide +kernel
theorem d_MD_readBinary_115 : decode M_MD_readBinary.2.1 115 = .ok (.lcmp, 1) := by decide +kernel
theorem d_MD_readBinary_116 : decode M_MD_readBinary.2.1 116 = .ok (.ifCond .ge 16, 3) := by decide +kernel
theorem d_MD_readBinary_119 : decode M_MD_readBinary.2.1 119 = .ok (.lload 4, 2) := by decide +kernel
theorem d_MD_readBinary_121 : decode M_MD_readBinary.2.1 121 = .ok (.lload 8, 2) := by decide +kernel
theorem d_MD_readBinary_123 : decode M_MD_readBinary.2.1 123 = .ok (.lneg, 1) := by decide +kernel
theorem d_MD_readBinary_124 : decode M_MD_readBinary.2.1 124 = .ok (.lcmp, 1) := by decide +kernel
theorem d_MD_readBinary_125 : decode M_MD_readBinary.2.1 125 = .ok (.ifCond .le 7, 3) := by decide +kernel
theorem d_MD_readBinary_128 : decode M_MD_readBinary.2.1 128 = .ok (.iconst 1, 1) := by decide +kernel
theorem d_MD_readBinary_129 : decode M_MD_readBinary.2.1 129 = .ok (.goto 4, 3) := by decide +kernel
theorem d_MD_readBinary_132 : decode M_MD_readBinary.2.1 132 = .ok (.iconst 0, 1) := by decide +kernel
theorem d_MD_readBinary_133 : decode M_MD_readBinary.2.1 133 = .ok (.putfield 158, 3) := by decide +kernel
theorem d_MD_readBinary_136 : decode M_MD_readBinary.2.1 136 = .ok (.lload 4, 2) := by decide +kernel
theorem d_MD_readBinary_138 : decode M_MD_readBinary.2.1 138 = .ok (.lreturn, 1) := by decide +kernel
theorem d_MD_readZoned_0 : decode M_MD_readZoned.2.1 0 = .ok (.lconst 0, 1) := by decide +kernel
theorem d_MD_readZoned_1 : decode M_MD_readZoned.2.1 1 = .ok (.lstore_n 3, 1) := by decide +kernel
theorem d_MD_readZoned_2 : decode M_MD_readZoned.2.1 2 = .ok (.iconst 0, 1) := by decide +kernel
theorem d_MD_readZoned_3 : decode M_MD_readZoned.2.1 3 = .ok (.istore 5, 2) := by decide +kernel
theorem d_MD_readZoned_5 : decode M_MD_readZoned.2.1 5 = .ok (.iconst 0, 1) := by decide +kernel
theorem d_MD_readZoned_6 : decode M_MD_readZoned.2.1 6 = .ok (.istore 6, 2) := by decide +kernel
theorem d_MD_readZoned_8 : decode M_MD_readZoned.2.1 8 = .ok (.iload 6, 2) := by decide +kernel
theorem d_MD_readZoned_10 : decode M_MD_readZoned.2.1 10 = .ok (.iload_n 2, 1) := by decide +kernel
theorem d_MD_readZoned_11 : decode M_MD_readZoned.2.1 11 = .ok (.if_icmp .ge 112, 3) := by decide +kernel
theorem d_MD_readZoned_14 : decode M_MD_readZoned.2.1 14 = .ok (.aload_n 0, 1) := by decide +kernel
theorem d_MD_readZoned_15 : decode M_MD_readZoned.2.1 15 = .ok (.getfield 7, 3) := by decide +kernel
theorem d_MD_readZoned_18 : decode M_MD_readZoned.2.1 18 = .ok (.aload_n 0, 1) := by decide +kernel
theorem d_MD_readZoned_19 : decode M_MD_readZoned.2.1 19 = .ok (.getfield 19, 3) := by decide +kernel
theorem d_MD_readZoned_22 : decode M_MD_readZoned.2.1 22 = .ok (.iload_n 1, 1) := by decide +kernel
theorem d_MD_readZoned_23 : decode M_MD_readZoned.2.1 23 = .ok (.iaload, 1) := by decide +kernel
theorem d_MD_readZoned_24 : decode M_MD_readZoned.2.1 24 = .ok (.iload 6, 2) := by decide +kernel
theorem d_MD_readZoned_26 : decode M_MD_readZoned.2.1 26 = .ok (.iadd, 1) := by decide +kernel
theorem d_MD_readZoned_27 : decode M_MD_readZoned.2.1 27 = .ok (.iaload, 1) := by decide +kernel
theorem d_MD_readZoned_28 : decode M_MD_readZoned.2.1 28 = .ok (.istore 7, 2) := by decide +kernel
theorem d_MD_readZoned_30 : decode M_MD_readZoned.2.1 30 = .ok (.iload 6, 2) := by decide +kernel
theorem d_MD_readZoned_32 : decode M_MD_readZoned.2.1 32 = .ok (.iload_n 2, 1) := by decide +kernel
theorem d_MD_readZoned_33 : decode M_MD_readZoned.2.1 33 = .ok (.iconst 1, 1) := by decide +kernel
theorem d_MD_readZoned_34 : decode M_MD_readZoned.2.1 34 = .ok (.isub, 1) := by decide +kernel
theorem d_MD_readZoned_35 : decode M_MD_readZoned.2.1 35 = .ok (.if_icmp .ne 45, 3) := by decide +kernel
theorem d_MD_readZoned_38 : decode M_MD_readZoned.2.1 38 = .ok (.aload_n 0, 1) := by decide +kernel
theorem d_MD_readZoned_39 : decode M_MD_readZoned.2.1 39 = .ok (.getfield 22, 3) := by decide +kernel
theorem d_MD_readZoned_42 : decode M_MD_readZoned.2.1 42 = .ok (.iload_n 1, 1) := by decide +kernel
theorem d_MD_readZoned_43 : decode M_MD_readZoned.2.1 43 = .ok (.iaload, 1) := by decide +kernel
theorem d_MD_readZoned_44 : decode M_MD_readZoned.2.1 44 = .ok (.ifCond .ne 36, 3) := by decide +kernel
theorem d_MD_readZoned_47 : decode M_MD_readZoned.2.1 47 = .ok (.aload_n 0, 1) := by decide +kernel
theorem d_MD_readZoned_48 : decode M_MD_readZoned.2.1 48 = .ok (.getfield 31, 3) := by decide +kernel
theorem d_MD_readZoned_51 : decode M_MD_readZoned.2.1 51 = .ok (.iload_n 1, 1) := by decide +kernel
theorem d_MD_readZoned_52 : decode M_MD_readZoned.2.1 52 = .ok (.baload, 1) := by decide +kernel
theorem d_MD_readZoned_53 : decode M_MD_readZoned.2.1 53 = .ok (.ifCond .eq 27, 3) := by decide +kernel
theorem d_MD_readZoned_56 : decode M_MD_readZoned.2.1 56 = .ok (.iload 7, 2) := by decide +kernel
theorem d_MD_readZoned_58 : decode M_MD_readZoned.2.1 58 = .ok (.bipush 112, 2) := by decide +kernel
theorem d_MD_readZoned_60 : decode M_MD_readZoned.2.1 60 = .ok (.if_icmp .lt 20, 3) := by decide +kernel
theorem d_MD_readZoned_63 : decode M_MD_readZoned.2.1 63 = .ok (.iload 7, 2) := by decide +kernel
theorem d_MD_readZoned_65 : decode M_MD_readZoned.2.1 65 = .ok (.bipush 121, 2) := by decide +kernel
theorem d_MD_readZoned_67 : decode M_MD_readZoned.2.1 67 = .ok (.if_icmp .gt 13, 3) := by decide +kernel
theorem d_MD_readZoned_70 : decode M_MD_readZoned.2.1 70 = .ok (.iconst 1, 1) := by decide +kernel
theorem d_MD_readZoned_71 : decode M_MD_readZoned.2.1 71 = .ok (.istore 5, 2) := by decide +kernel
theorem d_MD_readZoned_73 : decode M_MD_readZoned.2.1 73 = .ok (.iload 7, 2) := by decide +kernel
theorem d_MD_readZoned_75 : decode M_MD_readZoned.2.1 75 = .ok (.bipush 64, 2) := by decide +kernel
theorem d_MD_readZoned_77 : decode M_MD_readZoned.2.1 77 = .ok (.isub, 1) := by decide +kernel
theorem d_MD_readZoned_78 : decode M_MD_readZoned.2.1 78 = .ok (.istore 7, 2) := by decide +kernel
theorem d_MD_readZoned_80 : decode M_MD_readZoned.2.1 80 = .ok (.aload_n 0, 1) := by decide +kernel
theorem d_MD_readZoned_81 : decode M_MD_readZoned.2.1 81 = .ok (.aload_n 0, 1) := by decide +kernel
theorem d_MD_readZoned_82 : decode M_MD_readZoned.2.1 82 = .ok (.getfield 158, 3) := by decide +kernel
theorem d_MD_readZoned_85 : decode M_MD_readZoned.2.1 85 = .ok (.ifCond .eq 15, 3) := by decide +kernel
theorem d_MD_readZoned_88 : decode M_MD_readZoned.2.1 88 = .ok (.iload 7, 2) := by decide +kernel
theorem d_MD_readZoned_90 : decode M_MD_readZoned.2.1 90 = .ok (.invokestatic 81, 3) := by decide +kernel
theorem d_MD_readZoned_93 : decode M_MD_readZoned.2.1 93 = .ok (.ifCond .eq 7, 3) := by decide +kernel
theorem d_MD_readZoned_96 : decode M_MD_readZoned.2.1 96 = .ok (.iconst 1, 1) := by decide +kernel
theorem d_MD_readZoned_97 : decode M_MD_readZoned.2.1 97 = .ok (.goto 4, 3) := by decide +kernel
theorem d_MD_readZoned_100 : decode M_MD_readZoned.2.1 100 = .ok (.iconst 0, 1) := by decide +kernel
theorem d_MD_readZoned_101 : decode M_MD_readZoned.2.1 101 = .ok (.putfield 158, 3) := by decide +kernel
theorem d_MD_readZoned_104 : decode M_MD_readZoned.2.1 104 = .ok (.ldc2_w 129, 3) := by decide +kernel
theorem d_MD_readZoned_107 : decode M_MD_readZoned.2.1 107 = .ok (.lload_n 3, 1) := by decide +kernel
theorem d_MD_readZoned_108 : decode M_MD_readZoned.2.1 108 = .ok (.lmul, 1) := by decide +kernel
theorem d_MD_readZoned_109 : decode M_MD_readZoned.2.1 109 = .ok (.iload 7, 2) := by decide +kernel
theorem d_MD_readZoned_111 : decode M_MD_readZoned.2.1 111 = .ok (.bipush 48, 2) := by decide +kernel
theorem d_MD_readZoned_113 : decode M_MD_readZoned.2.1 113 = .ok (.isub, 1) := by decide +kernel
theorem d_MD_readZoned_114 : decode M_MD_readZoned.2.1 114 = .ok (.i2l, 1) := by decide +kernel
theorem d_MD_readZoned_115 : decode M_MD_readZoned.2.1 115 = .ok (.ladd, 1) := by decide +kernel
theorem d_MD_readZoned_116 : decode M_MD_readZoned.2.1 116 = .ok (.lstore_n 3, 1) := by decide +kernel
theorem d_MD_readZoned_117 : decode M_MD_readZoned.2.1 117 = .ok (.iinc 6 1, 3) := by decide +kernel
theorem d_MD_readZoned_120 : decode M_MD_readZoned.2.1 120 = .ok (.goto (-112), 3) := by decide +kernel
theorem d_MD_readZoned_123 : decode M_MD_readZoned.2.1 123 = .ok (.aload_n 0, 1) := by decide +kernel
theorem d_MD_readZoned_124 : decode M_MD_readZoned.2.1 124 = .ok (.getfield 22, 3) := by decide +kernel
theorem d_MD_readZoned_127 : decode M_MD_readZoned.2.1 127 = .ok (.iload_n 1, 1) := by decide +kernel
theorem d_MD_readZoned_128 : decode M_MD_readZoned.2.1 128 = .ok (.iaload, 1) := by decide +kernel
theorem d_MD_readZoned_129 : decode M_MD_readZoned.2.1 129 = .ok (.iconst 2, 1) := by decide +kernel
theorem d_MD_readZoned_130 : decode M_MD_readZoned.2.1 130 = .ok (.if_icmp .ne 62, 3) := by decide +kernel
theorem d_MD_readZoned_133 : decode M_MD_readZoned.2.1 133 = .ok (.aload_n 0, 1) := by decide +kernel
theorem d_MD_readZoned_134 : decode M_MD_readZoned.2.1 134 = .ok (.getfield 7, 3) := by decide +kernel
theorem d_MD_readZoned_137 : decode M_MD_readZoned.2.1 137 = .ok (.aload_n 0, 1) := by decide +kernel
theorem d_MD_readZoned_138 : decode M_MD_readZoned.2.1 138 = .ok (.getfield 19, 3) := by decide +kernel
theorem d_MD_readZoned_141 : decode M_MD_readZoned.2.1 141 = .ok (.iload_n 1, 1) := by decide +kernel
theorem d_MD_readZoned_142 : decode M_MD_readZoned.2.1 142 = .ok (.iaload, 1) := by decide +kernel
theorem d_MD_readZoned_143 : decode M_MD_readZoned.2.1 143 = .ok (.iload_n 2, 1) := by decide +kernel
theorem d_MD_readZoned_144 : decode M_MD_readZoned.2.1 144 = .ok (.iadd, 1) := by decide +kernel
theorem d_MD_readZoned_145 : decode M_MD_readZoned.2.1 145 = .ok (.iaload, 1) := by decide +kernel
theorem d_MD_readZoned_146 : decode M_MD_readZoned.2.1 146 = .ok (.istore 6, 2) := by decide +kernel
theorem d_MD_readZoned_148 : decode M_MD_readZoned.2.1 148 = .ok (.aload_n 0, 1) := by decide +kernel
theorem d_MD_readZoned_149 : decode M_MD_readZoned.2.1 149 = .ok (.aload_n 0, 1) := by decide +kernel
theorem d_MD_readZoned_150 : decode M_MD_readZoned.2.1 150 = .ok (.getfield 158, 3) := by decide +kernel
theorem d_MD_readZoned_153 : decode M_MD_readZoned.2.1 153 = .ok (.ifCond .eq 21, 3) := by decide +kernel
theorem d_MD_readZoned_156 : decode M_MD_readZoned.2.1 156 = .ok (.iload 6, 2) := by decide +kernel
theorem d_MD_readZoned_158 : decode M_MD_readZoned.2.1 158 = .ok (.bipush 43, 2) := by decide +kernel
theorem d_MD_readZoned_160 : decode M_MD_readZoned.2.1 160 = .ok (.if_icmp .eq 10, 3) := by decide +kernel
theorem d_MD_readZoned_163 : decode M_MD_readZoned.2.1 163 = .ok (.iload 6, 2) := by decide +kernel
theorem d_MD_readZoned_165 : decode M_MD_readZoned.2.1 165 = .ok (.bipush 45, 2) := by decide +kernel
theorem d_MD_readZoned_167 : decode M_MD_readZoned.2.1 167 = .ok (.if_icmp .ne 7, 3) := by decide +kernel
theorem d_MD_readZoned_170 : decode M_MD_readZoned.2.1 170 = .ok (.iconst 1, 1) := by decide +kernel
theorem d_MD_readZoned_171 : decode M_MD_readZoned.2.1 171 = .ok (.goto 4, 3) := by decide +kernel
theorem d_MD_readZoned_174 : decode M_MD_readZoned.2.1 174 = .ok (.iconst 0, 1) := by decide +kernel
theorem d_MD_readZoned_175 : decode M_MD_readZoned.2.1 175 = .ok (.putfield 158, 3) := by decide +kernel
theorem d_MD_readZoned_178 : decode M_MD_readZoned.2.1 178 = .ok (.iload 6, 2) := by decide +kernel
theorem d_MD_readZoned_180 : decode M_MD_readZoned.2.1 180 = .ok (.bipush 45, 2) := by decide +kernel
theorem d_MD_readZoned_182 : decode M_MD_readZoned.2.1 182 = .ok (.if_icmp .ne 7, 3) := by decide +kernel
theorem d_MD_readZoned_185 : decode M_MD_readZoned.2.1 185 = .ok (.iconst 1, 1) := by decide +kernel
theorem d_MD_readZoned_186 : decode M_MD_readZoned.2.1 186 = .ok (.goto 4, 3) := by decide +kernel
theorem d_MD_readZoned_189 : decode M_MD_readZoned.2.1 189 = .ok (.iconst 0, 1) := by decide +kernel
theorem d_MD_readZoned_190 : decode M_MD_readZoned.2.1 190 = .ok (.istore 5, 2) := by decide +kernel
theorem d_MD_readZoned_192 : decode M_MD_readZoned.2.1 192 = .ok (.iload 5, 2) := by decide +kernel
theorem d_MD_readZoned_194 : decode M_MD_readZoned.2.1 194 = .ok (.ifCond .eq 8, 3) := by decide +kernel
theorem d_MD_readZoned_197 : decode M_MD_readZoned.2.1 197 = .ok (.lload_n 3, 1) := by decide +kernel
theorem d_MD_readZoned_198 : decode M_MD_readZoned.2.1 198 = .ok (.lneg, 1) := by decide +kernel
theorem d_MD_readZoned_199 : decode M_MD_readZoned.2.1 199 = .ok (.goto 4, 3) := by decide +kernel
theorem d_MD_readZoned_202 : decode M_MD_readZoned.2.1 202 = .ok (.lload_n 3, 1) := by decide +kernel
theorem d_MD_readZoned_203 : decode M_MD_readZoned.2.1 203 = .ok (.lreturn, 1) := by decide +kernel
theorem d_MD_put_0 : decode M_MD_put.2.1 0 = .ok (.aload_n 0, 1) := by decide +kernel
theorem d_MD_put_1 : decode M_MD_put.2.1 1 = .ok (.iload_n 1, 1) := by decide +kernel
theorem d_MD_put_2 : decode M_MD_put.2.1 2 = .ok (.invokevirtual 126, 3) := by decide +kernel
theorem d_MD_put_5 : decode M_MD_put.2.1 5 = .ok (.ifCond .eq 13, 3) := by decide +kernel
theorem d_MD_put_8 : decode M_MD_put.2.1 8 = .ok (.iload_n 3, 1) := by decide +kernel
theorem d_MD_put_9 : decode M_MD_put.2.1 9 = .ok (.ifCond .lt 9, 3) := by decide +kernel
theorem d_MD_put_12 : decode M_MD_put.2.1 12 = .ok (.iload_n 3, 1) := by decide +kernel
theorem d_MD_put_13 : decode M_MD_put.2.1 13 = .ok (.bipush 9, 2) := by decide +kernel
theorem d_MD_put_15 : decode M_MD_put.2.1 15 = .ok (.if_icmp .le 5, 3) := by decide +kernel
theorem d_MD_put_18 : decode M_MD_put.2.1 18 = .ok (.iconst 0, 1) := by decide +kernel
theorem d_MD_put_19 : decode M_MD_put.2.1 19 = .ok (.ireturn, 1) := by decide +kernel
theorem d_MD_put_20 : decode M_MD_put.2.1 20 = .ok (.aload_n 0, 1) := by decide +kernel
theorem d_MD_put_21 : decode M_MD_put.2.1 21 = .ok (.iload_n 2, 1) := by decide +kernel
theorem d_MD_put_22 : decode M_MD_put.2.1 22 = .ok (.i2l, 1) := by decide +kernel
theorem d_MD_put_23 : decode M_MD_put.2.1 23 = .ok (.iload_n 3, 1) := by decide +kernel
theorem d_MD_put_24 : decode M_MD_put.2.1 24 = .ok (.invokestatic 138, 3) := by decide +kernel
theorem d_MD_put_27 : decode M_MD_put.2.1 27 = .ok (.iload_n 1, 1) := by decide +kernel
theorem d_MD_put_28 : decode M_MD_put.2.1 28 = .ok (.invokevirtual 204, 3) := by decide +kernel
theorem d_MD_put_31 : decode M_MD_put.2.1 31 = .ok (.iconst 1, 1) := by decide +kernel
theorem d_MD_put_32 : decode M_MD_put.2.1 32 = .ok (.ireturn, 1) := by decide +kernel
theorem d_MD_transfer_0 : decode M_MD_transfer.2.1 0 = .ok (.lload_n 1, 1) := by decide +kernel
theorem d_MD_transfer_1 : decode M_MD_transfer.2.1 1 = .ok (.aload_n 0, 1) := by decide +kernel
theorem d_MD_transfer_2 : decode M_MD_transfer.2.1 2 = .ok (.getfield 28, 3) := by decide +kernel
theorem d_MD_transfer_5 : decode M_MD_transfer.2.1 5 = .ok (.iload 5, 2) := by decide +kernel
theorem d_MD_transfer_7 : decode M_MD_transfer.2.1 7 = .ok (.iaload, 1) := by decide +kernel
theorem d_MD_transfer_8 : decode M_MD_transfer.2.1 8 = .ok (.invokestatic 138, 3) := by decide +kernel
theorem d_MD_transfer_11 : decode M_MD_transfer.2.1 11 = .ok (.lmul, 1) := by decide +kernel
theorem d_MD_transfer_12 : decode M_MD_transfer.2.1 12 = .ok (.lload_n 3, 1) := by decide +kernel
theorem d_MD_transfer_13 : decode M_MD_transfer.2.1 13 = .ok (.ldiv, 1) := by decide +kernel
theorem d_MD_transfer_14 : decode M_MD_transfer.2.1 14 = .ok (.lstore 6, 2) := by decide +kernel
theorem d_MD_transfer_16 : decode M_MD_transfer.2.1 16 = .ok (.lload 6, 2) := by decide +kernel
theorem d_MD_transfer_18 : decode M_MD_transfer.2.1 18 = .ok (.lconst 0, 1) := by decide +kernel
theorem d_MD_transfer_19 : decode M_MD_transfer.2.1 19 = .ok (.lcmp, 1) := by decide +kernel
theorem d_MD_transfer_20 : decode M_MD_transfer.2.1 20 = .ok (.ifCond .ge 9, 3) := by decide +kernel
theorem d_MD_transfer_23 : decode M_MD_transfer.2.1 23 = .ok (.lload 6, 2) := by decide +kernel
theorem d_MD_transfer_25 : decode M_MD_transfer.2.1 25 = .ok (.lneg, 1) := by decide +kernel
theorem d_MD_transfer_26 : decode M_MD_transfer.2.1 26 = .ok (.goto 5, 3) := by decide +kernel
theorem d_MD_transfer_29 : decode M_MD_transfer.2.1 29 = .ok (.lload 6, 2) := by decide +kernel
theorem d_MD_transfer_31 : decode M_MD_transfer.2.1 31 = .ok (.aload_n 0, 1) := by decide +kernel
theorem d_MD_transfer_32 : decode M_MD_transfer.2.1 32 = .ok (.getfield 25, 3) := by decide +kernel
theorem d_MD_transfer_35 : decode M_MD_transfer.2.1 35 = .ok (.iload 5, 2) := by decide +kernel
theorem d_MD_transfer_37 : decode M_MD_transfer.2.1 37 = .ok (.iaload, 1) := by decide +kernel
theorem d_MD_transfer_38 : decode M_MD_transfer.2.1 38 = .ok (.invokestatic 138, 3) := by decide +kernel
theorem d_MD_transfer_41 : decode M_MD_transfer.2.1 41 = .ok (.lrem, 1) := by decide +kernel
theorem d_MD_transfer_42 : decode M_MD_transfer.2.1 42 = .ok (.lstore 8, 2) := by decide +kernel
theorem d_MD_transfer_44 : decode M_MD_transfer.2.1 44 = .ok (.aload_n 0, 1) := by decide +kernel
theorem d_MD_transfer_45 : decode M_MD_transfer.2.1 45 = .ok (.iload 5, 2) := by decide +kernel
theorem d_MD_transfer_47 : decode M_MD_transfer.2.1 47 = .ok (.lload 6, 2) := by decide +kernel
theorem d_MD_transfer_49 : decode M_MD_transfer.2.1 49 = .ok (.lconst 0, 1) := by decide +kernel
theorem d_MD_transfer_50 : decode M_MD_transfer.2.1 50 = .ok (.lcmp, 1) := by decide +kernel
theorem d_MD_transfer_51 : decode M_MD_transfer.2.1 51 = .ok (.ifCond .ge 19, 3) := by decide +kernel
theorem d_MD_transfer_54 : decode M_MD_transfer.2.1 54 = .ok (.aload_n 0, 1) := by decide +kernel
theorem d_MD_transfer_55 : decode M_MD_transfer.2.1 55 = .ok (.getfield 31, 3) := by decide +kernel
theorem d_MD_transfer_58 : decode M_MD_transfer.2.1 58 = .ok (.iload 5, 2) := by decide +kernel
theorem d_MD_transfer_60 : decode M_MD_transfer.2.1 60 = .ok (.baload, 1) := by decide +kernel
theorem d_MD_transfer_61 : decode M_MD_transfer.2.1 61 = .ok (.ifCond .eq 9, 3) := by decide +kernel
theorem d_MD_transfer_64 : decode M_MD_transfer.2.1 64 = .ok (.lload 8, 2) := by decide +kernel
theorem d_MD_transfer_66 : decode M_MD_transfer.2.1 66 = .ok (.lneg, 1) := by decide +kernel
theorem d_MD_transfer_67 : decode M_MD_transfer.2.1 67 = .ok (.goto 5, 3) := by decide +kernel
theorem d_MD_transfer_70 : decode M_MD_transfer.2.1 70 = .ok (.lload 8, 2) := by decide +kernel
theorem d_MD_transfer_72 : decode M_MD_transfer.2.1 72 = .ok (.invokevirtual 198, 3) := by decide +kernel
theorem d_MD_transfer_75 : decode M_MD_transfer.2.1 75 = .ok (.return_, 1) := by decide +kernel
theorem d_MD_store_0 : decode M_MD_store.2.1 0 = .ok (.aload_n 0, 1) := by decide +kernel
theorem d_MD_store_1 : decode M_MD_store.2.1 1 = .ok (.getfield 25, 3) := by decide +kernel
theorem d_MD_store_4 : decode M_MD_store.2.1 4 = .ok (.iload_n 1, 1) := by decide +kernel
theorem d_MD_store_5 : decode M_MD_store.2.1 5 = .ok (.iaload, 1) := by decide +kernel
theorem d_MD_store_6 : decode M_MD_store.2.1 6 = .ok (.istore 4, 2) := by decide +kernel
theorem d_MD_store_8 : decode M_MD_store.2.1 8 = .ok (.aload_n 0, 1) := by decide +kernel
theorem d_MD_store_9 : decode M_MD_store.2.1 9 = .ok (.getfield 19, 3) := by decide +kernel
theorem d_MD_store_12 : decode M_MD_store.2.1 12 = .ok (.iload_n 1, 1) := by decide +kernel
theorem d_MD_store_13 : decode M_MD_store.2.1 13 = .ok (.iaload, 1) := by decide +kernel
theorem d_MD_store_14 : decode M_MD_store.2.1 14 = .ok (.istore 5, 2) := by decide +kernel
theorem d_MD_store_16 : decode M_MD_store.2.1 16 = .ok (.lload_n 2, 1) := by decide +kernel
theorem d_MD_store_17 : decode M_MD_store.2.1 17 = .ok (.lconst 0, 1) := by decide +kernel
theorem d_MD_store_18 : decode M_MD_store.2.1 18 = .ok (.lcmp, 1) := by decide +kernel
theorem d_MD_store_19 : decode M_MD_store.2.1 19 = .ok (.ifCond .ge 7, 3) := by decide +kernel
theorem d_MD_store_22 : decode M_MD_store.2.1 22 = .ok (.iconst 1, 1) := by decide +kernel
theorem d_MD_store_23 : decode M_MD_store.2.1 23 = .ok (.goto 4, 3) := by decide +kernel
theorem d_MD_store_26 : decode M_MD_store.2.1 26 = .ok (.iconst 0, 1) := by decide +kernel
theorem d_MD_store_27 : decode M_MD_store.2.1 27 = .ok (.istore 6, 2) := by decide +kernel
theorem d_MD_store_29 : decode M_MD_store.2.1 29 = .ok (.iload 6, 2) := by decide +kernel
theorem d_MD_store_31 : decode M_MD_store.2.1 31 = .ok (.ifCond .eq 8, 3) := by decide +kernel
theorem d_MD_store_34 : decode M_MD_store.2.1 34 = .ok (.lload_n 2, 1) := by decide +kernel
theorem d_MD_store_35 : decode M_MD_store.2.1 35 = .ok (.lneg, 1) := by decide +kernel
theorem d_MD_store_36 : decode M_MD_store.2.1 36 = .ok (.goto 4, 3) := by decide +kernel
theorem d_MD_store_39 : decode M_MD_store.2.1 39 = .ok (.lload_n 2, 1) := by decide +kernel
theorem d_MD_store_40 : decode M_MD_store.2.1 40 = .ok (.lstore 7, 2) := by decide +kernel
theorem d_MD_store_42 : decode M_MD_store.2.1 42 = .ok (.aload_n 0, 1) := by decide +kernel
theorem d_MD_store_43 : decode M_MD_store.2.1 43 = .ok (.getfield 35, 3) := by decide +kernel
theorem d_MD_store_46 : decode M_MD_store.2.1 46 = .ok (.iload_n 1, 1) := by decide +kernel
theorem d_MD_store_47 : decode M_MD_store.2.1 47 = .ok (.baload, 1) := by decide +kernel
theorem d_MD_store_48 : decode M_MD_store.2.1 48 = .ok (.ifCond .eq 49, 3) := by decide +kernel
theorem d_MD_store_51 : decode M_MD_store.2.1 51 = .ok (.aload_n 0, 1) := by decide +kernel
theorem d_MD_store_52 : decode M_MD_store.2.1 52 = .ok (.iload_n 1, 1) := by decide +kernel
theorem d_MD_store_53 : decode M_MD_store.2.1 53 = .ok (.lload_n 2, 1) := by decide +kernel
theorem d_MD_store_54 : decode M_MD_store.2.1 54 = .ok (.invokevirtual 150, 3) := by decide +kernel
theorem d_MD_store_57 : decode M_MD_store.2.1 57 = .ok (.iconst 0, 1) := by decide +kernel
theorem d_MD_store_58 : decode M_MD_store.2.1 58 = .ok (.istore 9, 2) := by decide +kernel
theorem d_MD_store_60 : decode M_MD_store.2.1 60 = .ok (.iload 9, 2) := by decide +kernel
theorem d_MD_store_62 : decode M_MD_store.2.1 62 = .ok (.aload_n 0, 1) := by decide +kernel
theorem d_MD_store_63 : decode M_MD_store.2.1 63 = .ok (.getfield 41, 3) := by decide +kernel
theorem d_MD_store_66 : decode M_MD_store.2.1 66 = .ok (.iload_n 1, 1) := by decide +kernel
theorem d_MD_store_67 : decode M_MD_store.2.1 67 = .ok (.iaload, 1) := by decide +kernel
theorem d_MD_store_68 : decode M_MD_store.2.1 68 = .ok (.if_icmp .ge 26, 3) := by decide +kernel
theorem d_MD_store_71 : decode M_MD_store.2.1 71 = .ok (.aload_n 0, 1) := by decide +kernel
theorem d_MD_store_72 : decode M_MD_store.2.1 72 = .ok (.getfield 7, 3) := by decide +kernel
theorem d_MD_store_75 : decode M_MD_store.2.1 75 = .ok (.iload 5, 2) := by decide +kernel
theorem d_MD_store_77 : decode M_MD_store.2.1 77 = .ok (.iload 9, 2) := by decide +kernel
theorem d_MD_store_79 : decode M_MD_store.2.1 79 = .ok (.iadd, 1) := by decide +kernel
theorem d_MD_store_80 : decode M_MD_store.2.1 80 = .ok (.aload_n 0, 1) := by decide +kernel
theorem d_MD_store_81 : decode M_MD_store.2.1 81 = .ok (.getfield 50, 3) := by decide +kernel
theorem d_MD_store_84 : decode M_MD_store.2.1 84 = .ok (.iload 9, 2) := by decide +kernel
theorem d_MD_store_86 : decode M_MD_store.2.1 86 = .ok (.iaload, 1) := by decide +kernel
theorem d_MD_store_87 : decode M_MD_store.2.1 87 = .ok (.iastore, 1) := by decide +kernel
theorem d_MD_store_88 : decode M_MD_store.2.1 88 = .ok (.iinc 9 1, 3) := by decide +kernel
theorem d_MD_store_91 : decode M_MD_store.2.1 91 = .ok (.goto (-31), 3) := by decide +kernel
theorem d_MD_store_94 : decode M_MD_store.2.1 94 = .ok (.goto 285, 3) := by decide +kernel
theorem d_MD_store_97 : decode M_MD_store.2.1 97 = .ok (.aload_n 0, 1) := by decide +kernel
theorem d_MD_store_98 : decode M_MD_store.2.1 98 = .ok (.getfield 22, 3) := by decide +kernel
theorem d_MD_store_101 : decode M_MD_store.2.1 101 = .ok (.iload_n 1, 1) := by decide +kernel
theorem d_MD_store_102 : decode M_MD_store.2.1 102 = .ok (.iaload, 1) := by decide +kernel
theorem d_MD_store_103 : decode M_MD_store.2.1 103 = .ok (.iconst 1, 1) := by decide +kernel
theorem d_MD_store_104 : decode M_MD_store.2.1 104 = .ok (.if_icmp .ne 99, 3) := by decide +kernel
theorem d_MD_store_107 : decode M_MD_store.2.1 107 = .ok (.aload_n 0, 1) := by decide +kernel
theorem d_MD_store_108 : decode M_MD_store.2.1 108 = .ok (.getfield 31, 3) := by decide +kernel
theorem d_MD_store_111 : decode M_MD_store.2.1 111 = .ok (.iload_n 1, 1) := by decide +kernel
theorem d_MD_store_112 : decode M_MD_store.2.1 112 = .ok (.baload, 1) := by decide +kernel
theorem d_MD_store_113 : decode M_MD_store.2.1 113 = .ok (.ifCond .eq 18, 3) := by decide +kernel
theorem d_MD_store_116 : decode M_MD_store.2.1 116 = .ok (.iload 6, 2) := by decide +kernel
theorem d_MD_store_118 : decode M_MD_store.2.1 118 = .ok (.ifCond .eq 8, 3) := by decide +kernel
theorem d_MD_store_121 : decode M_MD_store.2.1 121 = .ok (.bipush 13, 2) := by decide +kernel
theorem d_MD_store_123 : decode M_MD_store.2.1 123 = .ok (.goto 10, 3) := by decide +kernel
theorem d_MD_store_126 : decode M_MD_store.2.1 126 = .ok (.bipush 12, 2) := by decide +kernel
theorem d_MD_store_128 : decode M_MD_store.2.1 128 = .ok (.goto 5, 3) := by decide +kernel
theorem d_MD_store_131 : decode M_MD_store.2.1 131 = .ok (.bipush 15, 2) := by decide +kernel
theorem d_MD_store_133 : decode M_MD_store.2.1 133 = .ok (.istore 9, 2) := by decide +kernel
theorem d_MD_store_135 : decode M_MD_store.2.1 135 = .ok (.iload 4, 2) := by decide +kernel
theorem d_MD_store_137 : decode M_MD_store.2.1 137 = .ok (.iconst 2, 1) := by decide +kernel
theorem d_MD_store_138 : decode M_MD_store.2.1 138 = .ok (.idiv, 1) := by decide +kernel
theorem d_MD_store_139 : decode M_MD_store.2.1 139 = .ok (.istore 10, 2) := by decide +kernel
theorem d_MD_store_141 : decode M_MD_store.2.1 141 = .ok (.iload 10, 2) := by decide +kernel
theorem d_MD_store_143 : decode M_MD_store.2.1 143 = .ok (.ifCond .lt 57, 3) := by decide +kernel
theorem d_MD_store_146 : decode M_MD_store.2.1 146 = .ok (.aload_n 0, 1) := by decide +kernel
theorem d_MD_store_147 : decode M_MD_store.2.1 147 = .ok (.getfield 7, 3) := by decide +kernel
theorem d_MD_store_150 : decode M_MD_store.2.1 150 = .ok (.iload 5, 2) := by decide +kernel
theorem d_MD_store_152 : decode M_MD_store.2.1 152 = .ok (.iload 10, 2) := by decide +kernel
theorem d_MD_store_154 : decode M_MD_store.2.1 154 = .ok (.iadd, 1) := by decide +kernel
theorem d_MD_store_155 : decode M_MD_store.2.1 155 = .ok (.lload 7, 2) := by decide +kernel
theorem d_MD_store_157 : decode M_MD_store.2.1 157 = .ok (.ldc2_w 129, 3) := by decide +kernel
theorem d_MD_store_160 : decode M_MD_store.2.1 160 = .ok (.lrem, 1) := by decide +kernel
theorem d_MD_store_161 : decode M_MD_store.2.1 161 = .ok (.l2i, 1) := by decide +kernel
theorem d_MD_store_162 : decode M_MD_store.2.1 162 = .ok (.bipush 16, 2) := by decide +kernel
theorem d_MD_store_164 : decode M_MD_store.2.1 164 = .ok (.imul, 1) := by decide +kernel
theorem d_MD_store_165 : decode M_MD_store.2.1 165 = .ok (.iload 9, 2) := by decide +kernel
theorem d_MD_store_167 : decode M_MD_store.2.1 167 = .ok (.iadd, 1) := by decide +kernel
theorem d_MD_store_168 : decode M_MD_store.2.1 168 = .ok (.iastore, 1) := by decide +kernel
theorem d_MD_store_169 : decode M_MD_store.2.1 169 = .ok (.lload 7, 2) := by decide +kernel
theorem d_MD_store_171 : decode M_MD_store.2.1 171 = .ok (.ldc2_w 129, 3) := by decide +kernel
theorem d_MD_store_174 : decode M_MD_store.2.1 174 = .ok (.ldiv, 1) := by decide +kernel
theorem d_MD_store_175 : decode M_MD_store.2.1 175 = .ok (.lstore 7, 2) := by decide +kernel
theorem d_MD_store_177 : decode M_MD_store.2.1 177 = .ok (.lload 7, 2) := by decide +kernel
theorem d_MD_store_179 : decode M_MD_store.2.1 179 = .ok (.ldc2_w 129, 3) := by decide +kernel
theorem d_MD_store_182 : decode M_MD_store.2.1 182 = .ok (.lrem, 1) := by decide +kernel
theorem d_MD_store_183 : decode M_MD_store.2.1 183 = .ok (.l2i, 1) := by decide +kernel
theorem d_MD_store_184 : decode M_MD_store.2.1 184 = .ok (.istore 9, 2) := by decide +kernel
theorem d_MD_store_186 : decode M_MD_store.2.1 186 = .ok (.lload 7, 2) := by decide +kernel
theorem d_MD_store_188 : decode M_MD_store.2.1 188 = .ok (.ldc2_w 129, 3) := by decide +kernel
theorem d_MD_store_191 : decode M_MD_store.2.1 191 = .ok (.ldiv, 1) := by decide +kernel
theorem d_MD_store_192 : decode M_MD_store.2.1 192 = .ok (.lstore 7, 2) := by decide +kernel
theorem d_MD_store_194 : decode M_MD_store.2.1 194 = .ok (.iinc 10 (-1), 3) := by decide +kernel
theorem d_MD_store_197 : decode M_MD_store.2.1 197 = .ok (.goto (-56), 3) := by decide +kernel
theorem d_MD_store_200 : decode M_MD_store.2.1 200 = .ok (.goto 179, 3) := by decide +kernel
theorem d_MD_store_203 : decode M_MD_store.2.1 203 = .ok (.aload_n 0, 1) := by decide +kernel
theorem d_MD_store_204 : decode M_MD_store.2.1 204 = .ok (.getfield 22, 3) := by decide +kernel
theorem d_MD_store_207 : decode M_MD_store.2.1 207 = .ok (.iload_n 1, 1) := by decide +kernel
theorem d_MD_store_208 : decode M_MD_store.2.1 208 = .ok (.iaload, 1) := by decide +kernel
theorem d_MD_store_209 : decode M_MD_store.2.1 209 = .ok (.iconst 3, 1) := by decide +kernel
theorem d_MD_store_210 : decode M_MD_store.2.1 210 = .ok (.if_icmp .ne 57, 3) := by decide +kernel
theorem d_MD_store_213 : decode M_MD_store.2.1 213 = .ok (.lload_n 2, 1) := by decide +kernel
theorem d_MD_store_214 : decode M_MD_store.2.1 214 = .ok (.lstore 9, 2) := by decide +kernel
theorem d_MD_store_216 : decode M_MD_store.2.1 216 = .ok (.iload 4, 2) := by decide +kernel
theorem d_MD_store_218 : decode M_MD_store.2.1 218 = .ok (.iconst 4, 1) := by decide +kernel
theorem d_MD_store_219 : decode M_MD_store.2.1 219 = .ok (.if_icmp .gt 7, 3) := by decide +kernel
theorem d_MD_store_222 : decode M_MD_store.2.1 222 = .ok (.iconst 1, 1) := by decide +kernel
theorem d_MD_store_223 : decode M_MD_store.2.1 223 = .ok (.goto 4, 3) := by decide +kernel
theorem d_MD_store_226 : decode M_MD_store.2.1 226 = .ok (.iconst 3, 1) := by decide +kernel
theorem d_MD_store_227 : decode M_MD_store.2.1 227 = .ok (.istore 11, 2) := by decide +kernel
theorem d_MD_store_229 : decode M_MD_store.2.1 229 = .ok (.iload 11, 2) := by decide +kernel
theorem d_MD_store_231 : decode M_MD_store.2.1 231 = .ok (.ifCond .lt 33, 3) := by decide +kernel
theorem d_MD_store_234 : decode M_MD_store.2.1 234 = .ok (.aload_n 0, 1) := by decide +kernel
theorem d_MD_store_235 : decode M_MD_store.2.1 235 = .ok (.getfield 7, 3) := by decide +kernel
theorem d_MD_store_238 : decode M_MD_store.2.1 238 = .ok (.iload 5, 2) := by decide +kernel
theorem d_MD_store_240 : decode M_MD_store.2.1 240 = .ok (.iload 11, 2) := by decide +kernel
theorem d_MD_store_242 : decode M_MD_store.2.1 242 = .ok (.iadd, 1) := by decide +kernel
theorem d_MD_store_243 : decode M_MD_store.2.1 243 = .ok (.lload 9, 2) := by decide +kernel
theorem d_MD_store_245 : decode M_MD_store.2.1 245 = .ok (.ldc2_w 186, 3) := by decide +kernel
theorem d_MD_store_248 : decode M_MD_store.2.1 248 = .ok (.land, 1) := by decide +kernel
theorem d_MD_store_249 : decode M_MD_store.2.1 249 = .ok (.l2i, 1) := by decide +kernel
theorem d_MD_store_250 : decode M_MD_store.2.1 250 = .ok (.iastore, 1) := by decide +kernel
theorem d_MD_store_251 : decode M_MD_store.2.1 251 = .ok (.lload 9, 2) := by decide +kernel
theorem d_MD_store_253 : decode M_MD_store.2.1 253 = .ok (.bipush 8, 2) := by decide +kernel
theorem d_MD_store_255 : decode M_MD_store.2.1 255 = .ok (.lshr, 1) := by decide +kernel
theorem d_MD_store_256 : decode M_MD_store.2.1 256 = .ok (.lstore 9, 2) := by decide +kernel
theorem d_MD_store_258 : decode M_MD_store.2.1 258 = .ok (.iinc 11 (-1), 3) := by decide +kernel
theorem d_MD_store_261 : decode M_MD_store.2.1 261 = .ok (.goto (-32), 3) := by decide +kernel
theorem d_MD_store_264 : decode M_MD_store.2.1 264 = .ok (.goto 115, 3) := by decide +kernel
theorem d_MD_store_267 : decode M_MD_store.2.1 267 = .ok (.iload 4, 2) := by decide +kernel
theorem d_MD_store_269 : decode M_MD_store.2.1 269 = .ok (.iconst 1, 1) := by decide +kernel
theorem d_MD_store_270 : decode M_MD_store.2.1 270 = .ok (.isub, 1) := by decide +kernel
theorem d_MD_store_271 : decode M_MD_store.2.1 271 = .ok (.istore 9, 2) := by decide +kernel
theorem d_MD_store_273 : decode M_MD_store.2.1 273 = .ok (.iload 9, 2) := by decide +kernel
theorem d_MD_store_275 : decode M_MD_store.2.1 275 = .ok (.ifCond .lt 37, 3) := by decide +kernel
theorem d_MD_store_278 : decode M_MD_store.2.1 278 = .ok (.aload_n 0, 1) := by decide +kernel
theorem d_MD_store_279 : decode M_MD_store.2.1 279 = .ok (.getfield 7, 3) := by decide +kernel
theorem d_MD_store_282 : decode M_MD_store.2.1 282 = .ok (.iload 5, 2) := by decide +kernel
theorem d_MD_store_284 : decode M_MD_store.2.1 284 = .ok (.iload 9, 2) := by decide +kernel
theorem d_MD_store_286 : decode M_MD_store.2.1 286 = .ok (.iadd, 1) := by decide +kernel
theorem d_MD_store_287 : decode M_MD_store.2.1 287 = .ok (.bipush 48, 2) := by decide +kernel
theorem d_MD_store_289 : decode M_MD_store.2.1 289 = .ok (.lload 7, 2) := by decide +kernel
theorem d_MD_store_291 : decode M_MD_store.2.1 291 = .ok (.ldc2_w 129, 3) := by decide +kernel
theorem d_MD_store_294 : decode M_MD_store.2.1 294 = .ok (.lrem, 1) := by decide +kernel
theorem d_MD_store_295 : decode M_MD_store.2.1 295 = .ok (.l2i, 1) := by decide +kernel
theorem d_MD_store_296 : decode M_MD_store.2.1 296 = .ok (.iadd, 1) := by decide +kernel
theorem d_MD_store_297 : decode M_MD_store.2.1 297 = .ok (.iastore, 1) := by decide +kernel
theorem d_MD_store_298 : decode M_MD_store.2.1 298 = .ok (.lload 7, 2) := by decide +kernel
theorem d_MD_store_300 : decode M_MD_store.2.1 300 = .ok (.ldc2_w 129, 3) := by decide +kernel
theorem d_MD_store_303 : decode M_MD_store.2.1 303 = .ok (.ldiv, 1) := by decide +kernel
theorem d_MD_store_304 : decode M_MD_store.2.1 304 = .ok (.lstore 7, 2) := by decide +kernel
theorem d_MD_store_306 : decode M_MD_store.2.1 306 = .ok (.iinc 9 (-1), 3) := by decide +kernel
theorem d_MD_store_309 : decode M_MD_store.2.1 309 = .ok (.goto (-36), 3) := by decide +kernel
theorem d_MD_store_312 : decode M_MD_store.2.1 312 = .ok (.aload_n 0, 1) := by decide +kernel
theorem d_MD_store_313 : decode M_MD_store.2.1 313 = .ok (.getfield 22, 3) := by decide +kernel
theorem d_MD_store_316 : decode M_MD_store.2.1 316 = .ok (.iload_n 1, 1) := by decide +kernel
theorem d_MD_store_317 : decode M_MD_store.2.1 317 = .ok (.iaload, 1) := by decide +kernel
theorem d_MD_store_318 : decode M_MD_store.2.1 318 = .ok (.iconst 2, 1) := by decide +kernel
theorem d_MD_store_319 : decode M_MD_store.2.1 319 = .ok (.if_icmp .ne 28, 3) := by decide +kernel
theorem d_MD_store_322 : decode M_MD_store.2.1 322 = .ok (.aload_n 0, 1) := by decide +kernel
theorem d_MD_store_323 : decode M_MD_store.2.1 323 = .ok (.getfield 7, 3) := by decide +kernel
theorem d_MD_store_326 : decode M_MD_store.2.1 326 = .ok (.iload 5, 2) := by decide +kernel
theorem d_MD_store_328 : decode M_MD_store.2.1 328 = .ok (.iload 4, 2) := by decide +kernel
theorem d_MD_store_330 : decode M_MD_store.2.1 330 = .ok (.iadd, 1) := by decide +kernel
theorem d_MD_store_331 : decode M_MD_store.2.1 331 = .ok (.iload 6, 2) := by decide +kernel
theorem d_MD_store_333 : decode M_MD_store.2.1 333 = .ok (.ifCond .eq 8, 3) := by decide +kernel
theorem d_MD_store_336 : decode M_MD_store.2.1 336 = .ok (.bipush 45, 2) := by decide +kernel
theorem d_MD_store_338 : decode M_MD_store.2.1 338 = .ok (.goto 5, 3) := by decide +kernel
theorem d_MD_store_341 : decode M_MD_store.2.1 341 = .ok (.bipush 43, 2) := by decide +kernel
theorem d_MD_store_343 : decode M_MD_store.2.1 343 = .ok (.iastore, 1) := by decide +kernel
theorem d_MD_store_344 : decode M_MD_store.2.1 344 = .ok (.goto 35, 3) := by decide +kernel
theorem d_MD_store_347 : decode M_MD_store.2.1 347 = .ok (.iload 6, 2) := by decide +kernel
theorem d_MD_store_349 : decode M_MD_store.2.1 349 = .ok (.ifCond .eq 30, 3) := by decide +kernel
theorem d_MD_store_352 : decode M_MD_store.2.1 352 = .ok (.aload_n 0, 1) := by decide +kernel
theorem d_MD_store_353 : decode M_MD_store.2.1 353 = .ok (.getfield 7, 3) := by decide +kernel
theorem d_MD_store_356 : decode M_MD_store.2.1 356 = .ok (.iload 5, 2) := by decide +kernel
theorem d_MD_store_358 : decode M_MD_store.2.1 358 = .ok (.iload 4, 2) := by decide +kernel
theorem d_MD_store_360 : decode M_MD_store.2.1 360 = .ok (.iadd, 1) := by decide +kernel
theorem d_MD_store_361 : decode M_MD_store.2.1 361 = .ok (.iconst 1, 1) := by decide +kernel
theorem d_MD_store_362 : decode M_MD_store.2.1 362 = .ok (.isub, 1) := by decide +kernel
theorem d_MD_store_363 : decode M_MD_store.2.1 363 = .ok (.aload_n 0, 1) := by decide +kernel
theorem d_MD_store_364 : decode M_MD_store.2.1 364 = .ok (.getfield 7, 3) := by decide +kernel
theorem d_MD_store_367 : decode M_MD_store.2.1 367 = .ok (.iload 5, 2) := by decide +kernel
theorem d_MD_store_369 : decode M_MD_store.2.1 369 = .ok (.iload 4, 2) := by decide +kernel
theorem d_MD_store_371 : decode M_MD_store.2.1 371 = .ok (.iadd, 1) := by decide +kernel
theorem d_MD_store_372 : decode M_MD_store.2.1 372 = .ok (.iconst 1, 1) := by decide +kernel
theorem d_MD_store_373 : decode M_MD_store.2.1 373 = .ok (.isub, 1) := by decide +kernel
theorem d_MD_store_374 : decode M_MD_store.2.1 374 = .ok (.iaload, 1) := by decide +kernel
theorem d_MD_store_375 : decode M_MD_store.2.1 375 = .ok (.bipush 64, 2) := by decide +kernel
theorem d_MD_store_377 : decode M_MD_store.2.1 377 = .ok (.iadd, 1) := by decide +kernel
theorem d_MD_store_378 : decode M_MD_store.2.1 378 = .ok (.iastore, 1) := by decide +kernel
theorem d_MD_store_379 : decode M_MD_store.2.1 379 = .ok (.return_, 1) := by decide +kernel
theorem d_MD_move_0 : decode M_MD_move.2.1 0 = .ok (.aload_n 0, 1) := by decide +kernel
theorem d_MD_move_1 : decode M_MD_move.2.1 1 = .ok (.iload_n 1, 1) := by decide +kernel
theorem d_MD_move_2 : decode M_MD_move.2.1 2 = .ok (.invokevirtual 126, 3) := by decide +kernel
theorem d_MD_move_5 : decode M_MD_move.2.1 5 = .ok (.ifCond .eq 11, 3) := by decide +kernel
theorem d_MD_move_8 : decode M_MD_move.2.1 8 = .ok (.aload_n 0, 1) := by decide +kernel
theorem d_MD_move_9 : decode M_MD_move.2.1 9 = .ok (.iload_n 2, 1) := by decide +kernel
theorem d_MD_move_10 : decode M_MD_move.2.1 10 = .ok (.invokevirtual 126, 3) := by decide +kernel
theorem d_MD_move_13 : decode M_MD_move.2.1 13 = .ok (.ifCond .ne 5, 3) := by decide +kernel
theorem d_MD_move_16 : decode M_MD_move.2.1 16 = .ok (.iconst (-1), 1) := by decide +kernel
theorem d_MD_move_17 : decode M_MD_move.2.1 17 = .ok (.ireturn, 1) := by decide +kernel
theorem d_MD_move_18 : decode M_MD_move.2.1 18 = .ok (.aload_n 0, 1) := by decide +kernel
theorem d_MD_move_19 : decode M_MD_move.2.1 19 = .ok (.iload_n 1, 1) := by decide +kernel
theorem d_MD_move_20 : decode M_MD_move.2.1 20 = .ok (.invokevirtual 211, 3) := by decide +kernel
theorem d_MD_move_23 : decode M_MD_move.2.1 23 = .ok (.ifCond .ne 8, 3) := by decide +kernel
theorem d_MD_move_26 : decode M_MD_move.2.1 26 = .ok (.aload_n 0, 1) := by decide +kernel
theorem d_MD_move_27 : decode M_MD_move.2.1 27 = .ok (.invokevirtual 214, 3) := by decide +kernel
theorem d_MD_move_30 : decode M_MD_move.2.1 30 = .ok (.ireturn, 1) := by decide +kernel
theorem d_MD_move_31 : decode M_MD_move.2.1 31 = .ok (.aload_n 0, 1) := by decide +kernel
theorem d_MD_move_32 : decode M_MD_move.2.1 32 = .ok (.aload_n 0, 1) := by decide +kernel
theorem d_MD_move_33 : decode M_MD_move.2.1 33 = .ok (.iload_n 1, 1) := by decide +kernel
theorem d_MD_move_34 : decode M_MD_move.2.1 34 = .ok (.invokevirtual 181, 3) := by decide +kernel
theorem d_MD_move_37 : decode M_MD_move.2.1 37 = .ok (.aload_n 0, 1) := by decide +kernel
theorem d_MD_move_38 : decode M_MD_move.2.1 38 = .ok (.getfield 28, 3) := by decide +kernel
theorem d_MD_move_41 : decode M_MD_move.2.1 41 = .ok (.iload_n 1, 1) := by decide +kernel
theorem d_MD_move_42 : decode M_MD_move.2.1 42 = .ok (.iaload, 1) := by decide +kernel
theorem d_MD_move_43 : decode M_MD_move.2.1 43 = .ok (.invokestatic 138, 3) := by decide +kernel
theorem d_MD_move_46 : decode M_MD_move.2.1 46 = .ok (.iload_n 2, 1) := by decide +kernel
theorem d_MD_move_47 : decode M_MD_move.2.1 47 = .ok (.invokevirtual 204, 3) := by decide +kernel
theorem d_MD_move_50 : decode M_MD_move.2.1 50 = .ok (.iconst 0, 1) := by decide +kernel
theorem d_MD_move_51 : decode M_MD_move.2.1 51 = .ok (.ireturn, 1) := by decide +kernel
theorem d_MD_isSound_0 : decode M_MD_isSound.2.1 0 = .ok (.aload_n 0, 1) := by decide +kernel
theorem d_MD_isSound_1 : decode M_MD_isSound.2.1 1 = .ok (.iload_n 1, 1) := by decide +kernel
theorem d_MD_isSound_2 : decode M_MD_isSound.2.1 2 = .ok (.invokevirtual 181, 3) := by decide +kernel
theorem d_MD_isSound_5 : decode M_MD_isSound.2.1 5 = .ok (.lstore_n 2, 1) := by decide +kernel
theorem d_MD_isSound_6 : decode M_MD_isSound.2.1 6 = .ok (.aload_n 0, 1) := by decide +kernel
theorem d_MD_isSound_7 : decode M_MD_isSound.2.1 7 = .ok (.getfield 158, 3) := by decide +kernel
theorem d_MD_isSound_10 : decode M_MD_isSound.2.1 10 = .ok (.ifCond .eq 15, 3) := by decide +kernel
theorem d_MD_isSound_13 : decode M_MD_isSound.2.1 13 = .ok (.lload_n 2, 1) := by decide +kernel
theorem d_MD_isSound_14 : decode M_MD_isSound.2.1 14 = .ok (.ldc2_w 184, 3) := by decide +kernel
theorem d_MD_isSound_17 : decode M_MD_isSound.2.1 17 = .ok (.lcmp, 1) := by decide +kernel
theorem d_MD_isSound_18 : decode M_MD_isSound.2.1 18 = .ok (.ifCond .ge 7, 3) := by decide +kernel
theorem d_MD_isSound_21 : decode M_MD_isSound.2.1 21 = .ok (.iconst 1, 1) := by decide +kernel
theorem d_MD_isSound_22 : decode M_MD_isSound.2.1 22 = .ok (.goto 4, 3) := by decide +kernel
theorem d_MD_isSound_25 : decode M_MD_isSound.2.1 25 = .ok (.iconst 0, 1) := by decide +kernel
theorem d_MD_isSound_26 : decode M_MD_isSound.2.1 26 = .ok (.ireturn, 1) := by decide +kernel
theorem d_MD_badData_0 : decode M_MD_badData.2.1 0 = .ok (.aload_n 0, 1) := by decide +kernel
theorem d_MD_badData_1 : decode M_MD_badData.2.1 1 = .ok (.dup, 1) := by decide +kernel
theorem d_MD_badData_2 : decode M_MD_badData.2.1 2 = .ok (.getfield 208, 3) := by decide +kernel
theorem d_MD_badData_5 : decode M_MD_badData.2.1 5 = .ok (.iconst 1, 1) := by decide +kernel
theorem d_MD_badData_6 : decode M_MD_badData.2.1 6 = .ok (.iadd, 1) := by decide +kernel
theorem d_MD_badData_7 : decode M_MD_badData.2.1 7 = .ok (.putfield 208, 3) := by decide +kernel
theorem d_MD_badData_10 : decode M_MD_badData.2.1 10 = .ok (.bipush (-2), 2) := by decide +kernel
theorem d_MD_badData_12 : decode M_MD_badData.2.1 12 = .ok (.ireturn, 1) := by decide +kernel
theorem d_MD_compute_0 : decode M_MD_compute.2.1 0 = .ok (.iload_n 1, 1) := by decide +kernel
theorem d_MD_compute_1 : decode M_MD_compute.2.1 1 = .ok (.ifCond .lt 41, 3) := by decide +kernel
theorem d_MD_compute_4 : decode M_MD_compute.2.1 4 = .ok (.iload_n 1, 1) := by decide +kernel
theorem d_MD_compute_5 : decode M_MD_compute.2.1 5 = .ok (.iconst 3, 1) := by decide +kernel
theorem d_MD_compute_6 : decode M_MD_compute.2.1 6 = .ok (.if_icmp .gt 36, 3) := by decide +kernel
theorem d_MD_compute_9 : decode M_MD_compute.2.1 9 = .ok (.iload 5, 2) := by decide +kernel
theorem d_MD_compute_11 : decode M_MD_compute.2.1 11 = .ok (.invokestatic 218, 3) := by decide +kernel
theorem d_MD_compute_14 : decode M_MD_compute.2.1 14 = .ok (.ifCond .eq 28, 3) := by decide +kernel
theorem d_MD_compute_17 : decode M_MD_compute.2.1 17 = .ok (.aload_n 0, 1) := by decide +kernel
theorem d_MD_compute_18 : decode M_MD_compute.2.1 18 = .ok (.iload_n 2, 1) := by decide +kernel
theorem d_MD_compute_19 : decode M_MD_compute.2.1 19 = .ok (.invokevirtual 221, 3) := by decide +kernel
theorem d_MD_compute_22 : decode M_MD_compute.2.1 22 = .ok (.ifCond .eq 20, 3) := by decide +kernel
theorem d_MD_compute_25 : decode M_MD_compute.2.1 25 = .ok (.aload_n 0, 1) := by decide +kernel
theorem d_MD_compute_26 : decode M_MD_compute.2.1 26 = .ok (.iload_n 3, 1) := by decide +kernel
theorem d_MD_compute_27 : decode M_MD_compute.2.1 27 = .ok (.invokevirtual 221, 3) := by decide +kernel
theorem d_MD_compute_30 : decode M_MD_compute.2.1 30 = .ok (.ifCond .eq 12, 3) := by decide +kernel
theorem d_MD_compute_33 : decode M_MD_compute.2.1 33 = .ok (.aload_n 0, 1) := by decide +kernel
theorem d_MD_compute_34 : decode M_MD_compute.2.1 34 = .ok (.iload 4, 2) := by decide +kernel
theorem d_MD_compute_36 : decode M_MD_compute.2.1 36 = .ok (.invokevirtual 126, 3) := by decide +kernel
theorem d_MD_compute_39 : decode M_MD_compute.2.1 39 = .ok (.ifCond .ne 5, 3) := by decide +kernel
theorem d_MD_compute_42 : decode M_MD_compute.2.1 42 = .ok (.iconst (-1), 1) := by decide +kernel
theorem d_MD_compute_43 : decode M_MD_compute.2.1 43 = .ok (.ireturn, 1) := by decide +kernel
theorem d_MD_compute_44 : decode M_MD_compute.2.1 44 = .ok (.aload_n 0, 1) := by decide +kernel
theorem d_MD_compute_45 : decode M_MD_compute.2.1 45 = .ok (.iload_n 2, 1) := by decide +kernel
theorem d_MD_compute_46 : decode M_MD_compute.2.1 46 = .ok (.invokevirtual 211, 3) := by decide +kernel
theorem d_MD_compute_49 : decode M_MD_compute.2.1 49 = .ok (.ifCond .eq 11, 3) := by decide +kernel
theorem d_MD_compute_52 : decode M_MD_compute.2.1 52 = .ok (.aload_n 0, 1) := by decide +kernel
theorem d_MD_compute_53 : decode M_MD_compute.2.1 53 = .ok (.iload_n 3, 1) := by decide +kernel
theorem d_MD_compute_54 : decode M_MD_compute.2.1 54 = .ok (.invokevirtual 211, 3) := by decide +kernel
theorem d_MD_compute_57 : decode M_MD_compute.2.1 57 = .ok (.ifCond .ne 8, 3) := by decide +kernel
theorem d_MD_compute_60 : decode M_MD_compute.2.1 60 = .ok (.aload_n 0, 1) := by decide +kernel
theorem d_MD_compute_61 : decode M_MD_compute.2.1 61 = .ok (.invokevirtual 214, 3) := by decide +kernel
theorem d_MD_compute_64 : decode M_MD_compute.2.1 64 = .ok (.ireturn, 1) := by decide +kernel
theorem d_MD_compute_65 : decode M_MD_compute.2.1 65 = .ok (.aload_n 0, 1) := by decide +kernel
theorem d_MD_compute_66 : decode M_MD_compute.2.1 66 = .ok (.iload_n 2, 1) := by decide +kernel
theorem d_MD_compute_67 : decode M_MD_compute.2.1 67 = .ok (.invokevirtual 181, 3) := by decide +kernel
theorem d_MD_compute_70 : decode M_MD_compute.2.1 70 = .ok (.lstore 6, 2) := by decide +kernel
theorem d_MD_compute_72 : decode M_MD_compute.2.1 72 = .ok (.aload_n 0, 1) := by decide +kernel
theorem d_MD_compute_73 : decode M_MD_compute.2.1 73 = .ok (.iload_n 3, 1) := by decide +kernel
theorem d_MD_compute_74 : decode M_MD_compute.2.1 74 = .ok (.invokevirtual 181, 3) := by decide +kernel
theorem d_MD_compute_77 : decode M_MD_compute.2.1 77 = .ok (.lstore 8, 2) := by decide +kernel
theorem d_MD_compute_79 : decode M_MD_compute.2.1 79 = .ok (.aload_n 0, 1) := by decide +kernel
theorem d_MD_compute_80 : decode M_MD_compute.2.1 80 = .ok (.getfield 28, 3) := by decide +kernel
theorem d_MD_compute_83 : decode M_MD_compute.2.1 83 = .ok (.iload_n 2, 1) := by decide +kernel
theorem d_MD_compute_84 : decode M_MD_compute.2.1 84 = .ok (.iaload, 1) := by decide +kernel
theorem d_MD_compute_85 : decode M_MD_compute.2.1 85 = .ok (.invokestatic 138, 3) := by decide +kernel
theorem d_MD_compute_88 : decode M_MD_compute.2.1 88 = .ok (.lstore 10, 2) := by decide +kernel
theorem d_MD_compute_90 : decode M_MD_compute.2.1 90 = .ok (.aload_n 0, 1) := by decide +kernel
theorem d_MD_compute_91 : decode M_MD_compute.2.1 91 = .ok (.getfield 28, 3) := by decide +kernel
theorem d_MD_compute_94 : decode M_MD_compute.2.1 94 = .ok (.iload_n 3, 1) := by decide +kernel
theorem d_MD_compute_95 : decode M_MD_compute.2.1 95 = .ok (.iaload, 1) := by decide +kernel
theorem d_MD_compute_96 : decode M_MD_compute.2.1 96 = .ok (.invokestatic 138, 3) := by decide +kernel
theorem d_MD_compute_99 : decode M_MD_compute.2.1 99 = .ok (.lstore 12, 2) := by decide +kernel
theorem d_MD_compute_101 : decode M_MD_compute.2.1 101 = .ok (.iconst 0, 1) := by decide +kernel
theorem d_MD_compute_102 : decode M_MD_compute.2.1 102 = .ok (.istore 14, 2) := by decide +kernel
theorem d_MD_compute_104 : decode M_MD_compute.2.1 104 = .ok (.iload_n 1, 1) := by decide +kernel
theorem d_MD_compute_105 : decode M_MD_compute.2.1 105 = .ok (.iconst 3, 1) := by decide +kernel
theorem d_MD_compute_106 : decode M_MD_compute.2.1 106 = .ok (.if_icmp .ne 18, 3) := by decide +kernel
theorem d_MD_compute_109 : decode M_MD_compute.2.1 109 = .ok (.aload_n 0, 1) := by decide +kernel
theorem d_MD_compute_110 : decode M_MD_compute.2.1 110 = .ok (.iload_n 2, 1) := by decide +kernel
theorem d_MD_compute_111 : decode M_MD_compute.2.1 111 = .ok (.iload_n 3, 1) := by decide +kernel
theorem d_MD_compute_112 : decode M_MD_compute.2.1 112 = .ok (.iload 4, 2) := by decide +kernel
theorem d_MD_compute_114 : decode M_MD_compute.2.1 114 = .ok (.iload 5, 2) := by decide +kernel
theorem d_MD_compute_116 : decode M_MD_compute.2.1 116 = .ok (.invokevirtual 224, 3) := by decide +kernel
theorem d_MD_compute_119 : decode M_MD_compute.2.1 119 = .ok (.istore 14, 2) := by decide +kernel
theorem d_MD_compute_121 : decode M_MD_compute.2.1 121 = .ok (.goto 74, 3) := by decide +kernel
theorem d_MD_compute_124 : decode M_MD_compute.2.1 124 = .ok (.iload_n 1, 1) := by decide +kernel
theorem d_MD_compute_125 : decode M_MD_compute.2.1 125 = .ok (.iconst 2, 1) := by decide +kernel
theorem d_MD_compute_126 : decode M_MD_compute.2.1 126 = .ok (.if_icmp .ne 26, 3) := by decide +kernel
theorem d_MD_compute_129 : decode M_MD_compute.2.1 129 = .ok (.aload_n 0, 1) := by decide +kernel
theorem d_MD_compute_130 : decode M_MD_compute.2.1 130 = .ok (.lload 6, 2) := by decide +kernel
theorem d_MD_compute_132 : decode M_MD_compute.2.1 132 = .ok (.lload 8, 2) := by decide +kernel
theorem d_MD_compute_134 : decode M_MD_compute.2.1 134 = .ok (.lmul, 1) := by decide +kernel
theorem d_MD_compute_135 : decode M_MD_compute.2.1 135 = .ok (.lload 10, 2) := by decide +kernel
theorem d_MD_compute_137 : decode M_MD_compute.2.1 137 = .ok (.lload 12, 2) := by decide +kernel
theorem d_MD_compute_139 : decode M_MD_compute.2.1 139 = .ok (.lmul, 1) := by decide +kernel
theorem d_MD_compute_140 : decode M_MD_compute.2.1 140 = .ok (.iload 4, 2) := by decide +kernel
theorem d_MD_compute_142 : decode M_MD_compute.2.1 142 = .ok (.iload 5, 2) := by decide +kernel
theorem d_MD_compute_144 : decode M_MD_compute.2.1 144 = .ok (.invokevirtual 228, 3) := by decide +kernel
theorem d_MD_compute_147 : decode M_MD_compute.2.1 147 = .ok (.istore 14, 2) := by decide +kernel
theorem d_MD_compute_149 : decode M_MD_compute.2.1 149 = .ok (.goto 46, 3) := by decide +kernel
theorem d_MD_compute_152 : decode M_MD_compute.2.1 152 = .ok (.iload_n 1, 1) := by decide +kernel
theorem d_MD_compute_153 : decode M_MD_compute.2.1 153 = .ok (.ifCond .ne 11, 3) := by decide +kernel
theorem d_MD_compute_156 : decode M_MD_compute.2.1 156 = .ok (.lload 8, 2) := by decide +kernel
theorem d_MD_compute_158 : decode M_MD_compute.2.1 158 = .ok (.lload 10, 2) := by decide +kernel
theorem d_MD_compute_160 : decode M_MD_compute.2.1 160 = .ok (.lmul, 1) := by decide +kernel
theorem d_MD_compute_161 : decode M_MD_compute.2.1 161 = .ok (.goto 9, 3) := by decide +kernel
theorem d_MD_compute_164 : decode M_MD_compute.2.1 164 = .ok (.lload 8, 2) := by decide +kernel
theorem d_MD_compute_166 : decode M_MD_compute.2.1 166 = .ok (.lneg, 1) := by decide +kernel
theorem d_MD_compute_167 : decode M_MD_compute.2.1 167 = .ok (.lload 10, 2) := by decide +kernel
theorem d_MD_compute_169 : decode M_MD_compute.2.1 169 = .ok (.lmul, 1) := by decide +kernel
theorem d_MD_compute_170 : decode M_MD_compute.2.1 170 = .ok (.lstore 15, 2) := by decide +kernel
theorem d_MD_compute_172 : decode M_MD_compute.2.1 172 = .ok (.aload_n 0, 1) := by decide +kernel
theorem d_MD_compute_173 : decode M_MD_compute.2.1 173 = .ok (.lload 6, 2) := by decide +kernel
theorem d_MD_compute_175 : decode M_MD_compute.2.1 175 = .ok (.lload 12, 2) := by decide +kernel
theorem d_MD_compute_177 : decode M_MD_compute.2.1 177 = .ok (.lmul, 1) := by decide +kernel
theorem d_MD_compute_178 : decode M_MD_compute.2.1 178 = .ok (.lload 15, 2) := by decide +kernel
theorem d_MD_compute_180 : decode M_MD_compute.2.1 180 = .ok (.ladd, 1) := by decide +kernel
theorem d_MD_compute_181 : decode M_MD_compute.2.1 181 = .ok (.lload 10, 2) := by decide +kernel
theorem d_MD_compute_183 : decode M_MD_compute.2.1 183 = .ok (.lload 12, 2) := by decide +kernel
theorem d_MD_compute_185 : decode M_MD_compute.2.1 185 = .ok (.lmul, 1) := by decide +kernel
theorem d_MD_compute_186 : decode M_MD_compute.2.1 186 = .ok (.iload 4, 2) := by decide +kernel
theorem d_MD_compute_188 : decode M_MD_compute.2.1 188 = .ok (.iload 5, 2) := by decide +kernel
theorem d_MD_compute_190 : decode M_MD_compute.2.1 190 = .ok (.invokevirtual 228, 3) := by decide +kernel
theorem d_MD_compute_193 : decode M_MD_compute.2.1 193 = .ok (.istore 14, 2) := by decide +kernel
theorem d_MD_compute_195 : decode M_MD_compute.2.1 195 = .ok (.iload 14, 2) := by decide +kernel
theorem d_MD_compute_197 : decode M_MD_compute.2.1 197 = .ok (.ifCond .eq 7, 3) := by decide +kernel
theorem d_MD_compute_200 : decode M_MD_compute.2.1 200 = .ok (.iconst 1, 1) := by decide +kernel
theorem d_MD_compute_201 : decode M_MD_compute.2.1 201 = .ok (.goto 4, 3) := by decide +kernel
theorem d_MD_compute_204 : decode M_MD_compute.2.1 204 = .ok (.iconst 0, 1) := by decide +kernel
theorem d_MD_compute_205 : decode M_MD_compute.2.1 205 = .ok (.ireturn, 1) := by decide +kernel
theorem d_MD_isMode_0 : decode M_MD_isMode.2.1 0 = .ok (.iload_n 0, 1) := by decide +kernel
theorem d_MD_isMode_1 : decode M_MD_isMode.2.1 1 = .ok (.ifCond .lt 13, 3) := by decide +kernel
theorem d_MD_isMode_4 : decode M_MD_isMode.2.1 4 = .ok (.iload_n 0, 1) := by decide +kernel
theorem d_MD_isMode_5 : decode M_MD_isMode.2.1 5 = .ok (.bipush 7, 2) := by decide +kernel
theorem d_MD_isMode_7 : decode M_MD_isMode.2.1 7 = .ok (.if_icmp .gt 7, 3) := by decide +kernel
theorem d_MD_isMode_10 : decode M_MD_isMode.2.1 10 = .ok (.iconst 1, 1) := by decide +kernel
theorem d_MD_isMode_11 : decode M_MD_isMode.2.1 11 = .ok (.goto 4, 3) := by decide +kernel
theorem d_MD_isMode_14 : decode M_MD_isMode.2.1 14 = .ok (.iconst 0, 1) := by decide +kernel
theorem d_MD_isMode_15 : decode M_MD_isMode.2.1 15 = .ok (.ireturn, 1) := by decide +kernel
theorem d_MD_number_0 : decode M_MD_number.2.1 0 = .ok (.aload_n 0, 1) := by decide +kernel
theorem d_MD_number_1 : decode M_MD_number.2.1 1 = .ok (.iload_n 1, 1) := by decide +kernel
theorem d_MD_number_2 : decode M_MD_number.2.1 2 = .ok (.invokevirtual 126, 3) := by decide +kernel
theorem d_MD_number_5 : decode M_MD_number.2.1 5 = .ok (.ifCond .eq 16, 3) := by decide +kernel
theorem d_MD_number_8 : decode M_MD_number.2.1 8 = .ok (.aload_n 0, 1) := by decide +kernel
theorem d_MD_number_9 : decode M_MD_number.2.1 9 = .ok (.getfield 35, 3) := by decide +kernel
theorem d_MD_number_12 : decode M_MD_number.2.1 12 = .ok (.iload_n 1, 1) := by decide +kernel
theorem d_MD_number_13 : decode M_MD_number.2.1 13 = .ok (.baload, 1) := by decide +kernel
theorem d_MD_number_14 : decode M_MD_number.2.1 14 = .ok (.ifCond .ne 7, 3) := by decide +kernel
theorem d_MD_number_17 : decode M_MD_number.2.1 17 = .ok (.iconst 1, 1) := by decide +kernel
theorem d_MD_number_18 : decode M_MD_number.2.1 18 = .ok (.goto 4, 3) := by decide +kernel
theorem d_MD_number_21 : decode M_MD_number.2.1 21 = .ok (.iconst 0, 1) := by decide +kernel
theorem d_MD_number_22 : decode M_MD_number.2.1 22 = .ok (.ireturn, 1) := by decide +kernel
theorem d_MD_quotient_0 : decode M_MD_quotient.2.1 0 = .ok (.aload_n 0, 1) := by decide +kernel
theorem d_MD_quotient_1 : decode M_MD_quotient.2.1 1 = .ok (.iload_n 1, 1) := by decide +kernel
theorem d_MD_quotient_2 : decode M_MD_quotient.2.1 2 = .ok (.invokevirtual 181, 3) := by decide +kernel
theorem d_MD_quotient_5 : decode M_MD_quotient.2.1 5 = .ok (.aload_n 0, 1) := by decide +kernel
theorem d_MD_quotient_6 : decode M_MD_quotient.2.1 6 = .ok (.getfield 28, 3) := by decide +kernel
theorem d_MD_quotient_9 : decode M_MD_quotient.2.1 9 = .ok (.iload_n 2, 1) := by decide +kernel
theorem d_MD_quotient_10 : decode M_MD_quotient.2.1 10 = .ok (.iaload, 1) := by decide +kernel
theorem d_MD_quotient_11 : decode M_MD_quotient.2.1 11 = .ok (.invokestatic 138, 3) := by decide +kernel
theorem d_MD_quotient_14 : decode M_MD_quotient.2.1 14 = .ok (.lmul, 1) := by decide +kernel
theorem d_MD_quotient_15 : decode M_MD_quotient.2.1 15 = .ok (.lstore 5, 2) := by decide +kernel
theorem d_MD_quotient_17 : decode M_MD_quotient.2.1 17 = .ok (.aload_n 0, 1) := by decide +kernel
theorem d_MD_quotient_18 : decode M_MD_quotient.2.1 18 = .ok (.iload_n 2, 1) := by decide +kernel
theorem d_MD_quotient_19 : decode M_MD_quotient.2.1 19 = .ok (.invokevirtual 181, 3) := by decide +kernel
theorem d_MD_quotient_22 : decode M_MD_quotient.2.1 22 = .ok (.aload_n 0, 1) := by decide +kernel
theorem d_MD_quotient_23 : decode M_MD_quotient.2.1 23 = .ok (.getfield 28, 3) := by decide +kernel
theorem d_MD_quotient_26 : decode M_MD_quotient.2.1 26 = .ok (.iload_n 1, 1) := by decide +kernel
theorem d_MD_quotient_27 : decode M_MD_quotient.2.1 27 = .ok (.iaload, 1) := by decide +kernel
theorem d_MD_quotient_28 : decode M_MD_quotient.2.1 28 = .ok (.invokestatic 138, 3) := by decide +kernel
theorem d_MD_quotient_31 : decode M_MD_quotient.2.1 31 = .ok (.lmul, 1) := by decide +kernel
theorem d_MD_quotient_32 : decode M_MD_quotient.2.1 32 = .ok (.lstore 7, 2) := by decide +kernel
theorem d_MD_quotient_34 : decode M_MD_quotient.2.1 34 = .ok (.lload 7, 2) := by decide +kernel
theorem d_MD_quotient_36 : decode M_MD_quotient.2.1 36 = .ok (.lconst 0, 1) := by decide +kernel
theorem d_MD_quotient_37 : decode M_MD_quotient.2.1 37 = .ok (.lcmp, 1) := by decide +kernel
theorem d_MD_quotient_38 : decode M_MD_quotient.2.1 38 = .ok (.ifCond .ne 15, 3) := by decide +kernel
theorem d_MD_quotient_41 : decode M_MD_quotient.2.1 41 = .ok (.aload_n 0, 1) := by decide +kernel
theorem d_MD_quotient_42 : decode M_MD_quotient.2.1 42 = .ok (.dup, 1) := by decide +kernel
theorem d_MD_quotient_43 : decode M_MD_quotient.2.1 43 = .ok (.getfield 201, 3) := by decide +kernel
theorem d_MD_quotient_46 : decode M_MD_quotient.2.1 46 = .ok (.iconst 1, 1) := by decide +kernel
theorem d_MD_quotient_47 : decode M_MD_quotient.2.1 47 = .ok (.iadd, 1) := by decide +kernel
theorem d_MD_quotient_48 : decode M_MD_quotient.2.1 48 = .ok (.putfield 201, 3) := by decide +kernel
theorem d_MD_quotient_51 : decode M_MD_quotient.2.1 51 = .ok (.iconst 1, 1) := by decide +kernel
theorem d_MD_quotient_52 : decode M_MD_quotient.2.1 52 = .ok (.ireturn, 1) := by decide +kernel
theorem d_MD_quotient_53 : decode M_MD_quotient.2.1 53 = .ok (.lload 7, 2) := by decide +kernel
theorem d_MD_quotient_55 : decode M_MD_quotient.2.1 55 = .ok (.lconst 0, 1) := by decide +kernel
theorem d_MD_quotient_56 : decode M_MD_quotient.2.1 56 = .ok (.lcmp, 1) := by decide +kernel
theorem d_MD_quotient_57 : decode M_MD_quotient.2.1 57 = .ok (.ifCond .ge 19, 3) := by decide +kernel
theorem d_MD_quotient_60 : decode M_MD_quotient.2.1 60 = .ok (.aload_n 0, 1) := by decide +kernel
theorem d_MD_quotient_61 : decode M_MD_quotient.2.1 61 = .ok (.lload 5, 2) := by decide +kernel
theorem d_MD_quotient_63 : decode M_MD_quotient.2.1 63 = .ok (.lneg, 1) := by decide +kernel
theorem d_MD_quotient_64 : decode M_MD_quotient.2.1 64 = .ok (.lload 7, 2) := by decide +kernel
theorem d_MD_quotient_66 : decode M_MD_quotient.2.1 66 = .ok (.lneg, 1) := by decide +kernel
theorem d_MD_quotient_67 : decode M_MD_quotient.2.1 67 = .ok (.iload_n 3, 1) := by decide +kernel
theorem d_MD_quotient_68 : decode M_MD_quotient.2.1 68 = .ok (.iload 4, 2) := by decide +kernel
theorem d_MD_quotient_70 : decode M_MD_quotient.2.1 70 = .ok (.invokevirtual 228, 3) := by decide +kernel
theorem d_MD_quotient_73 : decode M_MD_quotient.2.1 73 = .ok (.goto 14, 3) := by decide +kernel
theorem d_MD_quotient_76 : decode M_MD_quotient.2.1 76 = .ok (.aload_n 0, 1) := by decide +kernel
theorem d_MD_quotient_77 : decode M_MD_quotient.2.1 77 = .ok (.lload 5, 2) := by decide +kernel
theorem d_MD_quotient_79 : decode M_MD_quotient.2.1 79 = .ok (.lload 7, 2) := by decide +kernel
theorem d_MD_quotient_81 : decode M_MD_quotient.2.1 81 = .ok (.iload_n 3, 1) := by decide +kernel
theorem d_MD_quotient_82 : decode M_MD_quotient.2.1 82 = .ok (.iload 4, 2) := by decide +kernel
theorem d_MD_quotient_84 : decode M_MD_quotient.2.1 84 = .ok (.invokevirtual 228, 3) := by decide +kernel
theorem d_MD_quotient_87 : decode M_MD_quotient.2.1 87 = .ok (.ireturn, 1) := by decide +kernel
theorem d_MD_result_0 : decode M_MD_result.2.1 0 = .ok (.lload_n 1, 1) := by decide +kernel
theorem d_MD_result_1 : decode M_MD_result.2.1 1 = .ok (.lload_n 3, 1) := by decide +kernel
theorem d_MD_result_2 : decode M_MD_result.2.1 2 = .ok (.ldiv, 1) := by decide +kernel
theorem d_MD_result_3 : decode M_MD_result.2.1 3 = .ok (.lstore 7, 2) := by decide +kernel
theorem d_MD_result_5 : decode M_MD_result.2.1 5 = .ok (.aload_n 0, 1) := by decide +kernel
theorem d_MD_result_6 : decode M_MD_result.2.1 6 = .ok (.getfield 28, 3) := by decide +kernel
theorem d_MD_result_9 : decode M_MD_result.2.1 9 = .ok (.iload 5, 2) := by decide +kernel
theorem d_MD_result_11 : decode M_MD_result.2.1 11 = .ok (.iaload, 1) := by decide +kernel
theorem d_MD_result_12 : decode M_MD_result.2.1 12 = .ok (.invokestatic 138, 3) := by decide +kernel
theorem d_MD_result_15 : decode M_MD_result.2.1 15 = .ok (.lstore 9, 2) := by decide +kernel
theorem d_MD_result_17 : decode M_MD_result.2.1 17 = .ok (.aload_n 0, 1) := by decide +kernel
theorem d_MD_result_18 : decode M_MD_result.2.1 18 = .ok (.getfield 25, 3) := by decide +kernel
theorem d_MD_result_21 : decode M_MD_result.2.1 21 = .ok (.iload 5, 2) := by decide +kernel
theorem d_MD_result_23 : decode M_MD_result.2.1 23 = .ok (.iaload, 1) := by decide +kernel
theorem d_MD_result_24 : decode M_MD_result.2.1 24 = .ok (.invokestatic 138, 3) := by decide +kernel
theorem d_MD_result_27 : decode M_MD_result.2.1 27 = .ok (.lstore 11, 2) := by decide +kernel
theorem d_MD_result_29 : decode M_MD_result.2.1 29 = .ok (.lload 7, 2) := by decide +kernel
theorem d_MD_result_31 : decode M_MD_result.2.1 31 = .ok (.ldc2_w 190, 3) := by decide +kernel
theorem d_MD_result_34 : decode M_MD_result.2.1 34 = .ok (.lcmp, 1) := by decide +kernel
theorem d_MD_result_35 : decode M_MD_result.2.1 35 = .ok (.ifCond .ge 12, 3) := by decide +kernel
theorem d_MD_result_38 : decode M_MD_result.2.1 38 = .ok (.lload 7, 2) := by decide +kernel
theorem d_MD_result_40 : decode M_MD_result.2.1 40 = .ok (.ldc2_w 192, 3) := by decide +kernel
theorem d_MD_result_43 : decode M_MD_result.2.1 43 = .ok (.lcmp, 1) := by decide +kernel
theorem d_MD_result_44 : decode M_MD_result.2.1 44 = .ok (.ifCond .gt 7, 3) := by decide +kernel
theorem d_MD_result_47 : decode M_MD_result.2.1 47 = .ok (.iconst 1, 1) := by decide +kernel
theorem d_MD_result_48 : decode M_MD_result.2.1 48 = .ok (.goto 4, 3) := by decide +kernel
theorem d_MD_result_51 : decode M_MD_result.2.1 51 = .ok (.iconst 0, 1) := by decide +kernel
theorem d_MD_result_52 : decode M_MD_result.2.1 52 = .ok (.istore 13, 2) := by decide +kernel
theorem d_MD_result_54 : decode M_MD_result.2.1 54 = .ok (.iload 13, 2) := by decide +kernel
theorem d_MD_result_56 : decode M_MD_result.2.1 56 = .ok (.ifCond .ne 119, 3) := by decide +kernel
theorem d_MD_result_59 : decode M_MD_result.2.1 59 = .ok (.lload_n 1, 1) := by decide +kernel
theorem d_MD_result_60 : decode M_MD_result.2.1 60 = .ok (.lload_n 3, 1) := by decide +kernel
