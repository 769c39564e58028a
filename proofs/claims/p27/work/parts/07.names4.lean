theorem dL_isLayer_153 : decode cL_isLayer 153 = .ok (.invokestatic 72, 3) := by decide +kernel
theorem dL_isLayer_156 : decode cL_isLayer 156 = .ok (.goto 5, 3) := by decide +kernel
theorem dL_isLayer_159 : decode cL_isLayer 159 = .ok (.ldc 93, 2) := by decide +kernel
theorem dL_isLayer_161 : decode cL_isLayer 161 = .ok (.if_icmp .ne 132, 3) := by decide +kernel
theorem dL_isLayer_164 : decode cL_isLayer 164 = .ok (.aload_n 0, 1) := by decide +kernel
theorem dL_isLayer_165 : decode cL_isLayer 165 = .ok (.iload_n 2, 1) := by decide +kernel
theorem dL_isLayer_166 : decode cL_isLayer 166 = .ok (.iload_n 1, 1) := by decide +kernel
theorem dL_isLayer_167 : decode cL_isLayer 167 = .ok (.iconst 1, 1) := by decide +kernel
theorem dL_isLayer_168 : decode cL_isLayer 168 = .ok (.invokestatic 131, 3) := by decide +kernel
theorem dL_isLayer_171 : decode cL_isLayer 171 = .ok (.iload 9, 2) := by decide +kernel
theorem dL_isLayer_173 : decode cL_isLayer 173 = .ok (.ifCond .eq 21, 3) := by decide +kernel
theorem dL_isLayer_176 : decode cL_isLayer 176 = .ok (.aload 6, 2) := by decide +kernel
theorem dL_isLayer_178 : decode cL_isLayer 178 = .ok (.iconst 2, 1) := by decide +kernel
theorem dL_isLayer_179 : decode cL_isLayer 179 = .ok (.iload_n 1, 1) := by decide +kernel
theorem dL_isLayer_180 : decode cL_isLayer 180 = .ok (.imul, 1) := by decide +kernel
theorem dL_isLayer_181 : decode cL_isLayer 181 = .ok (.iaload, 1) := by decide +kernel
theorem dL_isLayer_182 : decode cL_isLayer 182 = .ok (.aload 6, 2) := by decide +kernel
theorem dL_isLayer_184 : decode cL_isLayer 184 = .ok (.iconst 2, 1) := by decide +kernel
theorem dL_isLayer_185 : decode cL_isLayer 185 = .ok (.iload_n 1, 1) := by decide +kernel
theorem dL_isLayer_186 : decode cL_isLayer 186 = .ok (.imul, 1) := by decide +kernel
theorem dL_isLayer_187 : decode cL_isLayer 187 = .ok (.iconst 1, 1) := by decide +kernel
theorem dL_isLayer_188 : decode cL_isLayer 188 = .ok (.iadd, 1) := by decide +kernel
theorem dL_isLayer_189 : decode cL_isLayer 189 = .ok (.iaload, 1) := by decide +kernel
theorem dL_isLayer_190 : decode cL_isLayer 190 = .ok (.isub, 1) := by decide +kernel
theorem dL_isLayer_191 : decode cL_isLayer 191 = .ok (.goto 5, 3) := by decide +kernel
theorem dL_isLayer_194 : decode cL_isLayer 194 = .ok (.ldc 93, 2) := by decide +kernel
theorem dL_isLayer_196 : decode cL_isLayer 196 = .ok (.if_icmp .ne 97, 3) := by decide +kernel
theorem dL_isLayer_199 : decode cL_isLayer 199 = .ok (.aload_n 0, 1) := by decide +kernel
theorem dL_isLayer_200 : decode cL_isLayer 200 = .ok (.iload_n 2, 1) := by decide +kernel
theorem dL_isLayer_201 : decode cL_isLayer 201 = .ok (.iload_n 1, 1) := by decide +kernel
theorem dL_isLayer_202 : decode cL_isLayer 202 = .ok (.iconst 2, 1) := by decide +kernel
theorem dL_isLayer_203 : decode cL_isLayer 203 = .ok (.invokestatic 131, 3) := by decide +kernel
theorem dL_isLayer_206 : decode cL_isLayer 206 = .ok (.iload 9, 2) := by decide +kernel
theorem dL_isLayer_208 : decode cL_isLayer 208 = .ok (.ifCond .ne 8, 3) := by decide +kernel
theorem dL_isLayer_211 : decode cL_isLayer 211 = .ok (.ldc 93, 2) := by decide +kernel
theorem dL_isLayer_213 : decode cL_isLayer 213 = .ok (.goto 19, 3) := by decide +kernel
theorem dL_isLayer_216 : decode cL_isLayer 216 = .ok (.iload_n 2, 1) := by decide +kernel
theorem dL_isLayer_217 : decode cL_isLayer 217 = .ok (.iload_n 1, 1) := by decide +kernel
theorem dL_isLayer_218 : decode cL_isLayer 218 = .ok (.aload_n 3, 1) := by decide +kernel
theorem dL_isLayer_219 : decode cL_isLayer 219 = .ok (.aload 6, 2) := by decide +kernel
theorem dL_isLayer_221 : decode cL_isLayer 221 = .ok (.invokestatic 78, 3) := by decide +kernel
theorem dL_isLayer_224 : decode cL_isLayer 224 = .ok (.ifCond .eq 7, 3) := by decide +kernel
theorem dL_isLayer_227 : decode cL_isLayer 227 = .ok (.iconst 1, 1) := by decide +kernel
theorem dL_isLayer_228 : decode cL_isLayer 228 = .ok (.goto 4, 3) := by decide +kernel
theorem dL_isLayer_231 : decode cL_isLayer 231 = .ok (.iconst 0, 1) := by decide +kernel
theorem dL_isLayer_232 : decode cL_isLayer 232 = .ok (.if_icmp .ne 61, 3) := by decide +kernel
theorem dL_isLayer_235 : decode cL_isLayer 235 = .ok (.aload_n 0, 1) := by decide +kernel
theorem dL_isLayer_236 : decode cL_isLayer 236 = .ok (.iload_n 2, 1) := by decide +kernel
theorem dL_isLayer_237 : decode cL_isLayer 237 = .ok (.iload_n 1, 1) := by decide +kernel
theorem dL_isLayer_238 : decode cL_isLayer 238 = .ok (.iconst 3, 1) := by decide +kernel
theorem dL_isLayer_239 : decode cL_isLayer 239 = .ok (.invokestatic 131, 3) := by decide +kernel
theorem dL_isLayer_242 : decode cL_isLayer 242 = .ok (.iload 9, 2) := by decide +kernel
theorem dL_isLayer_244 : decode cL_isLayer 244 = .ok (.ifCond .eq 12, 3) := by decide +kernel
theorem dL_isLayer_247 : decode cL_isLayer 247 = .ok (.aload 6, 2) := by decide +kernel
theorem dL_isLayer_249 : decode cL_isLayer 249 = .ok (.iconst 2, 1) := by decide +kernel
theorem dL_isLayer_250 : decode cL_isLayer 250 = .ok (.iload_n 1, 1) := by decide +kernel
theorem dL_isLayer_251 : decode cL_isLayer 251 = .ok (.imul, 1) := by decide +kernel
theorem dL_isLayer_252 : decode cL_isLayer 252 = .ok (.iaload, 1) := by decide +kernel
theorem dL_isLayer_253 : decode cL_isLayer 253 = .ok (.goto 5, 3) := by decide +kernel
theorem dL_isLayer_256 : decode cL_isLayer 256 = .ok (.ldc 93, 2) := by decide +kernel
theorem dL_isLayer_258 : decode cL_isLayer 258 = .ok (.if_icmp .ne 35, 3) := by decide +kernel
theorem dL_isLayer_261 : decode cL_isLayer 261 = .ok (.aload_n 0, 1) := by decide +kernel
theorem dL_isLayer_262 : decode cL_isLayer 262 = .ok (.iload_n 2, 1) := by decide +kernel
theorem dL_isLayer_263 : decode cL_isLayer 263 = .ok (.iload_n 1, 1) := by decide +kernel
theorem dL_isLayer_264 : decode cL_isLayer 264 = .ok (.iconst 4, 1) := by decide +kernel
theorem dL_isLayer_265 : decode cL_isLayer 265 = .ok (.invokestatic 131, 3) := by decide +kernel
theorem dL_isLayer_268 : decode cL_isLayer 268 = .ok (.iload 9, 2) := by decide +kernel
theorem dL_isLayer_270 : decode cL_isLayer 270 = .ok (.ifCond .eq 14, 3) := by decide +kernel
theorem dL_isLayer_273 : decode cL_isLayer 273 = .ok (.aload 6, 2) := by decide +kernel
theorem dL_isLayer_275 : decode cL_isLayer 275 = .ok (.iconst 2, 1) := by decide +kernel
theorem dL_isLayer_276 : decode cL_isLayer 276 = .ok (.iload_n 1, 1) := by decide +kernel
theorem dL_isLayer_277 : decode cL_isLayer 277 = .ok (.imul, 1) := by decide +kernel
theorem dL_isLayer_278 : decode cL_isLayer 278 = .ok (.iconst 1, 1) := by decide +kernel
theorem dL_isLayer_279 : decode cL_isLayer 279 = .ok (.iadd, 1) := by decide +kernel
theorem dL_isLayer_280 : decode cL_isLayer 280 = .ok (.iaload, 1) := by decide +kernel
theorem dL_isLayer_281 : decode cL_isLayer 281 = .ok (.goto 5, 3) := by decide +kernel
theorem dL_isLayer_284 : decode cL_isLayer 284 = .ok (.ldc 93, 2) := by decide +kernel
theorem dL_isLayer_286 : decode cL_isLayer 286 = .ok (.if_icmp .ne 7, 3) := by decide +kernel
theorem dL_isLayer_289 : decode cL_isLayer 289 = .ok (.iconst 1, 1) := by decide +kernel
theorem dL_isLayer_290 : decode cL_isLayer 290 = .ok (.goto 4, 3) := by decide +kernel
theorem dL_isLayer_293 : decode cL_isLayer 293 = .ok (.iconst 0, 1) := by decide +kernel
theorem dL_isLayer_294 : decode cL_isLayer 294 = .ok (.istore 8, 2) := by decide +kernel
theorem dL_isLayer_296 : decode cL_isLayer 296 = .ok (.iload_n 2, 1) := by decide +kernel
theorem dL_isLayer_297 : decode cL_isLayer 297 = .ok (.iload_n 1, 1) := by decide +kernel
theorem dL_isLayer_298 : decode cL_isLayer 298 = .ok (.aload_n 3, 1) := by decide +kernel
theorem dL_isLayer_299 : decode cL_isLayer 299 = .ok (.aload 4, 2) := by decide +kernel
theorem dL_isLayer_301 : decode cL_isLayer 301 = .ok (.invokestatic 122, 3) := by decide +kernel
theorem dL_isLayer_304 : decode cL_isLayer 304 = .ok (.bipush 100, 2) := by decide +kernel
theorem dL_isLayer_306 : decode cL_isLayer 306 = .ok (.iadd, 1) := by decide +kernel
theorem dL_isLayer_307 : decode cL_isLayer 307 = .ok (.istore 10, 2) := by decide +kernel
theorem dL_isLayer_309 : decode cL_isLayer 309 = .ok (.iload 8, 2) := by decide +kernel
theorem dL_isLayer_311 : decode cL_isLayer 311 = .ok (.ifCond .eq 31, 3) := by decide +kernel
theorem dL_isLayer_314 : decode cL_isLayer 314 = .ok (.aload_n 0, 1) := by decide +kernel
theorem dL_isLayer_315 : decode cL_isLayer 315 = .ok (.iload_n 2, 1) := by decide +kernel
theorem dL_isLayer_316 : decode cL_isLayer 316 = .ok (.iload_n 1, 1) := by decide +kernel
theorem dL_isLayer_317 : decode cL_isLayer 317 = .ok (.iconst 0, 1) := by decide +kernel
theorem dL_isLayer_318 : decode cL_isLayer 318 = .ok (.invokestatic 134, 3) := by decide +kernel
theorem dL_isLayer_321 : decode cL_isLayer 321 = .ok (.iload 10, 2) := by decide +kernel
theorem dL_isLayer_323 : decode cL_isLayer 323 = .ok (.if_icmp .ne 19, 3) := by decide +kernel
theorem dL_isLayer_326 : decode cL_isLayer 326 = .ok (.aload_n 0, 1) := by decide +kernel
theorem dL_isLayer_327 : decode cL_isLayer 327 = .ok (.iload_n 2, 1) := by decide +kernel
theorem dL_isLayer_328 : decode cL_isLayer 328 = .ok (.iload_n 1, 1) := by decide +kernel
theorem dL_isLayer_329 : decode cL_isLayer 329 = .ok (.iconst 1, 1) := by decide +kernel
theorem dL_isLayer_330 : decode cL_isLayer 330 = .ok (.invokestatic 134, 3) := by decide +kernel
theorem dL_isLayer_333 : decode cL_isLayer 333 = .ok (.iload 10, 2) := by decide +kernel
theorem dL_isLayer_335 : decode cL_isLayer 335 = .ok (.if_icmp .ne 7, 3) := by decide +kernel
theorem dL_isLayer_338 : decode cL_isLayer 338 = .ok (.iconst 1, 1) := by decide +kernel
theorem dL_isLayer_339 : decode cL_isLayer 339 = .ok (.goto 4, 3) := by decide +kernel
theorem dL_isLayer_342 : decode cL_isLayer 342 = .ok (.iconst 0, 1) := by decide +kernel
theorem dL_isLayer_343 : decode cL_isLayer 343 = .ok (.ireturn, 1) := by decide +kernel
set_option maxRecDepth 20000 in
theorem ggL_seenAll_L_seen : GoodIn wsL_seenAll wsL_seen := goodIn_r _ [4] (by decide +kernel) (by decide +kernel)
set_option maxRecDepth 20000 in
theorem gL_seenAll_L_seen : GoodIn wsL_seenAll (va_wsS RL 78 yL_seen wsL_seen) := goodIn_app (goodIn_of _ (by decide +kernel)) ggL_seenAll_L_seen
theorem dL_seenAll_0 : decode cL_seenAll 0 = .ok (.iconst 0, 1) := by decide +kernel
theorem dL_seenAll_1 : decode cL_seenAll 1 = .ok (.istore_n 2, 1) := by decide +kernel
theorem dL_seenAll_2 : decode cL_seenAll 2 = .ok (.iconst 0, 1) := by decide +kernel
theorem dL_seenAll_3 : decode cL_seenAll 3 = .ok (.istore_n 3, 1) := by decide +kernel
theorem dL_seenAll_4 : decode cL_seenAll 4 = .ok (.iload_n 3, 1) := by decide +kernel
theorem dL_seenAll_5 : decode cL_seenAll 5 = .ok (.aload_n 0, 1) := by decide +kernel
theorem dL_seenAll_6 : decode cL_seenAll 6 = .ok (.bipush 8, 2) := by decide +kernel
theorem dL_seenAll_8 : decode cL_seenAll 8 = .ok (.iaload, 1) := by decide +kernel
theorem dL_seenAll_9 : decode cL_seenAll 9 = .ok (.if_icmp .ge 43, 3) := by decide +kernel
theorem dL_seenAll_12 : decode cL_seenAll 12 = .ok (.iload_n 2, 1) := by decide +kernel
theorem dL_seenAll_13 : decode cL_seenAll 13 = .ok (.iconst 0, 1) := by decide +kernel
theorem dL_seenAll_14 : decode cL_seenAll 14 = .ok (.iload_n 3, 1) := by decide +kernel
theorem dL_seenAll_15 : decode cL_seenAll 15 = .ok (.aload_n 0, 1) := by decide +kernel
theorem dL_seenAll_16 : decode cL_seenAll 16 = .ok (.aload_n 1, 1) := by decide +kernel
theorem dL_seenAll_17 : decode cL_seenAll 17 = .ok (.invokestatic 78, 3) := by decide +kernel
theorem dL_seenAll_20 : decode cL_seenAll 20 = .ok (.ifCond .eq 7, 3) := by decide +kernel
theorem dL_seenAll_23 : decode cL_seenAll 23 = .ok (.iconst 1, 1) := by decide +kernel
theorem dL_seenAll_24 : decode cL_seenAll 24 = .ok (.goto 4, 3) := by decide +kernel
theorem dL_seenAll_27 : decode cL_seenAll 27 = .ok (.iconst 0, 1) := by decide +kernel
theorem dL_seenAll_28 : decode cL_seenAll 28 = .ok (.iconst 1, 1) := by decide +kernel
theorem dL_seenAll_29 : decode cL_seenAll 29 = .ok (.iload_n 3, 1) := by decide +kernel
theorem dL_seenAll_30 : decode cL_seenAll 30 = .ok (.aload_n 0, 1) := by decide +kernel
theorem dL_seenAll_31 : decode cL_seenAll 31 = .ok (.aload_n 1, 1) := by decide +kernel
theorem dL_seenAll_32 : decode cL_seenAll 32 = .ok (.invokestatic 78, 3) := by decide +kernel
theorem dL_seenAll_35 : decode cL_seenAll 35 = .ok (.ifCond .eq 7, 3) := by decide +kernel
theorem dL_seenAll_38 : decode cL_seenAll 38 = .ok (.iconst 1, 1) := by decide +kernel
theorem dL_seenAll_39 : decode cL_seenAll 39 = .ok (.goto 4, 3) := by decide +kernel
theorem dL_seenAll_42 : decode cL_seenAll 42 = .ok (.iconst 0, 1) := by decide +kernel
theorem dL_seenAll_43 : decode cL_seenAll 43 = .ok (.iadd, 1) := by decide +kernel
theorem dL_seenAll_44 : decode cL_seenAll 44 = .ok (.iadd, 1) := by decide +kernel
theorem dL_seenAll_45 : decode cL_seenAll 45 = .ok (.istore_n 2, 1) := by decide +kernel
theorem dL_seenAll_46 : decode cL_seenAll 46 = .ok (.iinc 3 1, 3) := by decide +kernel
theorem dL_seenAll_49 : decode cL_seenAll 49 = .ok (.goto (-45), 3) := by decide +kernel
theorem dL_seenAll_52 : decode cL_seenAll 52 = .ok (.iload_n 2, 1) := by decide +kernel
theorem dL_seenAll_53 : decode cL_seenAll 53 = .ok (.ireturn, 1) := by decide +kernel
set_option maxRecDepth 20000 in
theorem ggL_wouldScan_L_reads : GoodIn wsL_wouldScan wsL_reads := goodIn_r _ [5, 1, 6, 7, 4, 8, 9, 10, 11, 12, 13, 14, 15, 16, 17, 18, 19, 20] (by decide +kernel) (by decide +kernel)
set_option maxRecDepth 20000 in
theorem gL_wouldScan_L_reads : GoodIn wsL_wouldScan (va_wsS RL 95 yL_reads wsL_reads) := goodIn_app (goodIn_of _ (by decide +kernel)) ggL_wouldScan_L_reads
set_option maxRecDepth 20000 in
theorem ggL_wouldScan_L_ifScanned : GoodIn wsL_wouldScan wsL_ifScanned := goodIn_ca (goodIn_ca (goodIn_r _ [23, 24, 25, 26, 27, 28, 29, 30, 31, 32, 33, 34, 35, 36, 37, 38, 39, 40, 41, 42, 43, 44, 45, 46, 47, 48, 49, 50, 51, 52, 53, 54, 55, 56, 57, 58, 59, 60, 61, 62, 63, 64, 65, 66, 67, 68, 69, 70, 71, 72, 73, 74, 75, 76, 77, 78, 79, 80, 81, 82, 83, 84, 85, 86, 87, 88, 89, 90, 91, 92, 93, 94, 95, 96, 97, 98, 99, 100, 101, 102, 103, 104, 105, 106, 107, 108, 109, 110, 111, 112, 113, 114, 115] (by decide +kernel) (by decide +kernel)) (goodIn_sub (fun _ h => List.mem_cons_of_mem _ (List.mem_append_left _ (List.mem_append_right _ h))) (by decide +kernel))) (goodIn_sub (fun _ h => List.mem_cons_of_mem _ (List.mem_append_right _ h)) (by decide +kernel))
set_option maxRecDepth 20000 in
theorem gL_wouldScan_L_ifScanned : GoodIn wsL_wouldScan (va_wsS RL 136 yL_ifScanned wsL_ifScanned) := goodIn_app (goodIn_of _ (by decide +kernel)) ggL_wouldScan_L_ifScanned
theorem dL_wouldScan_0 : decode cL_wouldScan 0 = .ok (.aload_n 2, 1) := by decide +kernel
theorem dL_wouldScan_1 : decode cL_wouldScan 1 = .ok (.iconst 4, 1) := by decide +kernel
theorem dL_wouldScan_2 : decode cL_wouldScan 2 = .ok (.iload_n 1, 1) := by decide +kernel
theorem dL_wouldScan_3 : decode cL_wouldScan 3 = .ok (.iadd, 1) := by decide +kernel
theorem dL_wouldScan_4 : decode cL_wouldScan 4 = .ok (.iaload, 1) := by decide +kernel
theorem dL_wouldScan_5 : decode cL_wouldScan 5 = .ok (.istore 6, 2) := by decide +kernel
theorem dL_wouldScan_7 : decode cL_wouldScan 7 = .ok (.iconst 0, 1) := by decide +kernel
theorem dL_wouldScan_8 : decode cL_wouldScan 8 = .ok (.istore 7, 2) := by decide +kernel
theorem dL_wouldScan_10 : decode cL_wouldScan 10 = .ok (.iconst 0, 1) := by decide +kernel
theorem dL_wouldScan_11 : decode cL_wouldScan 11 = .ok (.istore 8, 2) := by decide +kernel
theorem dL_wouldScan_13 : decode cL_wouldScan 13 = .ok (.ldc 93, 2) := by decide +kernel
theorem dL_wouldScan_15 : decode cL_wouldScan 15 = .ok (.istore 9, 2) := by decide +kernel
theorem dL_wouldScan_17 : decode cL_wouldScan 17 = .ok (.ldc 93, 2) := by decide +kernel
theorem dL_wouldScan_19 : decode cL_wouldScan 19 = .ok (.istore 10, 2) := by decide +kernel
theorem dL_wouldScan_21 : decode cL_wouldScan 21 = .ok (.bipush 30, 2) := by decide +kernel
theorem dL_wouldScan_23 : decode cL_wouldScan 23 = .ok (.istore 11, 2) := by decide +kernel
theorem dL_wouldScan_25 : decode cL_wouldScan 25 = .ok (.iload 11, 2) := by decide +kernel
theorem dL_wouldScan_27 : decode cL_wouldScan 27 = .ok (.bipush (-30), 2) := by decide +kernel
theorem dL_wouldScan_29 : decode cL_wouldScan 29 = .ok (.if_icmp .lt 64, 3) := by decide +kernel
theorem dL_wouldScan_32 : decode cL_wouldScan 32 = .ok (.aload_n 2, 1) := by decide +kernel
theorem dL_wouldScan_33 : decode cL_wouldScan 33 = .ok (.iconst 4, 1) := by decide +kernel
theorem dL_wouldScan_34 : decode cL_wouldScan 34 = .ok (.iload_n 1, 1) := by decide +kernel
theorem dL_wouldScan_35 : decode cL_wouldScan 35 = .ok (.iadd, 1) := by decide +kernel
theorem dL_wouldScan_36 : decode cL_wouldScan 36 = .ok (.iload 11, 2) := by decide +kernel
theorem dL_wouldScan_38 : decode cL_wouldScan 38 = .ok (.iastore, 1) := by decide +kernel
theorem dL_wouldScan_39 : decode cL_wouldScan 39 = .ok (.aload_n 2, 1) := by decide +kernel
theorem dL_wouldScan_40 : decode cL_wouldScan 40 = .ok (.aload_n 3, 1) := by decide +kernel
theorem dL_wouldScan_41 : decode cL_wouldScan 41 = .ok (.aload 4, 2) := by decide +kernel
theorem dL_wouldScan_43 : decode cL_wouldScan 43 = .ok (.aload 5, 2) := by decide +kernel
theorem dL_wouldScan_45 : decode cL_wouldScan 45 = .ok (.invokestatic 95, 3) := by decide +kernel
theorem dL_wouldScan_48 : decode cL_wouldScan 48 = .ok (.ifCond .eq 39, 3) := by decide +kernel
theorem dL_wouldScan_51 : decode cL_wouldScan 51 = .ok (.iinc 7 1, 3) := by decide +kernel
theorem dL_wouldScan_54 : decode cL_wouldScan 54 = .ok (.iload 8, 2) := by decide +kernel
theorem dL_wouldScan_56 : decode cL_wouldScan 56 = .ok (.aload 5, 2) := by decide +kernel
theorem dL_wouldScan_58 : decode cL_wouldScan 58 = .ok (.iconst 3, 1) := by decide +kernel
theorem dL_wouldScan_59 : decode cL_wouldScan 59 = .ok (.iaload, 1) := by decide +kernel
theorem dL_wouldScan_60 : decode cL_wouldScan 60 = .ok (.iadd, 1) := by decide +kernel
theorem dL_wouldScan_61 : decode cL_wouldScan 61 = .ok (.istore 8, 2) := by decide +kernel
theorem dL_wouldScan_63 : decode cL_wouldScan 63 = .ok (.iload 11, 2) := by decide +kernel
theorem dL_wouldScan_65 : decode cL_wouldScan 65 = .ok (.bipush 100, 2) := by decide +kernel
theorem dL_wouldScan_67 : decode cL_wouldScan 67 = .ok (.iadd, 1) := by decide +kernel
theorem dL_wouldScan_68 : decode cL_wouldScan 68 = .ok (.istore 9, 2) := by decide +kernel
theorem dL_wouldScan_70 : decode cL_wouldScan 70 = .ok (.iload 10, 2) := by decide +kernel
theorem dL_wouldScan_72 : decode cL_wouldScan 72 = .ok (.ifCond .ge 11, 3) := by decide +kernel
theorem dL_wouldScan_75 : decode cL_wouldScan 75 = .ok (.iload 11, 2) := by decide +kernel
theorem dL_wouldScan_77 : decode cL_wouldScan 77 = .ok (.bipush 100, 2) := by decide +kernel
theorem dL_wouldScan_79 : decode cL_wouldScan 79 = .ok (.iadd, 1) := by decide +kernel
theorem dL_wouldScan_80 : decode cL_wouldScan 80 = .ok (.goto 5, 3) := by decide +kernel
theorem dL_wouldScan_83 : decode cL_wouldScan 83 = .ok (.iload 10, 2) := by decide +kernel
theorem dL_wouldScan_85 : decode cL_wouldScan 85 = .ok (.istore 10, 2) := by decide +kernel
theorem dL_wouldScan_87 : decode cL_wouldScan 87 = .ok (.iinc 11 (-1), 3) := by decide +kernel
theorem dL_wouldScan_90 : decode cL_wouldScan 90 = .ok (.goto (-65), 3) := by decide +kernel
theorem dL_wouldScan_93 : decode cL_wouldScan 93 = .ok (.aload_n 2, 1) := by decide +kernel
theorem dL_wouldScan_94 : decode cL_wouldScan 94 = .ok (.iconst 4, 1) := by decide +kernel
theorem dL_wouldScan_95 : decode cL_wouldScan 95 = .ok (.iload_n 1, 1) := by decide +kernel
theorem dL_wouldScan_96 : decode cL_wouldScan 96 = .ok (.iadd, 1) := by decide +kernel
theorem dL_wouldScan_97 : decode cL_wouldScan 97 = .ok (.iload 6, 2) := by decide +kernel
theorem dL_wouldScan_99 : decode cL_wouldScan 99 = .ok (.iastore, 1) := by decide +kernel
theorem dL_wouldScan_100 : decode cL_wouldScan 100 = .ok (.aload_n 0, 1) := by decide +kernel
theorem dL_wouldScan_101 : decode cL_wouldScan 101 = .ok (.iload_n 1, 1) := by decide +kernel
theorem dL_wouldScan_102 : decode cL_wouldScan 102 = .ok (.iconst 0, 1) := by decide +kernel
theorem dL_wouldScan_103 : decode cL_wouldScan 103 = .ok (.invokestatic 136, 3) := by decide +kernel
theorem dL_wouldScan_106 : decode cL_wouldScan 106 = .ok (.iload 7, 2) := by decide +kernel
theorem dL_wouldScan_108 : decode cL_wouldScan 108 = .ok (.if_icmp .ne 40, 3) := by decide +kernel
theorem dL_wouldScan_111 : decode cL_wouldScan 111 = .ok (.aload_n 0, 1) := by decide +kernel
theorem dL_wouldScan_112 : decode cL_wouldScan 112 = .ok (.iload_n 1, 1) := by decide +kernel
theorem dL_wouldScan_113 : decode cL_wouldScan 113 = .ok (.iconst 1, 1) := by decide +kernel
theorem dL_wouldScan_114 : decode cL_wouldScan 114 = .ok (.invokestatic 136, 3) := by decide +kernel
theorem dL_wouldScan_117 : decode cL_wouldScan 117 = .ok (.iload 8, 2) := by decide +kernel
theorem dL_wouldScan_119 : decode cL_wouldScan 119 = .ok (.if_icmp .ne 29, 3) := by decide +kernel
theorem dL_wouldScan_122 : decode cL_wouldScan 122 = .ok (.aload_n 0, 1) := by decide +kernel
theorem dL_wouldScan_123 : decode cL_wouldScan 123 = .ok (.iload_n 1, 1) := by decide +kernel
theorem dL_wouldScan_124 : decode cL_wouldScan 124 = .ok (.iconst 2, 1) := by decide +kernel
theorem dL_wouldScan_125 : decode cL_wouldScan 125 = .ok (.invokestatic 136, 3) := by decide +kernel
theorem dL_wouldScan_128 : decode cL_wouldScan 128 = .ok (.iload 9, 2) := by decide +kernel
theorem dL_wouldScan_130 : decode cL_wouldScan 130 = .ok (.if_icmp .ne 18, 3) := by decide +kernel
theorem dL_wouldScan_133 : decode cL_wouldScan 133 = .ok (.aload_n 0, 1) := by decide +kernel
theorem dL_wouldScan_134 : decode cL_wouldScan 134 = .ok (.iload_n 1, 1) := by decide +kernel
theorem dL_wouldScan_135 : decode cL_wouldScan 135 = .ok (.iconst 3, 1) := by decide +kernel
theorem dL_wouldScan_136 : decode cL_wouldScan 136 = .ok (.invokestatic 136, 3) := by decide +kernel
theorem dL_wouldScan_139 : decode cL_wouldScan 139 = .ok (.iload 10, 2) := by decide +kernel
theorem dL_wouldScan_141 : decode cL_wouldScan 141 = .ok (.if_icmp .ne 7, 3) := by decide +kernel
theorem dL_wouldScan_144 : decode cL_wouldScan 144 = .ok (.iconst 1, 1) := by decide +kernel
theorem dL_wouldScan_145 : decode cL_wouldScan 145 = .ok (.goto 4, 3) := by decide +kernel
theorem dL_wouldScan_148 : decode cL_wouldScan 148 = .ok (.iconst 0, 1) := by decide +kernel
theorem dL_wouldScan_149 : decode cL_wouldScan 149 = .ok (.ireturn, 1) := by decide +kernel
set_option maxRecDepth 20000 in
theorem ggL_isSo_L_beams : GoodIn wsL_isSo wsL_beams := goodIn_r _ [5, 6] (by decide +kernel) (by decide +kernel)
set_option maxRecDepth 20000 in
theorem gL_isSo_L_beams : GoodIn wsL_isSo (va_wsS RL 138 yL_beams wsL_beams) := goodIn_app (goodIn_of _ (by decide +kernel)) ggL_isSo_L_beams
set_option maxRecDepth 20000 in
theorem ggL_isSo_L_seenAll : GoodIn wsL_isSo wsL_seenAll := goodIn_r _ [9, 10, 11, 4, 12] (by decide +kernel) (by decide +kernel)
set_option maxRecDepth 20000 in
theorem gL_isSo_L_seenAll : GoodIn wsL_isSo (va_wsS RL 142 yL_seenAll wsL_seenAll) := goodIn_app (goodIn_of _ (by decide +kernel)) ggL_isSo_L_seenAll
set_option maxRecDepth 20000 in
theorem ggL_isSo_X3_clearEnough : GoodIn wsL_isSo wsX3_clearEnough := goodIn_r _ [17, 18, 19, 20, 21, 22, 23, 24, 25, 26, 27, 28, 29, 30, 31, 32, 33, 34, 35, 36, 37, 38, 39, 40, 41, 42, 43, 44, 45, 46, 273, 274, 275, 276, 277, 278, 279, 280, 281, 282, 283, 284, 285, 286, 287, 288] (by decide +kernel) (by decide +kernel)
set_option maxRecDepth 20000 in
theorem gL_isSo_X3_clearEnough : GoodIn wsL_isSo (wsV RL 146 RX3 yX3_clearEnough wsX3_clearEnough) := goodIn_app (goodIn_of _ (by decide +kernel)) ggL_isSo_X3_clearEnough
set_option maxRecDepth 20000 in
theorem ggL_isSo_L_seen : GoodIn wsL_isSo wsL_seen := goodIn_r _ [12] (by decide +kernel) (by decide +kernel)
set_option maxRecDepth 20000 in
theorem gL_isSo_L_seen : GoodIn wsL_isSo (va_wsS RL 78 yL_seen wsL_seen) := goodIn_app (goodIn_of _ (by decide +kernel)) ggL_isSo_L_seen
set_option maxRecDepth 20000 in
theorem ggL_isSo_L_close : GoodIn wsL_isSo wsL_close := goodIn_r _ [49, 10, 11, 4, 12, 50, 51, 52, 53, 54, 55, 56, 57, 58] (by decide +kernel) (by decide +kernel)
set_option maxRecDepth 20000 in
theorem gL_isSo_L_close : GoodIn wsL_isSo (va_wsS RL 89 yL_close wsL_close) := goodIn_app (goodIn_of _ (by decide +kernel)) ggL_isSo_L_close
set_option maxRecDepth 20000 in
theorem ggL_isSo_L_count : GoodIn wsL_isSo wsL_count := goodIn_ca (goodIn_r _ [61, 62, 63, 64, 65, 66, 16, 67, 68, 69, 18, 70, 71, 72, 73, 74, 75, 76, 77, 78, 79, 80, 81, 82, 22, 83, 32, 84, 19, 20, 21, 23, 24, 25, 26, 27, 28, 29, 30, 31, 33, 34, 35, 36, 37, 38, 39, 40, 41, 42, 43, 44, 45, 46, 85, 86, 87, 88, 89, 90, 91, 92, 93, 94, 95, 96, 97, 98, 99, 100, 101, 102, 103, 104, 105, 106, 107, 108, 109, 110, 111, 112, 113, 114, 115, 116, 117, 118, 119, 273, 274, 275, 276, 277, 278, 279, 280, 281, 282, 283, 284, 285, 286, 287, 288, 289, 290, 291, 292] (by decide +kernel) (by decide +kernel)) (goodIn_sub (fun _ h => List.mem_cons_of_mem _ (List.mem_append_left _ (List.mem_append_right _ h))) (by decide +kernel))
set_option maxRecDepth 20000 in
theorem gL_isSo_L_count : GoodIn wsL_isSo (va_wsS RL 149 yL_count wsL_count) := goodIn_app (goodIn_of _ (by decide +kernel)) ggL_isSo_L_count
set_option maxRecDepth 20000 in
theorem ggL_isSo_L_reads : GoodIn wsL_isSo wsL_reads := goodIn_r _ [122, 1, 47, 48, 4, 49, 10, 11, 12, 50, 51, 52, 53, 54, 55, 56, 57, 58] (by decide +kernel) (by decide +kernel)
set_option maxRecDepth 20000 in
theorem gL_isSo_L_reads : GoodIn wsL_isSo (va_wsS RL 95 yL_reads wsL_reads) := goodIn_app (goodIn_of _ (by decide +kernel)) ggL_isSo_L_reads
set_option maxRecDepth 20000 in
theorem ggL_isSo_L_reading : GoodIn wsL_isSo wsL_reading := goodIn_ca (goodIn_r _ [125, 62, 63, 126, 127, 128, 16, 129, 68, 69, 18, 130, 131, 132, 22, 133, 111, 84, 30, 134, 135, 136, 137, 24, 32, 29, 98, 99, 100, 101, 25, 26, 27, 28, 31, 33, 34, 35, 36, 37, 38, 39, 112, 113, 114, 115, 116, 117, 118, 119, 138, 81, 82, 83, 139, 140, 141, 142, 273, 274, 275, 276, 277, 278, 279, 280, 281, 282, 283, 284, 285, 286, 287, 288] (by decide +kernel) (by decide +kernel)) (goodIn_sub (fun _ h => List.mem_cons_of_mem _ (List.mem_append_left _ (List.mem_append_right _ h))) (by decide +kernel))
set_option maxRecDepth 20000 in
theorem gL_isSo_L_reading : GoodIn wsL_isSo (va_wsS RL 151 yL_reading wsL_reading) := goodIn_app (goodIn_of _ (by decide +kernel)) ggL_isSo_L_reading
set_option maxRecDepth 20000 in
theorem ggL_isSo_L_low : GoodIn wsL_isSo wsL_low := goodIn_r _ [145, 146] (by decide +kernel) (by decide +kernel)
set_option maxRecDepth 20000 in
theorem gL_isSo_L_low : GoodIn wsL_isSo (va_wsS RL 153 yL_low wsL_low) := goodIn_app (goodIn_of _ (by decide +kernel)) ggL_isSo_L_low
set_option maxRecDepth 20000 in
theorem ggL_isSo_L_night : GoodIn wsL_isSo wsL_night := goodIn_ca (goodIn_r _ [149, 62, 63, 150, 151, 152, 16, 153, 68, 69, 18, 74, 154, 155, 156, 157, 158, 159, 160, 161, 273, 274, 275, 276, 277, 278, 279, 280, 281, 282, 283, 284, 285, 286, 287, 288, 289, 290, 291, 292] (by decide +kernel) (by decide +kernel)) (goodIn_sub (fun _ h => List.mem_cons_of_mem _ (List.mem_append_left _ (List.mem_append_right _ h))) (by decide +kernel))
set_option maxRecDepth 20000 in
theorem gL_isSo_L_night : GoodIn wsL_isSo (va_wsS RL 156 yL_night wsL_night) := goodIn_app (goodIn_of _ (by decide +kernel)) ggL_isSo_L_night
set_option maxRecDepth 20000 in
theorem ggL_isSo_L_size : GoodIn wsL_isSo wsL_size := goodIn_r _ [58] (by decide +kernel) (by decide +kernel)
set_option maxRecDepth 20000 in
theorem gL_isSo_L_size : GoodIn wsL_isSo (va_wsS RL 86 yL_size wsL_size) := goodIn_app (goodIn_of _ (by decide +kernel)) ggL_isSo_L_size
set_option maxRecDepth 20000 in
theorem ggL_isSo_X3_meanError : GoodIn wsL_isSo wsX3_meanError := goodIn_r _ [165, 18, 74, 166, 167, 168, 157, 169, 159, 161, 170, 99, 100, 101, 171, 155, 156, 158, 160, 273, 274, 275, 276, 277, 278, 279, 280, 281, 282, 283, 284, 285, 286, 287, 288, 289, 290, 291, 292] (by decide +kernel) (by decide +kernel)
set_option maxRecDepth 20000 in
theorem gL_isSo_X3_meanError : GoodIn wsL_isSo (wsV RL 158 RX3 yX3_meanError wsX3_meanError) := goodIn_app (goodIn_of _ (by decide +kernel)) ggL_isSo_X3_meanError
set_option maxRecDepth 20000 in
theorem ggL_isSo_L_wouldScan : GoodIn wsL_isSo wsL_wouldScan := goodIn_ca (goodIn_ca (goodIn_r _ [174, 1, 120, 121, 4, 122, 47, 48, 49, 10, 11, 12, 50, 51, 52, 53, 54, 55, 56, 57, 58, 175, 176, 177, 178, 62, 179, 63, 180, 181, 182, 16, 183, 184, 185, 68, 69, 18, 186, 187, 188, 189, 190, 191, 22, 192, 193, 194, 195, 196, 111, 134, 135, 136, 137, 24, 32, 29, 98, 99, 100, 101, 25, 26, 27, 28, 30, 31, 33, 34, 35, 36, 37, 38, 39, 112, 113, 114, 115, 116, 117, 118, 119, 197, 198, 199, 200, 138, 81, 82, 83, 84, 139, 140, 141, 142, 201, 202, 203, 204, 273, 274, 275, 276, 277, 278, 279, 280, 281, 282, 283, 284, 285, 286, 287, 288] (by decide +kernel) (by decide +kernel)) (goodIn_sub (fun _ h => List.mem_cons_of_mem _ (List.mem_append_right _ h)) (by decide +kernel))) (goodIn_sub (fun _ h => List.mem_cons_of_mem _ (List.mem_append_left _ (List.mem_append_right _ h))) (by decide +kernel))
set_option maxRecDepth 20000 in
theorem gL_isSo_L_wouldScan : GoodIn wsL_isSo (va_wsS RL 162 yL_wouldScan wsL_wouldScan) := goodIn_app (goodIn_of _ (by decide +kernel)) ggL_isSo_L_wouldScan
set_option maxRecDepth 20000 in
theorem ggL_isSo_L_isLayer : GoodIn wsL_isSo wsL_isLayer := goodIn_ca (goodIn_ca (goodIn_r _ [207, 1, 10, 11, 4, 12, 208, 209, 210, 178, 62, 179, 63, 211, 212, 213, 16, 214, 184, 185, 68, 69, 18, 215, 216, 217, 218, 219, 220, 22, 221, 29, 222, 103, 104, 105, 106, 86, 87, 88, 24, 32, 25, 26, 27, 28, 30, 31, 33, 34, 35, 36, 37, 38, 39, 223, 108, 109, 110, 111, 112, 113, 114, 115, 116, 117, 118, 119, 224, 95, 96, 97, 98, 99, 100, 101, 102, 107, 50, 51, 52, 53, 54, 55, 47, 48, 49, 56, 57, 58, 225, 226, 227, 228, 229, 230, 231, 186, 187, 188, 232, 233, 234, 235, 236, 237, 238, 239, 240, 241, 242, 243, 244, 245, 246, 247, 248, 249, 250, 251, 252, 253, 254, 255, 256, 257, 258, 259, 260, 261, 262, 263, 264, 265, 266, 267, 268, 269, 270, 271, 272, 273, 274, 275, 276, 277, 278, 279, 280, 281, 282, 283, 284, 285, 286, 287, 288] (by decide +kernel) (by decide +kernel)) (goodIn_sub (fun _ h => List.mem_cons_of_mem _ (List.mem_append_right _ h)) (by decide +kernel))) (goodIn_sub (fun _ h => List.mem_cons_of_mem _ (List.mem_append_left _ (List.mem_append_right _ h))) (by decide +kernel))
set_option maxRecDepth 20000 in
theorem gL_isSo_L_isLayer : GoodIn wsL_isSo (va_wsS RL 166 yL_isLayer wsL_isLayer) := goodIn_app (goodIn_of _ (by decide +kernel)) ggL_isSo_L_isLayer
theorem dL_isSo_0 : decode cL_isSo 0 = .ok (.iconst 0, 1) := by decide +kernel
theorem dL_isSo_1 : decode cL_isSo 1 = .ok (.istore 8, 2) := by decide +kernel
theorem dL_isSo_3 : decode cL_isSo 3 = .ok (.iconst 0, 1) := by decide +kernel
theorem dL_isSo_4 : decode cL_isSo 4 = .ok (.istore 9, 2) := by decide +kernel
theorem dL_isSo_6 : decode cL_isSo 6 = .ok (.iconst 0, 1) := by decide +kernel
theorem dL_isSo_7 : decode cL_isSo 7 = .ok (.aload_n 2, 1) := by decide +kernel
theorem dL_isSo_8 : decode cL_isSo 8 = .ok (.aload_n 3, 1) := by decide +kernel
theorem dL_isSo_9 : decode cL_isSo 9 = .ok (.aload 4, 2) := by decide +kernel
theorem dL_isSo_11 : decode cL_isSo 11 = .ok (.aload 6, 2) := by decide +kernel
theorem dL_isSo_13 : decode cL_isSo 13 = .ok (.invokestatic 138, 3) := by decide +kernel
theorem dL_isSo_16 : decode cL_isSo 16 = .ok (.aload_n 2, 1) := by decide +kernel
theorem dL_isSo_17 : decode cL_isSo 17 = .ok (.aload 6, 2) := by decide +kernel
theorem dL_isSo_19 : decode cL_isSo 19 = .ok (.invokestatic 142, 3) := by decide +kernel
theorem dL_isSo_22 : decode cL_isSo 22 = .ok (.istore 10, 2) := by decide +kernel
theorem dL_isSo_24 : decode cL_isSo 24 = .ok (.aload_n 0, 1) := by decide +kernel
theorem dL_isSo_25 : decode cL_isSo 25 = .ok (.invokevirtual 146, 3) := by decide +kernel
theorem dL_isSo_28 : decode cL_isSo 28 = .ok (.istore 11, 2) := by decide +kernel
theorem dL_isSo_30 : decode cL_isSo 30 = .ok (.iload 11, 2) := by decide +kernel
theorem dL_isSo_32 : decode cL_isSo 32 = .ok (.sipush 1000, 3) := by decide +kernel
theorem dL_isSo_35 : decode cL_isSo 35 = .ok (.if_icmp .ge 10, 3) := by decide +kernel
theorem dL_isSo_38 : decode cL_isSo 38 = .ok (.iload 11, 2) := by decide +kernel
theorem dL_isSo_40 : decode cL_isSo 40 = .ok (.iconst 1, 1) := by decide +kernel
theorem dL_isSo_41 : decode cL_isSo 41 = .ok (.iadd, 1) := by decide +kernel
theorem dL_isSo_42 : decode cL_isSo 42 = .ok (.goto 6, 3) := by decide +kernel
theorem dL_isSo_45 : decode cL_isSo 45 = .ok (.sipush 1000, 3) := by decide +kernel
theorem dL_isSo_48 : decode cL_isSo 48 = .ok (.aload_n 2, 1) := by decide +kernel
theorem dL_isSo_49 : decode cL_isSo 49 = .ok (.aload_n 3, 1) := by decide +kernel
theorem dL_isSo_50 : decode cL_isSo 50 = .ok (.aload 4, 2) := by decide +kernel
theorem dL_isSo_52 : decode cL_isSo 52 = .ok (.aload 6, 2) := by decide +kernel
theorem dL_isSo_54 : decode cL_isSo 54 = .ok (.invokestatic 138, 3) := by decide +kernel
theorem dL_isSo_57 : decode cL_isSo 57 = .ok (.iload 11, 2) := by decide +kernel
theorem dL_isSo_59 : decode cL_isSo 59 = .ok (.sipush 1000, 3) := by decide +kernel
theorem dL_isSo_62 : decode cL_isSo 62 = .ok (.if_icmp .eq 14, 3) := by decide +kernel
theorem dL_isSo_65 : decode cL_isSo 65 = .ok (.aload_n 2, 1) := by decide +kernel
theorem dL_isSo_66 : decode cL_isSo 66 = .ok (.aload 6, 2) := by decide +kernel
theorem dL_isSo_68 : decode cL_isSo 68 = .ok (.invokestatic 142, 3) := by decide +kernel
theorem dL_isSo_71 : decode cL_isSo 71 = .ok (.iload 10, 2) := by decide +kernel
theorem dL_isSo_73 : decode cL_isSo 73 = .ok (.if_icmp .ge 7, 3) := by decide +kernel
theorem dL_isSo_76 : decode cL_isSo 76 = .ok (.iconst 1, 1) := by decide +kernel
theorem dL_isSo_77 : decode cL_isSo 77 = .ok (.goto 4, 3) := by decide +kernel
theorem dL_isSo_80 : decode cL_isSo 80 = .ok (.iconst 0, 1) := by decide +kernel
theorem dL_isSo_81 : decode cL_isSo 81 = .ok (.istore 12, 2) := by decide +kernel
theorem dL_isSo_83 : decode cL_isSo 83 = .ok (.iload 11, 2) := by decide +kernel
theorem dL_isSo_85 : decode cL_isSo 85 = .ok (.aload_n 2, 1) := by decide +kernel
theorem dL_isSo_86 : decode cL_isSo 86 = .ok (.aload_n 3, 1) := by decide +kernel
theorem dL_isSo_87 : decode cL_isSo 87 = .ok (.aload 4, 2) := by decide +kernel
theorem dL_isSo_89 : decode cL_isSo 89 = .ok (.aload 6, 2) := by decide +kernel
theorem dL_isSo_91 : decode cL_isSo 91 = .ok (.invokestatic 138, 3) := by decide +kernel
theorem dL_isSo_94 : decode cL_isSo 94 = .ok (.iload 12, 2) := by decide +kernel
theorem dL_isSo_96 : decode cL_isSo 96 = .ok (.ifCond .eq 31, 3) := by decide +kernel
theorem dL_isSo_99 : decode cL_isSo 99 = .ok (.iload 11, 2) := by decide +kernel
theorem dL_isSo_101 : decode cL_isSo 101 = .ok (.ifCond .lt 26, 3) := by decide +kernel
theorem dL_isSo_104 : decode cL_isSo 104 = .ok (.iload 11, 2) := by decide +kernel
theorem dL_isSo_106 : decode cL_isSo 106 = .ok (.sipush 1000, 3) := by decide +kernel
theorem dL_isSo_109 : decode cL_isSo 109 = .ok (.if_icmp .gt 18, 3) := by decide +kernel
theorem dL_isSo_112 : decode cL_isSo 112 = .ok (.aload_n 2, 1) := by decide +kernel
theorem dL_isSo_113 : decode cL_isSo 113 = .ok (.aload 6, 2) := by decide +kernel
theorem dL_isSo_115 : decode cL_isSo 115 = .ok (.invokestatic 142, 3) := by decide +kernel
theorem dL_isSo_118 : decode cL_isSo 118 = .ok (.iload 10, 2) := by decide +kernel
theorem dL_isSo_120 : decode cL_isSo 120 = .ok (.if_icmp .ne 7, 3) := by decide +kernel
theorem dL_isSo_123 : decode cL_isSo 123 = .ok (.iconst 1, 1) := by decide +kernel
theorem dL_isSo_124 : decode cL_isSo 124 = .ok (.goto 4, 3) := by decide +kernel
theorem dL_isSo_127 : decode cL_isSo 127 = .ok (.iconst 0, 1) := by decide +kernel
theorem dL_isSo_128 : decode cL_isSo 128 = .ok (.istore 12, 2) := by decide +kernel
theorem dL_isSo_130 : decode cL_isSo 130 = .ok (.aload_n 2, 1) := by decide +kernel
theorem dL_isSo_131 : decode cL_isSo 131 = .ok (.iconst 1, 1) := by decide +kernel
theorem dL_isSo_132 : decode cL_isSo 132 = .ok (.iaload, 1) := by decide +kernel
theorem dL_isSo_133 : decode cL_isSo 133 = .ok (.aload_n 2, 1) := by decide +kernel
theorem dL_isSo_134 : decode cL_isSo 134 = .ok (.aload_n 3, 1) := by decide +kernel
theorem dL_isSo_135 : decode cL_isSo 135 = .ok (.aload 4, 2) := by decide +kernel
theorem dL_isSo_137 : decode cL_isSo 137 = .ok (.aload 6, 2) := by decide +kernel
theorem dL_isSo_139 : decode cL_isSo 139 = .ok (.invokestatic 138, 3) := by decide +kernel
theorem dL_isSo_142 : decode cL_isSo 142 = .ok (.iconst 0, 1) := by decide +kernel
theorem dL_isSo_143 : decode cL_isSo 143 = .ok (.istore 13, 2) := by decide +kernel
theorem dL_isSo_145 : decode cL_isSo 145 = .ok (.iload 13, 2) := by decide +kernel
theorem dL_isSo_147 : decode cL_isSo 147 = .ok (.aload_n 2, 1) := by decide +kernel
theorem dL_isSo_148 : decode cL_isSo 148 = .ok (.bipush 8, 2) := by decide +kernel
theorem dL_isSo_150 : decode cL_isSo 150 = .ok (.iaload, 1) := by decide +kernel
theorem dL_isSo_151 : decode cL_isSo 151 = .ok (.if_icmp .ge 65, 3) := by decide +kernel
theorem dL_isSo_154 : decode cL_isSo 154 = .ok (.iload 8, 2) := by decide +kernel
theorem dL_isSo_156 : decode cL_isSo 156 = .ok (.iconst 0, 1) := by decide +kernel
theorem dL_isSo_157 : decode cL_isSo 157 = .ok (.iload 13, 2) := by decide +kernel
theorem dL_isSo_159 : decode cL_isSo 159 = .ok (.aload_n 2, 1) := by decide +kernel
theorem dL_isSo_160 : decode cL_isSo 160 = .ok (.aload 6, 2) := by decide +kernel
theorem dL_isSo_162 : decode cL_isSo 162 = .ok (.invokestatic 78, 3) := by decide +kernel
theorem dL_isSo_165 : decode cL_isSo 165 = .ok (.ifCond .eq 19, 3) := by decide +kernel
theorem dL_isSo_168 : decode cL_isSo 168 = .ok (.iconst 1, 1) := by decide +kernel
theorem dL_isSo_169 : decode cL_isSo 169 = .ok (.iload 13, 2) := by decide +kernel
theorem dL_isSo_171 : decode cL_isSo 171 = .ok (.aload_n 2, 1) := by decide +kernel
theorem dL_isSo_172 : decode cL_isSo 172 = .ok (.aload 6, 2) := by decide +kernel
theorem dL_isSo_174 : decode cL_isSo 174 = .ok (.invokestatic 78, 3) := by decide +kernel
theorem dL_isSo_177 : decode cL_isSo 177 = .ok (.ifCond .eq 7, 3) := by decide +kernel
theorem dL_isSo_180 : decode cL_isSo 180 = .ok (.iconst 1, 1) := by decide +kernel
theorem dL_isSo_181 : decode cL_isSo 181 = .ok (.goto 4, 3) := by decide +kernel
theorem dL_isSo_184 : decode cL_isSo 184 = .ok (.iconst 0, 1) := by decide +kernel
theorem dL_isSo_185 : decode cL_isSo 185 = .ok (.iadd, 1) := by decide +kernel
theorem dL_isSo_186 : decode cL_isSo 186 = .ok (.istore 8, 2) := by decide +kernel
theorem dL_isSo_188 : decode cL_isSo 188 = .ok (.iload 9, 2) := by decide +kernel
theorem dL_isSo_190 : decode cL_isSo 190 = .ok (.iload 13, 2) := by decide +kernel
theorem dL_isSo_192 : decode cL_isSo 192 = .ok (.aload_n 2, 1) := by decide +kernel
theorem dL_isSo_193 : decode cL_isSo 193 = .ok (.aload_n 3, 1) := by decide +kernel
theorem dL_isSo_194 : decode cL_isSo 194 = .ok (.aload 6, 2) := by decide +kernel
theorem dL_isSo_196 : decode cL_isSo 196 = .ok (.invokestatic 89, 3) := by decide +kernel
theorem dL_isSo_199 : decode cL_isSo 199 = .ok (.ifCond .eq 7, 3) := by decide +kernel
theorem dL_isSo_202 : decode cL_isSo 202 = .ok (.iconst 1, 1) := by decide +kernel
theorem dL_isSo_203 : decode cL_isSo 203 = .ok (.goto 4, 3) := by decide +kernel
theorem dL_isSo_206 : decode cL_isSo 206 = .ok (.iconst 0, 1) := by decide +kernel
theorem dL_isSo_207 : decode cL_isSo 207 = .ok (.iadd, 1) := by decide +kernel
theorem dL_isSo_208 : decode cL_isSo 208 = .ok (.istore 9, 2) := by decide +kernel
theorem dL_isSo_210 : decode cL_isSo 210 = .ok (.iinc 13 1, 3) := by decide +kernel
theorem dL_isSo_213 : decode cL_isSo 213 = .ok (.goto (-68), 3) := by decide +kernel
theorem dL_isSo_216 : decode cL_isSo 216 = .ok (.iload 12, 2) := by decide +kernel
theorem dL_isSo_218 : decode cL_isSo 218 = .ok (.ifCond .eq 171, 3) := by decide +kernel
theorem dL_isSo_221 : decode cL_isSo 221 = .ok (.aload_n 0, 1) := by decide +kernel
theorem dL_isSo_222 : decode cL_isSo 222 = .ok (.iconst 0, 1) := by decide +kernel
theorem dL_isSo_223 : decode cL_isSo 223 = .ok (.invokestatic 149, 3) := by decide +kernel
theorem dL_isSo_226 : decode cL_isSo 226 = .ok (.aload_n 2, 1) := by decide +kernel
theorem dL_isSo_227 : decode cL_isSo 227 = .ok (.bipush 8, 2) := by decide +kernel
theorem dL_isSo_229 : decode cL_isSo 229 = .ok (.iaload, 1) := by decide +kernel
theorem dL_isSo_230 : decode cL_isSo 230 = .ok (.if_icmp .ne 159, 3) := by decide +kernel
theorem dL_isSo_233 : decode cL_isSo 233 = .ok (.aload_n 0, 1) := by decide +kernel
theorem dL_isSo_234 : decode cL_isSo 234 = .ok (.iconst 1, 1) := by decide +kernel
theorem dL_isSo_235 : decode cL_isSo 235 = .ok (.invokestatic 149, 3) := by decide +kernel
theorem dL_isSo_238 : decode cL_isSo 238 = .ok (.aload_n 2, 1) := by decide +kernel
theorem dL_isSo_239 : decode cL_isSo 239 = .ok (.iconst 4, 1) := by decide +kernel
theorem dL_isSo_240 : decode cL_isSo 240 = .ok (.iaload, 1) := by decide +kernel
theorem dL_isSo_241 : decode cL_isSo 241 = .ok (.if_icmp .ne 148, 3) := by decide +kernel
theorem dL_isSo_244 : decode cL_isSo 244 = .ok (.aload_n 0, 1) := by decide +kernel
theorem dL_isSo_245 : decode cL_isSo 245 = .ok (.iconst 2, 1) := by decide +kernel
theorem dL_isSo_246 : decode cL_isSo 246 = .ok (.invokestatic 149, 3) := by decide +kernel
theorem dL_isSo_249 : decode cL_isSo 249 = .ok (.aload_n 2, 1) := by decide +kernel
theorem dL_isSo_250 : decode cL_isSo 250 = .ok (.iconst 5, 1) := by decide +kernel
theorem dL_isSo_251 : decode cL_isSo 251 = .ok (.iaload, 1) := by decide +kernel
theorem dL_isSo_252 : decode cL_isSo 252 = .ok (.if_icmp .ne 137, 3) := by decide +kernel
theorem dL_isSo_255 : decode cL_isSo 255 = .ok (.aload_n 0, 1) := by decide +kernel
theorem dL_isSo_256 : decode cL_isSo 256 = .ok (.iconst 3, 1) := by decide +kernel
theorem dL_isSo_257 : decode cL_isSo 257 = .ok (.invokestatic 149, 3) := by decide +kernel
theorem dL_isSo_260 : decode cL_isSo 260 = .ok (.aload_n 2, 1) := by decide +kernel
theorem dL_isSo_261 : decode cL_isSo 261 = .ok (.bipush 6, 2) := by decide +kernel
theorem dL_isSo_263 : decode cL_isSo 263 = .ok (.iaload, 1) := by decide +kernel
theorem dL_isSo_264 : decode cL_isSo 264 = .ok (.iconst 2, 1) := by decide +kernel
theorem dL_isSo_265 : decode cL_isSo 265 = .ok (.aload_n 2, 1) := by decide +kernel
theorem dL_isSo_266 : decode cL_isSo 266 = .ok (.bipush 7, 2) := by decide +kernel
theorem dL_isSo_268 : decode cL_isSo 268 = .ok (.iaload, 1) := by decide +kernel
theorem dL_isSo_269 : decode cL_isSo 269 = .ok (.imul, 1) := by decide +kernel
theorem dL_isSo_270 : decode cL_isSo 270 = .ok (.iadd, 1) := by decide +kernel
theorem dL_isSo_271 : decode cL_isSo 271 = .ok (.if_icmp .ne 118, 3) := by decide +kernel
theorem dL_isSo_274 : decode cL_isSo 274 = .ok (.aload_n 0, 1) := by decide +kernel
theorem dL_isSo_275 : decode cL_isSo 275 = .ok (.iconst 4, 1) := by decide +kernel
theorem dL_isSo_276 : decode cL_isSo 276 = .ok (.invokestatic 149, 3) := by decide +kernel
theorem dL_isSo_279 : decode cL_isSo 279 = .ok (.aload_n 2, 1) := by decide +kernel
theorem dL_isSo_280 : decode cL_isSo 280 = .ok (.iconst 4, 1) := by decide +kernel
theorem dL_isSo_281 : decode cL_isSo 281 = .ok (.iaload, 1) := by decide +kernel
theorem dL_isSo_282 : decode cL_isSo 282 = .ok (.aload_n 2, 1) := by decide +kernel
theorem dL_isSo_283 : decode cL_isSo 283 = .ok (.iconst 5, 1) := by decide +kernel
theorem dL_isSo_284 : decode cL_isSo 284 = .ok (.iaload, 1) := by decide +kernel
theorem dL_isSo_285 : decode cL_isSo 285 = .ok (.if_icmp .le 20, 3) := by decide +kernel
theorem dL_isSo_288 : decode cL_isSo 288 = .ok (.bipush 10, 2) := by decide +kernel
theorem dL_isSo_290 : decode cL_isSo 290 = .ok (.aload_n 2, 1) := by decide +kernel
theorem dL_isSo_291 : decode cL_isSo 291 = .ok (.iconst 0, 1) := by decide +kernel
theorem dL_isSo_292 : decode cL_isSo 292 = .ok (.iaload, 1) := by decide +kernel
theorem dL_isSo_293 : decode cL_isSo 293 = .ok (.imul, 1) := by decide +kernel
theorem dL_isSo_294 : decode cL_isSo 294 = .ok (.aload_n 2, 1) := by decide +kernel
theorem dL_isSo_295 : decode cL_isSo 295 = .ok (.iconst 4, 1) := by decide +kernel
theorem dL_isSo_296 : decode cL_isSo 296 = .ok (.iaload, 1) := by decide +kernel
theorem dL_isSo_297 : decode cL_isSo 297 = .ok (.aload_n 2, 1) := by decide +kernel
theorem dL_isSo_298 : decode cL_isSo 298 = .ok (.iconst 5, 1) := by decide +kernel
theorem dL_isSo_299 : decode cL_isSo 299 = .ok (.iaload, 1) := by decide +kernel
theorem dL_isSo_300 : decode cL_isSo 300 = .ok (.isub, 1) := by decide +kernel
theorem dL_isSo_301 : decode cL_isSo 301 = .ok (.idiv, 1) := by decide +kernel
theorem dL_isSo_302 : decode cL_isSo 302 = .ok (.goto 5, 3) := by decide +kernel
theorem dL_isSo_305 : decode cL_isSo 305 = .ok (.ldc 93, 2) := by decide +kernel
theorem dL_isSo_307 : decode cL_isSo 307 = .ok (.if_icmp .ne 82, 3) := by decide +kernel
theorem dL_isSo_310 : decode cL_isSo 310 = .ok (.aload_n 0, 1) := by decide +kernel
theorem dL_isSo_311 : decode cL_isSo 311 = .ok (.iconst 5, 1) := by decide +kernel
theorem dL_isSo_312 : decode cL_isSo 312 = .ok (.invokestatic 149, 3) := by decide +kernel
theorem dL_isSo_315 : decode cL_isSo 315 = .ok (.aload_n 2, 1) := by decide +kernel
theorem dL_isSo_316 : decode cL_isSo 316 = .ok (.aload 6, 2) := by decide +kernel
theorem dL_isSo_318 : decode cL_isSo 318 = .ok (.invokestatic 142, 3) := by decide +kernel
theorem dL_isSo_321 : decode cL_isSo 321 = .ok (.if_icmp .ne 68, 3) := by decide +kernel
theorem dL_isSo_324 : decode cL_isSo 324 = .ok (.aload_n 0, 1) := by decide +kernel
theorem dL_isSo_325 : decode cL_isSo 325 = .ok (.bipush 6, 2) := by decide +kernel
theorem dL_isSo_327 : decode cL_isSo 327 = .ok (.invokestatic 149, 3) := by decide +kernel
theorem dL_isSo_330 : decode cL_isSo 330 = .ok (.iload 8, 2) := by decide +kernel
theorem dL_isSo_332 : decode cL_isSo 332 = .ok (.if_icmp .ne 57, 3) := by decide +kernel
theorem dL_isSo_335 : decode cL_isSo 335 = .ok (.aload_n 0, 1) := by decide +kernel
theorem dL_isSo_336 : decode cL_isSo 336 = .ok (.bipush 7, 2) := by decide +kernel
theorem dL_isSo_338 : decode cL_isSo 338 = .ok (.invokestatic 149, 3) := by decide +kernel
theorem dL_isSo_341 : decode cL_isSo 341 = .ok (.iload 9, 2) := by decide +kernel
theorem dL_isSo_343 : decode cL_isSo 343 = .ok (.if_icmp .ne 46, 3) := by decide +kernel
theorem dL_isSo_346 : decode cL_isSo 346 = .ok (.aload_n 0, 1) := by decide +kernel
theorem dL_isSo_347 : decode cL_isSo 347 = .ok (.bipush 8, 2) := by decide +kernel
theorem dL_isSo_349 : decode cL_isSo 349 = .ok (.invokestatic 149, 3) := by decide +kernel
theorem dL_isSo_352 : decode cL_isSo 352 = .ok (.aload_n 2, 1) := by decide +kernel
theorem dL_isSo_353 : decode cL_isSo 353 = .ok (.bipush 9, 2) := by decide +kernel
theorem dL_isSo_355 : decode cL_isSo 355 = .ok (.iaload, 1) := by decide +kernel
theorem dL_isSo_356 : decode cL_isSo 356 = .ok (.if_icmp .ne 33, 3) := by decide +kernel
theorem dL_isSo_359 : decode cL_isSo 359 = .ok (.aload_n 0, 1) := by decide +kernel
theorem dL_isSo_360 : decode cL_isSo 360 = .ok (.bipush 9, 2) := by decide +kernel
theorem dL_isSo_362 : decode cL_isSo 362 = .ok (.invokestatic 149, 3) := by decide +kernel
theorem dL_isSo_365 : decode cL_isSo 365 = .ok (.aload_n 2, 1) := by decide +kernel
theorem dL_isSo_366 : decode cL_isSo 366 = .ok (.bipush 10, 2) := by decide +kernel
theorem dL_isSo_368 : decode cL_isSo 368 = .ok (.iaload, 1) := by decide +kernel
theorem dL_isSo_369 : decode cL_isSo 369 = .ok (.if_icmp .ne 20, 3) := by decide +kernel
theorem dL_isSo_372 : decode cL_isSo 372 = .ok (.aload_n 0, 1) := by decide +kernel
theorem dL_isSo_373 : decode cL_isSo 373 = .ok (.bipush 10, 2) := by decide +kernel
theorem dL_isSo_375 : decode cL_isSo 375 = .ok (.invokestatic 149, 3) := by decide +kernel
theorem dL_isSo_378 : decode cL_isSo 378 = .ok (.aload_n 2, 1) := by decide +kernel
theorem dL_isSo_379 : decode cL_isSo 379 = .ok (.bipush 11, 2) := by decide +kernel
theorem dL_isSo_381 : decode cL_isSo 381 = .ok (.iaload, 1) := by decide +kernel
theorem dL_isSo_382 : decode cL_isSo 382 = .ok (.if_icmp .ne 7, 3) := by decide +kernel
theorem dL_isSo_385 : decode cL_isSo 385 = .ok (.iconst 1, 1) := by decide +kernel
theorem dL_isSo_386 : decode cL_isSo 386 = .ok (.goto 4, 3) := by decide +kernel
theorem dL_isSo_389 : decode cL_isSo 389 = .ok (.iconst 0, 1) := by decide +kernel
theorem dL_isSo_390 : decode cL_isSo 390 = .ok (.istore 12, 2) := by decide +kernel
theorem dL_isSo_392 : decode cL_isSo 392 = .ok (.aload_n 2, 1) := by decide +kernel
theorem dL_isSo_393 : decode cL_isSo 393 = .ok (.aload_n 3, 1) := by decide +kernel
theorem dL_isSo_394 : decode cL_isSo 394 = .ok (.aload 6, 2) := by decide +kernel
theorem dL_isSo_396 : decode cL_isSo 396 = .ok (.aload 7, 2) := by decide +kernel
theorem dL_isSo_398 : decode cL_isSo 398 = .ok (.invokestatic 95, 3) := by decide +kernel
theorem dL_isSo_401 : decode cL_isSo 401 = .ok (.istore 13, 2) := by decide +kernel
theorem dL_isSo_403 : decode cL_isSo 403 = .ok (.iconst 0, 1) := by decide +kernel
theorem dL_isSo_404 : decode cL_isSo 404 = .ok (.istore 14, 2) := by decide +kernel
theorem dL_isSo_406 : decode cL_isSo 406 = .ok (.iload 14, 2) := by decide +kernel
theorem dL_isSo_408 : decode cL_isSo 408 = .ok (.iconst 4, 1) := by decide +kernel
theorem dL_isSo_409 : decode cL_isSo 409 = .ok (.if_icmp .ge 61, 3) := by decide +kernel
theorem dL_isSo_412 : decode cL_isSo 412 = .ok (.iload 12, 2) := by decide +kernel
theorem dL_isSo_414 : decode cL_isSo 414 = .ok (.ifCond .eq 47, 3) := by decide +kernel
theorem dL_isSo_417 : decode cL_isSo 417 = .ok (.aload_n 0, 1) := by decide +kernel
theorem dL_isSo_418 : decode cL_isSo 418 = .ok (.bipush 13, 2) := by decide +kernel
theorem dL_isSo_420 : decode cL_isSo 420 = .ok (.iload 14, 2) := by decide +kernel
theorem dL_isSo_422 : decode cL_isSo 422 = .ok (.iadd, 1) := by decide +kernel
theorem dL_isSo_423 : decode cL_isSo 423 = .ok (.invokestatic 149, 3) := by decide +kernel
theorem dL_isSo_426 : decode cL_isSo 426 = .ok (.aload_n 2, 1) := by decide +kernel
theorem dL_isSo_427 : decode cL_isSo 427 = .ok (.iload 14, 2) := by decide +kernel
theorem dL_isSo_429 : decode cL_isSo 429 = .ok (.iaload, 1) := by decide +kernel
theorem dL_isSo_430 : decode cL_isSo 430 = .ok (.if_icmp .ne 31, 3) := by decide +kernel
theorem dL_isSo_433 : decode cL_isSo 433 = .ok (.aload_n 0, 1) := by decide +kernel
theorem dL_isSo_434 : decode cL_isSo 434 = .ok (.iload 14, 2) := by decide +kernel
theorem dL_isSo_436 : decode cL_isSo 436 = .ok (.invokestatic 151, 3) := by decide +kernel
theorem dL_isSo_439 : decode cL_isSo 439 = .ok (.iload 13, 2) := by decide +kernel
theorem dL_isSo_441 : decode cL_isSo 441 = .ok (.ifCond .eq 11, 3) := by decide +kernel
theorem dL_isSo_444 : decode cL_isSo 444 = .ok (.aload 7, 2) := by decide +kernel
theorem dL_isSo_446 : decode cL_isSo 446 = .ok (.iload 14, 2) := by decide +kernel
theorem dL_isSo_448 : decode cL_isSo 448 = .ok (.iaload, 1) := by decide +kernel
theorem dL_isSo_449 : decode cL_isSo 449 = .ok (.goto 5, 3) := by decide +kernel
theorem dL_isSo_452 : decode cL_isSo 452 = .ok (.ldc 93, 2) := by decide +kernel
theorem dL_isSo_454 : decode cL_isSo 454 = .ok (.if_icmp .ne 7, 3) := by decide +kernel
theorem dL_isSo_457 : decode cL_isSo 457 = .ok (.iconst 1, 1) := by decide +kernel
theorem dL_isSo_458 : decode cL_isSo 458 = .ok (.goto 4, 3) := by decide +kernel
theorem dL_isSo_461 : decode cL_isSo 461 = .ok (.iconst 0, 1) := by decide +kernel
theorem dL_isSo_462 : decode cL_isSo 462 = .ok (.istore 12, 2) := by decide +kernel
theorem dL_isSo_464 : decode cL_isSo 464 = .ok (.iinc 14 1, 3) := by decide +kernel
theorem dL_isSo_467 : decode cL_isSo 467 = .ok (.goto (-61), 3) := by decide +kernel
theorem dL_isSo_470 : decode cL_isSo 470 = .ok (.iload_n 1, 1) := by decide +kernel
theorem dL_isSo_471 : decode cL_isSo 471 = .ok (.bipush 9, 2) := by decide +kernel
theorem dL_isSo_473 : decode cL_isSo 473 = .ok (.invokestatic 153, 3) := by decide +kernel
theorem dL_isSo_476 : decode cL_isSo 476 = .ok (.istore 14, 2) := by decide +kernel
theorem dL_isSo_478 : decode cL_isSo 478 = .ok (.iload_n 1, 1) := by decide +kernel
theorem dL_isSo_479 : decode cL_isSo 479 = .ok (.iconst 4, 1) := by decide +kernel
theorem dL_isSo_480 : decode cL_isSo 480 = .ok (.ishr, 1) := by decide +kernel
theorem dL_isSo_481 : decode cL_isSo 481 = .ok (.iconst 4, 1) := by decide +kernel
theorem dL_isSo_482 : decode cL_isSo 482 = .ok (.invokestatic 153, 3) := by decide +kernel
theorem dL_isSo_485 : decode cL_isSo 485 = .ok (.istore 15, 2) := by decide +kernel
theorem dL_isSo_487 : decode cL_isSo 487 = .ok (.iload 12, 2) := by decide +kernel
theorem dL_isSo_489 : decode cL_isSo 489 = .ok (.ifCond .eq 42, 3) := by decide +kernel
theorem dL_isSo_492 : decode cL_isSo 492 = .ok (.aload_n 0, 1) := by decide +kernel
theorem dL_isSo_493 : decode cL_isSo 493 = .ok (.iload 14, 2) := by decide +kernel
theorem dL_isSo_495 : decode cL_isSo 495 = .ok (.iload 15, 2) := by decide +kernel
theorem dL_isSo_497 : decode cL_isSo 497 = .ok (.invokestatic 156, 3) := by decide +kernel
theorem dL_isSo_500 : decode cL_isSo 500 = .ok (.iload 14, 2) := by decide +kernel
theorem dL_isSo_502 : decode cL_isSo 502 = .ok (.aload_n 2, 1) := by decide +kernel
theorem dL_isSo_503 : decode cL_isSo 503 = .ok (.bipush 9, 2) := by decide +kernel
theorem dL_isSo_505 : decode cL_isSo 505 = .ok (.iaload, 1) := by decide +kernel
theorem dL_isSo_506 : decode cL_isSo 506 = .ok (.if_icmp .ge 16, 3) := by decide +kernel
theorem dL_isSo_509 : decode cL_isSo 509 = .ok (.aload 5, 2) := by decide +kernel
theorem dL_isSo_511 : decode cL_isSo 511 = .ok (.iconst 4, 1) := by decide +kernel
theorem dL_isSo_512 : decode cL_isSo 512 = .ok (.iload 14, 2) := by decide +kernel
theorem dL_isSo_514 : decode cL_isSo 514 = .ok (.imul, 1) := by decide +kernel
theorem dL_isSo_515 : decode cL_isSo 515 = .ok (.iload 15, 2) := by decide +kernel
theorem dL_isSo_517 : decode cL_isSo 517 = .ok (.iadd, 1) := by decide +kernel
theorem dL_isSo_518 : decode cL_isSo 518 = .ok (.iaload, 1) := by decide +kernel
theorem dL_isSo_519 : decode cL_isSo 519 = .ok (.goto 5, 3) := by decide +kernel
theorem dL_isSo_522 : decode cL_isSo 522 = .ok (.ldc 93, 2) := by decide +kernel
theorem dL_isSo_524 : decode cL_isSo 524 = .ok (.if_icmp .ne 7, 3) := by decide +kernel
theorem dL_isSo_527 : decode cL_isSo 527 = .ok (.iconst 1, 1) := by decide +kernel
theorem dL_isSo_528 : decode cL_isSo 528 = .ok (.goto 4, 3) := by decide +kernel
theorem dL_isSo_531 : decode cL_isSo 531 = .ok (.iconst 0, 1) := by decide +kernel
theorem dL_isSo_532 : decode cL_isSo 532 = .ok (.istore 12, 2) := by decide +kernel
theorem dL_isSo_534 : decode cL_isSo 534 = .ok (.iconst 0, 1) := by decide +kernel
theorem dL_isSo_535 : decode cL_isSo 535 = .ok (.istore 16, 2) := by decide +kernel
theorem dL_isSo_537 : decode cL_isSo 537 = .ok (.iconst 0, 1) := by decide +kernel
theorem dL_isSo_538 : decode cL_isSo 538 = .ok (.istore 17, 2) := by decide +kernel
theorem dL_isSo_540 : decode cL_isSo 540 = .ok (.iconst 0, 1) := by decide +kernel
theorem dL_isSo_541 : decode cL_isSo 541 = .ok (.istore 18, 2) := by decide +kernel
theorem dL_isSo_543 : decode cL_isSo 543 = .ok (.iload 18, 2) := by decide +kernel
theorem dL_isSo_545 : decode cL_isSo 545 = .ok (.aload_n 2, 1) := by decide +kernel
theorem dL_isSo_546 : decode cL_isSo 546 = .ok (.bipush 9, 2) := by decide +kernel
theorem dL_isSo_548 : decode cL_isSo 548 = .ok (.iaload, 1) := by decide +kernel
theorem dL_isSo_549 : decode cL_isSo 549 = .ok (.if_icmp .ge 64, 3) := by decide +kernel
theorem dL_isSo_552 : decode cL_isSo 552 = .ok (.iload 16, 2) := by decide +kernel
theorem dL_isSo_554 : decode cL_isSo 554 = .ok (.aload 5, 2) := by decide +kernel
theorem dL_isSo_556 : decode cL_isSo 556 = .ok (.iconst 4, 1) := by decide +kernel
theorem dL_isSo_557 : decode cL_isSo 557 = .ok (.iload 18, 2) := by decide +kernel
theorem dL_isSo_559 : decode cL_isSo 559 = .ok (.imul, 1) := by decide +kernel
theorem dL_isSo_560 : decode cL_isSo 560 = .ok (.iaload, 1) := by decide +kernel
theorem dL_isSo_561 : decode cL_isSo 561 = .ok (.ldc 93, 2) := by decide +kernel
theorem dL_isSo_563 : decode cL_isSo 563 = .ok (.if_icmp .ne 7, 3) := by decide +kernel
theorem dL_isSo_566 : decode cL_isSo 566 = .ok (.iconst 0, 1) := by decide +kernel
theorem dL_isSo_567 : decode cL_isSo 567 = .ok (.goto 15, 3) := by decide +kernel
theorem dL_isSo_570 : decode cL_isSo 570 = .ok (.aload 5, 2) := by decide +kernel
theorem dL_isSo_572 : decode cL_isSo 572 = .ok (.iconst 4, 1) := by decide +kernel
theorem dL_isSo_573 : decode cL_isSo 573 = .ok (.iload 18, 2) := by decide +kernel
theorem dL_isSo_575 : decode cL_isSo 575 = .ok (.imul, 1) := by decide +kernel
theorem dL_isSo_576 : decode cL_isSo 576 = .ok (.iconst 2, 1) := by decide +kernel
theorem dL_isSo_577 : decode cL_isSo 577 = .ok (.iadd, 1) := by decide +kernel
theorem dL_isSo_578 : decode cL_isSo 578 = .ok (.iaload, 1) := by decide +kernel
theorem dL_isSo_579 : decode cL_isSo 579 = .ok (.invokestatic 86, 3) := by decide +kernel
theorem dL_isSo_582 : decode cL_isSo 582 = .ok (.iadd, 1) := by decide +kernel
theorem dL_isSo_583 : decode cL_isSo 583 = .ok (.istore 16, 2) := by decide +kernel
theorem dL_isSo_585 : decode cL_isSo 585 = .ok (.iload 17, 2) := by decide +kernel
theorem dL_isSo_587 : decode cL_isSo 587 = .ok (.aload 5, 2) := by decide +kernel
theorem dL_isSo_589 : decode cL_isSo 589 = .ok (.iconst 4, 1) := by decide +kernel
theorem dL_isSo_590 : decode cL_isSo 590 = .ok (.iload 18, 2) := by decide +kernel
theorem dL_isSo_592 : decode cL_isSo 592 = .ok (.imul, 1) := by decide +kernel
theorem dL_isSo_593 : decode cL_isSo 593 = .ok (.iaload, 1) := by decide +kernel
theorem dL_isSo_594 : decode cL_isSo 594 = .ok (.ldc 93, 2) := by decide +kernel
theorem dL_isSo_596 : decode cL_isSo 596 = .ok (.if_icmp .ne 7, 3) := by decide +kernel
theorem dL_isSo_599 : decode cL_isSo 599 = .ok (.iconst 0, 1) := by decide +kernel
theorem dL_isSo_600 : decode cL_isSo 600 = .ok (.goto 4, 3) := by decide +kernel
theorem dL_isSo_603 : decode cL_isSo 603 = .ok (.iconst 1, 1) := by decide +kernel
theorem dL_isSo_604 : decode cL_isSo 604 = .ok (.iadd, 1) := by decide +kernel
theorem dL_isSo_605 : decode cL_isSo 605 = .ok (.istore 17, 2) := by decide +kernel
theorem dL_isSo_607 : decode cL_isSo 607 = .ok (.iinc 18 1, 3) := by decide +kernel
theorem dL_isSo_610 : decode cL_isSo 610 = .ok (.goto (-67), 3) := by decide +kernel
theorem dL_isSo_613 : decode cL_isSo 613 = .ok (.iload 12, 2) := by decide +kernel
theorem dL_isSo_615 : decode cL_isSo 615 = .ok (.ifCond .eq 31, 3) := by decide +kernel
theorem dL_isSo_618 : decode cL_isSo 618 = .ok (.aload_n 0, 1) := by decide +kernel
theorem dL_isSo_619 : decode cL_isSo 619 = .ok (.invokevirtual 158, 3) := by decide +kernel
theorem dL_isSo_622 : decode cL_isSo 622 = .ok (.iload 17, 2) := by decide +kernel
theorem dL_isSo_624 : decode cL_isSo 624 = .ok (.ifCond .ne 7, 3) := by decide +kernel
theorem dL_isSo_627 : decode cL_isSo 627 = .ok (.fconst 0, 1) := by decide +kernel
theorem dL_isSo_628 : decode cL_isSo 628 = .ok (.goto 10, 3) := by decide +kernel
theorem dL_isSo_631 : decode cL_isSo 631 = .ok (.iload 16, 2) := by decide +kernel
theorem dL_isSo_633 : decode cL_isSo 633 = .ok (.i2f, 1) := by decide +kernel
theorem dL_isSo_634 : decode cL_isSo 634 = .ok (.iload 17, 2) := by decide +kernel
theorem dL_isSo_636 : decode cL_isSo 636 = .ok (.i2f, 1) := by decide +kernel
theorem dL_isSo_637 : decode cL_isSo 637 = .ok (.fdiv, 1) := by decide +kernel
theorem dL_isSo_638 : decode cL_isSo 638 = .ok (.fcmp .l, 1) := by decide +kernel
theorem dL_isSo_639 : decode cL_isSo 639 = .ok (.ifCond .ne 7, 3) := by decide +kernel
theorem dL_isSo_642 : decode cL_isSo 642 = .ok (.iconst 1, 1) := by decide +kernel
theorem dL_isSo_643 : decode cL_isSo 643 = .ok (.goto 4, 3) := by decide +kernel
theorem dL_isSo_646 : decode cL_isSo 646 = .ok (.iconst 0, 1) := by decide +kernel
theorem dL_isSo_647 : decode cL_isSo 647 = .ok (.istore 12, 2) := by decide +kernel
theorem dL_isSo_649 : decode cL_isSo 649 = .ok (.iload 12, 2) := by decide +kernel
theorem dL_isSo_651 : decode cL_isSo 651 = .ok (.ifCond .eq 39, 3) := by decide +kernel
theorem dL_isSo_654 : decode cL_isSo 654 = .ok (.iload_n 1, 1) := by decide +kernel
theorem dL_isSo_655 : decode cL_isSo 655 = .ok (.bipush 6, 2) := by decide +kernel
theorem dL_isSo_657 : decode cL_isSo 657 = .ok (.ishr, 1) := by decide +kernel
theorem dL_isSo_658 : decode cL_isSo 658 = .ok (.iconst 4, 1) := by decide +kernel
theorem dL_isSo_659 : decode cL_isSo 659 = .ok (.invokestatic 153, 3) := by decide +kernel
theorem dL_isSo_662 : decode cL_isSo 662 = .ok (.ifCond .gt 24, 3) := by decide +kernel
theorem dL_isSo_665 : decode cL_isSo 665 = .ok (.aload_n 0, 1) := by decide +kernel
theorem dL_isSo_666 : decode cL_isSo 666 = .ok (.iload_n 1, 1) := by decide +kernel
theorem dL_isSo_667 : decode cL_isSo 667 = .ok (.bipush 8, 2) := by decide +kernel
theorem dL_isSo_669 : decode cL_isSo 669 = .ok (.ishr, 1) := by decide +kernel
theorem dL_isSo_670 : decode cL_isSo 670 = .ok (.iconst 2, 1) := by decide +kernel
theorem dL_isSo_671 : decode cL_isSo 671 = .ok (.invokestatic 153, 3) := by decide +kernel
theorem dL_isSo_674 : decode cL_isSo 674 = .ok (.aload_n 2, 1) := by decide +kernel
theorem dL_isSo_675 : decode cL_isSo 675 = .ok (.aload_n 3, 1) := by decide +kernel
theorem dL_isSo_676 : decode cL_isSo 676 = .ok (.aload 6, 2) := by decide +kernel
theorem dL_isSo_678 : decode cL_isSo 678 = .ok (.aload 7, 2) := by decide +kernel
theorem dL_isSo_680 : decode cL_isSo 680 = .ok (.invokestatic 162, 3) := by decide +kernel
theorem dL_isSo_683 : decode cL_isSo 683 = .ok (.ifCond .eq 7, 3) := by decide +kernel
theorem dL_isSo_686 : decode cL_isSo 686 = .ok (.iconst 1, 1) := by decide +kernel
theorem dL_isSo_687 : decode cL_isSo 687 = .ok (.goto 4, 3) := by decide +kernel
theorem dL_isSo_690 : decode cL_isSo 690 = .ok (.iconst 0, 1) := by decide +kernel
theorem dL_isSo_691 : decode cL_isSo 691 = .ok (.istore 12, 2) := by decide +kernel
theorem dL_isSo_693 : decode cL_isSo 693 = .ok (.iload 12, 2) := by decide +kernel
theorem dL_isSo_695 : decode cL_isSo 695 = .ok (.ifCond .eq 46, 3) := by decide +kernel
theorem dL_isSo_698 : decode cL_isSo 698 = .ok (.aload_n 2, 1) := by decide +kernel
theorem dL_isSo_699 : decode cL_isSo 699 = .ok (.bipush 8, 2) := by decide +kernel
theorem dL_isSo_701 : decode cL_isSo 701 = .ok (.iaload, 1) := by decide +kernel
theorem dL_isSo_702 : decode cL_isSo 702 = .ok (.ifCond .eq 35, 3) := by decide +kernel
theorem dL_isSo_705 : decode cL_isSo 705 = .ok (.aload_n 0, 1) := by decide +kernel
theorem dL_isSo_706 : decode cL_isSo 706 = .ok (.iload_n 1, 1) := by decide +kernel
theorem dL_isSo_707 : decode cL_isSo 707 = .ok (.bipush 9, 2) := by decide +kernel
theorem dL_isSo_709 : decode cL_isSo 709 = .ok (.ishr, 1) := by decide +kernel
theorem dL_isSo_710 : decode cL_isSo 710 = .ok (.aload_n 2, 1) := by decide +kernel
theorem dL_isSo_711 : decode cL_isSo 711 = .ok (.bipush 8, 2) := by decide +kernel
theorem dL_isSo_713 : decode cL_isSo 713 = .ok (.iaload, 1) := by decide +kernel
theorem dL_isSo_714 : decode cL_isSo 714 = .ok (.invokestatic 153, 3) := by decide +kernel
theorem dL_isSo_717 : decode cL_isSo 717 = .ok (.iload_n 1, 1) := by decide +kernel
theorem dL_isSo_718 : decode cL_isSo 718 = .ok (.bipush 8, 2) := by decide +kernel
theorem dL_isSo_720 : decode cL_isSo 720 = .ok (.ishr, 1) := by decide +kernel
theorem dL_isSo_721 : decode cL_isSo 721 = .ok (.iconst 2, 1) := by decide +kernel
theorem dL_isSo_722 : decode cL_isSo 722 = .ok (.invokestatic 153, 3) := by decide +kernel
theorem dL_isSo_725 : decode cL_isSo 725 = .ok (.aload_n 2, 1) := by decide +kernel
theorem dL_isSo_726 : decode cL_isSo 726 = .ok (.aload_n 3, 1) := by decide +kernel
theorem dL_isSo_727 : decode cL_isSo 727 = .ok (.aload 4, 2) := by decide +kernel
theorem dL_isSo_729 : decode cL_isSo 729 = .ok (.aload 6, 2) := by decide +kernel
theorem dL_isSo_731 : decode cL_isSo 731 = .ok (.invokestatic 166, 3) := by decide +kernel
theorem dL_isSo_734 : decode cL_isSo 734 = .ok (.ifCond .eq 7, 3) := by decide +kernel
theorem dL_isSo_737 : decode cL_isSo 737 = .ok (.iconst 1, 1) := by decide +kernel
theorem dL_isSo_738 : decode cL_isSo 738 = .ok (.goto 4, 3) := by decide +kernel
theorem dL_isSo_741 : decode cL_isSo 741 = .ok (.iconst 0, 1) := by decide +kernel
theorem dL_isSo_742 : decode cL_isSo 742 = .ok (.ireturn, 1) := by decide +kernel
set_option maxRecDepth 20000 in
theorem ggL_told_L_count : GoodIn wsL_told wsL_count := goodIn_ca (goodIn_r _ [6, 7, 8, 9, 10, 11, 12, 13, 14, 15, 16, 17, 18, 19, 20, 21, 22, 23, 24, 25, 26, 27, 28, 29, 30, 31, 32, 33, 34, 35, 36, 37, 38, 39, 40, 41, 42, 43, 44, 45, 46, 47, 48, 49, 50, 51, 52, 53, 54, 55, 56, 57, 58, 59, 60, 61, 62, 63, 64, 65, 66, 67, 68, 69, 70, 71, 72, 73, 74, 75, 76, 77, 78, 79, 80, 81, 82, 83, 84, 85, 86, 87, 88, 89, 90, 91, 92, 93, 94, 131, 132, 133, 134, 135, 136, 137, 138, 139, 140, 141, 142, 143, 144, 145, 146, 147, 148, 149, 150] (by decide +kernel) (by decide +kernel)) (goodIn_sub (fun _ h => List.mem_cons_of_mem _ (List.mem_append_left _ (List.mem_append_right _ h))) (by decide +kernel))
set_option maxRecDepth 20000 in
theorem gL_told_L_count : GoodIn wsL_told (va_wsS RL 149 yL_count wsL_count) := goodIn_app (goodIn_of _ (by decide +kernel)) ggL_told_L_count
set_option maxRecDepth 20000 in
theorem ggL_told_L_night : GoodIn wsL_told wsL_night := goodIn_ca (goodIn_r _ [97, 7, 8, 98, 99, 100, 12, 101, 14, 15, 16, 21, 102, 103, 104, 105, 106, 107, 108, 109, 131, 132, 133, 134, 135, 136, 137, 138, 139, 140, 141, 142, 143, 144, 145, 146, 147, 148, 149, 150] (by decide +kernel) (by decide +kernel)) (goodIn_sub (fun _ h => List.mem_cons_of_mem _ (List.mem_append_left _ (List.mem_append_right _ h))) (by decide +kernel))
set_option maxRecDepth 20000 in
theorem gL_told_L_night : GoodIn wsL_told (va_wsS RL 156 yL_night wsL_night) := goodIn_app (goodIn_of _ (by decide +kernel)) ggL_told_L_night
set_option maxRecDepth 20000 in
theorem ggL_told_L_layerOf : GoodIn wsL_told wsL_layerOf := goodIn_ca (goodIn_ca (goodIn_r _ [112, 113, 7, 114, 8, 115, 116, 117, 12, 118, 119, 120, 14, 15, 16, 121, 122, 123, 124, 125, 126, 30, 127, 43, 128, 78, 79, 80, 81, 61, 62, 63, 38, 32, 39, 40, 41, 42, 44, 45, 46, 47, 48, 49, 50, 51, 52, 129, 83, 84, 85, 86, 87, 88, 89, 90, 91, 92, 93, 94, 130, 70, 71, 72, 73, 74, 75, 76, 77, 82, 131, 132, 133, 134, 135, 136, 137, 138, 139, 140, 141, 142, 143, 144, 145, 146] (by decide +kernel) (by decide +kernel)) (goodIn_sub (fun _ h => List.mem_cons_of_mem _ (List.mem_append_right _ h)) (by decide +kernel))) (goodIn_sub (fun _ h => List.mem_cons_of_mem _ (List.mem_append_left _ (List.mem_append_right _ h))) (by decide +kernel))
set_option maxRecDepth 20000 in
theorem gL_told_L_layerOf : GoodIn wsL_told (va_wsS RL 129 yL_layerOf wsL_layerOf) := goodIn_app (goodIn_of _ (by decide +kernel)) ggL_told_L_layerOf
theorem dL_told_0 : decode cL_told 0 = .ok (.ldc2_w 170, 3) := by decide +kernel
theorem dL_told_3 : decode cL_told 3 = .ok (.lstore_n 1, 1) := by decide +kernel
theorem dL_told_4 : decode cL_told 4 = .ok (.iconst 0, 1) := by decide +kernel
theorem dL_told_5 : decode cL_told 5 = .ok (.istore_n 3, 1) := by decide +kernel
theorem dL_told_6 : decode cL_told 6 = .ok (.iload_n 3, 1) := by decide +kernel
theorem dL_told_7 : decode cL_told 7 = .ok (.bipush 17, 2) := by decide +kernel
theorem dL_told_9 : decode cL_told 9 = .ok (.if_icmp .ge 38, 3) := by decide +kernel
theorem dL_told_12 : decode cL_told 12 = .ok (.ldc2_w 172, 3) := by decide +kernel
theorem dL_told_15 : decode cL_told 15 = .ok (.lload_n 1, 1) := by decide +kernel
theorem dL_told_16 : decode cL_told 16 = .ok (.lmul, 1) := by decide +kernel
theorem dL_told_17 : decode cL_told 17 = .ok (.iload_n 3, 1) := by decide +kernel
theorem dL_told_18 : decode cL_told 18 = .ok (.bipush 11, 2) := by decide +kernel
theorem dL_told_20 : decode cL_told 20 = .ok (.if_icmp .eq 9, 3) := by decide +kernel
theorem dL_told_23 : decode cL_told 23 = .ok (.iload_n 3, 1) := by decide +kernel
theorem dL_told_24 : decode cL_told 24 = .ok (.bipush 12, 2) := by decide +kernel
theorem dL_told_26 : decode cL_told 26 = .ok (.if_icmp .ne 7, 3) := by decide +kernel
theorem dL_told_29 : decode cL_told 29 = .ok (.iconst 0, 1) := by decide +kernel
theorem dL_told_30 : decode cL_told 30 = .ok (.goto 8, 3) := by decide +kernel
theorem dL_told_33 : decode cL_told 33 = .ok (.aload_n 0, 1) := by decide +kernel
theorem dL_told_34 : decode cL_told 34 = .ok (.iload_n 3, 1) := by decide +kernel
theorem dL_told_35 : decode cL_told 35 = .ok (.invokestatic 149, 3) := by decide +kernel
theorem dL_told_38 : decode cL_told 38 = .ok (.i2l, 1) := by decide +kernel
theorem dL_told_39 : decode cL_told 39 = .ok (.ladd, 1) := by decide +kernel
theorem dL_told_40 : decode cL_told 40 = .ok (.lstore_n 1, 1) := by decide +kernel
theorem dL_told_41 : decode cL_told 41 = .ok (.iinc 3 1, 3) := by decide +kernel
theorem dL_told_44 : decode cL_told 44 = .ok (.goto (-38), 3) := by decide +kernel
theorem dL_told_47 : decode cL_told 47 = .ok (.iconst 0, 1) := by decide +kernel
theorem dL_told_48 : decode cL_told 48 = .ok (.istore_n 3, 1) := by decide +kernel
theorem dL_told_49 : decode cL_told 49 = .ok (.iload_n 3, 1) := by decide +kernel
theorem dL_told_50 : decode cL_told 50 = .ok (.bipush 32, 2) := by decide +kernel
theorem dL_told_52 : decode cL_told 52 = .ok (.if_icmp .ge 43, 3) := by decide +kernel
theorem dL_told_55 : decode cL_told 55 = .ok (.ldc2_w 172, 3) := by decide +kernel
theorem dL_told_58 : decode cL_told 58 = .ok (.ldc2_w 172, 3) := by decide +kernel
theorem dL_told_61 : decode cL_told 61 = .ok (.lload_n 1, 1) := by decide +kernel
theorem dL_told_62 : decode cL_told 62 = .ok (.lmul, 1) := by decide +kernel
theorem dL_told_63 : decode cL_told 63 = .ok (.aload_n 0, 1) := by decide +kernel
theorem dL_told_64 : decode cL_told 64 = .ok (.iload_n 3, 1) := by decide +kernel
theorem dL_told_65 : decode cL_told 65 = .ok (.iconst 4, 1) := by decide +kernel
theorem dL_told_66 : decode cL_told 66 = .ok (.idiv, 1) := by decide +kernel
theorem dL_told_67 : decode cL_told 67 = .ok (.iload_n 3, 1) := by decide +kernel
theorem dL_told_68 : decode cL_told 68 = .ok (.iconst 4, 1) := by decide +kernel
theorem dL_told_69 : decode cL_told 69 = .ok (.irem, 1) := by decide +kernel
theorem dL_told_70 : decode cL_told 70 = .ok (.invokestatic 156, 3) := by decide +kernel
theorem dL_told_73 : decode cL_told 73 = .ok (.i2l, 1) := by decide +kernel
theorem dL_told_74 : decode cL_told 74 = .ok (.ladd, 1) := by decide +kernel
theorem dL_told_75 : decode cL_told 75 = .ok (.lmul, 1) := by decide +kernel
theorem dL_told_76 : decode cL_told 76 = .ok (.aload_n 0, 1) := by decide +kernel
theorem dL_told_77 : decode cL_told 77 = .ok (.iload_n 3, 1) := by decide +kernel
theorem dL_told_78 : decode cL_told 78 = .ok (.iconst 4, 1) := by decide +kernel
theorem dL_told_79 : decode cL_told 79 = .ok (.idiv, 1) := by decide +kernel
theorem dL_told_80 : decode cL_told 80 = .ok (.iload_n 3, 1) := by decide +kernel
theorem dL_told_81 : decode cL_told 81 = .ok (.iconst 4, 1) := by decide +kernel
theorem dL_told_82 : decode cL_told 82 = .ok (.irem, 1) := by decide +kernel
theorem dL_told_83 : decode cL_told 83 = .ok (.invokestatic 129, 3) := by decide +kernel
theorem dL_told_86 : decode cL_told 86 = .ok (.i2l, 1) := by decide +kernel
theorem dL_told_87 : decode cL_told 87 = .ok (.ladd, 1) := by decide +kernel
theorem dL_told_88 : decode cL_told 88 = .ok (.lstore_n 1, 1) := by decide +kernel
theorem dL_told_89 : decode cL_told 89 = .ok (.iinc 3 1, 3) := by decide +kernel
theorem dL_told_92 : decode cL_told 92 = .ok (.goto (-43), 3) := by decide +kernel
theorem dL_told_95 : decode cL_told 95 = .ok (.lload_n 1, 1) := by decide +kernel
theorem dL_told_96 : decode cL_told 96 = .ok (.lreturn, 1) := by decide +kernel
set_option maxRecDepth 20000 in
theorem ggL_law_X3_init : GoodIn wsL_law wsX3_init := goodIn_r _ [7, 8, 9, 10, 11, 12, 13, 14, 15, 16, 17, 18, 19, 20, 21, 22, 23, 24, 25, 26, 27, 28, 3, 29, 30, 31, 32, 33, 34, 35, 36, 37, 38, 39, 40, 41, 42, 43, 44, 45, 46, 47, 471, 472, 473, 474, 475, 476, 477, 462, 463, 464, 465, 466, 467, 468, 469, 470, 478, 479, 480, 481, 482, 483, 484, 485, 486, 487] (by decide +kernel) (by decide +kernel)
set_option maxRecDepth 20000 in
theorem gL_law_X3_init : GoodIn wsL_law (wsX3_init) := ggL_law_X3_init
set_option maxRecDepth 20000 in
theorem ggL_law_L_cell : GoodIn wsL_law wsL_cell := goodIn_r _ [51, 52, 53] (by decide +kernel) (by decide +kernel)
set_option maxRecDepth 20000 in
theorem gL_law_L_cell : GoodIn wsL_law (va_wsS RL 175 yL_cell wsL_cell) := goodIn_app (goodIn_of _ (by decide +kernel)) ggL_law_L_cell
set_option maxRecDepth 20000 in
theorem ggL_law_L_low : GoodIn wsL_law wsL_low := goodIn_r _ [56, 57] (by decide +kernel) (by decide +kernel)
set_option maxRecDepth 20000 in
theorem gL_law_L_low : GoodIn wsL_law (va_wsS RL 153 yL_low wsL_low) := goodIn_app (goodIn_of _ (by decide +kernel)) ggL_law_L_low
set_option maxRecDepth 20000 in
theorem ggL_law_L_beams : GoodIn wsL_law wsL_beams := goodIn_r _ [60, 61] (by decide +kernel) (by decide +kernel)
set_option maxRecDepth 20000 in
theorem gL_law_L_beams : GoodIn wsL_law (va_wsS RL 138 yL_beams wsL_beams) := goodIn_app (goodIn_of _ (by decide +kernel)) ggL_law_L_beams
