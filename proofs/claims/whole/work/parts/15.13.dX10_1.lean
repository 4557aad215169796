theorem dX10_next_183 : decode cX10_next 183 = .ok (.goto 20, 3) := by decide +kernel
theorem dX10_next_186 : decode cX10_next 186 = .ok (.aload_n 0, 1) := by decide +kernel
theorem dX10_next_187 : decode cX10_next 187 = .ok (.ldc 129, 2) := by decide +kernel
theorem dX10_next_189 : decode cX10_next 189 = .ok (.invokevirtual 123, 3) := by decide +kernel
theorem dX10_next_192 : decode cX10_next 192 = .ok (.ifCond .eq 9, 3) := by decide +kernel
theorem dX10_next_195 : decode cX10_next 195 = .ok (.sipush 258, 3) := by decide +kernel
theorem dX10_next_198 : decode cX10_next 198 = .ok (.goto 5, 3) := by decide +kernel
theorem dX10_next_201 : decode cX10_next 201 = .ok (.bipush (-3), 2) := by decide +kernel
theorem dX10_next_203 : decode cX10_next 203 = .ok (.ireturn, 1) := by decide +kernel
theorem dX10_next_204 : decode cX10_next 204 = .ok (.aload_n 0, 1) := by decide +kernel
theorem dX10_next_205 : decode cX10_next 205 = .ok (.aload_n 0, 1) := by decide +kernel
theorem dX10_next_206 : decode cX10_next 206 = .ok (.getfield 108, 3) := by decide +kernel
theorem dX10_next_209 : decode cX10_next 209 = .ok (.bipush 48, 2) := by decide +kernel
theorem dX10_next_211 : decode cX10_next 211 = .ok (.bipush 57, 2) := by decide +kernel
theorem dX10_next_213 : decode cX10_next 213 = .ok (.invokevirtual 111, 3) := by decide +kernel
theorem dX10_next_216 : decode cX10_next 216 = .ok (.ifCond .eq 94, 3) := by decide +kernel
theorem dX10_next_219 : decode cX10_next 219 = .ok (.iconst 0, 1) := by decide +kernel
theorem dX10_next_220 : decode cX10_next 220 = .ok (.istore_n 1, 1) := by decide +kernel
theorem dX10_next_221 : decode cX10_next 221 = .ok (.aload_n 0, 1) := by decide +kernel
theorem dX10_next_222 : decode cX10_next 222 = .ok (.aload_n 0, 1) := by decide +kernel
theorem dX10_next_223 : decode cX10_next 223 = .ok (.getfield 88, 3) := by decide +kernel
theorem dX10_next_226 : decode cX10_next 226 = .ok (.bipush 48, 2) := by decide +kernel
theorem dX10_next_228 : decode cX10_next 228 = .ok (.bipush 57, 2) := by decide +kernel
theorem dX10_next_230 : decode cX10_next 230 = .ok (.invokevirtual 111, 3) := by decide +kernel
theorem dX10_next_233 : decode cX10_next 233 = .ok (.ifCond .eq 52, 3) := by decide +kernel
theorem dX10_next_236 : decode cX10_next 236 = .ok (.aload_n 0, 1) := by decide +kernel
theorem dX10_next_237 : decode cX10_next 237 = .ok (.getfield 88, 3) := by decide +kernel
theorem dX10_next_240 : decode cX10_next 240 = .ok (.aload_n 0, 1) := by decide +kernel
theorem dX10_next_241 : decode cX10_next 241 = .ok (.getfield 91, 3) := by decide +kernel
theorem dX10_next_244 : decode cX10_next 244 = .ok (.isub, 1) := by decide +kernel
theorem dX10_next_245 : decode cX10_next 245 = .ok (.bipush 6, 2) := by decide +kernel
theorem dX10_next_247 : decode cX10_next 247 = .ok (.if_icmp .ge 23, 3) := by decide +kernel
theorem dX10_next_250 : decode cX10_next 250 = .ok (.bipush 10, 2) := by decide +kernel
theorem dX10_next_252 : decode cX10_next 252 = .ok (.iload_n 1, 1) := by decide +kernel
theorem dX10_next_253 : decode cX10_next 253 = .ok (.imul, 1) := by decide +kernel
theorem dX10_next_254 : decode cX10_next 254 = .ok (.aload_n 0, 1) := by decide +kernel
theorem dX10_next_255 : decode cX10_next 255 = .ok (.getfield 9, 3) := by decide +kernel
theorem dX10_next_258 : decode cX10_next 258 = .ok (.aload_n 0, 1) := by decide +kernel
theorem dX10_next_259 : decode cX10_next 259 = .ok (.getfield 88, 3) := by decide +kernel
theorem dX10_next_262 : decode cX10_next 262 = .ok (.baload, 1) := by decide +kernel
theorem dX10_next_263 : decode cX10_next 263 = .ok (.iadd, 1) := by decide +kernel
theorem dX10_next_264 : decode cX10_next 264 = .ok (.bipush 48, 2) := by decide +kernel
theorem dX10_next_266 : decode cX10_next 266 = .ok (.isub, 1) := by decide +kernel
theorem dX10_next_267 : decode cX10_next 267 = .ok (.goto 4, 3) := by decide +kernel
theorem dX10_next_270 : decode cX10_next 270 = .ok (.iload_n 1, 1) := by decide +kernel
theorem dX10_next_271 : decode cX10_next 271 = .ok (.istore_n 1, 1) := by decide +kernel
theorem dX10_next_272 : decode cX10_next 272 = .ok (.aload_n 0, 1) := by decide +kernel
theorem dX10_next_273 : decode cX10_next 273 = .ok (.dup, 1) := by decide +kernel
theorem dX10_next_274 : decode cX10_next 274 = .ok (.getfield 88, 3) := by decide +kernel
theorem dX10_next_277 : decode cX10_next 277 = .ok (.iconst 1, 1) := by decide +kernel
theorem dX10_next_278 : decode cX10_next 278 = .ok (.iadd, 1) := by decide +kernel
theorem dX10_next_279 : decode cX10_next 279 = .ok (.putfield 88, 3) := by decide +kernel
theorem dX10_next_282 : decode cX10_next 282 = .ok (.goto (-61), 3) := by decide +kernel
theorem dX10_next_285 : decode cX10_next 285 = .ok (.aload_n 0, 1) := by decide +kernel
theorem dX10_next_286 : decode cX10_next 286 = .ok (.getfield 88, 3) := by decide +kernel
theorem dX10_next_289 : decode cX10_next 289 = .ok (.aload_n 0, 1) := by decide +kernel
theorem dX10_next_290 : decode cX10_next 290 = .ok (.getfield 91, 3) := by decide +kernel
theorem dX10_next_293 : decode cX10_next 293 = .ok (.isub, 1) := by decide +kernel
theorem dX10_next_294 : decode cX10_next 294 = .ok (.bipush 6, 2) := by decide +kernel
theorem dX10_next_296 : decode cX10_next 296 = .ok (.if_icmp .le 8, 3) := by decide +kernel
theorem dX10_next_299 : decode cX10_next 299 = .ok (.bipush (-3), 2) := by decide +kernel
theorem dX10_next_301 : decode cX10_next 301 = .ok (.goto 8, 3) := by decide +kernel
theorem dX10_next_304 : decode cX10_next 304 = .ok (.sipush 1000, 3) := by decide +kernel
theorem dX10_next_307 : decode cX10_next 307 = .ok (.iload_n 1, 1) := by decide +kernel
theorem dX10_next_308 : decode cX10_next 308 = .ok (.iadd, 1) := by decide +kernel
theorem dX10_next_309 : decode cX10_next 309 = .ok (.ireturn, 1) := by decide +kernel
theorem dX10_next_310 : decode cX10_next 310 = .ok (.aload_n 0, 1) := by decide +kernel
theorem dX10_next_311 : decode cX10_next 311 = .ok (.dup, 1) := by decide +kernel
theorem dX10_next_312 : decode cX10_next 312 = .ok (.getfield 88, 3) := by decide +kernel
theorem dX10_next_315 : decode cX10_next 315 = .ok (.iconst 1, 1) := by decide +kernel
theorem dX10_next_316 : decode cX10_next 316 = .ok (.iadd, 1) := by decide +kernel
theorem dX10_next_317 : decode cX10_next 317 = .ok (.putfield 88, 3) := by decide +kernel
theorem dX10_next_320 : decode cX10_next 320 = .ok (.aload_n 0, 1) := by decide +kernel
theorem dX10_next_321 : decode cX10_next 321 = .ok (.getfield 9, 3) := by decide +kernel
theorem dX10_next_324 : decode cX10_next 324 = .ok (.aload_n 0, 1) := by decide +kernel
theorem dX10_next_325 : decode cX10_next 325 = .ok (.getfield 91, 3) := by decide +kernel
theorem dX10_next_328 : decode cX10_next 328 = .ok (.baload, 1) := by decide +kernel
theorem dX10_next_329 : decode cX10_next 329 = .ok (.invokestatic 131, 3) := by decide +kernel
theorem dX10_next_332 : decode cX10_next 332 = .ok (.ifCond .eq 15, 3) := by decide +kernel
theorem dX10_next_335 : decode cX10_next 335 = .ok (.aload_n 0, 1) := by decide +kernel
theorem dX10_next_336 : decode cX10_next 336 = .ok (.getfield 9, 3) := by decide +kernel
theorem dX10_next_339 : decode cX10_next 339 = .ok (.aload_n 0, 1) := by decide +kernel
theorem dX10_next_340 : decode cX10_next 340 = .ok (.getfield 91, 3) := by decide +kernel
theorem dX10_next_343 : decode cX10_next 343 = .ok (.baload, 1) := by decide +kernel
theorem dX10_next_344 : decode cX10_next 344 = .ok (.goto 5, 3) := by decide +kernel
theorem dX10_next_347 : decode cX10_next 347 = .ok (.bipush (-3), 2) := by decide +kernel
theorem dX10_next_349 : decode cX10_next 349 = .ok (.ireturn, 1) := by decide +kernel
theorem dX10_look_0 : decode cX10_look 0 = .ok (.aload_n 0, 1) := by decide +kernel
theorem dX10_look_1 : decode cX10_look 1 = .ok (.aload_n 0, 1) := by decide +kernel
theorem dX10_look_2 : decode cX10_look 2 = .ok (.invokevirtual 134, 3) := by decide +kernel
theorem dX10_look_5 : decode cX10_look 5 = .ok (.putfield 137, 3) := by decide +kernel
theorem dX10_look_8 : decode cX10_look 8 = .ok (.return_, 1) := by decide +kernel
theorem dX10_accept_0 : decode cX10_accept 0 = .ok (.aload_n 0, 1) := by decide +kernel
theorem dX10_accept_1 : decode cX10_accept 1 = .ok (.getfield 21, 3) := by decide +kernel
theorem dX10_accept_4 : decode cX10_accept 4 = .ok (.aload_n 0, 1) := by decide +kernel
theorem dX10_accept_5 : decode cX10_accept 5 = .ok (.getfield 114, 3) := by decide +kernel
theorem dX10_accept_8 : decode cX10_accept 8 = .ok (.aload_n 0, 1) := by decide +kernel
theorem dX10_accept_9 : decode cX10_accept 9 = .ok (.getfield 137, 3) := by decide +kernel
theorem dX10_accept_12 : decode cX10_accept 12 = .ok (.iastore, 1) := by decide +kernel
theorem dX10_accept_13 : decode cX10_accept 13 = .ok (.aload_n 0, 1) := by decide +kernel
theorem dX10_accept_14 : decode cX10_accept 14 = .ok (.dup, 1) := by decide +kernel
theorem dX10_accept_15 : decode cX10_accept 15 = .ok (.getfield 114, 3) := by decide +kernel
theorem dX10_accept_18 : decode cX10_accept 18 = .ok (.iconst 1, 1) := by decide +kernel
theorem dX10_accept_19 : decode cX10_accept 19 = .ok (.iadd, 1) := by decide +kernel
theorem dX10_accept_20 : decode cX10_accept 20 = .ok (.putfield 114, 3) := by decide +kernel
theorem dX10_accept_23 : decode cX10_accept 23 = .ok (.aload_n 0, 1) := by decide +kernel
theorem dX10_accept_24 : decode cX10_accept 24 = .ok (.aload_n 0, 1) := by decide +kernel
theorem dX10_accept_25 : decode cX10_accept 25 = .ok (.getfield 88, 3) := by decide +kernel
theorem dX10_accept_28 : decode cX10_accept 28 = .ok (.putfield 108, 3) := by decide +kernel
theorem dX10_accept_31 : decode cX10_accept 31 = .ok (.aload_n 0, 1) := by decide +kernel
theorem dX10_accept_32 : decode cX10_accept 32 = .ok (.invokevirtual 140, 3) := by decide +kernel
theorem dX10_accept_35 : decode cX10_accept 35 = .ok (.return_, 1) := by decide +kernel
theorem dX10_need_0 : decode cX10_need 0 = .ok (.aload_n 0, 1) := by decide +kernel
theorem dX10_need_1 : decode cX10_need 1 = .ok (.getfield 137, 3) := by decide +kernel
theorem dX10_need_4 : decode cX10_need 4 = .ok (.iload_n 1, 1) := by decide +kernel
theorem dX10_need_5 : decode cX10_need 5 = .ok (.if_icmp .eq 5, 3) := by decide +kernel
theorem dX10_need_8 : decode cX10_need 8 = .ok (.iconst 0, 1) := by decide +kernel
theorem dX10_need_9 : decode cX10_need 9 = .ok (.ireturn, 1) := by decide +kernel
theorem dX10_need_10 : decode cX10_need 10 = .ok (.aload_n 0, 1) := by decide +kernel
theorem dX10_need_11 : decode cX10_need 11 = .ok (.invokevirtual 143, 3) := by decide +kernel
theorem dX10_need_14 : decode cX10_need 14 = .ok (.iconst 1, 1) := by decide +kernel
theorem dX10_need_15 : decode cX10_need 15 = .ok (.ireturn, 1) := by decide +kernel
theorem dX10_opens_0 : decode cX10_opens 0 = .ok (.aload_n 0, 1) := by decide +kernel
theorem dX10_opens_1 : decode cX10_opens 1 = .ok (.getfield 137, 3) := by decide +kernel
theorem dX10_opens_4 : decode cX10_opens 4 = .ok (.iload_n 1, 1) := by decide +kernel
theorem dX10_opens_5 : decode cX10_opens 5 = .ok (.if_icmp .ne 12, 3) := by decide +kernel
theorem dX10_opens_8 : decode cX10_opens 8 = .ok (.aload_n 0, 1) := by decide +kernel
theorem dX10_opens_9 : decode cX10_opens 9 = .ok (.getfield 146, 3) := by decide +kernel
theorem dX10_opens_12 : decode cX10_opens 12 = .ok (.bipush 10, 2) := by decide +kernel
theorem dX10_opens_14 : decode cX10_opens 14 = .ok (.if_icmp .ne 5, 3) := by decide +kernel
theorem dX10_opens_17 : decode cX10_opens 17 = .ok (.iconst 0, 1) := by decide +kernel
theorem dX10_opens_18 : decode cX10_opens 18 = .ok (.ireturn, 1) := by decide +kernel
theorem dX10_opens_19 : decode cX10_opens 19 = .ok (.aload_n 0, 1) := by decide +kernel
theorem dX10_opens_20 : decode cX10_opens 20 = .ok (.dup, 1) := by decide +kernel
theorem dX10_opens_21 : decode cX10_opens 21 = .ok (.getfield 146, 3) := by decide +kernel
theorem dX10_opens_24 : decode cX10_opens 24 = .ok (.iconst 1, 1) := by decide +kernel
theorem dX10_opens_25 : decode cX10_opens 25 = .ok (.iadd, 1) := by decide +kernel
theorem dX10_opens_26 : decode cX10_opens 26 = .ok (.putfield 146, 3) := by decide +kernel
theorem dX10_opens_29 : decode cX10_opens 29 = .ok (.aload_n 0, 1) := by decide +kernel
theorem dX10_opens_30 : decode cX10_opens 30 = .ok (.invokevirtual 143, 3) := by decide +kernel
theorem dX10_opens_33 : decode cX10_opens 33 = .ok (.iconst 1, 1) := by decide +kernel
theorem dX10_opens_34 : decode cX10_opens 34 = .ok (.ireturn, 1) := by decide +kernel
theorem dX10_closes_0 : decode cX10_closes 0 = .ok (.aload_n 0, 1) := by decide +kernel
theorem dX10_closes_1 : decode cX10_closes 1 = .ok (.dup, 1) := by decide +kernel
theorem dX10_closes_2 : decode cX10_closes 2 = .ok (.getfield 146, 3) := by decide +kernel
theorem dX10_closes_5 : decode cX10_closes 5 = .ok (.iconst 1, 1) := by decide +kernel
theorem dX10_closes_6 : decode cX10_closes 6 = .ok (.isub, 1) := by decide +kernel
theorem dX10_closes_7 : decode cX10_closes 7 = .ok (.putfield 146, 3) := by decide +kernel
theorem dX10_closes_10 : decode cX10_closes 10 = .ok (.aload_n 0, 1) := by decide +kernel
theorem dX10_closes_11 : decode cX10_closes 11 = .ok (.iload_n 1, 1) := by decide +kernel
theorem dX10_closes_12 : decode cX10_closes 12 = .ok (.invokevirtual 149, 3) := by decide +kernel
theorem dX10_closes_15 : decode cX10_closes 15 = .ok (.ireturn, 1) := by decide +kernel
theorem dX10_readBlock_0 : decode cX10_readBlock 0 = .ok (.aload_n 0, 1) := by decide +kernel
theorem dX10_readBlock_1 : decode cX10_readBlock 1 = .ok (.invokevirtual 152, 3) := by decide +kernel
theorem dX10_readBlock_4 : decode cX10_readBlock 4 = .ok (.ifCond .ne 5, 3) := by decide +kernel
theorem dX10_readBlock_7 : decode cX10_readBlock 7 = .ok (.iconst 0, 1) := by decide +kernel
theorem dX10_readBlock_8 : decode cX10_readBlock 8 = .ok (.ireturn, 1) := by decide +kernel
theorem dX10_readBlock_9 : decode cX10_readBlock 9 = .ok (.aload_n 0, 1) := by decide +kernel
theorem dX10_readBlock_10 : decode cX10_readBlock 10 = .ok (.getfield 137, 3) := by decide +kernel
theorem dX10_readBlock_13 : decode cX10_readBlock 13 = .ok (.bipush 59, 2) := by decide +kernel
theorem dX10_readBlock_15 : decode cX10_readBlock 15 = .ok (.if_icmp .eq 5, 3) := by decide +kernel
theorem dX10_readBlock_18 : decode cX10_readBlock 18 = .ok (.iconst 1, 1) := by decide +kernel
theorem dX10_readBlock_19 : decode cX10_readBlock 19 = .ok (.ireturn, 1) := by decide +kernel
theorem dX10_readBlock_20 : decode cX10_readBlock 20 = .ok (.aload_n 0, 1) := by decide +kernel
theorem dX10_readBlock_21 : decode cX10_readBlock 21 = .ok (.invokevirtual 143, 3) := by decide +kernel
theorem dX10_readBlock_24 : decode cX10_readBlock 24 = .ok (.goto (-24), 3) := by decide +kernel
theorem dX10_readBraces_0 : decode cX10_readBraces 0 = .ok (.aload_n 0, 1) := by decide +kernel
theorem dX10_readBraces_1 : decode cX10_readBraces 1 = .ok (.bipush 123, 2) := by decide +kernel
theorem dX10_readBraces_3 : decode cX10_readBraces 3 = .ok (.invokevirtual 156, 3) := by decide +kernel
theorem dX10_readBraces_6 : decode cX10_readBraces 6 = .ok (.ifCond .eq 23, 3) := by decide +kernel
theorem dX10_readBraces_9 : decode cX10_readBraces 9 = .ok (.aload_n 0, 1) := by decide +kernel
theorem dX10_readBraces_10 : decode cX10_readBraces 10 = .ok (.invokevirtual 159, 3) := by decide +kernel
theorem dX10_readBraces_13 : decode cX10_readBraces 13 = .ok (.ifCond .eq 16, 3) := by decide +kernel
theorem dX10_readBraces_16 : decode cX10_readBraces 16 = .ok (.aload_n 0, 1) := by decide +kernel
theorem dX10_readBraces_17 : decode cX10_readBraces 17 = .ok (.bipush 125, 2) := by decide +kernel
theorem dX10_readBraces_19 : decode cX10_readBraces 19 = .ok (.invokevirtual 162, 3) := by decide +kernel
theorem dX10_readBraces_22 : decode cX10_readBraces 22 = .ok (.ifCond .eq 7, 3) := by decide +kernel
theorem dX10_readBraces_25 : decode cX10_readBraces 25 = .ok (.iconst 1, 1) := by decide +kernel
theorem dX10_readBraces_26 : decode cX10_readBraces 26 = .ok (.goto 4, 3) := by decide +kernel
theorem dX10_readBraces_29 : decode cX10_readBraces 29 = .ok (.iconst 0, 1) := by decide +kernel
theorem dX10_readBraces_30 : decode cX10_readBraces 30 = .ok (.ireturn, 1) := by decide +kernel
theorem dX10_readDo_0 : decode cX10_readDo 0 = .ok (.aload_n 0, 1) := by decide +kernel
theorem dX10_readDo_1 : decode cX10_readDo 1 = .ok (.getfield 137, 3) := by decide +kernel
theorem dX10_readDo_4 : decode cX10_readDo 4 = .ok (.invokestatic 117, 3) := by decide +kernel
theorem dX10_readDo_7 : decode cX10_readDo 7 = .ok (.ifCond .eq 29, 3) := by decide +kernel
theorem dX10_readDo_10 : decode cX10_readDo 10 = .ok (.aload_n 0, 1) := by decide +kernel
theorem dX10_readDo_11 : decode cX10_readDo 11 = .ok (.invokevirtual 143, 3) := by decide +kernel
theorem dX10_readDo_14 : decode cX10_readDo 14 = .ok (.aload_n 0, 1) := by decide +kernel
theorem dX10_readDo_15 : decode cX10_readDo 15 = .ok (.bipush 61, 2) := by decide +kernel
theorem dX10_readDo_17 : decode cX10_readDo 17 = .ok (.invokevirtual 149, 3) := by decide +kernel
theorem dX10_readDo_20 : decode cX10_readDo 20 = .ok (.ifCond .eq 14, 3) := by decide +kernel
theorem dX10_readDo_23 : decode cX10_readDo 23 = .ok (.aload_n 0, 1) := by decide +kernel
theorem dX10_readDo_24 : decode cX10_readDo 24 = .ok (.invokevirtual 165, 3) := by decide +kernel
theorem dX10_readDo_27 : decode cX10_readDo 27 = .ok (.ifCond .eq 7, 3) := by decide +kernel
theorem dX10_readDo_30 : decode cX10_readDo 30 = .ok (.iconst 1, 1) := by decide +kernel
theorem dX10_readDo_31 : decode cX10_readDo 31 = .ok (.goto 4, 3) := by decide +kernel
theorem dX10_readDo_34 : decode cX10_readDo 34 = .ok (.iconst 0, 1) := by decide +kernel
theorem dX10_readDo_35 : decode cX10_readDo 35 = .ok (.ireturn, 1) := by decide +kernel
theorem dX10_readDo_36 : decode cX10_readDo 36 = .ok (.aload_n 0, 1) := by decide +kernel
theorem dX10_readDo_37 : decode cX10_readDo 37 = .ok (.getfield 137, 3) := by decide +kernel
theorem dX10_readDo_40 : decode cX10_readDo 40 = .ok (.sipush 257, 3) := by decide +kernel
theorem dX10_readDo_43 : decode cX10_readDo 43 = .ok (.if_icmp .ne 7, 3) := by decide +kernel
theorem dX10_readDo_46 : decode cX10_readDo 46 = .ok (.iconst 1, 1) := by decide +kernel
theorem dX10_readDo_47 : decode cX10_readDo 47 = .ok (.goto 4, 3) := by decide +kernel
theorem dX10_readDo_50 : decode cX10_readDo 50 = .ok (.iconst 0, 1) := by decide +kernel
theorem dX10_readDo_51 : decode cX10_readDo 51 = .ok (.istore_n 1, 1) := by decide +kernel
theorem dX10_readDo_52 : decode cX10_readDo 52 = .ok (.iload_n 1, 1) := by decide +kernel
theorem dX10_readDo_53 : decode cX10_readDo 53 = .ok (.ifCond .ne 15, 3) := by decide +kernel
theorem dX10_readDo_56 : decode cX10_readDo 56 = .ok (.aload_n 0, 1) := by decide +kernel
theorem dX10_readDo_57 : decode cX10_readDo 57 = .ok (.getfield 137, 3) := by decide +kernel
theorem dX10_readDo_60 : decode cX10_readDo 60 = .ok (.sipush 256, 3) := by decide +kernel
theorem dX10_readDo_63 : decode cX10_readDo 63 = .ok (.if_icmp .eq 5, 3) := by decide +kernel
theorem dX10_readDo_66 : decode cX10_readDo 66 = .ok (.iconst 0, 1) := by decide +kernel
theorem dX10_readDo_67 : decode cX10_readDo 67 = .ok (.ireturn, 1) := by decide +kernel
theorem dX10_readDo_68 : decode cX10_readDo 68 = .ok (.aload_n 0, 1) := by decide +kernel
theorem dX10_readDo_69 : decode cX10_readDo 69 = .ok (.invokevirtual 143, 3) := by decide +kernel
theorem dX10_readDo_72 : decode cX10_readDo 72 = .ok (.aload_n 0, 1) := by decide +kernel
theorem dX10_readDo_73 : decode cX10_readDo 73 = .ok (.invokevirtual 165, 3) := by decide +kernel
theorem dX10_readDo_76 : decode cX10_readDo 76 = .ok (.ifCond .eq 10, 3) := by decide +kernel
theorem dX10_readDo_79 : decode cX10_readDo 79 = .ok (.aload_n 0, 1) := by decide +kernel
theorem dX10_readDo_80 : decode cX10_readDo 80 = .ok (.invokevirtual 168, 3) := by decide +kernel
theorem dX10_readDo_83 : decode cX10_readDo 83 = .ok (.ifCond .ne 5, 3) := by decide +kernel
theorem dX10_readDo_86 : decode cX10_readDo 86 = .ok (.iconst 0, 1) := by decide +kernel
theorem dX10_readDo_87 : decode cX10_readDo 87 = .ok (.ireturn, 1) := by decide +kernel
theorem dX10_readDo_88 : decode cX10_readDo 88 = .ok (.iload_n 1, 1) := by decide +kernel
theorem dX10_readDo_89 : decode cX10_readDo 89 = .ok (.ifCond .eq 13, 3) := by decide +kernel
theorem dX10_readDo_92 : decode cX10_readDo 92 = .ok (.aload_n 0, 1) := by decide +kernel
theorem dX10_readDo_93 : decode cX10_readDo 93 = .ok (.getfield 137, 3) := by decide +kernel
theorem dX10_readDo_96 : decode cX10_readDo 96 = .ok (.sipush 258, 3) := by decide +kernel
theorem dX10_readDo_99 : decode cX10_readDo 99 = .ok (.if_icmp .eq 5, 3) := by decide +kernel
theorem dX10_readDo_102 : decode cX10_readDo 102 = .ok (.iconst 1, 1) := by decide +kernel
theorem dX10_readDo_103 : decode cX10_readDo 103 = .ok (.ireturn, 1) := by decide +kernel
theorem dX10_readDo_104 : decode cX10_readDo 104 = .ok (.aload_n 0, 1) := by decide +kernel
theorem dX10_readDo_105 : decode cX10_readDo 105 = .ok (.invokevirtual 143, 3) := by decide +kernel
theorem dX10_readDo_108 : decode cX10_readDo 108 = .ok (.aload_n 0, 1) := by decide +kernel
theorem dX10_readDo_109 : decode cX10_readDo 109 = .ok (.invokevirtual 168, 3) := by decide +kernel
theorem dX10_readDo_112 : decode cX10_readDo 112 = .ok (.ireturn, 1) := by decide +kernel
theorem dX10_readExpr_0 : decode cX10_readExpr 0 = .ok (.aload_n 0, 1) := by decide +kernel
theorem dX10_readExpr_1 : decode cX10_readExpr 1 = .ok (.invokevirtual 171, 3) := by decide +kernel
theorem dX10_readExpr_4 : decode cX10_readExpr 4 = .ok (.ifCond .ne 5, 3) := by decide +kernel
theorem dX10_readExpr_7 : decode cX10_readExpr 7 = .ok (.iconst 0, 1) := by decide +kernel
theorem dX10_readExpr_8 : decode cX10_readExpr 8 = .ok (.ireturn, 1) := by decide +kernel
theorem dX10_readExpr_9 : decode cX10_readExpr 9 = .ok (.aload_n 0, 1) := by decide +kernel
theorem dX10_readExpr_10 : decode cX10_readExpr 10 = .ok (.getfield 137, 3) := by decide +kernel
theorem dX10_readExpr_13 : decode cX10_readExpr 13 = .ok (.bipush 60, 2) := by decide +kernel
theorem dX10_readExpr_15 : decode cX10_readExpr 15 = .ok (.if_icmp .eq 5, 3) := by decide +kernel
theorem dX10_readExpr_18 : decode cX10_readExpr 18 = .ok (.iconst 1, 1) := by decide +kernel
theorem dX10_readExpr_19 : decode cX10_readExpr 19 = .ok (.ireturn, 1) := by decide +kernel
theorem dX10_readExpr_20 : decode cX10_readExpr 20 = .ok (.aload_n 0, 1) := by decide +kernel
theorem dX10_readExpr_21 : decode cX10_readExpr 21 = .ok (.invokevirtual 143, 3) := by decide +kernel
theorem dX10_readExpr_24 : decode cX10_readExpr 24 = .ok (.aload_n 0, 1) := by decide +kernel
theorem dX10_readExpr_25 : decode cX10_readExpr 25 = .ok (.invokevirtual 171, 3) := by decide +kernel
theorem dX10_readExpr_28 : decode cX10_readExpr 28 = .ok (.ireturn, 1) := by decide +kernel
theorem dX10_readSum_0 : decode cX10_readSum 0 = .ok (.aload_n 0, 1) := by decide +kernel
theorem dX10_readSum_1 : decode cX10_readSum 1 = .ok (.invokevirtual 174, 3) := by decide +kernel
theorem dX10_readSum_4 : decode cX10_readSum 4 = .ok (.ifCond .ne 5, 3) := by decide +kernel
theorem dX10_readSum_7 : decode cX10_readSum 7 = .ok (.iconst 0, 1) := by decide +kernel
theorem dX10_readSum_8 : decode cX10_readSum 8 = .ok (.ireturn, 1) := by decide +kernel
theorem dX10_readSum_9 : decode cX10_readSum 9 = .ok (.aload_n 0, 1) := by decide +kernel
theorem dX10_readSum_10 : decode cX10_readSum 10 = .ok (.getfield 137, 3) := by decide +kernel
theorem dX10_readSum_13 : decode cX10_readSum 13 = .ok (.bipush 43, 2) := by decide +kernel
theorem dX10_readSum_15 : decode cX10_readSum 15 = .ok (.if_icmp .eq 14, 3) := by decide +kernel
theorem dX10_readSum_18 : decode cX10_readSum 18 = .ok (.aload_n 0, 1) := by decide +kernel
theorem dX10_readSum_19 : decode cX10_readSum 19 = .ok (.getfield 137, 3) := by decide +kernel
theorem dX10_readSum_22 : decode cX10_readSum 22 = .ok (.bipush 45, 2) := by decide +kernel
theorem dX10_readSum_24 : decode cX10_readSum 24 = .ok (.if_icmp .eq 5, 3) := by decide +kernel
theorem dX10_readSum_27 : decode cX10_readSum 27 = .ok (.iconst 1, 1) := by decide +kernel
theorem dX10_readSum_28 : decode cX10_readSum 28 = .ok (.ireturn, 1) := by decide +kernel
theorem dX10_readSum_29 : decode cX10_readSum 29 = .ok (.aload_n 0, 1) := by decide +kernel
theorem dX10_readSum_30 : decode cX10_readSum 30 = .ok (.invokevirtual 143, 3) := by decide +kernel
theorem dX10_readSum_33 : decode cX10_readSum 33 = .ok (.goto (-33), 3) := by decide +kernel
theorem dX10_readTerm_0 : decode cX10_readTerm 0 = .ok (.aload_n 0, 1) := by decide +kernel
theorem dX10_readTerm_1 : decode cX10_readTerm 1 = .ok (.invokevirtual 177, 3) := by decide +kernel
theorem dX10_readTerm_4 : decode cX10_readTerm 4 = .ok (.ifCond .ne 5, 3) := by decide +kernel
theorem dX10_readTerm_7 : decode cX10_readTerm 7 = .ok (.iconst 0, 1) := by decide +kernel
theorem dX10_readTerm_8 : decode cX10_readTerm 8 = .ok (.ireturn, 1) := by decide +kernel
theorem dX10_readTerm_9 : decode cX10_readTerm 9 = .ok (.aload_n 0, 1) := by decide +kernel
theorem dX10_readTerm_10 : decode cX10_readTerm 10 = .ok (.getfield 137, 3) := by decide +kernel
theorem dX10_readTerm_13 : decode cX10_readTerm 13 = .ok (.bipush 42, 2) := by decide +kernel
theorem dX10_readTerm_15 : decode cX10_readTerm 15 = .ok (.if_icmp .eq 23, 3) := by decide +kernel
theorem dX10_readTerm_18 : decode cX10_readTerm 18 = .ok (.aload_n 0, 1) := by decide +kernel
theorem dX10_readTerm_19 : decode cX10_readTerm 19 = .ok (.getfield 137, 3) := by decide +kernel
theorem dX10_readTerm_22 : decode cX10_readTerm 22 = .ok (.bipush 47, 2) := by decide +kernel
theorem dX10_readTerm_24 : decode cX10_readTerm 24 = .ok (.if_icmp .eq 14, 3) := by decide +kernel
theorem dX10_readTerm_27 : decode cX10_readTerm 27 = .ok (.aload_n 0, 1) := by decide +kernel
theorem dX10_readTerm_28 : decode cX10_readTerm 28 = .ok (.getfield 137, 3) := by decide +kernel
theorem dX10_readTerm_31 : decode cX10_readTerm 31 = .ok (.bipush 37, 2) := by decide +kernel
theorem dX10_readTerm_33 : decode cX10_readTerm 33 = .ok (.if_icmp .eq 5, 3) := by decide +kernel
theorem dX10_readTerm_36 : decode cX10_readTerm 36 = .ok (.iconst 1, 1) := by decide +kernel
theorem dX10_readTerm_37 : decode cX10_readTerm 37 = .ok (.ireturn, 1) := by decide +kernel
theorem dX10_readTerm_38 : decode cX10_readTerm 38 = .ok (.aload_n 0, 1) := by decide +kernel
theorem dX10_readTerm_39 : decode cX10_readTerm 39 = .ok (.invokevirtual 143, 3) := by decide +kernel
theorem dX10_readTerm_42 : decode cX10_readTerm 42 = .ok (.goto (-42), 3) := by decide +kernel
theorem dX10_readFactor_0 : decode cX10_readFactor 0 = .ok (.aload_n 0, 1) := by decide +kernel
theorem dX10_readFactor_1 : decode cX10_readFactor 1 = .ok (.getfield 137, 3) := by decide +kernel
theorem dX10_readFactor_4 : decode cX10_readFactor 4 = .ok (.invokestatic 117, 3) := by decide +kernel
theorem dX10_readFactor_7 : decode cX10_readFactor 7 = .ok (.ifCond .ne 13, 3) := by decide +kernel
theorem dX10_readFactor_10 : decode cX10_readFactor 10 = .ok (.aload_n 0, 1) := by decide +kernel
theorem dX10_readFactor_11 : decode cX10_readFactor 11 = .ok (.getfield 137, 3) := by decide +kernel
theorem dX10_readFactor_14 : decode cX10_readFactor 14 = .ok (.sipush 1000, 3) := by decide +kernel
theorem dX10_readFactor_17 : decode cX10_readFactor 17 = .ok (.if_icmp .lt 9, 3) := by decide +kernel
theorem dX10_readFactor_20 : decode cX10_readFactor 20 = .ok (.aload_n 0, 1) := by decide +kernel
theorem dX10_readFactor_21 : decode cX10_readFactor 21 = .ok (.invokevirtual 143, 3) := by decide +kernel
theorem dX10_readFactor_24 : decode cX10_readFactor 24 = .ok (.iconst 1, 1) := by decide +kernel
theorem dX10_readFactor_25 : decode cX10_readFactor 25 = .ok (.ireturn, 1) := by decide +kernel
theorem dX10_readFactor_26 : decode cX10_readFactor 26 = .ok (.aload_n 0, 1) := by decide +kernel
theorem dX10_readFactor_27 : decode cX10_readFactor 27 = .ok (.bipush 40, 2) := by decide +kernel
theorem dX10_readFactor_29 : decode cX10_readFactor 29 = .ok (.invokevirtual 156, 3) := by decide +kernel
theorem dX10_readFactor_32 : decode cX10_readFactor 32 = .ok (.ifCond .eq 23, 3) := by decide +kernel
theorem dX10_readFactor_35 : decode cX10_readFactor 35 = .ok (.aload_n 0, 1) := by decide +kernel
theorem dX10_readFactor_36 : decode cX10_readFactor 36 = .ok (.invokevirtual 165, 3) := by decide +kernel
theorem dX10_readFactor_39 : decode cX10_readFactor 39 = .ok (.ifCond .eq 16, 3) := by decide +kernel
theorem dX10_readFactor_42 : decode cX10_readFactor 42 = .ok (.aload_n 0, 1) := by decide +kernel
theorem dX10_readFactor_43 : decode cX10_readFactor 43 = .ok (.bipush 41, 2) := by decide +kernel
theorem dX10_readFactor_45 : decode cX10_readFactor 45 = .ok (.invokevirtual 162, 3) := by decide +kernel
theorem dX10_readFactor_48 : decode cX10_readFactor 48 = .ok (.ifCond .eq 7, 3) := by decide +kernel
theorem dX10_readFactor_51 : decode cX10_readFactor 51 = .ok (.iconst 1, 1) := by decide +kernel
theorem dX10_readFactor_52 : decode cX10_readFactor 52 = .ok (.goto 4, 3) := by decide +kernel
theorem dX10_readFactor_55 : decode cX10_readFactor 55 = .ok (.iconst 0, 1) := by decide +kernel
theorem dX10_readFactor_56 : decode cX10_readFactor 56 = .ok (.ireturn, 1) := by decide +kernel
theorem dX10_read_0 : decode cX10_read 0 = .ok (.aload_n 0, 1) := by decide +kernel
theorem dX10_read_1 : decode cX10_read 1 = .ok (.iconst 0, 1) := by decide +kernel
theorem dX10_read_2 : decode cX10_read 2 = .ok (.putfield 79, 3) := by decide +kernel
theorem dX10_read_5 : decode cX10_read 5 = .ok (.aload_n 0, 1) := by decide +kernel
theorem dX10_read_6 : decode cX10_read 6 = .ok (.aload_n 0, 1) := by decide +kernel
theorem dX10_read_7 : decode cX10_read 7 = .ok (.getfield 82, 3) := by decide +kernel
theorem dX10_read_10 : decode cX10_read 10 = .ok (.putfield 85, 3) := by decide +kernel
theorem dX10_read_13 : decode cX10_read 13 = .ok (.aload_n 0, 1) := by decide +kernel
theorem dX10_read_14 : decode cX10_read 14 = .ok (.iconst 0, 1) := by decide +kernel
theorem dX10_read_15 : decode cX10_read 15 = .ok (.putfield 82, 3) := by decide +kernel
theorem dX10_read_18 : decode cX10_read 18 = .ok (.aload_n 0, 1) := by decide +kernel
theorem dX10_read_19 : decode cX10_read 19 = .ok (.iconst 0, 1) := by decide +kernel
theorem dX10_read_20 : decode cX10_read 20 = .ok (.putfield 108, 3) := by decide +kernel
theorem dX10_read_23 : decode cX10_read 23 = .ok (.aload_n 0, 1) := by decide +kernel
theorem dX10_read_24 : decode cX10_read 24 = .ok (.iconst 0, 1) := by decide +kernel
theorem dX10_read_25 : decode cX10_read 25 = .ok (.putfield 114, 3) := by decide +kernel
theorem dX10_read_28 : decode cX10_read 28 = .ok (.aload_n 0, 1) := by decide +kernel
theorem dX10_read_29 : decode cX10_read 29 = .ok (.iconst 0, 1) := by decide +kernel
theorem dX10_read_30 : decode cX10_read 30 = .ok (.putfield 146, 3) := by decide +kernel
theorem dX10_read_33 : decode cX10_read 33 = .ok (.aload_n 0, 1) := by decide +kernel
theorem dX10_read_34 : decode cX10_read 34 = .ok (.invokevirtual 140, 3) := by decide +kernel
theorem dX10_read_37 : decode cX10_read 37 = .ok (.aload_n 0, 1) := by decide +kernel
theorem dX10_read_38 : decode cX10_read 38 = .ok (.invokevirtual 159, 3) := by decide +kernel
theorem dX10_read_41 : decode cX10_read 41 = .ok (.ifCond .eq 16, 3) := by decide +kernel
theorem dX10_read_44 : decode cX10_read 44 = .ok (.aload_n 0, 1) := by decide +kernel
theorem dX10_read_45 : decode cX10_read 45 = .ok (.getfield 137, 3) := by decide +kernel
theorem dX10_read_48 : decode cX10_read 48 = .ok (.bipush (-2), 2) := by decide +kernel
theorem dX10_read_50 : decode cX10_read 50 = .ok (.if_icmp .ne 7, 3) := by decide +kernel
theorem dX10_read_53 : decode cX10_read 53 = .ok (.iconst 1, 1) := by decide +kernel
theorem dX10_read_54 : decode cX10_read 54 = .ok (.goto 4, 3) := by decide +kernel
theorem dX10_read_57 : decode cX10_read 57 = .ok (.iconst 0, 1) := by decide +kernel
theorem dX10_read_58 : decode cX10_read 58 = .ok (.istore_n 1, 1) := by decide +kernel
theorem dX10_read_59 : decode cX10_read 59 = .ok (.aload_n 0, 1) := by decide +kernel
theorem dX10_read_60 : decode cX10_read 60 = .ok (.iload_n 1, 1) := by decide +kernel
theorem dX10_read_61 : decode cX10_read 61 = .ok (.ifCond .eq 7, 3) := by decide +kernel
theorem dX10_read_64 : decode cX10_read 64 = .ok (.iconst (-1), 1) := by decide +kernel
theorem dX10_read_65 : decode cX10_read 65 = .ok (.goto 7, 3) := by decide +kernel
theorem dX10_read_68 : decode cX10_read 68 = .ok (.aload_n 0, 1) := by decide +kernel
theorem dX10_read_69 : decode cX10_read 69 = .ok (.getfield 91, 3) := by decide +kernel
theorem dX10_read_72 : decode cX10_read 72 = .ok (.putfield 13, 3) := by decide +kernel
theorem dX10_read_75 : decode cX10_read 75 = .ok (.aload_n 0, 1) := by decide +kernel
theorem dX10_read_76 : decode cX10_read 76 = .ok (.iload_n 1, 1) := by decide +kernel
theorem dX10_read_77 : decode cX10_read 77 = .ok (.ifCond .ne 7, 3) := by decide +kernel
theorem dX10_read_80 : decode cX10_read 80 = .ok (.iconst 1, 1) := by decide +kernel
theorem dX10_read_81 : decode cX10_read 81 = .ok (.goto 4, 3) := by decide +kernel
theorem dX10_read_84 : decode cX10_read 84 = .ok (.iconst 0, 1) := by decide +kernel
theorem dX10_read_85 : decode cX10_read 85 = .ok (.iconst 1, 1) := by decide +kernel
theorem dX10_read_86 : decode cX10_read 86 = .ok (.invokevirtual 180, 3) := by decide +kernel
theorem dX10_read_89 : decode cX10_read 89 = .ok (.ifCond .eq 5, 3) := by decide +kernel
theorem dX10_read_92 : decode cX10_read 92 = .ok (.iconst 0, 1) := by decide +kernel
theorem dX10_read_93 : decode cX10_read 93 = .ok (.ireturn, 1) := by decide +kernel
theorem dX10_read_94 : decode cX10_read 94 = .ok (.aload_n 0, 1) := by decide +kernel
theorem dX10_read_95 : decode cX10_read 95 = .ok (.aload_n 0, 1) := by decide +kernel
theorem dX10_read_96 : decode cX10_read 96 = .ok (.getfield 114, 3) := by decide +kernel
theorem dX10_read_99 : decode cX10_read 99 = .ok (.putfield 184, 3) := by decide +kernel
theorem dX10_read_102 : decode cX10_read 102 = .ok (.iconst 0, 1) := by decide +kernel
theorem dX10_read_103 : decode cX10_read 103 = .ok (.istore_n 2, 1) := by decide +kernel
theorem dX10_read_104 : decode cX10_read 104 = .ok (.iload_n 2, 1) := by decide +kernel
theorem dX10_read_105 : decode cX10_read 105 = .ok (.aload_n 0, 1) := by decide +kernel
theorem dX10_read_106 : decode cX10_read 106 = .ok (.getfield 184, 3) := by decide +kernel
theorem dX10_read_109 : decode cX10_read 109 = .ok (.if_icmp .ge 21, 3) := by decide +kernel
theorem dX10_read_112 : decode cX10_read 112 = .ok (.aload_n 0, 1) := by decide +kernel
theorem dX10_read_113 : decode cX10_read 113 = .ok (.getfield 24, 3) := by decide +kernel
theorem dX10_read_116 : decode cX10_read 116 = .ok (.iload_n 2, 1) := by decide +kernel
theorem dX10_read_117 : decode cX10_read 117 = .ok (.aload_n 0, 1) := by decide +kernel
theorem dX10_read_118 : decode cX10_read 118 = .ok (.getfield 21, 3) := by decide +kernel
theorem dX10_read_121 : decode cX10_read 121 = .ok (.iload_n 2, 1) := by decide +kernel
theorem dX10_read_122 : decode cX10_read 122 = .ok (.iaload, 1) := by decide +kernel
theorem dX10_read_123 : decode cX10_read 123 = .ok (.iastore, 1) := by decide +kernel
theorem dX10_read_124 : decode cX10_read 124 = .ok (.iinc 2 1, 3) := by decide +kernel
theorem dX10_read_127 : decode cX10_read 127 = .ok (.goto (-23), 3) := by decide +kernel
theorem dX10_read_130 : decode cX10_read 130 = .ok (.aload_n 0, 1) := by decide +kernel
theorem dX10_read_131 : decode cX10_read 131 = .ok (.dup, 1) := by decide +kernel
theorem dX10_read_132 : decode cX10_read 132 = .ok (.getfield 187, 3) := by decide +kernel
theorem dX10_read_135 : decode cX10_read 135 = .ok (.iconst 1, 1) := by decide +kernel
theorem dX10_read_136 : decode cX10_read 136 = .ok (.iadd, 1) := by decide +kernel
theorem dX10_read_137 : decode cX10_read 137 = .ok (.putfield 187, 3) := by decide +kernel
theorem dX10_read_140 : decode cX10_read 140 = .ok (.aload_n 0, 1) := by decide +kernel
theorem dX10_read_141 : decode cX10_read 141 = .ok (.invokevirtual 190, 3) := by decide +kernel
theorem dX10_read_144 : decode cX10_read 144 = .ok (.aload_n 0, 1) := by decide +kernel
