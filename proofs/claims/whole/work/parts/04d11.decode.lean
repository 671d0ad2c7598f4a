theorem d_Mac_step_0 : decode b_Mac_step 0 = .ok (.aload_n 0, 1) := by decide +kernel
theorem d_Mac_step_1 : decode b_Mac_step 1 = .ok (.getfield 12, 3) := by decide +kernel
theorem d_Mac_step_4 : decode b_Mac_step 4 = .ok (.aload_n 1, 1) := by decide +kernel
theorem d_Mac_step_5 : decode b_Mac_step 5 = .ok (.getfield 113, 3) := by decide +kernel
theorem d_Mac_step_8 : decode b_Mac_step 8 = .ok (.aload_n 1, 1) := by decide +kernel
theorem d_Mac_step_9 : decode b_Mac_step 9 = .ok (.getfield 116, 3) := by decide +kernel
theorem d_Mac_step_12 : decode b_Mac_step 12 = .ok (.invokevirtual 119, 3) := by decide +kernel
theorem d_Mac_step_15 : decode b_Mac_step 15 = .ok (.istore_n 2, 1) := by decide +kernel
theorem d_Mac_step_16 : decode b_Mac_step 16 = .ok (.iload_n 2, 1) := by decide +kernel
theorem d_Mac_step_17 : decode b_Mac_step 17 = .ok (.bipush 31, 2) := by decide +kernel
theorem d_Mac_step_19 : decode b_Mac_step 19 = .ok (.iand, 1) := by decide +kernel
theorem d_Mac_step_20 : decode b_Mac_step 20 = .ok (.istore_n 3, 1) := by decide +kernel
theorem d_Mac_step_21 : decode b_Mac_step 21 = .ok (.iload_n 2, 1) := by decide +kernel
theorem d_Mac_step_22 : decode b_Mac_step 22 = .ok (.iconst 5, 1) := by decide +kernel
theorem d_Mac_step_23 : decode b_Mac_step 23 = .ok (.ishr, 1) := by decide +kernel
theorem d_Mac_step_24 : decode b_Mac_step 24 = .ok (.istore 4, 2) := by decide +kernel
theorem d_Mac_step_26 : decode b_Mac_step 26 = .ok (.aload_n 0, 1) := by decide +kernel
theorem d_Mac_step_27 : decode b_Mac_step 27 = .ok (.aload_n 1, 1) := by decide +kernel
theorem d_Mac_step_28 : decode b_Mac_step 28 = .ok (.iload_n 3, 1) := by decide +kernel
theorem d_Mac_step_29 : decode b_Mac_step 29 = .ok (.invokevirtual 123, 3) := by decide +kernel
theorem d_Mac_step_32 : decode b_Mac_step 32 = .ok (.istore 5, 2) := by decide +kernel
theorem d_Mac_step_34 : decode b_Mac_step 34 = .ok (.aload_n 1, 1) := by decide +kernel
theorem d_Mac_step_35 : decode b_Mac_step 35 = .ok (.getfield 127, 3) := by decide +kernel
theorem d_Mac_step_38 : decode b_Mac_step 38 = .ok (.bipush 12, 2) := by decide +kernel
theorem d_Mac_step_40 : decode b_Mac_step 40 = .ok (.if_icmp .ne 14, 3) := by decide +kernel
theorem d_Mac_step_43 : decode b_Mac_step 43 = .ok (.iload_n 3, 1) := by decide +kernel
theorem d_Mac_step_44 : decode b_Mac_step 44 = .ok (.invokestatic 130, 3) := by decide +kernel
theorem d_Mac_step_47 : decode b_Mac_step 47 = .ok (.ifCond .eq 7, 3) := by decide +kernel
theorem d_Mac_step_50 : decode b_Mac_step 50 = .ok (.iconst 1, 1) := by decide +kernel
theorem d_Mac_step_51 : decode b_Mac_step 51 = .ok (.goto 4, 3) := by decide +kernel
theorem d_Mac_step_54 : decode b_Mac_step 54 = .ok (.iconst 0, 1) := by decide +kernel
theorem d_Mac_step_55 : decode b_Mac_step 55 = .ok (.istore 6, 2) := by decide +kernel
theorem d_Mac_step_57 : decode b_Mac_step 57 = .ok (.aload_n 1, 1) := by decide +kernel
theorem d_Mac_step_58 : decode b_Mac_step 58 = .ok (.getfield 104, 3) := by decide +kernel
theorem d_Mac_step_61 : decode b_Mac_step 61 = .ok (.iload 5, 2) := by decide +kernel
theorem d_Mac_step_63 : decode b_Mac_step 63 = .ok (.if_icmp .lt 21, 3) := by decide +kernel
theorem d_Mac_step_66 : decode b_Mac_step 66 = .ok (.aload_n 1, 1) := by decide +kernel
theorem d_Mac_step_67 : decode b_Mac_step 67 = .ok (.getfield 127, 3) := by decide +kernel
theorem d_Mac_step_70 : decode b_Mac_step 70 = .ok (.iload_n 3, 1) := by decide +kernel
theorem d_Mac_step_71 : decode b_Mac_step 71 = .ok (.iload 4, 2) := by decide +kernel
theorem d_Mac_step_73 : decode b_Mac_step 73 = .ok (.invokestatic 134, 3) := by decide +kernel
theorem d_Mac_step_76 : decode b_Mac_step 76 = .ok (.if_icmp .lt 8, 3) := by decide +kernel
theorem d_Mac_step_79 : decode b_Mac_step 79 = .ok (.iload 6, 2) := by decide +kernel
theorem d_Mac_step_81 : decode b_Mac_step 81 = .ok (.ifCond .eq 8, 3) := by decide +kernel
theorem d_Mac_step_84 : decode b_Mac_step 84 = .ok (.aload_n 1, 1) := by decide +kernel
theorem d_Mac_step_85 : decode b_Mac_step 85 = .ok (.invokevirtual 137, 3) := by decide +kernel
theorem d_Mac_step_88 : decode b_Mac_step 88 = .ok (.return_, 1) := by decide +kernel
theorem d_Mac_step_89 : decode b_Mac_step 89 = .ok (.aload_n 1, 1) := by decide +kernel
theorem d_Mac_step_90 : decode b_Mac_step 90 = .ok (.dup, 1) := by decide +kernel
theorem d_Mac_step_91 : decode b_Mac_step 91 = .ok (.getfield 104, 3) := by decide +kernel
theorem d_Mac_step_94 : decode b_Mac_step 94 = .ok (.iload 5, 2) := by decide +kernel
theorem d_Mac_step_96 : decode b_Mac_step 96 = .ok (.isub, 1) := by decide +kernel
theorem d_Mac_step_97 : decode b_Mac_step 97 = .ok (.putfield 104, 3) := by decide +kernel
theorem d_Mac_step_100 : decode b_Mac_step 100 = .ok (.aload_n 1, 1) := by decide +kernel
theorem d_Mac_step_101 : decode b_Mac_step 101 = .ok (.dup, 1) := by decide +kernel
theorem d_Mac_step_102 : decode b_Mac_step 102 = .ok (.getfield 116, 3) := by decide +kernel
theorem d_Mac_step_105 : decode b_Mac_step 105 = .ok (.iconst 1, 1) := by decide +kernel
theorem d_Mac_step_106 : decode b_Mac_step 106 = .ok (.iadd, 1) := by decide +kernel
theorem d_Mac_step_107 : decode b_Mac_step 107 = .ok (.putfield 116, 3) := by decide +kernel
theorem d_Mac_step_110 : decode b_Mac_step 110 = .ok (.iload_n 3, 1) := by decide +kernel
theorem d_Mac_step_111 : decode b_Mac_step 111 = .ok (.tableswitch 257 0 28 #[129, 257, 138, 257, 146, 257, 257, 257, 257, 257, 257, 257, 155, 167, 257, 175, 257, 257, 257, 257, 257, 257, 183, 191, 199, 207, 225, 237, 249], 129) := by decide +kernel
theorem d_Mac_step_240 : decode b_Mac_step 240 = .ok (.aload_n 1, 1) := by decide +kernel
theorem d_Mac_step_241 : decode b_Mac_step 241 = .ok (.iconst 1, 1) := by decide +kernel
theorem d_Mac_step_242 : decode b_Mac_step 242 = .ok (.iconst 0, 1) := by decide +kernel
theorem d_Mac_step_243 : decode b_Mac_step 243 = .ok (.invokevirtual 140, 3) := by decide +kernel
theorem d_Mac_step_246 : decode b_Mac_step 246 = .ok (.goto 134, 3) := by decide +kernel
theorem d_Mac_step_249 : decode b_Mac_step 249 = .ok (.aload_n 1, 1) := by decide +kernel
theorem d_Mac_step_250 : decode b_Mac_step 250 = .ok (.invokevirtual 144, 3) := by decide +kernel
theorem d_Mac_step_253 : decode b_Mac_step 253 = .ok (.pop, 1) := by decide +kernel
theorem d_Mac_step_254 : decode b_Mac_step 254 = .ok (.goto 126, 3) := by decide +kernel
theorem d_Mac_step_257 : decode b_Mac_step 257 = .ok (.aload_n 1, 1) := by decide +kernel
theorem d_Mac_step_258 : decode b_Mac_step 258 = .ok (.iload 4, 2) := by decide +kernel
theorem d_Mac_step_260 : decode b_Mac_step 260 = .ok (.invokevirtual 148, 3) := by decide +kernel
theorem d_Mac_step_263 : decode b_Mac_step 263 = .ok (.goto 117, 3) := by decide +kernel
theorem d_Mac_step_266 : decode b_Mac_step 266 = .ok (.aload_n 0, 1) := by decide +kernel
theorem d_Mac_step_267 : decode b_Mac_step 267 = .ok (.aload_n 1, 1) := by decide +kernel
theorem d_Mac_step_268 : decode b_Mac_step 268 = .ok (.aload_n 1, 1) := by decide +kernel
theorem d_Mac_step_269 : decode b_Mac_step 269 = .ok (.invokevirtual 144, 3) := by decide +kernel
theorem d_Mac_step_272 : decode b_Mac_step 272 = .ok (.invokevirtual 151, 3) := by decide +kernel
theorem d_Mac_step_275 : decode b_Mac_step 275 = .ok (.goto 105, 3) := by decide +kernel
theorem d_Mac_step_278 : decode b_Mac_step 278 = .ok (.aload_n 0, 1) := by decide +kernel
theorem d_Mac_step_279 : decode b_Mac_step 279 = .ok (.aload_n 1, 1) := by decide +kernel
theorem d_Mac_step_280 : decode b_Mac_step 280 = .ok (.invokevirtual 155, 3) := by decide +kernel
theorem d_Mac_step_283 : decode b_Mac_step 283 = .ok (.goto 97, 3) := by decide +kernel
theorem d_Mac_step_286 : decode b_Mac_step 286 = .ok (.aload_n 0, 1) := by decide +kernel
theorem d_Mac_step_287 : decode b_Mac_step 287 = .ok (.aload_n 1, 1) := by decide +kernel
theorem d_Mac_step_288 : decode b_Mac_step 288 = .ok (.invokevirtual 158, 3) := by decide +kernel
theorem d_Mac_step_291 : decode b_Mac_step 291 = .ok (.goto 89, 3) := by decide +kernel
theorem d_Mac_step_294 : decode b_Mac_step 294 = .ok (.aload_n 0, 1) := by decide +kernel
theorem d_Mac_step_295 : decode b_Mac_step 295 = .ok (.aload_n 1, 1) := by decide +kernel
theorem d_Mac_step_296 : decode b_Mac_step 296 = .ok (.invokevirtual 161, 3) := by decide +kernel
theorem d_Mac_step_299 : decode b_Mac_step 299 = .ok (.goto 81, 3) := by decide +kernel
theorem d_Mac_step_302 : decode b_Mac_step 302 = .ok (.aload_n 0, 1) := by decide +kernel
theorem d_Mac_step_303 : decode b_Mac_step 303 = .ok (.aload_n 1, 1) := by decide +kernel
theorem d_Mac_step_304 : decode b_Mac_step 304 = .ok (.invokevirtual 164, 3) := by decide +kernel
theorem d_Mac_step_307 : decode b_Mac_step 307 = .ok (.goto 73, 3) := by decide +kernel
theorem d_Mac_step_310 : decode b_Mac_step 310 = .ok (.aload_n 0, 1) := by decide +kernel
theorem d_Mac_step_311 : decode b_Mac_step 311 = .ok (.aload_n 1, 1) := by decide +kernel
theorem d_Mac_step_312 : decode b_Mac_step 312 = .ok (.invokevirtual 167, 3) := by decide +kernel
theorem d_Mac_step_315 : decode b_Mac_step 315 = .ok (.goto 65, 3) := by decide +kernel
theorem d_Mac_step_318 : decode b_Mac_step 318 = .ok (.aload_n 0, 1) := by decide +kernel
theorem d_Mac_step_319 : decode b_Mac_step 319 = .ok (.getfield 21, 3) := by decide +kernel
theorem d_Mac_step_322 : decode b_Mac_step 322 = .ok (.aload_n 1, 1) := by decide +kernel
theorem d_Mac_step_323 : decode b_Mac_step 323 = .ok (.getfield 170, 3) := by decide +kernel
theorem d_Mac_step_326 : decode b_Mac_step 326 = .ok (.aload_n 1, 1) := by decide +kernel
theorem d_Mac_step_327 : decode b_Mac_step 327 = .ok (.invokevirtual 144, 3) := by decide +kernel
theorem d_Mac_step_330 : decode b_Mac_step 330 = .ok (.invokevirtual 173, 3) := by decide +kernel
theorem d_Mac_step_333 : decode b_Mac_step 333 = .ok (.goto 47, 3) := by decide +kernel
theorem d_Mac_step_336 : decode b_Mac_step 336 = .ok (.aload_n 1, 1) := by decide +kernel
theorem d_Mac_step_337 : decode b_Mac_step 337 = .ok (.iconst 1, 1) := by decide +kernel
theorem d_Mac_step_338 : decode b_Mac_step 338 = .ok (.aload_n 1, 1) := by decide +kernel
theorem d_Mac_step_339 : decode b_Mac_step 339 = .ok (.invokevirtual 144, 3) := by decide +kernel
theorem d_Mac_step_342 : decode b_Mac_step 342 = .ok (.invokevirtual 140, 3) := by decide +kernel
theorem d_Mac_step_345 : decode b_Mac_step 345 = .ok (.goto 35, 3) := by decide +kernel
theorem d_Mac_step_348 : decode b_Mac_step 348 = .ok (.aload_n 1, 1) := by decide +kernel
theorem d_Mac_step_349 : decode b_Mac_step 349 = .ok (.iconst 0, 1) := by decide +kernel
theorem d_Mac_step_350 : decode b_Mac_step 350 = .ok (.aload_n 1, 1) := by decide +kernel
theorem d_Mac_step_351 : decode b_Mac_step 351 = .ok (.invokevirtual 144, 3) := by decide +kernel
theorem d_Mac_step_354 : decode b_Mac_step 354 = .ok (.invokevirtual 140, 3) := by decide +kernel
theorem d_Mac_step_357 : decode b_Mac_step 357 = .ok (.goto 23, 3) := by decide +kernel
theorem d_Mac_step_360 : decode b_Mac_step 360 = .ok (.aload_n 0, 1) := by decide +kernel
theorem d_Mac_step_361 : decode b_Mac_step 361 = .ok (.aload_n 1, 1) := by decide +kernel
theorem d_Mac_step_362 : decode b_Mac_step 362 = .ok (.invokevirtual 176, 3) := by decide +kernel
theorem d_Mac_step_365 : decode b_Mac_step 365 = .ok (.goto 15, 3) := by decide +kernel
theorem d_Mac_step_368 : decode b_Mac_step 368 = .ok (.aload_n 1, 1) := by decide +kernel
theorem d_Mac_step_369 : decode b_Mac_step 369 = .ok (.aload_n 0, 1) := by decide +kernel
theorem d_Mac_step_370 : decode b_Mac_step 370 = .ok (.aload_n 1, 1) := by decide +kernel
theorem d_Mac_step_371 : decode b_Mac_step 371 = .ok (.iload_n 3, 1) := by decide +kernel
theorem d_Mac_step_372 : decode b_Mac_step 372 = .ok (.iload 4, 2) := by decide +kernel
theorem d_Mac_step_374 : decode b_Mac_step 374 = .ok (.invokevirtual 179, 3) := by decide +kernel
theorem d_Mac_step_377 : decode b_Mac_step 377 = .ok (.invokevirtual 110, 3) := by decide +kernel
theorem d_Mac_step_380 : decode b_Mac_step 380 = .ok (.return_, 1) := by decide +kernel
theorem d_Mac_priceOf_0 : decode b_Mac_priceOf 0 = .ok (.getstatic 183, 3) := by decide +kernel
theorem d_Mac_priceOf_3 : decode b_Mac_priceOf 3 = .ok (.iload_n 2, 1) := by decide +kernel
theorem d_Mac_priceOf_4 : decode b_Mac_priceOf 4 = .ok (.iaload, 1) := by decide +kernel
theorem d_Mac_priceOf_5 : decode b_Mac_priceOf 5 = .ok (.istore_n 3, 1) := by decide +kernel
theorem d_Mac_priceOf_6 : decode b_Mac_priceOf 6 = .ok (.iload_n 2, 1) := by decide +kernel
theorem d_Mac_priceOf_7 : decode b_Mac_priceOf 7 = .ok (.lookupswitch 115 #[(15, 33), (22, 79), (24, 96)], 33) := by decide +kernel
theorem d_Mac_priceOf_40 : decode b_Mac_priceOf 40 = .ok (.aload_n 0, 1) := by decide +kernel
theorem d_Mac_priceOf_41 : decode b_Mac_priceOf 41 = .ok (.getfield 12, 3) := by decide +kernel
theorem d_Mac_priceOf_44 : decode b_Mac_priceOf 44 = .ok (.aload_n 1, 1) := by decide +kernel
theorem d_Mac_priceOf_45 : decode b_Mac_priceOf 45 = .ok (.getfield 170, 3) := by decide +kernel
theorem d_Mac_priceOf_48 : decode b_Mac_priceOf 48 = .ok (.aload_n 1, 1) := by decide +kernel
theorem d_Mac_priceOf_49 : decode b_Mac_priceOf 49 = .ok (.iconst 0, 1) := by decide +kernel
theorem d_Mac_priceOf_50 : decode b_Mac_priceOf 50 = .ok (.invokevirtual 187, 3) := by decide +kernel
theorem d_Mac_priceOf_53 : decode b_Mac_priceOf 53 = .ok (.invokevirtual 191, 3) := by decide +kernel
theorem d_Mac_priceOf_56 : decode b_Mac_priceOf 56 = .ok (.ifCond .ne 15, 3) := by decide +kernel
theorem d_Mac_priceOf_59 : decode b_Mac_priceOf 59 = .ok (.aload_n 1, 1) := by decide +kernel
theorem d_Mac_priceOf_60 : decode b_Mac_priceOf 60 = .ok (.iconst 1, 1) := by decide +kernel
theorem d_Mac_priceOf_61 : decode b_Mac_priceOf 61 = .ok (.invokevirtual 187, 3) := by decide +kernel
theorem d_Mac_priceOf_64 : decode b_Mac_priceOf 64 = .ok (.ifCond .eq 7, 3) := by decide +kernel
theorem d_Mac_priceOf_67 : decode b_Mac_priceOf 67 = .ok (.iconst 1, 1) := by decide +kernel
theorem d_Mac_priceOf_68 : decode b_Mac_priceOf 68 = .ok (.goto 4, 3) := by decide +kernel
theorem d_Mac_priceOf_71 : decode b_Mac_priceOf 71 = .ok (.iconst 0, 1) := by decide +kernel
theorem d_Mac_priceOf_72 : decode b_Mac_priceOf 72 = .ok (.istore 4, 2) := by decide +kernel
theorem d_Mac_priceOf_74 : decode b_Mac_priceOf 74 = .ok (.iload 4, 2) := by decide +kernel
theorem d_Mac_priceOf_76 : decode b_Mac_priceOf 76 = .ok (.ifCond .eq 8, 3) := by decide +kernel
theorem d_Mac_priceOf_79 : decode b_Mac_priceOf 79 = .ok (.bipush 40, 2) := by decide +kernel
theorem d_Mac_priceOf_81 : decode b_Mac_priceOf 81 = .ok (.goto 4, 3) := by decide +kernel
theorem d_Mac_priceOf_84 : decode b_Mac_priceOf 84 = .ok (.iload_n 3, 1) := by decide +kernel
theorem d_Mac_priceOf_85 : decode b_Mac_priceOf 85 = .ok (.ireturn, 1) := by decide +kernel
theorem d_Mac_priceOf_86 : decode b_Mac_priceOf 86 = .ok (.aload_n 1, 1) := by decide +kernel
theorem d_Mac_priceOf_87 : decode b_Mac_priceOf 87 = .ok (.iconst 2, 1) := by decide +kernel
theorem d_Mac_priceOf_88 : decode b_Mac_priceOf 88 = .ok (.invokevirtual 187, 3) := by decide +kernel
theorem d_Mac_priceOf_91 : decode b_Mac_priceOf 91 = .ok (.ifCond .eq 10, 3) := by decide +kernel
theorem d_Mac_priceOf_94 : decode b_Mac_priceOf 94 = .ok (.iload_n 3, 1) := by decide +kernel
theorem d_Mac_priceOf_95 : decode b_Mac_priceOf 95 = .ok (.bipush 20, 2) := by decide +kernel
theorem d_Mac_priceOf_97 : decode b_Mac_priceOf 97 = .ok (.iadd, 1) := by decide +kernel
theorem d_Mac_priceOf_98 : decode b_Mac_priceOf 98 = .ok (.goto 4, 3) := by decide +kernel
theorem d_Mac_priceOf_101 : decode b_Mac_priceOf 101 = .ok (.iload_n 3, 1) := by decide +kernel
theorem d_Mac_priceOf_102 : decode b_Mac_priceOf 102 = .ok (.ireturn, 1) := by decide +kernel
theorem d_Mac_priceOf_103 : decode b_Mac_priceOf 103 = .ok (.iload_n 3, 1) := by decide +kernel
theorem d_Mac_priceOf_104 : decode b_Mac_priceOf 104 = .ok (.iconst 2, 1) := by decide +kernel
theorem d_Mac_priceOf_105 : decode b_Mac_priceOf 105 = .ok (.iconst 0, 1) := by decide +kernel
theorem d_Mac_priceOf_106 : decode b_Mac_priceOf 106 = .ok (.aload_n 1, 1) := by decide +kernel
theorem d_Mac_priceOf_107 : decode b_Mac_priceOf 107 = .ok (.iconst 2, 1) := by decide +kernel
theorem d_Mac_priceOf_108 : decode b_Mac_priceOf 108 = .ok (.invokevirtual 187, 3) := by decide +kernel
theorem d_Mac_priceOf_111 : decode b_Mac_priceOf 111 = .ok (.bipush 24, 2) := by decide +kernel
theorem d_Mac_priceOf_113 : decode b_Mac_priceOf 113 = .ok (.invokestatic 194, 3) := by decide +kernel
theorem d_Mac_priceOf_116 : decode b_Mac_priceOf 116 = .ok (.invokestatic 199, 3) := by decide +kernel
theorem d_Mac_priceOf_119 : decode b_Mac_priceOf 119 = .ok (.imul, 1) := by decide +kernel
theorem d_Mac_priceOf_120 : decode b_Mac_priceOf 120 = .ok (.iadd, 1) := by decide +kernel
theorem d_Mac_priceOf_121 : decode b_Mac_priceOf 121 = .ok (.ireturn, 1) := by decide +kernel
theorem d_Mac_priceOf_122 : decode b_Mac_priceOf 122 = .ok (.iload_n 3, 1) := by decide +kernel
theorem d_Mac_priceOf_123 : decode b_Mac_priceOf 123 = .ok (.ireturn, 1) := by decide +kernel
theorem d_Mac_needsOf_0 : decode b_Mac_needsOf 0 = .ok (.iload_n 0, 1) := by decide +kernel
theorem d_Mac_needsOf_1 : decode b_Mac_needsOf 1 = .ok (.lookupswitch 54 #[(3, 27), (4, 40)], 27) := by decide +kernel
theorem d_Mac_needsOf_28 : decode b_Mac_needsOf 28 = .ok (.iload_n 1, 1) := by decide +kernel
theorem d_Mac_needsOf_29 : decode b_Mac_needsOf 29 = .ok (.ifCond .ge 8, 3) := by decide +kernel
theorem d_Mac_needsOf_32 : decode b_Mac_needsOf 32 = .ok (.bipush 13, 2) := by decide +kernel
theorem d_Mac_needsOf_34 : decode b_Mac_needsOf 34 = .ok (.goto 6, 3) := by decide +kernel
theorem d_Mac_needsOf_37 : decode b_Mac_needsOf 37 = .ok (.iload_n 1, 1) := by decide +kernel
theorem d_Mac_needsOf_38 : decode b_Mac_needsOf 38 = .ok (.iconst 1, 1) := by decide +kernel
theorem d_Mac_needsOf_39 : decode b_Mac_needsOf 39 = .ok (.iadd, 1) := by decide +kernel
theorem d_Mac_needsOf_40 : decode b_Mac_needsOf 40 = .ok (.ireturn, 1) := by decide +kernel
theorem d_Mac_needsOf_41 : decode b_Mac_needsOf 41 = .ok (.iload_n 1, 1) := by decide +kernel
theorem d_Mac_needsOf_42 : decode b_Mac_needsOf 42 = .ok (.iconst 1, 1) := by decide +kernel
theorem d_Mac_needsOf_43 : decode b_Mac_needsOf 43 = .ok (.if_icmp .ge 8, 3) := by decide +kernel
theorem d_Mac_needsOf_46 : decode b_Mac_needsOf 46 = .ok (.bipush 13, 2) := by decide +kernel
theorem d_Mac_needsOf_48 : decode b_Mac_needsOf 48 = .ok (.goto 6, 3) := by decide +kernel
theorem d_Mac_needsOf_51 : decode b_Mac_needsOf 51 = .ok (.iload_n 1, 1) := by decide +kernel
theorem d_Mac_needsOf_52 : decode b_Mac_needsOf 52 = .ok (.iconst 1, 1) := by decide +kernel
theorem d_Mac_needsOf_53 : decode b_Mac_needsOf 53 = .ok (.iadd, 1) := by decide +kernel
theorem d_Mac_needsOf_54 : decode b_Mac_needsOf 54 = .ok (.ireturn, 1) := by decide +kernel
theorem d_Mac_needsOf_55 : decode b_Mac_needsOf 55 = .ok (.getstatic 202, 3) := by decide +kernel
theorem d_Mac_needsOf_58 : decode b_Mac_needsOf 58 = .ok (.iload_n 0, 1) := by decide +kernel
theorem d_Mac_needsOf_59 : decode b_Mac_needsOf 59 = .ok (.iaload, 1) := by decide +kernel
theorem d_Mac_needsOf_60 : decode b_Mac_needsOf 60 = .ok (.ireturn, 1) := by decide +kernel
theorem d_Mac_onlyPushes_0 : decode b_Mac_onlyPushes 0 = .ok (.iload_n 0, 1) := by decide +kernel
theorem d_Mac_onlyPushes_1 : decode b_Mac_onlyPushes 1 = .ok (.iconst 1, 1) := by decide +kernel
theorem d_Mac_onlyPushes_2 : decode b_Mac_onlyPushes 2 = .ok (.if_icmp .eq 20, 3) := by decide +kernel
theorem d_Mac_onlyPushes_5 : decode b_Mac_onlyPushes 5 = .ok (.iload_n 0, 1) := by decide +kernel
theorem d_Mac_onlyPushes_6 : decode b_Mac_onlyPushes 6 = .ok (.iconst 3, 1) := by decide +kernel
theorem d_Mac_onlyPushes_7 : decode b_Mac_onlyPushes 7 = .ok (.if_icmp .eq 15, 3) := by decide +kernel
theorem d_Mac_onlyPushes_10 : decode b_Mac_onlyPushes 10 = .ok (.iload_n 0, 1) := by decide +kernel
theorem d_Mac_onlyPushes_11 : decode b_Mac_onlyPushes 11 = .ok (.bipush 17, 2) := by decide +kernel
theorem d_Mac_onlyPushes_13 : decode b_Mac_onlyPushes 13 = .ok (.if_icmp .lt 13, 3) := by decide +kernel
theorem d_Mac_onlyPushes_16 : decode b_Mac_onlyPushes 16 = .ok (.iload_n 0, 1) := by decide +kernel
theorem d_Mac_onlyPushes_17 : decode b_Mac_onlyPushes 17 = .ok (.bipush 21, 2) := by decide +kernel
theorem d_Mac_onlyPushes_19 : decode b_Mac_onlyPushes 19 = .ok (.if_icmp .gt 7, 3) := by decide +kernel
theorem d_Mac_onlyPushes_22 : decode b_Mac_onlyPushes 22 = .ok (.iconst 1, 1) := by decide +kernel
theorem d_Mac_onlyPushes_23 : decode b_Mac_onlyPushes 23 = .ok (.goto 4, 3) := by decide +kernel
theorem d_Mac_onlyPushes_26 : decode b_Mac_onlyPushes 26 = .ok (.iconst 0, 1) := by decide +kernel
theorem d_Mac_onlyPushes_27 : decode b_Mac_onlyPushes 27 = .ok (.ireturn, 1) := by decide +kernel
theorem d_Mac_resultOf_0 : decode b_Mac_resultOf 0 = .ok (.iload_n 2, 1) := by decide +kernel
theorem d_Mac_resultOf_1 : decode b_Mac_resultOf 1 = .ok (.tableswitch 173 1 21 #[99, 173, 101, 173, 173, 173, 173, 173, 173, 173, 107, 173, 173, 120, 173, 136, 148, 153, 158, 163, 168], 99) := by decide +kernel
theorem d_Mac_resultOf_100 : decode b_Mac_resultOf 100 = .ok (.iload_n 3, 1) := by decide +kernel
theorem d_Mac_resultOf_101 : decode b_Mac_resultOf 101 = .ok (.ireturn, 1) := by decide +kernel
theorem d_Mac_resultOf_102 : decode b_Mac_resultOf 102 = .ok (.aload_n 1, 1) := by decide +kernel
theorem d_Mac_resultOf_103 : decode b_Mac_resultOf 103 = .ok (.iload_n 3, 1) := by decide +kernel
theorem d_Mac_resultOf_104 : decode b_Mac_resultOf 104 = .ok (.invokevirtual 187, 3) := by decide +kernel
theorem d_Mac_resultOf_107 : decode b_Mac_resultOf 107 = .ok (.ireturn, 1) := by decide +kernel
theorem d_Mac_resultOf_108 : decode b_Mac_resultOf 108 = .ok (.aload_n 1, 1) := by decide +kernel
theorem d_Mac_resultOf_109 : decode b_Mac_resultOf 109 = .ok (.invokevirtual 144, 3) := by decide +kernel
theorem d_Mac_resultOf_112 : decode b_Mac_resultOf 112 = .ok (.ifCond .ne 7, 3) := by decide +kernel
theorem d_Mac_resultOf_115 : decode b_Mac_resultOf 115 = .ok (.iconst 1, 1) := by decide +kernel
theorem d_Mac_resultOf_116 : decode b_Mac_resultOf 116 = .ok (.goto 4, 3) := by decide +kernel
theorem d_Mac_resultOf_119 : decode b_Mac_resultOf 119 = .ok (.iconst 0, 1) := by decide +kernel
theorem d_Mac_resultOf_120 : decode b_Mac_resultOf 120 = .ok (.ireturn, 1) := by decide +kernel
theorem d_Mac_resultOf_121 : decode b_Mac_resultOf 121 = .ok (.aload_n 0, 1) := by decide +kernel
theorem d_Mac_resultOf_122 : decode b_Mac_resultOf 122 = .ok (.getfield 12, 3) := by decide +kernel
theorem d_Mac_resultOf_125 : decode b_Mac_resultOf 125 = .ok (.aload_n 1, 1) := by decide +kernel
theorem d_Mac_resultOf_126 : decode b_Mac_resultOf 126 = .ok (.getfield 170, 3) := by decide +kernel
theorem d_Mac_resultOf_129 : decode b_Mac_resultOf 129 = .ok (.aload_n 1, 1) := by decide +kernel
theorem d_Mac_resultOf_130 : decode b_Mac_resultOf 130 = .ok (.invokevirtual 144, 3) := by decide +kernel
theorem d_Mac_resultOf_133 : decode b_Mac_resultOf 133 = .ok (.invokevirtual 191, 3) := by decide +kernel
theorem d_Mac_resultOf_136 : decode b_Mac_resultOf 136 = .ok (.ireturn, 1) := by decide +kernel
theorem d_Mac_resultOf_137 : decode b_Mac_resultOf 137 = .ok (.aload_n 0, 1) := by decide +kernel
theorem d_Mac_resultOf_138 : decode b_Mac_resultOf 138 = .ok (.getfield 12, 3) := by decide +kernel
theorem d_Mac_resultOf_141 : decode b_Mac_resultOf 141 = .ok (.aload_n 1, 1) := by decide +kernel
theorem d_Mac_resultOf_142 : decode b_Mac_resultOf 142 = .ok (.invokevirtual 144, 3) := by decide +kernel
theorem d_Mac_resultOf_145 : decode b_Mac_resultOf 145 = .ok (.invokevirtual 205, 3) := by decide +kernel
theorem d_Mac_resultOf_148 : decode b_Mac_resultOf 148 = .ok (.ireturn, 1) := by decide +kernel
theorem d_Mac_resultOf_149 : decode b_Mac_resultOf 149 = .ok (.aload_n 1, 1) := by decide +kernel
theorem d_Mac_resultOf_150 : decode b_Mac_resultOf 150 = .ok (.getfield 170, 3) := by decide +kernel
theorem d_Mac_resultOf_153 : decode b_Mac_resultOf 153 = .ok (.ireturn, 1) := by decide +kernel
theorem d_Mac_resultOf_154 : decode b_Mac_resultOf 154 = .ok (.aload_n 1, 1) := by decide +kernel
theorem d_Mac_resultOf_155 : decode b_Mac_resultOf 155 = .ok (.getfield 208, 3) := by decide +kernel
theorem d_Mac_resultOf_158 : decode b_Mac_resultOf 158 = .ok (.ireturn, 1) := by decide +kernel
theorem d_Mac_resultOf_159 : decode b_Mac_resultOf 159 = .ok (.aload_n 1, 1) := by decide +kernel
theorem d_Mac_resultOf_160 : decode b_Mac_resultOf 160 = .ok (.getfield 211, 3) := by decide +kernel
theorem d_Mac_resultOf_163 : decode b_Mac_resultOf 163 = .ok (.ireturn, 1) := by decide +kernel
theorem d_Mac_resultOf_164 : decode b_Mac_resultOf 164 = .ok (.aload_n 1, 1) := by decide +kernel
theorem d_Mac_resultOf_165 : decode b_Mac_resultOf 165 = .ok (.getfield 214, 3) := by decide +kernel
theorem d_Mac_resultOf_168 : decode b_Mac_resultOf 168 = .ok (.ireturn, 1) := by decide +kernel
theorem d_Mac_resultOf_169 : decode b_Mac_resultOf 169 = .ok (.aload_n 1, 1) := by decide +kernel
theorem d_Mac_resultOf_170 : decode b_Mac_resultOf 170 = .ok (.getfield 104, 3) := by decide +kernel
theorem d_Mac_resultOf_173 : decode b_Mac_resultOf 173 = .ok (.ireturn, 1) := by decide +kernel
theorem d_Mac_resultOf_174 : decode b_Mac_resultOf 174 = .ok (.aload_n 1, 1) := by decide +kernel
theorem d_Mac_resultOf_175 : decode b_Mac_resultOf 175 = .ok (.invokevirtual 144, 3) := by decide +kernel
theorem d_Mac_resultOf_178 : decode b_Mac_resultOf 178 = .ok (.istore 4, 2) := by decide +kernel
theorem d_Mac_resultOf_180 : decode b_Mac_resultOf 180 = .ok (.aload_n 1, 1) := by decide +kernel
theorem d_Mac_resultOf_181 : decode b_Mac_resultOf 181 = .ok (.invokevirtual 144, 3) := by decide +kernel
theorem d_Mac_resultOf_184 : decode b_Mac_resultOf 184 = .ok (.istore 5, 2) := by decide +kernel
theorem d_Mac_resultOf_186 : decode b_Mac_resultOf 186 = .ok (.iload_n 2, 1) := by decide +kernel
theorem d_Mac_resultOf_187 : decode b_Mac_resultOf 187 = .ok (.iload 5, 2) := by decide +kernel
theorem d_Mac_resultOf_189 : decode b_Mac_resultOf 189 = .ok (.iload 4, 2) := by decide +kernel
theorem d_Mac_resultOf_191 : decode b_Mac_resultOf 191 = .ok (.invokestatic 217, 3) := by decide +kernel
theorem d_Mac_resultOf_194 : decode b_Mac_resultOf 194 = .ok (.ireturn, 1) := by decide +kernel
theorem d_Mac_reckon_0 : decode b_Mac_reckon 0 = .ok (.iload_n 0, 1) := by decide +kernel
theorem d_Mac_reckon_1 : decode b_Mac_reckon 1 = .ok (.tableswitch 85 5 10 #[39, 43, 47, 51, 63, 74], 39) := by decide +kernel
theorem d_Mac_reckon_40 : decode b_Mac_reckon 40 = .ok (.iload_n 1, 1) := by decide +kernel
theorem d_Mac_reckon_41 : decode b_Mac_reckon 41 = .ok (.iload_n 2, 1) := by decide +kernel
theorem d_Mac_reckon_42 : decode b_Mac_reckon 42 = .ok (.iadd, 1) := by decide +kernel
theorem d_Mac_reckon_43 : decode b_Mac_reckon 43 = .ok (.ireturn, 1) := by decide +kernel
theorem d_Mac_reckon_44 : decode b_Mac_reckon 44 = .ok (.iload_n 1, 1) := by decide +kernel
theorem d_Mac_reckon_45 : decode b_Mac_reckon 45 = .ok (.iload_n 2, 1) := by decide +kernel
theorem d_Mac_reckon_46 : decode b_Mac_reckon 46 = .ok (.isub, 1) := by decide +kernel
theorem d_Mac_reckon_47 : decode b_Mac_reckon 47 = .ok (.ireturn, 1) := by decide +kernel
theorem d_Mac_reckon_48 : decode b_Mac_reckon 48 = .ok (.iload_n 1, 1) := by decide +kernel
theorem d_Mac_reckon_49 : decode b_Mac_reckon 49 = .ok (.iload_n 2, 1) := by decide +kernel
theorem d_Mac_reckon_50 : decode b_Mac_reckon 50 = .ok (.imul, 1) := by decide +kernel
theorem d_Mac_reckon_51 : decode b_Mac_reckon 51 = .ok (.ireturn, 1) := by decide +kernel
theorem d_Mac_reckon_52 : decode b_Mac_reckon 52 = .ok (.iload_n 2, 1) := by decide +kernel
theorem d_Mac_reckon_53 : decode b_Mac_reckon 53 = .ok (.ifCond .ne 7, 3) := by decide +kernel
theorem d_Mac_reckon_56 : decode b_Mac_reckon 56 = .ok (.iconst 0, 1) := by decide +kernel
theorem d_Mac_reckon_57 : decode b_Mac_reckon 57 = .ok (.goto 6, 3) := by decide +kernel
theorem d_Mac_reckon_60 : decode b_Mac_reckon 60 = .ok (.iload_n 1, 1) := by decide +kernel
theorem d_Mac_reckon_61 : decode b_Mac_reckon 61 = .ok (.iload_n 2, 1) := by decide +kernel
theorem d_Mac_reckon_62 : decode b_Mac_reckon 62 = .ok (.idiv, 1) := by decide +kernel
theorem d_Mac_reckon_63 : decode b_Mac_reckon 63 = .ok (.ireturn, 1) := by decide +kernel
theorem d_Mac_reckon_64 : decode b_Mac_reckon 64 = .ok (.iload_n 1, 1) := by decide +kernel
theorem d_Mac_reckon_65 : decode b_Mac_reckon 65 = .ok (.iload_n 2, 1) := by decide +kernel
theorem d_Mac_reckon_66 : decode b_Mac_reckon 66 = .ok (.if_icmp .ge 7, 3) := by decide +kernel
theorem d_Mac_reckon_69 : decode b_Mac_reckon 69 = .ok (.iconst 1, 1) := by decide +kernel
theorem d_Mac_reckon_70 : decode b_Mac_reckon 70 = .ok (.goto 4, 3) := by decide +kernel
theorem d_Mac_reckon_73 : decode b_Mac_reckon 73 = .ok (.iconst 0, 1) := by decide +kernel
theorem d_Mac_reckon_74 : decode b_Mac_reckon 74 = .ok (.ireturn, 1) := by decide +kernel
theorem d_Mac_reckon_75 : decode b_Mac_reckon 75 = .ok (.iload_n 1, 1) := by decide +kernel
theorem d_Mac_reckon_76 : decode b_Mac_reckon 76 = .ok (.iload_n 2, 1) := by decide +kernel
theorem d_Mac_reckon_77 : decode b_Mac_reckon 77 = .ok (.if_icmp .ne 7, 3) := by decide +kernel
theorem d_Mac_reckon_80 : decode b_Mac_reckon 80 = .ok (.iconst 1, 1) := by decide +kernel
theorem d_Mac_reckon_81 : decode b_Mac_reckon 81 = .ok (.goto 4, 3) := by decide +kernel
theorem d_Mac_reckon_84 : decode b_Mac_reckon 84 = .ok (.iconst 0, 1) := by decide +kernel
theorem d_Mac_reckon_85 : decode b_Mac_reckon 85 = .ok (.ireturn, 1) := by decide +kernel
theorem d_Mac_reckon_86 : decode b_Mac_reckon 86 = .ok (.iconst 0, 1) := by decide +kernel
theorem d_Mac_reckon_87 : decode b_Mac_reckon 87 = .ok (.ireturn, 1) := by decide +kernel
theorem d_Mac_jump_0 : decode b_Mac_jump 0 = .ok (.iload_n 2, 1) := by decide +kernel
theorem d_Mac_jump_1 : decode b_Mac_jump 1 = .ok (.ifCond .lt 19, 3) := by decide +kernel
theorem d_Mac_jump_4 : decode b_Mac_jump 4 = .ok (.iload_n 2, 1) := by decide +kernel
theorem d_Mac_jump_5 : decode b_Mac_jump 5 = .ok (.aload_n 0, 1) := by decide +kernel
theorem d_Mac_jump_6 : decode b_Mac_jump 6 = .ok (.getfield 12, 3) := by decide +kernel
theorem d_Mac_jump_9 : decode b_Mac_jump 9 = .ok (.getfield 221, 3) := by decide +kernel
theorem d_Mac_jump_12 : decode b_Mac_jump 12 = .ok (.aload_n 1, 1) := by decide +kernel
theorem d_Mac_jump_13 : decode b_Mac_jump 13 = .ok (.getfield 113, 3) := by decide +kernel
theorem d_Mac_jump_16 : decode b_Mac_jump 16 = .ok (.iaload, 1) := by decide +kernel
theorem d_Mac_jump_17 : decode b_Mac_jump 17 = .ok (.if_icmp .lt 10, 3) := by decide +kernel
theorem d_Mac_jump_20 : decode b_Mac_jump 20 = .ok (.aload_n 1, 1) := by decide +kernel
theorem d_Mac_jump_21 : decode b_Mac_jump 21 = .ok (.invokevirtual 137, 3) := by decide +kernel
theorem d_Mac_jump_24 : decode b_Mac_jump 24 = .ok (.goto 8, 3) := by decide +kernel
theorem d_Mac_jump_27 : decode b_Mac_jump 27 = .ok (.aload_n 1, 1) := by decide +kernel
theorem d_Mac_jump_28 : decode b_Mac_jump 28 = .ok (.iload_n 2, 1) := by decide +kernel
theorem d_Mac_jump_29 : decode b_Mac_jump 29 = .ok (.putfield 116, 3) := by decide +kernel
theorem d_Mac_jump_32 : decode b_Mac_jump 32 = .ok (.return_, 1) := by decide +kernel
theorem d_Mac_jumpIf_0 : decode b_Mac_jumpIf 0 = .ok (.aload_n 1, 1) := by decide +kernel
theorem d_Mac_jumpIf_1 : decode b_Mac_jumpIf 1 = .ok (.invokevirtual 144, 3) := by decide +kernel
theorem d_Mac_jumpIf_4 : decode b_Mac_jumpIf 4 = .ok (.istore_n 2, 1) := by decide +kernel
theorem d_Mac_jumpIf_5 : decode b_Mac_jumpIf 5 = .ok (.aload_n 1, 1) := by decide +kernel
theorem d_Mac_jumpIf_6 : decode b_Mac_jumpIf 6 = .ok (.invokevirtual 144, 3) := by decide +kernel
theorem d_Mac_jumpIf_9 : decode b_Mac_jumpIf 9 = .ok (.ifCond .eq 9, 3) := by decide +kernel
theorem d_Mac_jumpIf_12 : decode b_Mac_jumpIf 12 = .ok (.aload_n 0, 1) := by decide +kernel
theorem d_Mac_jumpIf_13 : decode b_Mac_jumpIf 13 = .ok (.aload_n 1, 1) := by decide +kernel
theorem d_Mac_jumpIf_14 : decode b_Mac_jumpIf 14 = .ok (.iload_n 2, 1) := by decide +kernel
theorem d_Mac_jumpIf_15 : decode b_Mac_jumpIf 15 = .ok (.invokevirtual 151, 3) := by decide +kernel
theorem d_Mac_jumpIf_18 : decode b_Mac_jumpIf 18 = .ok (.return_, 1) := by decide +kernel
theorem d_Mac_store_0 : decode b_Mac_store 0 = .ok (.aload_n 1, 1) := by decide +kernel
theorem d_Mac_store_1 : decode b_Mac_store 1 = .ok (.invokevirtual 144, 3) := by decide +kernel
theorem d_Mac_store_4 : decode b_Mac_store 4 = .ok (.istore_n 2, 1) := by decide +kernel
theorem d_Mac_store_5 : decode b_Mac_store 5 = .ok (.aload_n 1, 1) := by decide +kernel
theorem d_Mac_store_6 : decode b_Mac_store 6 = .ok (.invokevirtual 144, 3) := by decide +kernel
theorem d_Mac_store_9 : decode b_Mac_store 9 = .ok (.istore_n 3, 1) := by decide +kernel
theorem d_Mac_store_10 : decode b_Mac_store 10 = .ok (.iload_n 2, 1) := by decide +kernel
theorem d_Mac_store_11 : decode b_Mac_store 11 = .ok (.invokestatic 224, 3) := by decide +kernel
theorem d_Mac_store_14 : decode b_Mac_store 14 = .ok (.ifCond .ne 8, 3) := by decide +kernel
theorem d_Mac_store_17 : decode b_Mac_store 17 = .ok (.aload_n 1, 1) := by decide +kernel
theorem d_Mac_store_18 : decode b_Mac_store 18 = .ok (.invokevirtual 137, 3) := by decide +kernel
theorem d_Mac_store_21 : decode b_Mac_store 21 = .ok (.return_, 1) := by decide +kernel
theorem d_Mac_store_22 : decode b_Mac_store 22 = .ok (.aload_n 1, 1) := by decide +kernel
theorem d_Mac_store_23 : decode b_Mac_store 23 = .ok (.getfield 170, 3) := by decide +kernel
theorem d_Mac_store_26 : decode b_Mac_store 26 = .ok (.bipush 8, 2) := by decide +kernel
theorem d_Mac_store_28 : decode b_Mac_store 28 = .ok (.imul, 1) := by decide +kernel
theorem d_Mac_store_29 : decode b_Mac_store 29 = .ok (.iload_n 2, 1) := by decide +kernel
theorem d_Mac_store_30 : decode b_Mac_store 30 = .ok (.iadd, 1) := by decide +kernel
theorem d_Mac_store_31 : decode b_Mac_store 31 = .ok (.istore 4, 2) := by decide +kernel
theorem d_Mac_store_33 : decode b_Mac_store 33 = .ok (.aload_n 0, 1) := by decide +kernel
theorem d_Mac_store_34 : decode b_Mac_store 34 = .ok (.getfield 12, 3) := by decide +kernel
theorem d_Mac_store_37 : decode b_Mac_store 37 = .ok (.getfield 227, 3) := by decide +kernel
theorem d_Mac_store_40 : decode b_Mac_store 40 = .ok (.iload 4, 2) := by decide +kernel
theorem d_Mac_store_42 : decode b_Mac_store 42 = .ok (.iaload, 1) := by decide +kernel
theorem d_Mac_store_43 : decode b_Mac_store 43 = .ok (.ifCond .eq 18, 3) := by decide +kernel
theorem d_Mac_store_46 : decode b_Mac_store 46 = .ok (.iload_n 3, 1) := by decide +kernel
theorem d_Mac_store_47 : decode b_Mac_store 47 = .ok (.ifCond .ne 14, 3) := by decide +kernel
theorem d_Mac_store_50 : decode b_Mac_store 50 = .ok (.aload_n 0, 1) := by decide +kernel
theorem d_Mac_store_51 : decode b_Mac_store 51 = .ok (.dup, 1) := by decide +kernel
theorem d_Mac_store_52 : decode b_Mac_store 52 = .ok (.getfield 32, 3) := by decide +kernel
theorem d_Mac_store_55 : decode b_Mac_store 55 = .ok (.bipush 15, 2) := by decide +kernel
theorem d_Mac_store_57 : decode b_Mac_store 57 = .ok (.iadd, 1) := by decide +kernel
theorem d_Mac_store_58 : decode b_Mac_store 58 = .ok (.putfield 32, 3) := by decide +kernel
theorem d_Mac_store_61 : decode b_Mac_store 61 = .ok (.aload_n 0, 1) := by decide +kernel
theorem d_Mac_store_62 : decode b_Mac_store 62 = .ok (.getfield 12, 3) := by decide +kernel
theorem d_Mac_store_65 : decode b_Mac_store 65 = .ok (.getfield 227, 3) := by decide +kernel
theorem d_Mac_store_68 : decode b_Mac_store 68 = .ok (.iload 4, 2) := by decide +kernel
theorem d_Mac_store_70 : decode b_Mac_store 70 = .ok (.iload_n 3, 1) := by decide +kernel
theorem d_Mac_store_71 : decode b_Mac_store 71 = .ok (.iastore, 1) := by decide +kernel
theorem d_Mac_store_72 : decode b_Mac_store 72 = .ok (.return_, 1) := by decide +kernel
theorem d_Mac_callOther_0 : decode b_Mac_callOther 0 = .ok (.aload_n 1, 1) := by decide +kernel
theorem d_Mac_callOther_1 : decode b_Mac_callOther 1 = .ok (.invokevirtual 144, 3) := by decide +kernel
theorem d_Mac_callOther_4 : decode b_Mac_callOther 4 = .ok (.istore_n 2, 1) := by decide +kernel
theorem d_Mac_callOther_5 : decode b_Mac_callOther 5 = .ok (.aload_n 1, 1) := by decide +kernel
theorem d_Mac_callOther_6 : decode b_Mac_callOther 6 = .ok (.invokevirtual 144, 3) := by decide +kernel
theorem d_Mac_callOther_9 : decode b_Mac_callOther 9 = .ok (.istore_n 3, 1) := by decide +kernel
theorem d_Mac_callOther_10 : decode b_Mac_callOther 10 = .ok (.aload_n 1, 1) := by decide +kernel
theorem d_Mac_callOther_11 : decode b_Mac_callOther 11 = .ok (.invokevirtual 144, 3) := by decide +kernel
theorem d_Mac_callOther_14 : decode b_Mac_callOther 14 = .ok (.istore 4, 2) := by decide +kernel
theorem d_Mac_callOther_16 : decode b_Mac_callOther 16 = .ok (.aload_n 1, 1) := by decide +kernel
theorem d_Mac_callOther_17 : decode b_Mac_callOther 17 = .ok (.invokevirtual 144, 3) := by decide +kernel
theorem d_Mac_callOther_20 : decode b_Mac_callOther 20 = .ok (.istore 5, 2) := by decide +kernel
theorem d_Mac_callOther_22 : decode b_Mac_callOther 22 = .ok (.iload 4, 2) := by decide +kernel
theorem d_Mac_callOther_24 : decode b_Mac_callOther 24 = .ok (.ifCond .ge 10, 3) := by decide +kernel
theorem d_Mac_callOther_27 : decode b_Mac_callOther 27 = .ok (.aload_n 1, 1) := by decide +kernel
theorem d_Mac_callOther_28 : decode b_Mac_callOther 28 = .ok (.invokevirtual 137, 3) := by decide +kernel
theorem d_Mac_callOther_31 : decode b_Mac_callOther 31 = .ok (.goto 86, 3) := by decide +kernel
theorem d_Mac_callOther_34 : decode b_Mac_callOther 34 = .ok (.aload_n 0, 1) := by decide +kernel
theorem d_Mac_callOther_35 : decode b_Mac_callOther 35 = .ok (.iload_n 3, 1) := by decide +kernel
theorem d_Mac_callOther_36 : decode b_Mac_callOther 36 = .ok (.invokevirtual 230, 3) := by decide +kernel
theorem d_Mac_callOther_39 : decode b_Mac_callOther 39 = .ok (.ifCond .eq 20, 3) := by decide +kernel
theorem d_Mac_callOther_42 : decode b_Mac_callOther 42 = .ok (.aload_n 0, 1) := by decide +kernel
theorem d_Mac_callOther_43 : decode b_Mac_callOther 43 = .ok (.getfield 12, 3) := by decide +kernel
theorem d_Mac_callOther_46 : decode b_Mac_callOther 46 = .ok (.getfield 233, 3) := by decide +kernel
theorem d_Mac_callOther_49 : decode b_Mac_callOther 49 = .ok (.aload_n 1, 1) := by decide +kernel
theorem d_Mac_callOther_50 : decode b_Mac_callOther 50 = .ok (.getfield 170, 3) := by decide +kernel
theorem d_Mac_callOther_53 : decode b_Mac_callOther 53 = .ok (.iaload, 1) := by decide +kernel
theorem d_Mac_callOther_54 : decode b_Mac_callOther 54 = .ok (.iload 4, 2) := by decide +kernel
theorem d_Mac_callOther_56 : decode b_Mac_callOther 56 = .ok (.if_icmp .ge 11, 3) := by decide +kernel
theorem d_Mac_callOther_59 : decode b_Mac_callOther 59 = .ok (.aload_n 0, 1) := by decide +kernel
theorem d_Mac_callOther_60 : decode b_Mac_callOther 60 = .ok (.aload_n 1, 1) := by decide +kernel
theorem d_Mac_callOther_61 : decode b_Mac_callOther 61 = .ok (.invokevirtual 236, 3) := by decide +kernel
theorem d_Mac_callOther_64 : decode b_Mac_callOther 64 = .ok (.goto 53, 3) := by decide +kernel
theorem d_Mac_callOther_67 : decode b_Mac_callOther 67 = .ok (.iload 4, 2) := by decide +kernel
theorem d_Mac_callOther_69 : decode b_Mac_callOther 69 = .ok (.ifCond .eq 8, 3) := by decide +kernel
theorem d_Mac_callOther_72 : decode b_Mac_callOther 72 = .ok (.bipush 10, 2) := by decide +kernel
theorem d_Mac_callOther_74 : decode b_Mac_callOther 74 = .ok (.goto 4, 3) := by decide +kernel
theorem d_Mac_callOther_77 : decode b_Mac_callOther 77 = .ok (.iconst 0, 1) := by decide +kernel
theorem d_Mac_callOther_78 : decode b_Mac_callOther 78 = .ok (.istore 6, 2) := by decide +kernel
theorem d_Mac_callOther_80 : decode b_Mac_callOther 80 = .ok (.aload_n 0, 1) := by decide +kernel
theorem d_Mac_callOther_81 : decode b_Mac_callOther 81 = .ok (.iload_n 3, 1) := by decide +kernel
theorem d_Mac_callOther_82 : decode b_Mac_callOther 82 = .ok (.iload_n 3, 1) := by decide +kernel
theorem d_Mac_callOther_83 : decode b_Mac_callOther 83 = .ok (.aload_n 1, 1) := by decide +kernel
theorem d_Mac_callOther_84 : decode b_Mac_callOther 84 = .ok (.getfield 170, 3) := by decide +kernel
theorem d_Mac_callOther_87 : decode b_Mac_callOther 87 = .ok (.iload 4, 2) := by decide +kernel
theorem d_Mac_callOther_89 : decode b_Mac_callOther 89 = .ok (.iload 5, 2) := by decide +kernel
theorem d_Mac_callOther_91 : decode b_Mac_callOther 91 = .ok (.aload_n 0, 1) := by decide +kernel
theorem d_Mac_callOther_92 : decode b_Mac_callOther 92 = .ok (.aload_n 1, 1) := by decide +kernel
theorem d_Mac_callOther_93 : decode b_Mac_callOther 93 = .ok (.iload_n 2, 1) := by decide +kernel
theorem d_Mac_callOther_94 : decode b_Mac_callOther 94 = .ok (.invokevirtual 239, 3) := by decide +kernel
theorem d_Mac_callOther_97 : decode b_Mac_callOther 97 = .ok (.iload 6, 2) := by decide +kernel
theorem d_Mac_callOther_99 : decode b_Mac_callOther 99 = .ok (.iadd, 1) := by decide +kernel
theorem d_Mac_callOther_100 : decode b_Mac_callOther 100 = .ok (.invokevirtual 42, 3) := by decide +kernel
theorem d_Mac_callOther_103 : decode b_Mac_callOther 103 = .ok (.aload_n 0, 1) := by decide +kernel
theorem d_Mac_callOther_104 : decode b_Mac_callOther 104 = .ok (.getfield 12, 3) := by decide +kernel
theorem d_Mac_callOther_107 : decode b_Mac_callOther 107 = .ok (.aload_n 1, 1) := by decide +kernel
theorem d_Mac_callOther_108 : decode b_Mac_callOther 108 = .ok (.getfield 170, 3) := by decide +kernel
theorem d_Mac_callOther_111 : decode b_Mac_callOther 111 = .ok (.iload_n 3, 1) := by decide +kernel
theorem d_Mac_callOther_112 : decode b_Mac_callOther 112 = .ok (.iload 4, 2) := by decide +kernel
theorem d_Mac_callOther_114 : decode b_Mac_callOther 114 = .ok (.invokevirtual 46, 3) := by decide +kernel
theorem d_Mac_callOther_117 : decode b_Mac_callOther 117 = .ok (.return_, 1) := by decide +kernel
