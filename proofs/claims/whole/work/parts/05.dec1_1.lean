theorem dX1_perform_271 : decode cX1_perform 271 = .ok (.iload 4, 2) := by decide +kernel
theorem dX1_perform_273 : decode cX1_perform 273 = .ok (.iload 6, 2) := by decide +kernel
theorem dX1_perform_275 : decode cX1_perform 275 = .ok (.iadd, 1) := by decide +kernel
theorem dX1_perform_276 : decode cX1_perform 276 = .ok (.invokevirtual 125, 3) := by decide +kernel
theorem dX1_perform_279 : decode cX1_perform 279 = .ok (.goto 85, 3) := by decide +kernel
theorem dX1_perform_282 : decode cX1_perform 282 = .ok (.aload_n 0, 1) := by decide +kernel
theorem dX1_perform_283 : decode cX1_perform 283 = .ok (.iload_n 1, 1) := by decide +kernel
theorem dX1_perform_284 : decode cX1_perform 284 = .ok (.iload_n 3, 1) := by decide +kernel
theorem dX1_perform_285 : decode cX1_perform 285 = .ok (.iload 4, 2) := by decide +kernel
theorem dX1_perform_287 : decode cX1_perform 287 = .ok (.iload_n 1, 1) := by decide +kernel
theorem dX1_perform_288 : decode cX1_perform 288 = .ok (.bipush 25, 2) := by decide +kernel
theorem dX1_perform_290 : decode cX1_perform 290 = .ok (.ishr, 1) := by decide +kernel
theorem dX1_perform_291 : decode cX1_perform 291 = .ok (.bipush 32, 2) := by decide +kernel
theorem dX1_perform_293 : decode cX1_perform 293 = .ok (.imul, 1) := by decide +kernel
theorem dX1_perform_294 : decode cX1_perform 294 = .ok (.iadd, 1) := by decide +kernel
theorem dX1_perform_295 : decode cX1_perform 295 = .ok (.iload_n 2, 1) := by decide +kernel
theorem dX1_perform_296 : decode cX1_perform 296 = .ok (.iadd, 1) := by decide +kernel
theorem dX1_perform_297 : decode cX1_perform 297 = .ok (.iload 5, 2) := by decide +kernel
theorem dX1_perform_299 : decode cX1_perform 299 = .ok (.invokevirtual 128, 3) := by decide +kernel
theorem dX1_perform_302 : decode cX1_perform 302 = .ok (.goto 62, 3) := by decide +kernel
theorem dX1_perform_305 : decode cX1_perform 305 = .ok (.aload_n 0, 1) := by decide +kernel
theorem dX1_perform_306 : decode cX1_perform 306 = .ok (.iload_n 1, 1) := by decide +kernel
theorem dX1_perform_307 : decode cX1_perform 307 = .ok (.iload_n 3, 1) := by decide +kernel
theorem dX1_perform_308 : decode cX1_perform 308 = .ok (.iload_n 2, 1) := by decide +kernel
theorem dX1_perform_309 : decode cX1_perform 309 = .ok (.iload 4, 2) := by decide +kernel
theorem dX1_perform_311 : decode cX1_perform 311 = .ok (.iload 6, 2) := by decide +kernel
theorem dX1_perform_313 : decode cX1_perform 313 = .ok (.invokevirtual 131, 3) := by decide +kernel
theorem dX1_perform_316 : decode cX1_perform 316 = .ok (.goto 48, 3) := by decide +kernel
theorem dX1_perform_319 : decode cX1_perform 319 = .ok (.aload_n 0, 1) := by decide +kernel
theorem dX1_perform_320 : decode cX1_perform 320 = .ok (.iload_n 1, 1) := by decide +kernel
theorem dX1_perform_321 : decode cX1_perform 321 = .ok (.iload_n 3, 1) := by decide +kernel
theorem dX1_perform_322 : decode cX1_perform 322 = .ok (.iload_n 2, 1) := by decide +kernel
theorem dX1_perform_323 : decode cX1_perform 323 = .ok (.iload 4, 2) := by decide +kernel
theorem dX1_perform_325 : decode cX1_perform 325 = .ok (.iload 5, 2) := by decide +kernel
theorem dX1_perform_327 : decode cX1_perform 327 = .ok (.invokevirtual 135, 3) := by decide +kernel
theorem dX1_perform_330 : decode cX1_perform 330 = .ok (.goto 34, 3) := by decide +kernel
theorem dX1_perform_333 : decode cX1_perform 333 = .ok (.iload_n 3, 1) := by decide +kernel
theorem dX1_perform_334 : decode cX1_perform 334 = .ok (.ifCond .eq 30, 3) := by decide +kernel
theorem dX1_perform_337 : decode cX1_perform 337 = .ok (.aload_n 0, 1) := by decide +kernel
theorem dX1_perform_338 : decode cX1_perform 338 = .ok (.iconst 2, 1) := by decide +kernel
theorem dX1_perform_339 : decode cX1_perform 339 = .ok (.iload_n 1, 1) := by decide +kernel
theorem dX1_perform_340 : decode cX1_perform 340 = .ok (.invokevirtual 93, 3) := by decide +kernel
theorem dX1_perform_343 : decode cX1_perform 343 = .ok (.goto 21, 3) := by decide +kernel
theorem dX1_perform_346 : decode cX1_perform 346 = .ok (.aload_n 0, 1) := by decide +kernel
theorem dX1_perform_347 : decode cX1_perform 347 = .ok (.iload_n 1, 1) := by decide +kernel
theorem dX1_perform_348 : decode cX1_perform 348 = .ok (.iload_n 3, 1) := by decide +kernel
theorem dX1_perform_349 : decode cX1_perform 349 = .ok (.iload_n 2, 1) := by decide +kernel
theorem dX1_perform_350 : decode cX1_perform 350 = .ok (.iload 4, 2) := by decide +kernel
theorem dX1_perform_352 : decode cX1_perform 352 = .ok (.invokevirtual 138, 3) := by decide +kernel
theorem dX1_perform_355 : decode cX1_perform 355 = .ok (.goto 9, 3) := by decide +kernel
theorem dX1_perform_358 : decode cX1_perform 358 = .ok (.aload_n 0, 1) := by decide +kernel
theorem dX1_perform_359 : decode cX1_perform 359 = .ok (.iconst 2, 1) := by decide +kernel
theorem dX1_perform_360 : decode cX1_perform 360 = .ok (.iload_n 1, 1) := by decide +kernel
theorem dX1_perform_361 : decode cX1_perform 361 = .ok (.invokevirtual 93, 3) := by decide +kernel
theorem dX1_perform_364 : decode cX1_perform 364 = .ok (.return_, 1) := by decide +kernel
theorem dX1_far_0 : decode cX1_far 0 = .ok (.iload_n 0, 1) := by decide +kernel
theorem dX1_far_1 : decode cX1_far 1 = .ok (.bipush 31, 2) := by decide +kernel
theorem dX1_far_3 : decode cX1_far 3 = .ok (.ishr, 1) := by decide +kernel
theorem dX1_far_4 : decode cX1_far 4 = .ok (.ldc 141, 2) := by decide +kernel
theorem dX1_far_6 : decode cX1_far 6 = .ok (.imul, 1) := by decide +kernel
theorem dX1_far_7 : decode cX1_far 7 = .ok (.iload_n 0, 1) := by decide +kernel
theorem dX1_far_8 : decode cX1_far 8 = .ok (.bipush 12, 2) := by decide +kernel
theorem dX1_far_10 : decode cX1_far 10 = .ok (.bipush 19, 2) := by decide +kernel
theorem dX1_far_12 : decode cX1_far 12 = .ok (.invokestatic 46, 3) := by decide +kernel
theorem dX1_far_15 : decode cX1_far 15 = .ok (.sipush 4096, 3) := by decide +kernel
theorem dX1_far_18 : decode cX1_far 18 = .ok (.imul, 1) := by decide +kernel
theorem dX1_far_19 : decode cX1_far 19 = .ok (.iadd, 1) := by decide +kernel
theorem dX1_far_20 : decode cX1_far 20 = .ok (.iload_n 0, 1) := by decide +kernel
theorem dX1_far_21 : decode cX1_far 21 = .ok (.bipush 20, 2) := by decide +kernel
theorem dX1_far_23 : decode cX1_far 23 = .ok (.bipush 20, 2) := by decide +kernel
theorem dX1_far_25 : decode cX1_far 25 = .ok (.invokestatic 46, 3) := by decide +kernel
theorem dX1_far_28 : decode cX1_far 28 = .ok (.sipush 2048, 3) := by decide +kernel
theorem dX1_far_31 : decode cX1_far 31 = .ok (.imul, 1) := by decide +kernel
theorem dX1_far_32 : decode cX1_far 32 = .ok (.iadd, 1) := by decide +kernel
theorem dX1_far_33 : decode cX1_far 33 = .ok (.iload_n 0, 1) := by decide +kernel
theorem dX1_far_34 : decode cX1_far 34 = .ok (.bipush 21, 2) := by decide +kernel
theorem dX1_far_36 : decode cX1_far 36 = .ok (.bipush 30, 2) := by decide +kernel
theorem dX1_far_38 : decode cX1_far 38 = .ok (.invokestatic 46, 3) := by decide +kernel
theorem dX1_far_41 : decode cX1_far 41 = .ok (.iconst 2, 1) := by decide +kernel
theorem dX1_far_42 : decode cX1_far 42 = .ok (.imul, 1) := by decide +kernel
theorem dX1_far_43 : decode cX1_far 43 = .ok (.iadd, 1) := by decide +kernel
theorem dX1_far_44 : decode cX1_far 44 = .ok (.ireturn, 1) := by decide +kernel
theorem dX1_near_0 : decode cX1_near 0 = .ok (.iload_n 0, 1) := by decide +kernel
theorem dX1_near_1 : decode cX1_near 1 = .ok (.bipush 31, 2) := by decide +kernel
theorem dX1_near_3 : decode cX1_near 3 = .ok (.ishr, 1) := by decide +kernel
theorem dX1_near_4 : decode cX1_near 4 = .ok (.sipush 4096, 3) := by decide +kernel
theorem dX1_near_7 : decode cX1_near 7 = .ok (.imul, 1) := by decide +kernel
theorem dX1_near_8 : decode cX1_near 8 = .ok (.iload_n 0, 1) := by decide +kernel
theorem dX1_near_9 : decode cX1_near 9 = .ok (.bipush 7, 2) := by decide +kernel
theorem dX1_near_11 : decode cX1_near 11 = .ok (.bipush 7, 2) := by decide +kernel
theorem dX1_near_13 : decode cX1_near 13 = .ok (.invokestatic 46, 3) := by decide +kernel
theorem dX1_near_16 : decode cX1_near 16 = .ok (.sipush 2048, 3) := by decide +kernel
theorem dX1_near_19 : decode cX1_near 19 = .ok (.imul, 1) := by decide +kernel
theorem dX1_near_20 : decode cX1_near 20 = .ok (.iadd, 1) := by decide +kernel
theorem dX1_near_21 : decode cX1_near 21 = .ok (.iload_n 0, 1) := by decide +kernel
theorem dX1_near_22 : decode cX1_near 22 = .ok (.bipush 25, 2) := by decide +kernel
theorem dX1_near_24 : decode cX1_near 24 = .ok (.bipush 30, 2) := by decide +kernel
theorem dX1_near_26 : decode cX1_near 26 = .ok (.invokestatic 46, 3) := by decide +kernel
theorem dX1_near_29 : decode cX1_near 29 = .ok (.bipush 32, 2) := by decide +kernel
theorem dX1_near_31 : decode cX1_near 31 = .ok (.imul, 1) := by decide +kernel
theorem dX1_near_32 : decode cX1_near 32 = .ok (.iadd, 1) := by decide +kernel
theorem dX1_near_33 : decode cX1_near 33 = .ok (.iload_n 0, 1) := by decide +kernel
theorem dX1_near_34 : decode cX1_near 34 = .ok (.bipush 8, 2) := by decide +kernel
theorem dX1_near_36 : decode cX1_near 36 = .ok (.bipush 11, 2) := by decide +kernel
theorem dX1_near_38 : decode cX1_near 38 = .ok (.invokestatic 46, 3) := by decide +kernel
theorem dX1_near_41 : decode cX1_near 41 = .ok (.iconst 2, 1) := by decide +kernel
theorem dX1_near_42 : decode cX1_near 42 = .ok (.imul, 1) := by decide +kernel
theorem dX1_near_43 : decode cX1_near 43 = .ok (.iadd, 1) := by decide +kernel
theorem dX1_near_44 : decode cX1_near 44 = .ok (.ireturn, 1) := by decide +kernel
theorem dX1_jump_0 : decode cX1_jump 0 = .ok (.iload_n 1, 1) := by decide +kernel
theorem dX1_jump_1 : decode cX1_jump 1 = .ok (.iconst 0, 1) := by decide +kernel
theorem dX1_jump_2 : decode cX1_jump 2 = .ok (.iconst 1, 1) := by decide +kernel
theorem dX1_jump_3 : decode cX1_jump 3 = .ok (.invokestatic 46, 3) := by decide +kernel
theorem dX1_jump_6 : decode cX1_jump 6 = .ok (.ifCond .eq 10, 3) := by decide +kernel
theorem dX1_jump_9 : decode cX1_jump 9 = .ok (.aload_n 0, 1) := by decide +kernel
theorem dX1_jump_10 : decode cX1_jump 10 = .ok (.iconst 0, 1) := by decide +kernel
theorem dX1_jump_11 : decode cX1_jump 11 = .ok (.iload_n 1, 1) := by decide +kernel
theorem dX1_jump_12 : decode cX1_jump 12 = .ok (.invokevirtual 93, 3) := by decide +kernel
theorem dX1_jump_15 : decode cX1_jump 15 = .ok (.return_, 1) := by decide +kernel
theorem dX1_jump_16 : decode cX1_jump 16 = .ok (.aload_n 0, 1) := by decide +kernel
theorem dX1_jump_17 : decode cX1_jump 17 = .ok (.iload_n 2, 1) := by decide +kernel
theorem dX1_jump_18 : decode cX1_jump 18 = .ok (.aload_n 0, 1) := by decide +kernel
theorem dX1_jump_19 : decode cX1_jump 19 = .ok (.getfield 75, 3) := by decide +kernel
theorem dX1_jump_22 : decode cX1_jump 22 = .ok (.iconst 4, 1) := by decide +kernel
theorem dX1_jump_23 : decode cX1_jump 23 = .ok (.iadd, 1) := by decide +kernel
theorem dX1_jump_24 : decode cX1_jump 24 = .ok (.invokevirtual 112, 3) := by decide +kernel
theorem dX1_jump_27 : decode cX1_jump 27 = .ok (.aload_n 0, 1) := by decide +kernel
theorem dX1_jump_28 : decode cX1_jump 28 = .ok (.iload_n 1, 1) := by decide +kernel
theorem dX1_jump_29 : decode cX1_jump 29 = .ok (.putfield 105, 3) := by decide +kernel
theorem dX1_jump_32 : decode cX1_jump 32 = .ok (.return_, 1) := by decide +kernel
theorem dX1_branch_0 : decode cX1_branch 0 = .ok (.iload_n 2, 1) := by decide +kernel
theorem dX1_branch_1 : decode cX1_branch 1 = .ok (.iconst 2, 1) := by decide +kernel
theorem dX1_branch_2 : decode cX1_branch 2 = .ok (.if_icmp .eq 8, 3) := by decide +kernel
theorem dX1_branch_5 : decode cX1_branch 5 = .ok (.iload_n 2, 1) := by decide +kernel
theorem dX1_branch_6 : decode cX1_branch 6 = .ok (.iconst 3, 1) := by decide +kernel
theorem dX1_branch_7 : decode cX1_branch 7 = .ok (.if_icmp .ne 10, 3) := by decide +kernel
theorem dX1_branch_10 : decode cX1_branch 10 = .ok (.aload_n 0, 1) := by decide +kernel
theorem dX1_branch_11 : decode cX1_branch 11 = .ok (.iconst 2, 1) := by decide +kernel
theorem dX1_branch_12 : decode cX1_branch 12 = .ok (.iload_n 1, 1) := by decide +kernel
theorem dX1_branch_13 : decode cX1_branch 13 = .ok (.invokevirtual 93, 3) := by decide +kernel
theorem dX1_branch_16 : decode cX1_branch 16 = .ok (.return_, 1) := by decide +kernel
theorem dX1_branch_17 : decode cX1_branch 17 = .ok (.iload_n 2, 1) := by decide +kernel
theorem dX1_branch_18 : decode cX1_branch 18 = .ok (.iconst 2, 1) := by decide +kernel
theorem dX1_branch_19 : decode cX1_branch 19 = .ok (.if_icmp .ge 17, 3) := by decide +kernel
theorem dX1_branch_22 : decode cX1_branch 22 = .ok (.iload_n 3, 1) := by decide +kernel
theorem dX1_branch_23 : decode cX1_branch 23 = .ok (.iload 4, 2) := by decide +kernel
theorem dX1_branch_25 : decode cX1_branch 25 = .ok (.if_icmp .ne 7, 3) := by decide +kernel
theorem dX1_branch_28 : decode cX1_branch 28 = .ok (.iconst 1, 1) := by decide +kernel
theorem dX1_branch_29 : decode cX1_branch 29 = .ok (.goto 45, 3) := by decide +kernel
theorem dX1_branch_32 : decode cX1_branch 32 = .ok (.iconst 0, 1) := by decide +kernel
theorem dX1_branch_33 : decode cX1_branch 33 = .ok (.goto 41, 3) := by decide +kernel
theorem dX1_branch_36 : decode cX1_branch 36 = .ok (.iload_n 2, 1) := by decide +kernel
theorem dX1_branch_37 : decode cX1_branch 37 = .ok (.bipush 6, 2) := by decide +kernel
theorem dX1_branch_39 : decode cX1_branch 39 = .ok (.if_icmp .ge 17, 3) := by decide +kernel
theorem dX1_branch_42 : decode cX1_branch 42 = .ok (.iload_n 3, 1) := by decide +kernel
theorem dX1_branch_43 : decode cX1_branch 43 = .ok (.iload 4, 2) := by decide +kernel
theorem dX1_branch_45 : decode cX1_branch 45 = .ok (.if_icmp .ge 7, 3) := by decide +kernel
theorem dX1_branch_48 : decode cX1_branch 48 = .ok (.iconst 1, 1) := by decide +kernel
theorem dX1_branch_49 : decode cX1_branch 49 = .ok (.goto 25, 3) := by decide +kernel
theorem dX1_branch_52 : decode cX1_branch 52 = .ok (.iconst 0, 1) := by decide +kernel
theorem dX1_branch_53 : decode cX1_branch 53 = .ok (.goto 21, 3) := by decide +kernel
theorem dX1_branch_56 : decode cX1_branch 56 = .ok (.iload_n 3, 1) := by decide +kernel
theorem dX1_branch_57 : decode cX1_branch 57 = .ok (.invokestatic 36, 3) := by decide +kernel
theorem dX1_branch_60 : decode cX1_branch 60 = .ok (.iload 4, 2) := by decide +kernel
theorem dX1_branch_62 : decode cX1_branch 62 = .ok (.invokestatic 36, 3) := by decide +kernel
theorem dX1_branch_65 : decode cX1_branch 65 = .ok (.lcmp, 1) := by decide +kernel
theorem dX1_branch_66 : decode cX1_branch 66 = .ok (.ifCond .ge 7, 3) := by decide +kernel
theorem dX1_branch_69 : decode cX1_branch 69 = .ok (.iconst 1, 1) := by decide +kernel
theorem dX1_branch_70 : decode cX1_branch 70 = .ok (.goto 4, 3) := by decide +kernel
theorem dX1_branch_73 : decode cX1_branch 73 = .ok (.iconst 0, 1) := by decide +kernel
theorem dX1_branch_74 : decode cX1_branch 74 = .ok (.istore 5, 2) := by decide +kernel
theorem dX1_branch_76 : decode cX1_branch 76 = .ok (.iload 5, 2) := by decide +kernel
theorem dX1_branch_78 : decode cX1_branch 78 = .ok (.iload_n 2, 1) := by decide +kernel
theorem dX1_branch_79 : decode cX1_branch 79 = .ok (.iconst 2, 1) := by decide +kernel
theorem dX1_branch_80 : decode cX1_branch 80 = .ok (.irem, 1) := by decide +kernel
theorem dX1_branch_81 : decode cX1_branch 81 = .ok (.ifCond .ne 7, 3) := by decide +kernel
theorem dX1_branch_84 : decode cX1_branch 84 = .ok (.iconst 1, 1) := by decide +kernel
theorem dX1_branch_85 : decode cX1_branch 85 = .ok (.goto 4, 3) := by decide +kernel
theorem dX1_branch_88 : decode cX1_branch 88 = .ok (.iconst 0, 1) := by decide +kernel
theorem dX1_branch_89 : decode cX1_branch 89 = .ok (.if_icmp .ne 17, 3) := by decide +kernel
theorem dX1_branch_92 : decode cX1_branch 92 = .ok (.aload_n 0, 1) := by decide +kernel
theorem dX1_branch_93 : decode cX1_branch 93 = .ok (.aload_n 0, 1) := by decide +kernel
theorem dX1_branch_94 : decode cX1_branch 94 = .ok (.getfield 75, 3) := by decide +kernel
theorem dX1_branch_97 : decode cX1_branch 97 = .ok (.iload_n 1, 1) := by decide +kernel
theorem dX1_branch_98 : decode cX1_branch 98 = .ok (.invokestatic 142, 3) := by decide +kernel
theorem dX1_branch_101 : decode cX1_branch 101 = .ok (.iadd, 1) := by decide +kernel
theorem dX1_branch_102 : decode cX1_branch 102 = .ok (.iconst 0, 1) := by decide +kernel
theorem dX1_branch_103 : decode cX1_branch 103 = .ok (.invokevirtual 118, 3) := by decide +kernel
theorem dX1_branch_106 : decode cX1_branch 106 = .ok (.return_, 1) := by decide +kernel
theorem dX1_load_0 : decode cX1_load 0 = .ok (.iload_n 2, 1) := by decide +kernel
theorem dX1_load_1 : decode cX1_load 1 = .ok (.iconst 3, 1) := by decide +kernel
theorem dX1_load_2 : decode cX1_load 2 = .ok (.if_icmp .eq 8, 3) := by decide +kernel
theorem dX1_load_5 : decode cX1_load 5 = .ok (.iload_n 2, 1) := by decide +kernel
theorem dX1_load_6 : decode cX1_load 6 = .ok (.iconst 5, 1) := by decide +kernel
theorem dX1_load_7 : decode cX1_load 7 = .ok (.if_icmp .le 10, 3) := by decide +kernel
theorem dX1_load_10 : decode cX1_load 10 = .ok (.aload_n 0, 1) := by decide +kernel
theorem dX1_load_11 : decode cX1_load 11 = .ok (.iconst 2, 1) := by decide +kernel
theorem dX1_load_12 : decode cX1_load 12 = .ok (.iload_n 1, 1) := by decide +kernel
theorem dX1_load_13 : decode cX1_load 13 = .ok (.invokevirtual 93, 3) := by decide +kernel
theorem dX1_load_16 : decode cX1_load 16 = .ok (.return_, 1) := by decide +kernel
theorem dX1_load_17 : decode cX1_load 17 = .ok (.iload_n 2, 1) := by decide +kernel
theorem dX1_load_18 : decode cX1_load 18 = .ok (.iconst 4, 1) := by decide +kernel
theorem dX1_load_19 : decode cX1_load 19 = .ok (.irem, 1) := by decide +kernel
theorem dX1_load_20 : decode cX1_load 20 = .ok (.ifCond .ne 7, 3) := by decide +kernel
theorem dX1_load_23 : decode cX1_load 23 = .ok (.iconst 1, 1) := by decide +kernel
theorem dX1_load_24 : decode cX1_load 24 = .ok (.goto 15, 3) := by decide +kernel
theorem dX1_load_27 : decode cX1_load 27 = .ok (.iload_n 2, 1) := by decide +kernel
theorem dX1_load_28 : decode cX1_load 28 = .ok (.iconst 4, 1) := by decide +kernel
theorem dX1_load_29 : decode cX1_load 29 = .ok (.irem, 1) := by decide +kernel
theorem dX1_load_30 : decode cX1_load 30 = .ok (.iconst 1, 1) := by decide +kernel
theorem dX1_load_31 : decode cX1_load 31 = .ok (.if_icmp .ne 7, 3) := by decide +kernel
theorem dX1_load_34 : decode cX1_load 34 = .ok (.iconst 2, 1) := by decide +kernel
theorem dX1_load_35 : decode cX1_load 35 = .ok (.goto 4, 3) := by decide +kernel
theorem dX1_load_38 : decode cX1_load 38 = .ok (.iconst 4, 1) := by decide +kernel
theorem dX1_load_39 : decode cX1_load 39 = .ok (.istore 5, 2) := by decide +kernel
theorem dX1_load_41 : decode cX1_load 41 = .ok (.aload_n 0, 1) := by decide +kernel
theorem dX1_load_42 : decode cX1_load 42 = .ok (.iload 4, 2) := by decide +kernel
theorem dX1_load_44 : decode cX1_load 44 = .ok (.iload 5, 2) := by decide +kernel
theorem dX1_load_46 : decode cX1_load 46 = .ok (.iconst 1, 1) := by decide +kernel
theorem dX1_load_47 : decode cX1_load 47 = .ok (.invokevirtual 102, 3) := by decide +kernel
theorem dX1_load_50 : decode cX1_load 50 = .ok (.istore 6, 2) := by decide +kernel
theorem dX1_load_52 : decode cX1_load 52 = .ok (.aload_n 0, 1) := by decide +kernel
theorem dX1_load_53 : decode cX1_load 53 = .ok (.getfield 90, 3) := by decide +kernel
theorem dX1_load_56 : decode cX1_load 56 = .ok (.ifCond .eq 4, 3) := by decide +kernel
theorem dX1_load_59 : decode cX1_load 59 = .ok (.return_, 1) := by decide +kernel
theorem dX1_load_60 : decode cX1_load 60 = .ok (.bipush 8, 2) := by decide +kernel
theorem dX1_load_62 : decode cX1_load 62 = .ok (.iload 6, 2) := by decide +kernel
theorem dX1_load_64 : decode cX1_load 64 = .ok (.iconst 0, 1) := by decide +kernel
theorem dX1_load_65 : decode cX1_load 65 = .ok (.iconst 1, 1) := by decide +kernel
theorem dX1_load_66 : decode cX1_load 66 = .ok (.invokestatic 46, 3) := by decide +kernel
theorem dX1_load_69 : decode cX1_load 69 = .ok (.imul, 1) := by decide +kernel
theorem dX1_load_70 : decode cX1_load 70 = .ok (.istore 7, 2) := by decide +kernel
theorem dX1_load_72 : decode cX1_load 72 = .ok (.aload_n 0, 1) := by decide +kernel
theorem dX1_load_73 : decode cX1_load 73 = .ok (.getfield 8, 3) := by decide +kernel
theorem dX1_load_76 : decode cX1_load 76 = .ok (.iload 6, 2) := by decide +kernel
theorem dX1_load_78 : decode cX1_load 78 = .ok (.iconst 4, 1) := by decide +kernel
theorem dX1_load_79 : decode cX1_load 79 = .ok (.idiv, 1) := by decide +kernel
theorem dX1_load_80 : decode cX1_load 80 = .ok (.iaload, 1) := by decide +kernel
theorem dX1_load_81 : decode cX1_load 81 = .ok (.iload 7, 2) := by decide +kernel
theorem dX1_load_83 : decode cX1_load 83 = .ok (.iload 7, 2) := by decide +kernel
theorem dX1_load_85 : decode cX1_load 85 = .ok (.bipush 8, 2) := by decide +kernel
theorem dX1_load_87 : decode cX1_load 87 = .ok (.iload 5, 2) := by decide +kernel
theorem dX1_load_89 : decode cX1_load 89 = .ok (.imul, 1) := by decide +kernel
theorem dX1_load_90 : decode cX1_load 90 = .ok (.iadd, 1) := by decide +kernel
theorem dX1_load_91 : decode cX1_load 91 = .ok (.iconst 1, 1) := by decide +kernel
theorem dX1_load_92 : decode cX1_load 92 = .ok (.isub, 1) := by decide +kernel
theorem dX1_load_93 : decode cX1_load 93 = .ok (.invokestatic 46, 3) := by decide +kernel
theorem dX1_load_96 : decode cX1_load 96 = .ok (.istore 8, 2) := by decide +kernel
theorem dX1_load_98 : decode cX1_load 98 = .ok (.iload_n 2, 1) := by decide +kernel
theorem dX1_load_99 : decode cX1_load 99 = .ok (.iconst 2, 1) := by decide +kernel
theorem dX1_load_100 : decode cX1_load 100 = .ok (.if_icmp .ge 22, 3) := by decide +kernel
theorem dX1_load_103 : decode cX1_load 103 = .ok (.iload 8, 2) := by decide +kernel
theorem dX1_load_105 : decode cX1_load 105 = .ok (.bipush 8, 2) := by decide +kernel
theorem dX1_load_107 : decode cX1_load 107 = .ok (.iload 5, 2) := by decide +kernel
theorem dX1_load_109 : decode cX1_load 109 = .ok (.imul, 1) := by decide +kernel
theorem dX1_load_110 : decode cX1_load 110 = .ok (.iconst 1, 1) := by decide +kernel
theorem dX1_load_111 : decode cX1_load 111 = .ok (.isub, 1) := by decide +kernel
theorem dX1_load_112 : decode cX1_load 112 = .ok (.invokestatic 42, 3) := by decide +kernel
theorem dX1_load_115 : decode cX1_load 115 = .ok (.ifCond .eq 7, 3) := by decide +kernel
theorem dX1_load_118 : decode cX1_load 118 = .ok (.iconst 1, 1) := by decide +kernel
theorem dX1_load_119 : decode cX1_load 119 = .ok (.goto 4, 3) := by decide +kernel
theorem dX1_load_122 : decode cX1_load 122 = .ok (.iconst 0, 1) := by decide +kernel
theorem dX1_load_123 : decode cX1_load 123 = .ok (.istore 9, 2) := by decide +kernel
theorem dX1_load_125 : decode cX1_load 125 = .ok (.aload_n 0, 1) := by decide +kernel
theorem dX1_load_126 : decode cX1_load 126 = .ok (.iload_n 3, 1) := by decide +kernel
theorem dX1_load_127 : decode cX1_load 127 = .ok (.iload 9, 2) := by decide +kernel
theorem dX1_load_129 : decode cX1_load 129 = .ok (.ifCond .eq 16, 3) := by decide +kernel
theorem dX1_load_132 : decode cX1_load 132 = .ok (.iload 8, 2) := by decide +kernel
theorem dX1_load_134 : decode cX1_load 134 = .ok (.iconst 1, 1) := by decide +kernel
theorem dX1_load_135 : decode cX1_load 135 = .ok (.bipush 8, 2) := by decide +kernel
theorem dX1_load_137 : decode cX1_load 137 = .ok (.iload 5, 2) := by decide +kernel
theorem dX1_load_139 : decode cX1_load 139 = .ok (.imul, 1) := by decide +kernel
theorem dX1_load_140 : decode cX1_load 140 = .ok (.ishl, 1) := by decide +kernel
theorem dX1_load_141 : decode cX1_load 141 = .ok (.isub, 1) := by decide +kernel
theorem dX1_load_142 : decode cX1_load 142 = .ok (.goto 5, 3) := by decide +kernel
theorem dX1_load_145 : decode cX1_load 145 = .ok (.iload 8, 2) := by decide +kernel
theorem dX1_load_147 : decode cX1_load 147 = .ok (.invokevirtual 112, 3) := by decide +kernel
theorem dX1_load_150 : decode cX1_load 150 = .ok (.return_, 1) := by decide +kernel
theorem dX1_store_0 : decode cX1_store 0 = .ok (.iload_n 2, 1) := by decide +kernel
theorem dX1_store_1 : decode cX1_store 1 = .ok (.iconst 2, 1) := by decide +kernel
theorem dX1_store_2 : decode cX1_store 2 = .ok (.if_icmp .le 10, 3) := by decide +kernel
theorem dX1_store_5 : decode cX1_store 5 = .ok (.aload_n 0, 1) := by decide +kernel
theorem dX1_store_6 : decode cX1_store 6 = .ok (.iconst 2, 1) := by decide +kernel
theorem dX1_store_7 : decode cX1_store 7 = .ok (.iload_n 1, 1) := by decide +kernel
theorem dX1_store_8 : decode cX1_store 8 = .ok (.invokevirtual 93, 3) := by decide +kernel
theorem dX1_store_11 : decode cX1_store 11 = .ok (.return_, 1) := by decide +kernel
theorem dX1_store_12 : decode cX1_store 12 = .ok (.iload_n 2, 1) := by decide +kernel
theorem dX1_store_13 : decode cX1_store 13 = .ok (.ifCond .ne 7, 3) := by decide +kernel
theorem dX1_store_16 : decode cX1_store 16 = .ok (.iconst 1, 1) := by decide +kernel
theorem dX1_store_17 : decode cX1_store 17 = .ok (.goto 13, 3) := by decide +kernel
theorem dX1_store_20 : decode cX1_store 20 = .ok (.iload_n 2, 1) := by decide +kernel
theorem dX1_store_21 : decode cX1_store 21 = .ok (.iconst 1, 1) := by decide +kernel
theorem dX1_store_22 : decode cX1_store 22 = .ok (.if_icmp .ne 7, 3) := by decide +kernel
theorem dX1_store_25 : decode cX1_store 25 = .ok (.iconst 2, 1) := by decide +kernel
theorem dX1_store_26 : decode cX1_store 26 = .ok (.goto 4, 3) := by decide +kernel
theorem dX1_store_29 : decode cX1_store 29 = .ok (.iconst 4, 1) := by decide +kernel
theorem dX1_store_30 : decode cX1_store 30 = .ok (.istore 5, 2) := by decide +kernel
theorem dX1_store_32 : decode cX1_store 32 = .ok (.aload_n 0, 1) := by decide +kernel
theorem dX1_store_33 : decode cX1_store 33 = .ok (.iload_n 3, 1) := by decide +kernel
theorem dX1_store_34 : decode cX1_store 34 = .ok (.iload 5, 2) := by decide +kernel
theorem dX1_store_36 : decode cX1_store 36 = .ok (.iconst 2, 1) := by decide +kernel
theorem dX1_store_37 : decode cX1_store 37 = .ok (.invokevirtual 102, 3) := by decide +kernel
theorem dX1_store_40 : decode cX1_store 40 = .ok (.istore 6, 2) := by decide +kernel
theorem dX1_store_42 : decode cX1_store 42 = .ok (.aload_n 0, 1) := by decide +kernel
theorem dX1_store_43 : decode cX1_store 43 = .ok (.getfield 90, 3) := by decide +kernel
theorem dX1_store_46 : decode cX1_store 46 = .ok (.ifCond .eq 4, 3) := by decide +kernel
theorem dX1_store_49 : decode cX1_store 49 = .ok (.return_, 1) := by decide +kernel
theorem dX1_store_50 : decode cX1_store 50 = .ok (.bipush 8, 2) := by decide +kernel
theorem dX1_store_52 : decode cX1_store 52 = .ok (.iload 6, 2) := by decide +kernel
theorem dX1_store_54 : decode cX1_store 54 = .ok (.iconst 0, 1) := by decide +kernel
theorem dX1_store_55 : decode cX1_store 55 = .ok (.iconst 1, 1) := by decide +kernel
theorem dX1_store_56 : decode cX1_store 56 = .ok (.invokestatic 46, 3) := by decide +kernel
theorem dX1_store_59 : decode cX1_store 59 = .ok (.imul, 1) := by decide +kernel
theorem dX1_store_60 : decode cX1_store 60 = .ok (.istore 7, 2) := by decide +kernel
theorem dX1_store_62 : decode cX1_store 62 = .ok (.lconst 1, 1) := by decide +kernel
theorem dX1_store_63 : decode cX1_store 63 = .ok (.bipush 8, 2) := by decide +kernel
theorem dX1_store_65 : decode cX1_store 65 = .ok (.iload 5, 2) := by decide +kernel
theorem dX1_store_67 : decode cX1_store 67 = .ok (.imul, 1) := by decide +kernel
theorem dX1_store_68 : decode cX1_store 68 = .ok (.lshl, 1) := by decide +kernel
theorem dX1_store_69 : decode cX1_store 69 = .ok (.lconst 1, 1) := by decide +kernel
theorem dX1_store_70 : decode cX1_store 70 = .ok (.lsub, 1) := by decide +kernel
theorem dX1_store_71 : decode cX1_store 71 = .ok (.iload 7, 2) := by decide +kernel
theorem dX1_store_73 : decode cX1_store 73 = .ok (.lshl, 1) := by decide +kernel
theorem dX1_store_74 : decode cX1_store 74 = .ok (.lstore 8, 2) := by decide +kernel
theorem dX1_store_76 : decode cX1_store 76 = .ok (.aload_n 0, 1) := by decide +kernel
theorem dX1_store_77 : decode cX1_store 77 = .ok (.getfield 8, 3) := by decide +kernel
theorem dX1_store_80 : decode cX1_store 80 = .ok (.iload 6, 2) := by decide +kernel
theorem dX1_store_82 : decode cX1_store 82 = .ok (.iconst 4, 1) := by decide +kernel
theorem dX1_store_83 : decode cX1_store 83 = .ok (.idiv, 1) := by decide +kernel
theorem dX1_store_84 : decode cX1_store 84 = .ok (.iaload, 1) := by decide +kernel
theorem dX1_store_85 : decode cX1_store 85 = .ok (.invokestatic 36, 3) := by decide +kernel
theorem dX1_store_88 : decode cX1_store 88 = .ok (.lstore 10, 2) := by decide +kernel
theorem dX1_store_90 : decode cX1_store 90 = .ok (.aload_n 0, 1) := by decide +kernel
theorem dX1_store_91 : decode cX1_store 91 = .ok (.getfield 8, 3) := by decide +kernel
theorem dX1_store_94 : decode cX1_store 94 = .ok (.iload 6, 2) := by decide +kernel
theorem dX1_store_96 : decode cX1_store 96 = .ok (.iconst 4, 1) := by decide +kernel
theorem dX1_store_97 : decode cX1_store 97 = .ok (.idiv, 1) := by decide +kernel
theorem dX1_store_98 : decode cX1_store 98 = .ok (.lload 10, 2) := by decide +kernel
theorem dX1_store_100 : decode cX1_store 100 = .ok (.lload 10, 2) := by decide +kernel
theorem dX1_store_102 : decode cX1_store 102 = .ok (.lload 8, 2) := by decide +kernel
theorem dX1_store_104 : decode cX1_store 104 = .ok (.land, 1) := by decide +kernel
theorem dX1_store_105 : decode cX1_store 105 = .ok (.lsub, 1) := by decide +kernel
theorem dX1_store_106 : decode cX1_store 106 = .ok (.iload 4, 2) := by decide +kernel
theorem dX1_store_108 : decode cX1_store 108 = .ok (.invokestatic 36, 3) := by decide +kernel
theorem dX1_store_111 : decode cX1_store 111 = .ok (.iload 7, 2) := by decide +kernel
theorem dX1_store_113 : decode cX1_store 113 = .ok (.lshl, 1) := by decide +kernel
theorem dX1_store_114 : decode cX1_store 114 = .ok (.lload 8, 2) := by decide +kernel
theorem dX1_store_116 : decode cX1_store 116 = .ok (.land, 1) := by decide +kernel
theorem dX1_store_117 : decode cX1_store 117 = .ok (.ladd, 1) := by decide +kernel
theorem dX1_store_118 : decode cX1_store 118 = .ok (.l2i, 1) := by decide +kernel
theorem dX1_store_119 : decode cX1_store 119 = .ok (.iastore, 1) := by decide +kernel
theorem dX1_store_120 : decode cX1_store 120 = .ok (.return_, 1) := by decide +kernel
theorem dX1_power_0 : decode cX1_power 0 = .ok (.iconst 1, 1) := by decide +kernel
theorem dX1_power_1 : decode cX1_power 1 = .ok (.iload_n 0, 1) := by decide +kernel
theorem dX1_power_2 : decode cX1_power 2 = .ok (.ishl, 1) := by decide +kernel
theorem dX1_power_3 : decode cX1_power 3 = .ok (.ireturn, 1) := by decide +kernel
theorem dX1_right_0 : decode cX1_right 0 = .ok (.iload_n 2, 1) := by decide +kernel
theorem dX1_right_1 : decode cX1_right 1 = .ok (.ifCond .eq 8, 3) := by decide +kernel
theorem dX1_right_4 : decode cX1_right 4 = .ok (.iload_n 0, 1) := by decide +kernel
theorem dX1_right_5 : decode cX1_right 5 = .ok (.i2l, 1) := by decide +kernel
theorem dX1_right_6 : decode cX1_right 6 = .ok (.goto 7, 3) := by decide +kernel
theorem dX1_right_9 : decode cX1_right 9 = .ok (.iload_n 0, 1) := by decide +kernel
theorem dX1_right_10 : decode cX1_right 10 = .ok (.invokestatic 36, 3) := by decide +kernel
theorem dX1_right_13 : decode cX1_right 13 = .ok (.lstore_n 3, 1) := by decide +kernel
theorem dX1_right_14 : decode cX1_right 14 = .ok (.lload_n 3, 1) := by decide +kernel
theorem dX1_right_15 : decode cX1_right 15 = .ok (.iload_n 1, 1) := by decide +kernel
theorem dX1_right_16 : decode cX1_right 16 = .ok (.lshr, 1) := by decide +kernel
theorem dX1_right_17 : decode cX1_right 17 = .ok (.l2i, 1) := by decide +kernel
theorem dX1_right_18 : decode cX1_right 18 = .ok (.ireturn, 1) := by decide +kernel
theorem dX1_simple_0 : decode cX1_simple 0 = .ok (.iload_n 0, 1) := by decide +kernel
theorem dX1_simple_1 : decode cX1_simple 1 = .ok (.tableswitch 84 0 6 #[43, 84, 47, 58, 76, 84, 80], 43) := by decide +kernel
theorem dX1_simple_44 : decode cX1_simple 44 = .ok (.iload_n 1, 1) := by decide +kernel
theorem dX1_simple_45 : decode cX1_simple 45 = .ok (.iload_n 2, 1) := by decide +kernel
theorem dX1_simple_46 : decode cX1_simple 46 = .ok (.iadd, 1) := by decide +kernel
theorem dX1_simple_47 : decode cX1_simple 47 = .ok (.ireturn, 1) := by decide +kernel
theorem dX1_simple_48 : decode cX1_simple 48 = .ok (.iload_n 1, 1) := by decide +kernel
theorem dX1_simple_49 : decode cX1_simple 49 = .ok (.iload_n 2, 1) := by decide +kernel
theorem dX1_simple_50 : decode cX1_simple 50 = .ok (.if_icmp .ge 7, 3) := by decide +kernel
theorem dX1_simple_53 : decode cX1_simple 53 = .ok (.iconst 1, 1) := by decide +kernel
theorem dX1_simple_54 : decode cX1_simple 54 = .ok (.goto 4, 3) := by decide +kernel
theorem dX1_simple_57 : decode cX1_simple 57 = .ok (.iconst 0, 1) := by decide +kernel
theorem dX1_simple_58 : decode cX1_simple 58 = .ok (.ireturn, 1) := by decide +kernel
theorem dX1_simple_59 : decode cX1_simple 59 = .ok (.iload_n 1, 1) := by decide +kernel
theorem dX1_simple_60 : decode cX1_simple 60 = .ok (.invokestatic 36, 3) := by decide +kernel
theorem dX1_simple_63 : decode cX1_simple 63 = .ok (.iload_n 2, 1) := by decide +kernel
theorem dX1_simple_64 : decode cX1_simple 64 = .ok (.invokestatic 36, 3) := by decide +kernel
theorem dX1_simple_67 : decode cX1_simple 67 = .ok (.lcmp, 1) := by decide +kernel
theorem dX1_simple_68 : decode cX1_simple 68 = .ok (.ifCond .ge 7, 3) := by decide +kernel
theorem dX1_simple_71 : decode cX1_simple 71 = .ok (.iconst 1, 1) := by decide +kernel
theorem dX1_simple_72 : decode cX1_simple 72 = .ok (.goto 4, 3) := by decide +kernel
theorem dX1_simple_75 : decode cX1_simple 75 = .ok (.iconst 0, 1) := by decide +kernel
theorem dX1_simple_76 : decode cX1_simple 76 = .ok (.ireturn, 1) := by decide +kernel
theorem dX1_simple_77 : decode cX1_simple 77 = .ok (.iload_n 1, 1) := by decide +kernel
theorem dX1_simple_78 : decode cX1_simple 78 = .ok (.iload_n 2, 1) := by decide +kernel
theorem dX1_simple_79 : decode cX1_simple 79 = .ok (.ixor, 1) := by decide +kernel
theorem dX1_simple_80 : decode cX1_simple 80 = .ok (.ireturn, 1) := by decide +kernel
theorem dX1_simple_81 : decode cX1_simple 81 = .ok (.iload_n 1, 1) := by decide +kernel
theorem dX1_simple_82 : decode cX1_simple 82 = .ok (.iload_n 2, 1) := by decide +kernel
theorem dX1_simple_83 : decode cX1_simple 83 = .ok (.ior, 1) := by decide +kernel
theorem dX1_simple_84 : decode cX1_simple 84 = .ok (.ireturn, 1) := by decide +kernel
theorem dX1_simple_85 : decode cX1_simple 85 = .ok (.iload_n 1, 1) := by decide +kernel
theorem dX1_simple_86 : decode cX1_simple 86 = .ok (.iload_n 2, 1) := by decide +kernel
theorem dX1_simple_87 : decode cX1_simple 87 = .ok (.iand, 1) := by decide +kernel
theorem dX1_simple_88 : decode cX1_simple 88 = .ok (.ireturn, 1) := by decide +kernel
theorem dX1_withNumber_0 : decode cX1_withNumber 0 = .ok (.iload_n 1, 1) := by decide +kernel
theorem dX1_withNumber_1 : decode cX1_withNumber 1 = .ok (.bipush 20, 2) := by decide +kernel
theorem dX1_withNumber_3 : decode cX1_withNumber 3 = .ok (.bipush 24, 2) := by decide +kernel
theorem dX1_withNumber_5 : decode cX1_withNumber 5 = .ok (.invokestatic 46, 3) := by decide +kernel
theorem dX1_withNumber_8 : decode cX1_withNumber 8 = .ok (.istore 6, 2) := by decide +kernel
theorem dX1_withNumber_10 : decode cX1_withNumber 10 = .ok (.iload_n 1, 1) := by decide +kernel
theorem dX1_withNumber_11 : decode cX1_withNumber 11 = .ok (.bipush 25, 2) := by decide +kernel
theorem dX1_withNumber_13 : decode cX1_withNumber 13 = .ok (.bipush 31, 2) := by decide +kernel
theorem dX1_withNumber_15 : decode cX1_withNumber 15 = .ok (.invokestatic 46, 3) := by decide +kernel
theorem dX1_withNumber_18 : decode cX1_withNumber 18 = .ok (.istore 7, 2) := by decide +kernel
theorem dX1_withNumber_20 : decode cX1_withNumber 20 = .ok (.iload_n 2, 1) := by decide +kernel
theorem dX1_withNumber_21 : decode cX1_withNumber 21 = .ok (.iconst 1, 1) := by decide +kernel
theorem dX1_withNumber_22 : decode cX1_withNumber 22 = .ok (.if_icmp .ne 24, 3) := by decide +kernel
theorem dX1_withNumber_25 : decode cX1_withNumber 25 = .ok (.iload 7, 2) := by decide +kernel
theorem dX1_withNumber_27 : decode cX1_withNumber 27 = .ok (.ifCond .ne 19, 3) := by decide +kernel
theorem dX1_withNumber_30 : decode cX1_withNumber 30 = .ok (.aload_n 0, 1) := by decide +kernel
theorem dX1_withNumber_31 : decode cX1_withNumber 31 = .ok (.iload_n 3, 1) := by decide +kernel
theorem dX1_withNumber_32 : decode cX1_withNumber 32 = .ok (.iload 4, 2) := by decide +kernel
theorem dX1_withNumber_34 : decode cX1_withNumber 34 = .ok (.iload 6, 2) := by decide +kernel
theorem dX1_withNumber_36 : decode cX1_withNumber 36 = .ok (.invokestatic 145, 3) := by decide +kernel
theorem dX1_withNumber_39 : decode cX1_withNumber 39 = .ok (.imul, 1) := by decide +kernel
theorem dX1_withNumber_40 : decode cX1_withNumber 40 = .ok (.invokevirtual 112, 3) := by decide +kernel
theorem dX1_withNumber_43 : decode cX1_withNumber 43 = .ok (.goto 79, 3) := by decide +kernel
theorem dX1_withNumber_46 : decode cX1_withNumber 46 = .ok (.iload_n 2, 1) := by decide +kernel
theorem dX1_withNumber_47 : decode cX1_withNumber 47 = .ok (.iconst 5, 1) := by decide +kernel
theorem dX1_withNumber_48 : decode cX1_withNumber 48 = .ok (.if_icmp .ne 42, 3) := by decide +kernel
theorem dX1_withNumber_51 : decode cX1_withNumber 51 = .ok (.iload 7, 2) := by decide +kernel
theorem dX1_withNumber_53 : decode cX1_withNumber 53 = .ok (.ifCond .eq 10, 3) := by decide +kernel
theorem dX1_withNumber_56 : decode cX1_withNumber 56 = .ok (.iload 7, 2) := by decide +kernel
theorem dX1_withNumber_58 : decode cX1_withNumber 58 = .ok (.bipush 32, 2) := by decide +kernel
theorem dX1_withNumber_60 : decode cX1_withNumber 60 = .ok (.if_icmp .ne 30, 3) := by decide +kernel
theorem dX1_withNumber_63 : decode cX1_withNumber 63 = .ok (.aload_n 0, 1) := by decide +kernel
theorem dX1_withNumber_64 : decode cX1_withNumber 64 = .ok (.iload_n 3, 1) := by decide +kernel
theorem dX1_withNumber_65 : decode cX1_withNumber 65 = .ok (.iload 4, 2) := by decide +kernel
theorem dX1_withNumber_67 : decode cX1_withNumber 67 = .ok (.iload 6, 2) := by decide +kernel
theorem dX1_withNumber_69 : decode cX1_withNumber 69 = .ok (.iload 7, 2) := by decide +kernel
theorem dX1_withNumber_71 : decode cX1_withNumber 71 = .ok (.bipush 32, 2) := by decide +kernel
theorem dX1_withNumber_73 : decode cX1_withNumber 73 = .ok (.if_icmp .ne 7, 3) := by decide +kernel
theorem dX1_withNumber_76 : decode cX1_withNumber 76 = .ok (.iconst 1, 1) := by decide +kernel
theorem dX1_withNumber_77 : decode cX1_withNumber 77 = .ok (.goto 4, 3) := by decide +kernel
theorem dX1_withNumber_80 : decode cX1_withNumber 80 = .ok (.iconst 0, 1) := by decide +kernel
theorem dX1_withNumber_81 : decode cX1_withNumber 81 = .ok (.invokestatic 148, 3) := by decide +kernel
theorem dX1_withNumber_84 : decode cX1_withNumber 84 = .ok (.invokevirtual 112, 3) := by decide +kernel
theorem dX1_withNumber_87 : decode cX1_withNumber 87 = .ok (.goto 35, 3) := by decide +kernel
theorem dX1_withNumber_90 : decode cX1_withNumber 90 = .ok (.iload_n 2, 1) := by decide +kernel
theorem dX1_withNumber_91 : decode cX1_withNumber 91 = .ok (.iconst 1, 1) := by decide +kernel
theorem dX1_withNumber_92 : decode cX1_withNumber 92 = .ok (.if_icmp .eq 8, 3) := by decide +kernel
theorem dX1_withNumber_95 : decode cX1_withNumber 95 = .ok (.iload_n 2, 1) := by decide +kernel
theorem dX1_withNumber_96 : decode cX1_withNumber 96 = .ok (.iconst 5, 1) := by decide +kernel
theorem dX1_withNumber_97 : decode cX1_withNumber 97 = .ok (.if_icmp .ne 12, 3) := by decide +kernel
theorem dX1_withNumber_100 : decode cX1_withNumber 100 = .ok (.aload_n 0, 1) := by decide +kernel
theorem dX1_withNumber_101 : decode cX1_withNumber 101 = .ok (.iconst 2, 1) := by decide +kernel
theorem dX1_withNumber_102 : decode cX1_withNumber 102 = .ok (.iload_n 1, 1) := by decide +kernel
theorem dX1_withNumber_103 : decode cX1_withNumber 103 = .ok (.invokevirtual 93, 3) := by decide +kernel
theorem dX1_withNumber_106 : decode cX1_withNumber 106 = .ok (.goto 16, 3) := by decide +kernel
theorem dX1_withNumber_109 : decode cX1_withNumber 109 = .ok (.aload_n 0, 1) := by decide +kernel
theorem dX1_withNumber_110 : decode cX1_withNumber 110 = .ok (.iload_n 3, 1) := by decide +kernel
theorem dX1_withNumber_111 : decode cX1_withNumber 111 = .ok (.iload_n 2, 1) := by decide +kernel
theorem dX1_withNumber_112 : decode cX1_withNumber 112 = .ok (.iload 4, 2) := by decide +kernel
theorem dX1_withNumber_114 : decode cX1_withNumber 114 = .ok (.iload 5, 2) := by decide +kernel
theorem dX1_withNumber_116 : decode cX1_withNumber 116 = .ok (.invokestatic 152, 3) := by decide +kernel
theorem dX1_withNumber_119 : decode cX1_withNumber 119 = .ok (.invokevirtual 112, 3) := by decide +kernel
theorem dX1_withNumber_122 : decode cX1_withNumber 122 = .ok (.return_, 1) := by decide +kernel
theorem dX1_withTwo_0 : decode cX1_withTwo 0 = .ok (.iload_n 1, 1) := by decide +kernel
theorem dX1_withTwo_1 : decode cX1_withTwo 1 = .ok (.bipush 25, 2) := by decide +kernel
theorem dX1_withTwo_3 : decode cX1_withTwo 3 = .ok (.bipush 31, 2) := by decide +kernel
theorem dX1_withTwo_5 : decode cX1_withTwo 5 = .ok (.invokestatic 46, 3) := by decide +kernel
theorem dX1_withTwo_8 : decode cX1_withTwo 8 = .ok (.istore 6, 2) := by decide +kernel
theorem dX1_withTwo_10 : decode cX1_withTwo 10 = .ok (.iload 5, 2) := by decide +kernel
theorem dX1_withTwo_12 : decode cX1_withTwo 12 = .ok (.iconst 0, 1) := by decide +kernel
theorem dX1_withTwo_13 : decode cX1_withTwo 13 = .ok (.iconst 4, 1) := by decide +kernel
theorem dX1_withTwo_14 : decode cX1_withTwo 14 = .ok (.invokestatic 46, 3) := by decide +kernel
theorem dX1_withTwo_17 : decode cX1_withTwo 17 = .ok (.istore 7, 2) := by decide +kernel
theorem dX1_withTwo_19 : decode cX1_withTwo 19 = .ok (.iload 6, 2) := by decide +kernel
theorem dX1_withTwo_21 : decode cX1_withTwo 21 = .ok (.iconst 1, 1) := by decide +kernel
theorem dX1_withTwo_22 : decode cX1_withTwo 22 = .ok (.if_icmp .ne 35, 3) := by decide +kernel
theorem dX1_withTwo_25 : decode cX1_withTwo 25 = .ok (.aload_n 0, 1) := by decide +kernel
theorem dX1_withTwo_26 : decode cX1_withTwo 26 = .ok (.iload_n 3, 1) := by decide +kernel
theorem dX1_withTwo_27 : decode cX1_withTwo 27 = .ok (.iload_n 2, 1) := by decide +kernel
theorem dX1_withTwo_28 : decode cX1_withTwo 28 = .ok (.iconst 4, 1) := by decide +kernel
theorem dX1_withTwo_29 : decode cX1_withTwo 29 = .ok (.if_icmp .ge 14, 3) := by decide +kernel
theorem dX1_withTwo_32 : decode cX1_withTwo 32 = .ok (.iload_n 2, 1) := by decide +kernel
theorem dX1_withTwo_33 : decode cX1_withTwo 33 = .ok (.iload 4, 2) := by decide +kernel
theorem dX1_withTwo_35 : decode cX1_withTwo 35 = .ok (.iload 5, 2) := by decide +kernel
theorem dX1_withTwo_37 : decode cX1_withTwo 37 = .ok (.invokestatic 155, 3) := by decide +kernel
theorem dX1_withTwo_40 : decode cX1_withTwo 40 = .ok (.goto 11, 3) := by decide +kernel
theorem dX1_withTwo_43 : decode cX1_withTwo 43 = .ok (.iload_n 2, 1) := by decide +kernel
theorem dX1_withTwo_44 : decode cX1_withTwo 44 = .ok (.iload 4, 2) := by decide +kernel
theorem dX1_withTwo_46 : decode cX1_withTwo 46 = .ok (.iload 5, 2) := by decide +kernel
theorem dX1_withTwo_48 : decode cX1_withTwo 48 = .ok (.invokestatic 158, 3) := by decide +kernel
theorem dX1_withTwo_51 : decode cX1_withTwo 51 = .ok (.invokevirtual 112, 3) := by decide +kernel
theorem dX1_withTwo_54 : decode cX1_withTwo 54 = .ok (.goto 106, 3) := by decide +kernel
theorem dX1_withTwo_57 : decode cX1_withTwo 57 = .ok (.iload 6, 2) := by decide +kernel
theorem dX1_withTwo_59 : decode cX1_withTwo 59 = .ok (.ifCond .ne 51, 3) := by decide +kernel
theorem dX1_withTwo_62 : decode cX1_withTwo 62 = .ok (.aload_n 0, 1) := by decide +kernel
theorem dX1_withTwo_63 : decode cX1_withTwo 63 = .ok (.iload_n 3, 1) := by decide +kernel
theorem dX1_withTwo_64 : decode cX1_withTwo 64 = .ok (.iload_n 2, 1) := by decide +kernel
theorem dX1_withTwo_65 : decode cX1_withTwo 65 = .ok (.iconst 1, 1) := by decide +kernel
theorem dX1_withTwo_66 : decode cX1_withTwo 66 = .ok (.if_icmp .ne 14, 3) := by decide +kernel
theorem dX1_withTwo_69 : decode cX1_withTwo 69 = .ok (.iload 4, 2) := by decide +kernel
theorem dX1_withTwo_71 : decode cX1_withTwo 71 = .ok (.iload 7, 2) := by decide +kernel
theorem dX1_withTwo_73 : decode cX1_withTwo 73 = .ok (.invokestatic 145, 3) := by decide +kernel
theorem dX1_withTwo_76 : decode cX1_withTwo 76 = .ok (.imul, 1) := by decide +kernel
theorem dX1_withTwo_77 : decode cX1_withTwo 77 = .ok (.goto 27, 3) := by decide +kernel
theorem dX1_withTwo_80 : decode cX1_withTwo 80 = .ok (.iload_n 2, 1) := by decide +kernel
theorem dX1_withTwo_81 : decode cX1_withTwo 81 = .ok (.iconst 5, 1) := by decide +kernel
theorem dX1_withTwo_82 : decode cX1_withTwo 82 = .ok (.if_icmp .ne 14, 3) := by decide +kernel
theorem dX1_withTwo_85 : decode cX1_withTwo 85 = .ok (.iload 4, 2) := by decide +kernel
theorem dX1_withTwo_87 : decode cX1_withTwo 87 = .ok (.iload 7, 2) := by decide +kernel
theorem dX1_withTwo_89 : decode cX1_withTwo 89 = .ok (.iconst 0, 1) := by decide +kernel
theorem dX1_withTwo_90 : decode cX1_withTwo 90 = .ok (.invokestatic 148, 3) := by decide +kernel
theorem dX1_withTwo_93 : decode cX1_withTwo 93 = .ok (.goto 11, 3) := by decide +kernel
theorem dX1_withTwo_96 : decode cX1_withTwo 96 = .ok (.iload_n 2, 1) := by decide +kernel
theorem dX1_withTwo_97 : decode cX1_withTwo 97 = .ok (.iload 4, 2) := by decide +kernel
theorem dX1_withTwo_99 : decode cX1_withTwo 99 = .ok (.iload 5, 2) := by decide +kernel
theorem dX1_withTwo_101 : decode cX1_withTwo 101 = .ok (.invokestatic 152, 3) := by decide +kernel
theorem dX1_withTwo_104 : decode cX1_withTwo 104 = .ok (.invokevirtual 112, 3) := by decide +kernel
theorem dX1_withTwo_107 : decode cX1_withTwo 107 = .ok (.goto 53, 3) := by decide +kernel
theorem dX1_withTwo_110 : decode cX1_withTwo 110 = .ok (.iload 6, 2) := by decide +kernel
theorem dX1_withTwo_112 : decode cX1_withTwo 112 = .ok (.bipush 32, 2) := by decide +kernel
theorem dX1_withTwo_114 : decode cX1_withTwo 114 = .ok (.if_icmp .ne 40, 3) := by decide +kernel
theorem dX1_withTwo_117 : decode cX1_withTwo 117 = .ok (.iload_n 2, 1) := by decide +kernel
theorem dX1_withTwo_118 : decode cX1_withTwo 118 = .ok (.ifCond .eq 8, 3) := by decide +kernel
theorem dX1_withTwo_121 : decode cX1_withTwo 121 = .ok (.iload_n 2, 1) := by decide +kernel
theorem dX1_withTwo_122 : decode cX1_withTwo 122 = .ok (.iconst 5, 1) := by decide +kernel
theorem dX1_withTwo_123 : decode cX1_withTwo 123 = .ok (.if_icmp .ne 31, 3) := by decide +kernel
theorem dX1_withTwo_126 : decode cX1_withTwo 126 = .ok (.aload_n 0, 1) := by decide +kernel
theorem dX1_withTwo_127 : decode cX1_withTwo 127 = .ok (.iload_n 3, 1) := by decide +kernel
theorem dX1_withTwo_128 : decode cX1_withTwo 128 = .ok (.iload_n 2, 1) := by decide +kernel
theorem dX1_withTwo_129 : decode cX1_withTwo 129 = .ok (.ifCond .ne 11, 3) := by decide +kernel
theorem dX1_withTwo_132 : decode cX1_withTwo 132 = .ok (.iload 4, 2) := by decide +kernel
theorem dX1_withTwo_134 : decode cX1_withTwo 134 = .ok (.iload 5, 2) := by decide +kernel
theorem dX1_withTwo_136 : decode cX1_withTwo 136 = .ok (.isub, 1) := by decide +kernel
theorem dX1_withTwo_137 : decode cX1_withTwo 137 = .ok (.goto 11, 3) := by decide +kernel
theorem dX1_withTwo_140 : decode cX1_withTwo 140 = .ok (.iload 4, 2) := by decide +kernel
theorem dX1_withTwo_142 : decode cX1_withTwo 142 = .ok (.iload 7, 2) := by decide +kernel
theorem dX1_withTwo_144 : decode cX1_withTwo 144 = .ok (.iconst 1, 1) := by decide +kernel
theorem dX1_withTwo_145 : decode cX1_withTwo 145 = .ok (.invokestatic 148, 3) := by decide +kernel
theorem dX1_withTwo_148 : decode cX1_withTwo 148 = .ok (.invokevirtual 112, 3) := by decide +kernel
theorem dX1_withTwo_151 : decode cX1_withTwo 151 = .ok (.goto 9, 3) := by decide +kernel
theorem dX1_withTwo_154 : decode cX1_withTwo 154 = .ok (.aload_n 0, 1) := by decide +kernel
theorem dX1_withTwo_155 : decode cX1_withTwo 155 = .ok (.iconst 2, 1) := by decide +kernel
theorem dX1_withTwo_156 : decode cX1_withTwo 156 = .ok (.iload_n 1, 1) := by decide +kernel
theorem dX1_withTwo_157 : decode cX1_withTwo 157 = .ok (.invokevirtual 93, 3) := by decide +kernel
theorem dX1_withTwo_160 : decode cX1_withTwo 160 = .ok (.return_, 1) := by decide +kernel
theorem dX1_product_0 : decode cX1_product 0 = .ok (.iload_n 0, 1) := by decide +kernel
theorem dX1_product_1 : decode cX1_product 1 = .ok (.ifCond .ne 7, 3) := by decide +kernel
theorem dX1_product_4 : decode cX1_product 4 = .ok (.iload_n 1, 1) := by decide +kernel
theorem dX1_product_5 : decode cX1_product 5 = .ok (.iload_n 2, 1) := by decide +kernel
theorem dX1_product_6 : decode cX1_product 6 = .ok (.imul, 1) := by decide +kernel
theorem dX1_product_7 : decode cX1_product 7 = .ok (.ireturn, 1) := by decide +kernel
theorem dX1_product_8 : decode cX1_product 8 = .ok (.iload_n 1, 1) := by decide +kernel
theorem dX1_product_9 : decode cX1_product 9 = .ok (.invokestatic 36, 3) := by decide +kernel
theorem dX1_product_12 : decode cX1_product 12 = .ok (.lstore_n 3, 1) := by decide +kernel
theorem dX1_product_13 : decode cX1_product 13 = .ok (.iload_n 2, 1) := by decide +kernel
theorem dX1_product_14 : decode cX1_product 14 = .ok (.invokestatic 36, 3) := by decide +kernel
theorem dX1_product_17 : decode cX1_product 17 = .ok (.lstore 5, 2) := by decide +kernel
theorem dX1_product_19 : decode cX1_product 19 = .ok (.lload_n 3, 1) := by decide +kernel
theorem dX1_product_20 : decode cX1_product 20 = .ok (.ldc2_w 161, 3) := by decide +kernel
theorem dX1_product_23 : decode cX1_product 23 = .ok (.land, 1) := by decide +kernel
theorem dX1_product_24 : decode cX1_product 24 = .ok (.lload 5, 2) := by decide +kernel
theorem dX1_product_26 : decode cX1_product 26 = .ok (.ldc2_w 161, 3) := by decide +kernel
theorem dX1_product_29 : decode cX1_product 29 = .ok (.land, 1) := by decide +kernel
theorem dX1_product_30 : decode cX1_product 30 = .ok (.lmul, 1) := by decide +kernel
theorem dX1_product_31 : decode cX1_product 31 = .ok (.lstore 7, 2) := by decide +kernel
theorem dX1_product_33 : decode cX1_product 33 = .ok (.lload_n 3, 1) := by decide +kernel
theorem dX1_product_34 : decode cX1_product 34 = .ok (.bipush 16, 2) := by decide +kernel
theorem dX1_product_36 : decode cX1_product 36 = .ok (.lshr, 1) := by decide +kernel
theorem dX1_product_37 : decode cX1_product 37 = .ok (.lload 5, 2) := by decide +kernel
theorem dX1_product_39 : decode cX1_product 39 = .ok (.ldc2_w 161, 3) := by decide +kernel
theorem dX1_product_42 : decode cX1_product 42 = .ok (.land, 1) := by decide +kernel
theorem dX1_product_43 : decode cX1_product 43 = .ok (.lmul, 1) := by decide +kernel
theorem dX1_product_44 : decode cX1_product 44 = .ok (.lload 7, 2) := by decide +kernel
theorem dX1_product_46 : decode cX1_product 46 = .ok (.bipush 16, 2) := by decide +kernel
theorem dX1_product_48 : decode cX1_product 48 = .ok (.lshr, 1) := by decide +kernel
theorem dX1_product_49 : decode cX1_product 49 = .ok (.ladd, 1) := by decide +kernel
theorem dX1_product_50 : decode cX1_product 50 = .ok (.lstore 9, 2) := by decide +kernel
theorem dX1_product_52 : decode cX1_product 52 = .ok (.lload_n 3, 1) := by decide +kernel
theorem dX1_product_53 : decode cX1_product 53 = .ok (.ldc2_w 161, 3) := by decide +kernel
theorem dX1_product_56 : decode cX1_product 56 = .ok (.land, 1) := by decide +kernel
theorem dX1_product_57 : decode cX1_product 57 = .ok (.lload 5, 2) := by decide +kernel
theorem dX1_product_59 : decode cX1_product 59 = .ok (.bipush 16, 2) := by decide +kernel
theorem dX1_product_61 : decode cX1_product 61 = .ok (.lshr, 1) := by decide +kernel
theorem dX1_product_62 : decode cX1_product 62 = .ok (.lmul, 1) := by decide +kernel
theorem dX1_product_63 : decode cX1_product 63 = .ok (.lload 9, 2) := by decide +kernel
theorem dX1_product_65 : decode cX1_product 65 = .ok (.ldc2_w 161, 3) := by decide +kernel
theorem dX1_product_68 : decode cX1_product 68 = .ok (.land, 1) := by decide +kernel
theorem dX1_product_69 : decode cX1_product 69 = .ok (.ladd, 1) := by decide +kernel
theorem dX1_product_70 : decode cX1_product 70 = .ok (.lstore 11, 2) := by decide +kernel
theorem dX1_product_72 : decode cX1_product 72 = .ok (.lload_n 3, 1) := by decide +kernel
theorem dX1_product_73 : decode cX1_product 73 = .ok (.bipush 16, 2) := by decide +kernel
theorem dX1_product_75 : decode cX1_product 75 = .ok (.lshr, 1) := by decide +kernel
theorem dX1_product_76 : decode cX1_product 76 = .ok (.lload 5, 2) := by decide +kernel
theorem dX1_product_78 : decode cX1_product 78 = .ok (.bipush 16, 2) := by decide +kernel
theorem dX1_product_80 : decode cX1_product 80 = .ok (.lshr, 1) := by decide +kernel
theorem dX1_product_81 : decode cX1_product 81 = .ok (.lmul, 1) := by decide +kernel
