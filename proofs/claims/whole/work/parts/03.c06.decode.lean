theorem dX5_does_318 : decode cX5_does 318 = .ok (.iload_n 1, 1) := by decide +kernel
theorem dX5_does_319 : decode cX5_does 319 = .ok (.sipush 256, 3) := by decide +kernel
theorem dX5_does_322 : decode cX5_does 322 = .ok (.aload_n 0, 1) := by decide +kernel
theorem dX5_does_323 : decode cX5_does 323 = .ok (.iload_n 1, 1) := by decide +kernel
theorem dX5_does_324 : decode cX5_does 324 = .ok (.iload_n 3, 1) := by decide +kernel
theorem dX5_does_325 : decode cX5_does 325 = .ok (.invokevirtual 113, 3) := by decide +kernel
theorem dX5_does_328 : decode cX5_does 328 = .ok (.iadd, 1) := by decide +kernel
theorem dX5_does_329 : decode cX5_does 329 = .ok (.invokevirtual 170, 3) := by decide +kernel
theorem dX5_does_332 : decode cX5_does 332 = .ok (.ireturn, 1) := by decide +kernel
theorem dX5_does_333 : decode cX5_does 333 = .ok (.aload_n 0, 1) := by decide +kernel
theorem dX5_does_334 : decode cX5_does 334 = .ok (.getfield 28, 3) := by decide +kernel
theorem dX5_does_337 : decode cX5_does 337 = .ok (.iload_n 1, 1) := by decide +kernel
theorem dX5_does_338 : decode cX5_does 338 = .ok (.aload_n 0, 1) := by decide +kernel
theorem dX5_does_339 : decode cX5_does 339 = .ok (.getfield 38, 3) := by decide +kernel
theorem dX5_does_342 : decode cX5_does 342 = .ok (.iload_n 1, 1) := by decide +kernel
theorem dX5_does_343 : decode cX5_does 343 = .ok (.iaload, 1) := by decide +kernel
theorem dX5_does_344 : decode cX5_does 344 = .ok (.ifCond .ne 7, 3) := by decide +kernel
theorem dX5_does_347 : decode cX5_does 347 = .ok (.iconst 1, 1) := by decide +kernel
theorem dX5_does_348 : decode cX5_does 348 = .ok (.goto 4, 3) := by decide +kernel
theorem dX5_does_351 : decode cX5_does 351 = .ok (.iconst 0, 1) := by decide +kernel
theorem dX5_does_352 : decode cX5_does 352 = .ok (.bastore, 1) := by decide +kernel
theorem dX5_does_353 : decode cX5_does 353 = .ok (.aload_n 0, 1) := by decide +kernel
theorem dX5_does_354 : decode cX5_does 354 = .ok (.iload_n 1, 1) := by decide +kernel
theorem dX5_does_355 : decode cX5_does 355 = .ok (.iconst 5, 1) := by decide +kernel
theorem dX5_does_356 : decode cX5_does 356 = .ok (.invokevirtual 170, 3) := by decide +kernel
theorem dX5_does_359 : decode cX5_does 359 = .ok (.ireturn, 1) := by decide +kernel
theorem dX5_does_360 : decode cX5_does 360 = .ok (.iconst 1, 1) := by decide +kernel
theorem dX5_does_361 : decode cX5_does 361 = .ok (.ireturn, 1) := by decide +kernel
set_option maxRecDepth 20000 in
theorem ggX5_step_X5_isIn : GoodIn wsX5_step wsX5_isIn := goodIn_r _ [9] (by decide +kernel) (by decide +kernel)
set_option maxRecDepth 20000 in
theorem gX5_step_X5_isIn : GoodIn wsX5_step (va_wsS RX5 92 yX5_isIn wsX5_isIn) := goodIn_app (goodIn_of _ (by decide +kernel)) ggX5_step_X5_isIn
set_option maxRecDepth 20000 in
theorem ggX5_step_X5_faults : GoodIn wsX5_step wsX5_faults := goodIn_r _ [13, 14, 1, 15, 16, 17, 8, 18, 19, 20, 21, 22, 23, 24, 2, 25, 26, 27, 28, 29, 30, 31, 32, 33, 101, 102, 103, 104, 105, 106, 107, 108, 109, 110, 111, 112, 113, 114, 115, 116, 117, 118, 119, 120, 121, 122, 123, 124, 125, 126, 127, 128, 129] (by decide +kernel) (by decide +kernel)
set_option maxRecDepth 20000 in
theorem gX5_step_X5_faults : GoodIn wsX5_step (wsV RX5 142 RX5 yX5_faults wsX5_faults) := goodIn_app (goodIn_of _ (by decide +kernel)) ggX5_step_X5_faults
set_option maxRecDepth 20000 in
theorem ggX5_step_X5_does : GoodIn wsX5_step wsX5_does := goodIn_r _ [37, 38, 39, 40, 41, 4, 1, 14, 42, 43, 44, 8, 45, 23, 46, 47, 48, 49, 50, 51, 52, 53, 6, 7, 9, 10, 11, 12, 13, 15, 16, 17, 18, 19, 20, 21, 22, 24, 2, 25, 26, 27, 28, 29, 30, 31, 32, 33, 54, 55, 56, 57, 58, 59, 60, 61, 62, 63, 64, 65, 66, 67, 68, 69, 70, 71, 72, 73, 74, 75, 76, 77, 78, 79, 80, 81, 82, 83, 84, 85, 86, 87, 88, 89, 90, 91, 92, 93, 94, 95, 96, 97, 98, 99, 100, 101, 102, 103, 104, 105, 106, 107, 108, 109, 110, 111, 112, 113, 114, 115, 116, 117, 118, 119, 120, 121, 122, 123, 124, 125, 126, 127, 128, 129] (by decide +kernel) (by decide +kernel)
set_option maxRecDepth 20000 in
theorem gX5_step_X5_does : GoodIn wsX5_step (wsV RX5 173 RX5 yX5_does wsX5_does) := goodIn_app (goodIn_of _ (by decide +kernel)) ggX5_step_X5_does
theorem dX5_step_0 : decode cX5_step 0 = .ok (.aload_n 0, 1) := by decide +kernel
theorem dX5_step_1 : decode cX5_step 1 = .ok (.getfield 28, 3) := by decide +kernel
theorem dX5_step_4 : decode cX5_step 4 = .ok (.iload_n 1, 1) := by decide +kernel
theorem dX5_step_5 : decode cX5_step 5 = .ok (.baload, 1) := by decide +kernel
theorem dX5_step_6 : decode cX5_step 6 = .ok (.ifCond .eq 5, 3) := by decide +kernel
theorem dX5_step_9 : decode cX5_step 9 = .ok (.iconst 0, 1) := by decide +kernel
theorem dX5_step_10 : decode cX5_step 10 = .ok (.ireturn, 1) := by decide +kernel
theorem dX5_step_11 : decode cX5_step 11 = .ok (.aload_n 0, 1) := by decide +kernel
theorem dX5_step_12 : decode cX5_step 12 = .ok (.getfield 25, 3) := by decide +kernel
theorem dX5_step_15 : decode cX5_step 15 = .ok (.iload_n 1, 1) := by decide +kernel
theorem dX5_step_16 : decode cX5_step 16 = .ok (.iaload, 1) := by decide +kernel
theorem dX5_step_17 : decode cX5_step 17 = .ok (.istore_n 2, 1) := by decide +kernel
theorem dX5_step_18 : decode cX5_step 18 = .ok (.iload_n 2, 1) := by decide +kernel
theorem dX5_step_19 : decode cX5_step 19 = .ok (.aload_n 0, 1) := by decide +kernel
theorem dX5_step_20 : decode cX5_step 20 = .ok (.getfield 106, 3) := by decide +kernel
theorem dX5_step_23 : decode cX5_step 23 = .ok (.invokestatic 92, 3) := by decide +kernel
theorem dX5_step_26 : decode cX5_step 26 = .ok (.ifCond .ne 11, 3) := by decide +kernel
theorem dX5_step_29 : decode cX5_step 29 = .ok (.aload_n 0, 1) := by decide +kernel
theorem dX5_step_30 : decode cX5_step 30 = .ok (.iload_n 1, 1) := by decide +kernel
theorem dX5_step_31 : decode cX5_step 31 = .ok (.invokevirtual 142, 3) := by decide +kernel
theorem dX5_step_34 : decode cX5_step 34 = .ok (.pop, 1) := by decide +kernel
theorem dX5_step_35 : decode cX5_step 35 = .ok (.iconst 0, 1) := by decide +kernel
theorem dX5_step_36 : decode cX5_step 36 = .ok (.ireturn, 1) := by decide +kernel
theorem dX5_step_37 : decode cX5_step 37 = .ok (.aload_n 0, 1) := by decide +kernel
theorem dX5_step_38 : decode cX5_step 38 = .ok (.iload_n 2, 1) := by decide +kernel
theorem dX5_step_39 : decode cX5_step 39 = .ok (.iconst 1, 1) := by decide +kernel
theorem dX5_step_40 : decode cX5_step 40 = .ok (.iadd, 1) := by decide +kernel
theorem dX5_step_41 : decode cX5_step 41 = .ok (.putfield 161, 3) := by decide +kernel
theorem dX5_step_44 : decode cX5_step 44 = .ok (.aload_n 0, 1) := by decide +kernel
theorem dX5_step_45 : decode cX5_step 45 = .ok (.iload_n 1, 1) := by decide +kernel
theorem dX5_step_46 : decode cX5_step 46 = .ok (.iload_n 2, 1) := by decide +kernel
theorem dX5_step_47 : decode cX5_step 47 = .ok (.invokevirtual 173, 3) := by decide +kernel
theorem dX5_step_50 : decode cX5_step 50 = .ok (.ifCond .ne 5, 3) := by decide +kernel
theorem dX5_step_53 : decode cX5_step 53 = .ok (.iconst 0, 1) := by decide +kernel
theorem dX5_step_54 : decode cX5_step 54 = .ok (.ireturn, 1) := by decide +kernel
theorem dX5_step_55 : decode cX5_step 55 = .ok (.aload_n 0, 1) := by decide +kernel
theorem dX5_step_56 : decode cX5_step 56 = .ok (.getfield 25, 3) := by decide +kernel
theorem dX5_step_59 : decode cX5_step 59 = .ok (.iload_n 1, 1) := by decide +kernel
theorem dX5_step_60 : decode cX5_step 60 = .ok (.aload_n 0, 1) := by decide +kernel
theorem dX5_step_61 : decode cX5_step 61 = .ok (.getfield 161, 3) := by decide +kernel
theorem dX5_step_64 : decode cX5_step 64 = .ok (.iastore, 1) := by decide +kernel
theorem dX5_step_65 : decode cX5_step 65 = .ok (.aload_n 0, 1) := by decide +kernel
theorem dX5_step_66 : decode cX5_step 66 = .ok (.getfield 32, 3) := by decide +kernel
theorem dX5_step_69 : decode cX5_step 69 = .ok (.iload_n 1, 1) := by decide +kernel
theorem dX5_step_70 : decode cX5_step 70 = .ok (.dup2, 1) := by decide +kernel
theorem dX5_step_71 : decode cX5_step 71 = .ok (.iaload, 1) := by decide +kernel
theorem dX5_step_72 : decode cX5_step 72 = .ok (.iconst 1, 1) := by decide +kernel
theorem dX5_step_73 : decode cX5_step 73 = .ok (.iadd, 1) := by decide +kernel
theorem dX5_step_74 : decode cX5_step 74 = .ok (.iastore, 1) := by decide +kernel
theorem dX5_step_75 : decode cX5_step 75 = .ok (.iconst 1, 1) := by decide +kernel
theorem dX5_step_76 : decode cX5_step 76 = .ok (.ireturn, 1) := by decide +kernel
set_option maxRecDepth 20000 in
theorem ggX5_pick_X5_isIn : GoodIn wsX5_pick wsX5_isIn := goodIn_r _ [7] (by decide +kernel) (by decide +kernel)
set_option maxRecDepth 20000 in
theorem gX5_pick_X5_isIn : GoodIn wsX5_pick (va_wsS RX5 92 yX5_isIn wsX5_isIn) := goodIn_app (goodIn_of _ (by decide +kernel)) ggX5_pick_X5_isIn
set_option maxRecDepth 20000 in
theorem ggX5_pick_X5_step : GoodIn wsX5_pick wsX5_step := goodIn_r _ [11, 3, 12, 13, 14, 15, 4, 5, 6, 7, 16, 17, 18, 19, 20, 21, 22, 23, 24, 25, 26, 27, 28, 29, 30, 31, 32, 33, 34, 35, 36, 37, 38, 39, 40, 41, 42, 43, 44, 45, 46, 47, 48, 49, 50, 51, 52, 53, 54, 55, 56, 57, 58, 59, 60, 61, 62, 63, 1, 64, 65, 66, 67, 68, 69, 70, 71, 72, 73, 74, 75, 76, 77, 78, 79, 80, 81, 82, 83, 84, 85, 86, 87, 88, 89, 90, 91, 92, 93, 94, 95, 96, 97, 98, 99, 100, 101, 102, 103, 104, 105, 106, 107, 108, 109, 110, 111, 112, 113, 114, 115, 116, 117, 118, 119, 120, 121, 122, 123, 124, 125, 126, 127, 128, 129, 130, 131, 132, 133, 134] (by decide +kernel) (by decide +kernel)
set_option maxRecDepth 20000 in
theorem gX5_pick_X5_step : GoodIn wsX5_pick (wsV RX5 176 RX5 yX5_step wsX5_step) := goodIn_app (goodIn_of _ (by decide +kernel)) ggX5_pick_X5_step
theorem dX5_pick_0 : decode cX5_pick 0 = .ok (.aload_n 0, 1) := by decide +kernel
theorem dX5_pick_1 : decode cX5_pick 1 = .ok (.iload_n 1, 1) := by decide +kernel
theorem dX5_pick_2 : decode cX5_pick 2 = .ok (.aload_n 0, 1) := by decide +kernel
theorem dX5_pick_3 : decode cX5_pick 3 = .ok (.getfield 79, 3) := by decide +kernel
theorem dX5_pick_6 : decode cX5_pick 6 = .ok (.invokestatic 92, 3) := by decide +kernel
theorem dX5_pick_9 : decode cX5_pick 9 = .ok (.ifCond .ne 7, 3) := by decide +kernel
theorem dX5_pick_12 : decode cX5_pick 12 = .ok (.iconst 1, 1) := by decide +kernel
theorem dX5_pick_13 : decode cX5_pick 13 = .ok (.goto 19, 3) := by decide +kernel
theorem dX5_pick_16 : decode cX5_pick 16 = .ok (.iload_n 2, 1) := by decide +kernel
theorem dX5_pick_17 : decode cX5_pick 17 = .ok (.ifCond .lt 10, 3) := by decide +kernel
theorem dX5_pick_20 : decode cX5_pick 20 = .ok (.iload_n 2, 1) := by decide +kernel
theorem dX5_pick_21 : decode cX5_pick 21 = .ok (.sipush 2000, 3) := by decide +kernel
theorem dX5_pick_24 : decode cX5_pick 24 = .ok (.if_icmp .le 7, 3) := by decide +kernel
theorem dX5_pick_27 : decode cX5_pick 27 = .ok (.iconst 2, 1) := by decide +kernel
theorem dX5_pick_28 : decode cX5_pick 28 = .ok (.goto 4, 3) := by decide +kernel
theorem dX5_pick_31 : decode cX5_pick 31 = .ok (.iconst 0, 1) := by decide +kernel
theorem dX5_pick_32 : decode cX5_pick 32 = .ok (.putfield 89, 3) := by decide +kernel
theorem dX5_pick_35 : decode cX5_pick 35 = .ok (.iconst 0, 1) := by decide +kernel
theorem dX5_pick_36 : decode cX5_pick 36 = .ok (.istore_n 3, 1) := by decide +kernel
theorem dX5_pick_37 : decode cX5_pick 37 = .ok (.iconst 0, 1) := by decide +kernel
theorem dX5_pick_38 : decode cX5_pick 38 = .ok (.istore 4, 2) := by decide +kernel
theorem dX5_pick_40 : decode cX5_pick 40 = .ok (.iload 4, 2) := by decide +kernel
theorem dX5_pick_42 : decode cX5_pick 42 = .ok (.iload_n 2, 1) := by decide +kernel
theorem dX5_pick_43 : decode cX5_pick 43 = .ok (.if_icmp .ge 33, 3) := by decide +kernel
theorem dX5_pick_46 : decode cX5_pick 46 = .ok (.aload_n 0, 1) := by decide +kernel
theorem dX5_pick_47 : decode cX5_pick 47 = .ok (.getfield 89, 3) := by decide +kernel
theorem dX5_pick_50 : decode cX5_pick 50 = .ok (.ifCond .ne 26, 3) := by decide +kernel
theorem dX5_pick_53 : decode cX5_pick 53 = .ok (.aload_n 0, 1) := by decide +kernel
theorem dX5_pick_54 : decode cX5_pick 54 = .ok (.getfield 28, 3) := by decide +kernel
theorem dX5_pick_57 : decode cX5_pick 57 = .ok (.iload_n 1, 1) := by decide +kernel
theorem dX5_pick_58 : decode cX5_pick 58 = .ok (.baload, 1) := by decide +kernel
theorem dX5_pick_59 : decode cX5_pick 59 = .ok (.ifCond .ne 17, 3) := by decide +kernel
theorem dX5_pick_62 : decode cX5_pick 62 = .ok (.iload_n 3, 1) := by decide +kernel
theorem dX5_pick_63 : decode cX5_pick 63 = .ok (.aload_n 0, 1) := by decide +kernel
theorem dX5_pick_64 : decode cX5_pick 64 = .ok (.iload_n 1, 1) := by decide +kernel
theorem dX5_pick_65 : decode cX5_pick 65 = .ok (.invokevirtual 176, 3) := by decide +kernel
theorem dX5_pick_68 : decode cX5_pick 68 = .ok (.iadd, 1) := by decide +kernel
theorem dX5_pick_69 : decode cX5_pick 69 = .ok (.istore_n 3, 1) := by decide +kernel
theorem dX5_pick_70 : decode cX5_pick 70 = .ok (.iinc 4 1, 3) := by decide +kernel
theorem dX5_pick_73 : decode cX5_pick 73 = .ok (.goto (-33), 3) := by decide +kernel
theorem dX5_pick_76 : decode cX5_pick 76 = .ok (.iload_n 3, 1) := by decide +kernel
theorem dX5_pick_77 : decode cX5_pick 77 = .ok (.ireturn, 1) := by decide +kernel
set_option maxRecDepth 20000 in
theorem ggX5_run_X5_step : GoodIn wsX5_run wsX5_step := goodIn_r _ [8, 9, 10, 11, 12, 13, 14, 15, 7, 16, 17, 18, 19, 20, 21, 22, 23, 24, 25, 26, 27, 28, 29, 30, 31, 32, 33, 34, 35, 36, 37, 38, 39, 40, 41, 42, 43, 44, 45, 46, 47, 48, 49, 50, 51, 52, 53, 54, 55, 56, 57, 58, 59, 60, 61, 62, 63, 64, 3, 65, 66, 67, 68, 69, 70, 71, 72, 73, 74, 75, 76, 77, 78, 79, 80, 81, 82, 83, 84, 85, 86, 87, 88, 89, 90, 91, 92, 93, 94, 95, 96, 97, 98, 99, 100, 101, 102, 103, 104, 105, 106, 107, 108, 109, 110, 111, 112, 113, 114, 115, 116, 117, 118, 119, 120, 121, 122, 123, 124, 125, 126, 127, 128, 129, 130, 131, 132, 133, 134, 135] (by decide +kernel) (by decide +kernel)
set_option maxRecDepth 20000 in
theorem gX5_run_X5_step : GoodIn wsX5_run (wsV RX5 176 RX5 yX5_step wsX5_step) := goodIn_app (goodIn_of _ (by decide +kernel)) ggX5_run_X5_step
theorem dX5_run_0 : decode cX5_run 0 = .ok (.aload_n 0, 1) := by decide +kernel
theorem dX5_run_1 : decode cX5_run 1 = .ok (.iload_n 2, 1) := by decide +kernel
theorem dX5_run_2 : decode cX5_run 2 = .ok (.ifCond .lt 10, 3) := by decide +kernel
theorem dX5_run_5 : decode cX5_run 5 = .ok (.iload_n 2, 1) := by decide +kernel
theorem dX5_run_6 : decode cX5_run 6 = .ok (.sipush 2000, 3) := by decide +kernel
theorem dX5_run_9 : decode cX5_run 9 = .ok (.if_icmp .le 7, 3) := by decide +kernel
theorem dX5_run_12 : decode cX5_run 12 = .ok (.iconst 1, 1) := by decide +kernel
theorem dX5_run_13 : decode cX5_run 13 = .ok (.goto 4, 3) := by decide +kernel
theorem dX5_run_16 : decode cX5_run 16 = .ok (.iconst 0, 1) := by decide +kernel
theorem dX5_run_17 : decode cX5_run 17 = .ok (.putfield 89, 3) := by decide +kernel
theorem dX5_run_20 : decode cX5_run 20 = .ok (.iload_n 1, 1) := by decide +kernel
theorem dX5_run_21 : decode cX5_run 21 = .ok (.istore_n 3, 1) := by decide +kernel
theorem dX5_run_22 : decode cX5_run 22 = .ok (.iconst 0, 1) := by decide +kernel
theorem dX5_run_23 : decode cX5_run 23 = .ok (.istore 4, 2) := by decide +kernel
theorem dX5_run_25 : decode cX5_run 25 = .ok (.iconst 0, 1) := by decide +kernel
theorem dX5_run_26 : decode cX5_run 26 = .ok (.istore 5, 2) := by decide +kernel
theorem dX5_run_28 : decode cX5_run 28 = .ok (.iload 5, 2) := by decide +kernel
theorem dX5_run_30 : decode cX5_run 30 = .ok (.iload_n 2, 1) := by decide +kernel
theorem dX5_run_31 : decode cX5_run 31 = .ok (.if_icmp .ge 43, 3) := by decide +kernel
theorem dX5_run_34 : decode cX5_run 34 = .ok (.aload_n 0, 1) := by decide +kernel
theorem dX5_run_35 : decode cX5_run 35 = .ok (.getfield 89, 3) := by decide +kernel
theorem dX5_run_38 : decode cX5_run 38 = .ok (.ifCond .ne 36, 3) := by decide +kernel
theorem dX5_run_41 : decode cX5_run 41 = .ok (.iload_n 3, 1) := by decide +kernel
theorem dX5_run_42 : decode cX5_run 42 = .ok (.ldc 180, 2) := by decide +kernel
theorem dX5_run_44 : decode cX5_run 44 = .ok (.imul, 1) := by decide +kernel
theorem dX5_run_45 : decode cX5_run 45 = .ok (.sipush 12345, 3) := by decide +kernel
theorem dX5_run_48 : decode cX5_run 48 = .ok (.iadd, 1) := by decide +kernel
theorem dX5_run_49 : decode cX5_run 49 = .ok (.istore_n 3, 1) := by decide +kernel
theorem dX5_run_50 : decode cX5_run 50 = .ok (.iload 4, 2) := by decide +kernel
theorem dX5_run_52 : decode cX5_run 52 = .ok (.aload_n 0, 1) := by decide +kernel
theorem dX5_run_53 : decode cX5_run 53 = .ok (.iload_n 3, 1) := by decide +kernel
theorem dX5_run_54 : decode cX5_run 54 = .ok (.bipush 16, 2) := by decide +kernel
theorem dX5_run_56 : decode cX5_run 56 = .ok (.iushr, 1) := by decide +kernel
theorem dX5_run_57 : decode cX5_run 57 = .ok (.aload_n 0, 1) := by decide +kernel
theorem dX5_run_58 : decode cX5_run 58 = .ok (.getfield 79, 3) := by decide +kernel
theorem dX5_run_61 : decode cX5_run 61 = .ok (.irem, 1) := by decide +kernel
theorem dX5_run_62 : decode cX5_run 62 = .ok (.invokevirtual 176, 3) := by decide +kernel
theorem dX5_run_65 : decode cX5_run 65 = .ok (.iadd, 1) := by decide +kernel
theorem dX5_run_66 : decode cX5_run 66 = .ok (.istore 4, 2) := by decide +kernel
theorem dX5_run_68 : decode cX5_run 68 = .ok (.iinc 5 1, 3) := by decide +kernel
theorem dX5_run_71 : decode cX5_run 71 = .ok (.goto (-43), 3) := by decide +kernel
theorem dX5_run_74 : decode cX5_run 74 = .ok (.iload 4, 2) := by decide +kernel
theorem dX5_run_76 : decode cX5_run 76 = .ok (.ireturn, 1) := by decide +kernel
set_option maxRecDepth 20000 in
theorem ggX5_register_X5_isIn : GoodIn wsX5_register wsX5_isIn := goodIn_r _ [6] (by decide +kernel) (by decide +kernel)
set_option maxRecDepth 20000 in
theorem gX5_register_X5_isIn : GoodIn wsX5_register (va_wsS RX5 92 yX5_isIn wsX5_isIn) := goodIn_app (goodIn_of _ (by decide +kernel)) ggX5_register_X5_isIn
set_option maxRecDepth 20000 in
theorem ggX5_register_X5_get : GoodIn wsX5_register wsX5_get := goodIn_r _ [10, 11, 12, 13, 14, 15, 16, 17, 18, 19, 20, 21, 22, 23, 24, 25, 26, 27, 28, 29, 30, 31, 32, 33, 34, 35, 36, 37, 38, 39, 40] (by decide +kernel) (by decide +kernel)
set_option maxRecDepth 20000 in
theorem gX5_register_X5_get : GoodIn wsX5_register (wsV RX5 113 RX5 yX5_get wsX5_get) := goodIn_app (goodIn_of _ (by decide +kernel)) ggX5_register_X5_get
theorem dX5_register_0 : decode cX5_register 0 = .ok (.aload_n 0, 1) := by decide +kernel
theorem dX5_register_1 : decode cX5_register 1 = .ok (.iload_n 1, 1) := by decide +kernel
theorem dX5_register_2 : decode cX5_register 2 = .ok (.aload_n 0, 1) := by decide +kernel
theorem dX5_register_3 : decode cX5_register 3 = .ok (.getfield 79, 3) := by decide +kernel
theorem dX5_register_6 : decode cX5_register 6 = .ok (.invokestatic 92, 3) := by decide +kernel
theorem dX5_register_9 : decode cX5_register 9 = .ok (.ifCond .eq 16, 3) := by decide +kernel
theorem dX5_register_12 : decode cX5_register 12 = .ok (.iload_n 2, 1) := by decide +kernel
theorem dX5_register_13 : decode cX5_register 13 = .ok (.bipush 8, 2) := by decide +kernel
theorem dX5_register_15 : decode cX5_register 15 = .ok (.invokestatic 92, 3) := by decide +kernel
theorem dX5_register_18 : decode cX5_register 18 = .ok (.ifCond .eq 7, 3) := by decide +kernel
theorem dX5_register_21 : decode cX5_register 21 = .ok (.iconst 0, 1) := by decide +kernel
theorem dX5_register_22 : decode cX5_register 22 = .ok (.goto 4, 3) := by decide +kernel
theorem dX5_register_25 : decode cX5_register 25 = .ok (.iconst 1, 1) := by decide +kernel
theorem dX5_register_26 : decode cX5_register 26 = .ok (.putfield 89, 3) := by decide +kernel
theorem dX5_register_29 : decode cX5_register 29 = .ok (.aload_n 0, 1) := by decide +kernel
theorem dX5_register_30 : decode cX5_register 30 = .ok (.getfield 89, 3) := by decide +kernel
theorem dX5_register_33 : decode cX5_register 33 = .ok (.ifCond .le 7, 3) := by decide +kernel
theorem dX5_register_36 : decode cX5_register 36 = .ok (.iconst 0, 1) := by decide +kernel
theorem dX5_register_37 : decode cX5_register 37 = .ok (.goto 9, 3) := by decide +kernel
theorem dX5_register_40 : decode cX5_register 40 = .ok (.aload_n 0, 1) := by decide +kernel
theorem dX5_register_41 : decode cX5_register 41 = .ok (.iload_n 1, 1) := by decide +kernel
theorem dX5_register_42 : decode cX5_register 42 = .ok (.iload_n 2, 1) := by decide +kernel
theorem dX5_register_43 : decode cX5_register 43 = .ok (.invokevirtual 113, 3) := by decide +kernel
theorem dX5_register_46 : decode cX5_register 46 = .ok (.ireturn, 1) := by decide +kernel
set_option maxRecDepth 20000 in
theorem ggX5_word_X5_isIn : GoodIn wsX5_word wsX5_isIn := goodIn_r _ [6] (by decide +kernel) (by decide +kernel)
set_option maxRecDepth 20000 in
theorem gX5_word_X5_isIn : GoodIn wsX5_word (va_wsS RX5 92 yX5_isIn wsX5_isIn) := goodIn_app (goodIn_of _ (by decide +kernel)) ggX5_word_X5_isIn
theorem dX5_word_0 : decode cX5_word 0 = .ok (.aload_n 0, 1) := by decide +kernel
theorem dX5_word_1 : decode cX5_word 1 = .ok (.iload_n 1, 1) := by decide +kernel
theorem dX5_word_2 : decode cX5_word 2 = .ok (.bipush 64, 2) := by decide +kernel
theorem dX5_word_4 : decode cX5_word 4 = .ok (.invokestatic 92, 3) := by decide +kernel
theorem dX5_word_7 : decode cX5_word 7 = .ok (.ifCond .eq 7, 3) := by decide +kernel
theorem dX5_word_10 : decode cX5_word 10 = .ok (.iconst 0, 1) := by decide +kernel
theorem dX5_word_11 : decode cX5_word 11 = .ok (.goto 4, 3) := by decide +kernel
theorem dX5_word_14 : decode cX5_word 14 = .ok (.iconst 1, 1) := by decide +kernel
theorem dX5_word_15 : decode cX5_word 15 = .ok (.putfield 89, 3) := by decide +kernel
theorem dX5_word_18 : decode cX5_word 18 = .ok (.aload_n 0, 1) := by decide +kernel
theorem dX5_word_19 : decode cX5_word 19 = .ok (.getfield 89, 3) := by decide +kernel
theorem dX5_word_22 : decode cX5_word 22 = .ok (.ifCond .le 7, 3) := by decide +kernel
theorem dX5_word_25 : decode cX5_word 25 = .ok (.iconst 0, 1) := by decide +kernel
theorem dX5_word_26 : decode cX5_word 26 = .ok (.goto 9, 3) := by decide +kernel
theorem dX5_word_29 : decode cX5_word 29 = .ok (.aload_n 0, 1) := by decide +kernel
theorem dX5_word_30 : decode cX5_word 30 = .ok (.getfield 7, 3) := by decide +kernel
theorem dX5_word_33 : decode cX5_word 33 = .ok (.iload_n 1, 1) := by decide +kernel
theorem dX5_word_34 : decode cX5_word 34 = .ok (.iaload, 1) := by decide +kernel
theorem dX5_word_35 : decode cX5_word 35 = .ok (.ireturn, 1) := by decide +kernel
set_option maxRecDepth 20000 in
theorem ggX5_seen_X5_isIn : GoodIn wsX5_seen wsX5_isIn := goodIn_r _ [6] (by decide +kernel) (by decide +kernel)
set_option maxRecDepth 20000 in
theorem gX5_seen_X5_isIn : GoodIn wsX5_seen (va_wsS RX5 92 yX5_isIn wsX5_isIn) := goodIn_app (goodIn_of _ (by decide +kernel)) ggX5_seen_X5_isIn
set_option maxRecDepth 20000 in
theorem ggX5_seen_X5_sees : GoodIn wsX5_seen wsX5_sees := goodIn_r _ [10, 11, 12, 13, 14, 15, 16, 17, 18, 19, 20, 21, 22, 23, 24, 25, 26, 27, 28, 29, 30, 31, 32, 33, 34, 35, 36, 37, 38, 39, 40, 41, 42] (by decide +kernel) (by decide +kernel)
set_option maxRecDepth 20000 in
theorem gX5_seen_X5_sees : GoodIn wsX5_seen (wsV RX5 139 RX5 yX5_sees wsX5_sees) := goodIn_app (goodIn_of _ (by decide +kernel)) ggX5_seen_X5_sees
theorem dX5_seen_0 : decode cX5_seen 0 = .ok (.aload_n 0, 1) := by decide +kernel
theorem dX5_seen_1 : decode cX5_seen 1 = .ok (.iload_n 1, 1) := by decide +kernel
theorem dX5_seen_2 : decode cX5_seen 2 = .ok (.aload_n 0, 1) := by decide +kernel
theorem dX5_seen_3 : decode cX5_seen 3 = .ok (.getfield 79, 3) := by decide +kernel
theorem dX5_seen_6 : decode cX5_seen 6 = .ok (.invokestatic 92, 3) := by decide +kernel
theorem dX5_seen_9 : decode cX5_seen 9 = .ok (.ifCond .eq 16, 3) := by decide +kernel
theorem dX5_seen_12 : decode cX5_seen 12 = .ok (.iload_n 2, 1) := by decide +kernel
theorem dX5_seen_13 : decode cX5_seen 13 = .ok (.bipush 64, 2) := by decide +kernel
theorem dX5_seen_15 : decode cX5_seen 15 = .ok (.invokestatic 92, 3) := by decide +kernel
theorem dX5_seen_18 : decode cX5_seen 18 = .ok (.ifCond .eq 7, 3) := by decide +kernel
theorem dX5_seen_21 : decode cX5_seen 21 = .ok (.iconst 0, 1) := by decide +kernel
theorem dX5_seen_22 : decode cX5_seen 22 = .ok (.goto 4, 3) := by decide +kernel
theorem dX5_seen_25 : decode cX5_seen 25 = .ok (.iconst 1, 1) := by decide +kernel
theorem dX5_seen_26 : decode cX5_seen 26 = .ok (.putfield 89, 3) := by decide +kernel
theorem dX5_seen_29 : decode cX5_seen 29 = .ok (.aload_n 0, 1) := by decide +kernel
theorem dX5_seen_30 : decode cX5_seen 30 = .ok (.getfield 89, 3) := by decide +kernel
theorem dX5_seen_33 : decode cX5_seen 33 = .ok (.ifCond .le 7, 3) := by decide +kernel
theorem dX5_seen_36 : decode cX5_seen 36 = .ok (.iconst 0, 1) := by decide +kernel
theorem dX5_seen_37 : decode cX5_seen 37 = .ok (.goto 9, 3) := by decide +kernel
theorem dX5_seen_40 : decode cX5_seen 40 = .ok (.aload_n 0, 1) := by decide +kernel
theorem dX5_seen_41 : decode cX5_seen 41 = .ok (.iload_n 1, 1) := by decide +kernel
theorem dX5_seen_42 : decode cX5_seen 42 = .ok (.iload_n 2, 1) := by decide +kernel
theorem dX5_seen_43 : decode cX5_seen 43 = .ok (.invokevirtual 139, 3) := by decide +kernel
theorem dX5_seen_46 : decode cX5_seen 46 = .ok (.ireturn, 1) := by decide +kernel
theorem dX5_bits_0 : decode cX5_bits 0 = .ok (.iconst 0, 1) := by decide +kernel
theorem dX5_bits_1 : decode cX5_bits 1 = .ok (.istore_n 2, 1) := by decide +kernel
theorem dX5_bits_2 : decode cX5_bits 2 = .ok (.iconst 0, 1) := by decide +kernel
theorem dX5_bits_3 : decode cX5_bits 3 = .ok (.istore_n 3, 1) := by decide +kernel
theorem dX5_bits_4 : decode cX5_bits 4 = .ok (.iload_n 3, 1) := by decide +kernel
theorem dX5_bits_5 : decode cX5_bits 5 = .ok (.bipush 64, 2) := by decide +kernel
theorem dX5_bits_7 : decode cX5_bits 7 = .ok (.if_icmp .ge 27, 3) := by decide +kernel
theorem dX5_bits_10 : decode cX5_bits 10 = .ok (.lload_n 0, 1) := by decide +kernel
theorem dX5_bits_11 : decode cX5_bits 11 = .ok (.iload_n 3, 1) := by decide +kernel
theorem dX5_bits_12 : decode cX5_bits 12 = .ok (.lshr, 1) := by decide +kernel
theorem dX5_bits_13 : decode cX5_bits 13 = .ok (.lconst 1, 1) := by decide +kernel
theorem dX5_bits_14 : decode cX5_bits 14 = .ok (.land, 1) := by decide +kernel
theorem dX5_bits_15 : decode cX5_bits 15 = .ok (.lconst 1, 1) := by decide +kernel
theorem dX5_bits_16 : decode cX5_bits 16 = .ok (.lcmp, 1) := by decide +kernel
theorem dX5_bits_17 : decode cX5_bits 17 = .ok (.ifCond .ne 9, 3) := by decide +kernel
theorem dX5_bits_20 : decode cX5_bits 20 = .ok (.iload_n 2, 1) := by decide +kernel
theorem dX5_bits_21 : decode cX5_bits 21 = .ok (.iconst 1, 1) := by decide +kernel
theorem dX5_bits_22 : decode cX5_bits 22 = .ok (.iadd, 1) := by decide +kernel
theorem dX5_bits_23 : decode cX5_bits 23 = .ok (.goto 4, 3) := by decide +kernel
theorem dX5_bits_26 : decode cX5_bits 26 = .ok (.iload_n 2, 1) := by decide +kernel
theorem dX5_bits_27 : decode cX5_bits 27 = .ok (.istore_n 2, 1) := by decide +kernel
theorem dX5_bits_28 : decode cX5_bits 28 = .ok (.iinc 3 1, 3) := by decide +kernel
theorem dX5_bits_31 : decode cX5_bits 31 = .ok (.goto (-27), 3) := by decide +kernel
theorem dX5_bits_34 : decode cX5_bits 34 = .ok (.iload_n 2, 1) := by decide +kernel
theorem dX5_bits_35 : decode cX5_bits 35 = .ok (.ireturn, 1) := by decide +kernel
set_option maxRecDepth 20000 in
theorem ggX5_told_X5_isIn : GoodIn wsX5_told wsX5_isIn := goodIn_r _ [16] (by decide +kernel) (by decide +kernel)
set_option maxRecDepth 20000 in
theorem gX5_told_X5_isIn : GoodIn wsX5_told (va_wsS RX5 92 yX5_isIn wsX5_isIn) := goodIn_app (goodIn_of _ (by decide +kernel)) ggX5_told_X5_isIn
set_option maxRecDepth 20000 in
theorem ggX5_told_X5_bits : GoodIn wsX5_told wsX5_bits := goodIn_r _ [19] (by decide +kernel) (by decide +kernel)
set_option maxRecDepth 20000 in
theorem gX5_told_X5_bits : GoodIn wsX5_told (va_wsS RX5 181 yX5_bits wsX5_bits) := goodIn_app (goodIn_of _ (by decide +kernel)) ggX5_told_X5_bits
theorem dX5_told_0 : decode cX5_told 0 = .ok (.aload_n 0, 1) := by decide +kernel
theorem dX5_told_1 : decode cX5_told 1 = .ok (.iload_n 1, 1) := by decide +kernel
theorem dX5_told_2 : decode cX5_told 2 = .ok (.aload_n 0, 1) := by decide +kernel
theorem dX5_told_3 : decode cX5_told 3 = .ok (.getfield 79, 3) := by decide +kernel
theorem dX5_told_6 : decode cX5_told 6 = .ok (.invokestatic 92, 3) := by decide +kernel
theorem dX5_told_9 : decode cX5_told 9 = .ok (.ifCond .ne 7, 3) := by decide +kernel
theorem dX5_told_12 : decode cX5_told 12 = .ok (.iconst 1, 1) := by decide +kernel
theorem dX5_told_13 : decode cX5_told 13 = .ok (.goto 17, 3) := by decide +kernel
theorem dX5_told_16 : decode cX5_told 16 = .ok (.iload_n 2, 1) := by decide +kernel
theorem dX5_told_17 : decode cX5_told 17 = .ok (.bipush 10, 2) := by decide +kernel
theorem dX5_told_19 : decode cX5_told 19 = .ok (.invokestatic 92, 3) := by decide +kernel
theorem dX5_told_22 : decode cX5_told 22 = .ok (.ifCond .eq 7, 3) := by decide +kernel
theorem dX5_told_25 : decode cX5_told 25 = .ok (.iconst 0, 1) := by decide +kernel
theorem dX5_told_26 : decode cX5_told 26 = .ok (.goto 4, 3) := by decide +kernel
theorem dX5_told_29 : decode cX5_told 29 = .ok (.iconst 2, 1) := by decide +kernel
theorem dX5_told_30 : decode cX5_told 30 = .ok (.putfield 89, 3) := by decide +kernel
theorem dX5_told_33 : decode cX5_told 33 = .ok (.aload_n 0, 1) := by decide +kernel
theorem dX5_told_34 : decode cX5_told 34 = .ok (.getfield 89, 3) := by decide +kernel
theorem dX5_told_37 : decode cX5_told 37 = .ok (.ifCond .le 5, 3) := by decide +kernel
theorem dX5_told_40 : decode cX5_told 40 = .ok (.iconst 0, 1) := by decide +kernel
theorem dX5_told_41 : decode cX5_told 41 = .ok (.ireturn, 1) := by decide +kernel
theorem dX5_told_42 : decode cX5_told 42 = .ok (.iload_n 2, 1) := by decide +kernel
theorem dX5_told_43 : decode cX5_told 43 = .ok (.tableswitch 131 0 8 #[49, 56, 71, 78, 85, 92, 103, 114, 124], 49) := by decide +kernel
theorem dX5_told_92 : decode cX5_told 92 = .ok (.aload_n 0, 1) := by decide +kernel
theorem dX5_told_93 : decode cX5_told 93 = .ok (.getfield 25, 3) := by decide +kernel
theorem dX5_told_96 : decode cX5_told 96 = .ok (.iload_n 1, 1) := by decide +kernel
theorem dX5_told_97 : decode cX5_told 97 = .ok (.iaload, 1) := by decide +kernel
theorem dX5_told_98 : decode cX5_told 98 = .ok (.ireturn, 1) := by decide +kernel
theorem dX5_told_99 : decode cX5_told 99 = .ok (.aload_n 0, 1) := by decide +kernel
theorem dX5_told_100 : decode cX5_told 100 = .ok (.getfield 28, 3) := by decide +kernel
theorem dX5_told_103 : decode cX5_told 103 = .ok (.iload_n 1, 1) := by decide +kernel
theorem dX5_told_104 : decode cX5_told 104 = .ok (.baload, 1) := by decide +kernel
theorem dX5_told_105 : decode cX5_told 105 = .ok (.ifCond .eq 7, 3) := by decide +kernel
theorem dX5_told_108 : decode cX5_told 108 = .ok (.iconst 1, 1) := by decide +kernel
theorem dX5_told_109 : decode cX5_told 109 = .ok (.goto 4, 3) := by decide +kernel
theorem dX5_told_112 : decode cX5_told 112 = .ok (.iconst 0, 1) := by decide +kernel
theorem dX5_told_113 : decode cX5_told 113 = .ok (.ireturn, 1) := by decide +kernel
theorem dX5_told_114 : decode cX5_told 114 = .ok (.aload_n 0, 1) := by decide +kernel
theorem dX5_told_115 : decode cX5_told 115 = .ok (.getfield 32, 3) := by decide +kernel
theorem dX5_told_118 : decode cX5_told 118 = .ok (.iload_n 1, 1) := by decide +kernel
theorem dX5_told_119 : decode cX5_told 119 = .ok (.iaload, 1) := by decide +kernel
theorem dX5_told_120 : decode cX5_told 120 = .ok (.ireturn, 1) := by decide +kernel
theorem dX5_told_121 : decode cX5_told 121 = .ok (.aload_n 0, 1) := by decide +kernel
theorem dX5_told_122 : decode cX5_told 122 = .ok (.getfield 38, 3) := by decide +kernel
theorem dX5_told_125 : decode cX5_told 125 = .ok (.iload_n 1, 1) := by decide +kernel
theorem dX5_told_126 : decode cX5_told 126 = .ok (.iaload, 1) := by decide +kernel
theorem dX5_told_127 : decode cX5_told 127 = .ok (.ireturn, 1) := by decide +kernel
theorem dX5_told_128 : decode cX5_told 128 = .ok (.aload_n 0, 1) := by decide +kernel
theorem dX5_told_129 : decode cX5_told 129 = .ok (.getfield 41, 3) := by decide +kernel
theorem dX5_told_132 : decode cX5_told 132 = .ok (.iload_n 1, 1) := by decide +kernel
theorem dX5_told_133 : decode cX5_told 133 = .ok (.iaload, 1) := by decide +kernel
theorem dX5_told_134 : decode cX5_told 134 = .ok (.ireturn, 1) := by decide +kernel
theorem dX5_told_135 : decode cX5_told 135 = .ok (.aload_n 0, 1) := by decide +kernel
theorem dX5_told_136 : decode cX5_told 136 = .ok (.getfield 53, 3) := by decide +kernel
theorem dX5_told_139 : decode cX5_told 139 = .ok (.iload_n 1, 1) := by decide +kernel
theorem dX5_told_140 : decode cX5_told 140 = .ok (.iaload, 1) := by decide +kernel
theorem dX5_told_141 : decode cX5_told 141 = .ok (.i2l, 1) := by decide +kernel
theorem dX5_told_142 : decode cX5_told 142 = .ok (.invokestatic 181, 3) := by decide +kernel
theorem dX5_told_145 : decode cX5_told 145 = .ok (.ireturn, 1) := by decide +kernel
theorem dX5_told_146 : decode cX5_told 146 = .ok (.aload_n 0, 1) := by decide +kernel
theorem dX5_told_147 : decode cX5_told 147 = .ok (.getfield 56, 3) := by decide +kernel
theorem dX5_told_150 : decode cX5_told 150 = .ok (.iload_n 1, 1) := by decide +kernel
theorem dX5_told_151 : decode cX5_told 151 = .ok (.iaload, 1) := by decide +kernel
theorem dX5_told_152 : decode cX5_told 152 = .ok (.i2l, 1) := by decide +kernel
theorem dX5_told_153 : decode cX5_told 153 = .ok (.invokestatic 181, 3) := by decide +kernel
theorem dX5_told_156 : decode cX5_told 156 = .ok (.ireturn, 1) := by decide +kernel
theorem dX5_told_157 : decode cX5_told 157 = .ok (.aload_n 0, 1) := by decide +kernel
theorem dX5_told_158 : decode cX5_told 158 = .ok (.getfield 59, 3) := by decide +kernel
theorem dX5_told_161 : decode cX5_told 161 = .ok (.iload_n 1, 1) := by decide +kernel
theorem dX5_told_162 : decode cX5_told 162 = .ok (.laload, 1) := by decide +kernel
theorem dX5_told_163 : decode cX5_told 163 = .ok (.invokestatic 181, 3) := by decide +kernel
theorem dX5_told_166 : decode cX5_told 166 = .ok (.ireturn, 1) := by decide +kernel
theorem dX5_told_167 : decode cX5_told 167 = .ok (.aload_n 0, 1) := by decide +kernel
theorem dX5_told_168 : decode cX5_told 168 = .ok (.getfield 66, 3) := by decide +kernel
theorem dX5_told_171 : decode cX5_told 171 = .ok (.iload_n 1, 1) := by decide +kernel
theorem dX5_told_172 : decode cX5_told 172 = .ok (.iaload, 1) := by decide +kernel
theorem dX5_told_173 : decode cX5_told 173 = .ok (.ireturn, 1) := by decide +kernel
theorem dX5_told_174 : decode cX5_told 174 = .ok (.aload_n 0, 1) := by decide +kernel
theorem dX5_told_175 : decode cX5_told 175 = .ok (.getfield 69, 3) := by decide +kernel
theorem dX5_told_178 : decode cX5_told 178 = .ok (.iload_n 1, 1) := by decide +kernel
theorem dX5_told_179 : decode cX5_told 179 = .ok (.iaload, 1) := by decide +kernel
theorem dX5_told_180 : decode cX5_told 180 = .ok (.ireturn, 1) := by decide +kernel
theorem dX5_records_0 : decode cX5_records 0 = .ok (.aload_n 0, 1) := by decide +kernel
theorem dX5_records_1 : decode cX5_records 1 = .ok (.iconst 0, 1) := by decide +kernel
theorem dX5_records_2 : decode cX5_records 2 = .ok (.putfield 89, 3) := by decide +kernel
theorem dX5_records_5 : decode cX5_records 5 = .ok (.aload_n 0, 1) := by decide +kernel
theorem dX5_records_6 : decode cX5_records 6 = .ok (.getfield 121, 3) := by decide +kernel
theorem dX5_records_9 : decode cX5_records 9 = .ok (.ireturn, 1) := by decide +kernel
set_option maxRecDepth 20000 in
theorem ggX5_record_X5_isIn : GoodIn wsX5_record wsX5_isIn := goodIn_r _ [7] (by decide +kernel) (by decide +kernel)
set_option maxRecDepth 20000 in
theorem gX5_record_X5_isIn : GoodIn wsX5_record (va_wsS RX5 92 yX5_isIn wsX5_isIn) := goodIn_app (goodIn_of _ (by decide +kernel)) ggX5_record_X5_isIn
theorem dX5_record_0 : decode cX5_record 0 = .ok (.aload_n 0, 1) := by decide +kernel
theorem dX5_record_1 : decode cX5_record 1 = .ok (.iload_n 1, 1) := by decide +kernel
theorem dX5_record_2 : decode cX5_record 2 = .ok (.aload_n 0, 1) := by decide +kernel
theorem dX5_record_3 : decode cX5_record 3 = .ok (.getfield 121, 3) := by decide +kernel
theorem dX5_record_6 : decode cX5_record 6 = .ok (.invokestatic 92, 3) := by decide +kernel
theorem dX5_record_9 : decode cX5_record 9 = .ok (.ifCond .ne 7, 3) := by decide +kernel
theorem dX5_record_12 : decode cX5_record 12 = .ok (.iconst 1, 1) := by decide +kernel
theorem dX5_record_13 : decode cX5_record 13 = .ok (.goto 16, 3) := by decide +kernel
theorem dX5_record_16 : decode cX5_record 16 = .ok (.iload_n 2, 1) := by decide +kernel
theorem dX5_record_17 : decode cX5_record 17 = .ok (.iconst 4, 1) := by decide +kernel
theorem dX5_record_18 : decode cX5_record 18 = .ok (.invokestatic 92, 3) := by decide +kernel
theorem dX5_record_21 : decode cX5_record 21 = .ok (.ifCond .eq 7, 3) := by decide +kernel
theorem dX5_record_24 : decode cX5_record 24 = .ok (.iconst 0, 1) := by decide +kernel
theorem dX5_record_25 : decode cX5_record 25 = .ok (.goto 4, 3) := by decide +kernel
theorem dX5_record_28 : decode cX5_record 28 = .ok (.iconst 2, 1) := by decide +kernel
theorem dX5_record_29 : decode cX5_record 29 = .ok (.putfield 89, 3) := by decide +kernel
theorem dX5_record_32 : decode cX5_record 32 = .ok (.aload_n 0, 1) := by decide +kernel
theorem dX5_record_33 : decode cX5_record 33 = .ok (.getfield 89, 3) := by decide +kernel
theorem dX5_record_36 : decode cX5_record 36 = .ok (.ifCond .le 7, 3) := by decide +kernel
theorem dX5_record_39 : decode cX5_record 39 = .ok (.iconst 0, 1) := by decide +kernel
theorem dX5_record_40 : decode cX5_record 40 = .ok (.goto 13, 3) := by decide +kernel
theorem dX5_record_43 : decode cX5_record 43 = .ok (.aload_n 0, 1) := by decide +kernel
theorem dX5_record_44 : decode cX5_record 44 = .ok (.getfield 72, 3) := by decide +kernel
theorem dX5_record_47 : decode cX5_record 47 = .ok (.iconst 4, 1) := by decide +kernel
theorem dX5_record_48 : decode cX5_record 48 = .ok (.iload_n 1, 1) := by decide +kernel
theorem dX5_record_49 : decode cX5_record 49 = .ok (.imul, 1) := by decide +kernel
theorem dX5_record_50 : decode cX5_record 50 = .ok (.iload_n 2, 1) := by decide +kernel
theorem dX5_record_51 : decode cX5_record 51 = .ok (.iadd, 1) := by decide +kernel
theorem dX5_record_52 : decode cX5_record 52 = .ok (.iaload, 1) := by decide +kernel
theorem dX5_record_53 : decode cX5_record 53 = .ok (.ireturn, 1) := by decide +kernel
set_option maxRecDepth 20000 in
theorem ggX5_clear_X5_leave : GoodIn wsX5_clear wsX5_leave := goodIn_r _ [16, 17, 18, 19, 20, 21, 22, 23, 24, 25, 26, 27, 28, 29, 30, 31, 32, 33, 34, 35, 36, 37, 38, 39, 40, 41, 42, 43, 44, 45, 46, 47, 48, 49, 50] (by decide +kernel) (by decide +kernel)
set_option maxRecDepth 20000 in
theorem gX5_clear_X5_leave : GoodIn wsX5_clear (wsV RX5 109 RX5 yX5_leave wsX5_leave) := goodIn_app (goodIn_of _ (by decide +kernel)) ggX5_clear_X5_leave
theorem dX5_clear_0 : decode cX5_clear 0 = .ok (.aload_n 0, 1) := by decide +kernel
theorem dX5_clear_1 : decode cX5_clear 1 = .ok (.iconst 0, 1) := by decide +kernel
theorem dX5_clear_2 : decode cX5_clear 2 = .ok (.putfield 89, 3) := by decide +kernel
theorem dX5_clear_5 : decode cX5_clear 5 = .ok (.aload_n 0, 1) := by decide +kernel
theorem dX5_clear_6 : decode cX5_clear 6 = .ok (.iconst 0, 1) := by decide +kernel
theorem dX5_clear_7 : decode cX5_clear 7 = .ok (.putfield 106, 3) := by decide +kernel
theorem dX5_clear_10 : decode cX5_clear 10 = .ok (.aload_n 0, 1) := by decide +kernel
theorem dX5_clear_11 : decode cX5_clear 11 = .ok (.iconst 0, 1) := by decide +kernel
theorem dX5_clear_12 : decode cX5_clear 12 = .ok (.putfield 148, 3) := by decide +kernel
theorem dX5_clear_15 : decode cX5_clear 15 = .ok (.aload_n 0, 1) := by decide +kernel
theorem dX5_clear_16 : decode cX5_clear 16 = .ok (.iconst 0, 1) := by decide +kernel
theorem dX5_clear_17 : decode cX5_clear 17 = .ok (.putfield 121, 3) := by decide +kernel
theorem dX5_clear_20 : decode cX5_clear 20 = .ok (.iconst 0, 1) := by decide +kernel
theorem dX5_clear_21 : decode cX5_clear 21 = .ok (.istore_n 1, 1) := by decide +kernel
theorem dX5_clear_22 : decode cX5_clear 22 = .ok (.iload_n 1, 1) := by decide +kernel
theorem dX5_clear_23 : decode cX5_clear 23 = .ok (.bipush 64, 2) := by decide +kernel
theorem dX5_clear_25 : decode cX5_clear 25 = .ok (.if_icmp .ge 16, 3) := by decide +kernel
theorem dX5_clear_28 : decode cX5_clear 28 = .ok (.aload_n 0, 1) := by decide +kernel
theorem dX5_clear_29 : decode cX5_clear 29 = .ok (.getfield 7, 3) := by decide +kernel
theorem dX5_clear_32 : decode cX5_clear 32 = .ok (.iload_n 1, 1) := by decide +kernel
theorem dX5_clear_33 : decode cX5_clear 33 = .ok (.iconst 0, 1) := by decide +kernel
theorem dX5_clear_34 : decode cX5_clear 34 = .ok (.iastore, 1) := by decide +kernel
theorem dX5_clear_35 : decode cX5_clear 35 = .ok (.iinc 1 1, 3) := by decide +kernel
theorem dX5_clear_38 : decode cX5_clear 38 = .ok (.goto (-16), 3) := by decide +kernel
theorem dX5_clear_41 : decode cX5_clear 41 = .ok (.iconst 0, 1) := by decide +kernel
theorem dX5_clear_42 : decode cX5_clear 42 = .ok (.istore_n 1, 1) := by decide +kernel
theorem dX5_clear_43 : decode cX5_clear 43 = .ok (.iload_n 1, 1) := by decide +kernel
theorem dX5_clear_44 : decode cX5_clear 44 = .ok (.iconst 4, 1) := by decide +kernel
theorem dX5_clear_45 : decode cX5_clear 45 = .ok (.if_icmp .ge 49, 3) := by decide +kernel
theorem dX5_clear_48 : decode cX5_clear 48 = .ok (.aload_n 0, 1) := by decide +kernel
theorem dX5_clear_49 : decode cX5_clear 49 = .ok (.getfield 25, 3) := by decide +kernel
theorem dX5_clear_52 : decode cX5_clear 52 = .ok (.iload_n 1, 1) := by decide +kernel
theorem dX5_clear_53 : decode cX5_clear 53 = .ok (.iconst 0, 1) := by decide +kernel
theorem dX5_clear_54 : decode cX5_clear 54 = .ok (.iastore, 1) := by decide +kernel
theorem dX5_clear_55 : decode cX5_clear 55 = .ok (.aload_n 0, 1) := by decide +kernel
theorem dX5_clear_56 : decode cX5_clear 56 = .ok (.getfield 28, 3) := by decide +kernel
theorem dX5_clear_59 : decode cX5_clear 59 = .ok (.iload_n 1, 1) := by decide +kernel
theorem dX5_clear_60 : decode cX5_clear 60 = .ok (.iconst 0, 1) := by decide +kernel
theorem dX5_clear_61 : decode cX5_clear 61 = .ok (.bastore, 1) := by decide +kernel
theorem dX5_clear_62 : decode cX5_clear 62 = .ok (.aload_n 0, 1) := by decide +kernel
theorem dX5_clear_63 : decode cX5_clear 63 = .ok (.getfield 32, 3) := by decide +kernel
theorem dX5_clear_66 : decode cX5_clear 66 = .ok (.iload_n 1, 1) := by decide +kernel
theorem dX5_clear_67 : decode cX5_clear 67 = .ok (.iconst 0, 1) := by decide +kernel
theorem dX5_clear_68 : decode cX5_clear 68 = .ok (.iastore, 1) := by decide +kernel
theorem dX5_clear_69 : decode cX5_clear 69 = .ok (.aload_n 0, 1) := by decide +kernel
theorem dX5_clear_70 : decode cX5_clear 70 = .ok (.getfield 66, 3) := by decide +kernel
theorem dX5_clear_73 : decode cX5_clear 73 = .ok (.iload_n 1, 1) := by decide +kernel
theorem dX5_clear_74 : decode cX5_clear 74 = .ok (.iconst 0, 1) := by decide +kernel
theorem dX5_clear_75 : decode cX5_clear 75 = .ok (.iastore, 1) := by decide +kernel
theorem dX5_clear_76 : decode cX5_clear 76 = .ok (.aload_n 0, 1) := by decide +kernel
theorem dX5_clear_77 : decode cX5_clear 77 = .ok (.getfield 69, 3) := by decide +kernel
theorem dX5_clear_80 : decode cX5_clear 80 = .ok (.iload_n 1, 1) := by decide +kernel
theorem dX5_clear_81 : decode cX5_clear 81 = .ok (.iconst 0, 1) := by decide +kernel
theorem dX5_clear_82 : decode cX5_clear 82 = .ok (.iastore, 1) := by decide +kernel
theorem dX5_clear_83 : decode cX5_clear 83 = .ok (.aload_n 0, 1) := by decide +kernel
theorem dX5_clear_84 : decode cX5_clear 84 = .ok (.iload_n 1, 1) := by decide +kernel
theorem dX5_clear_85 : decode cX5_clear 85 = .ok (.invokevirtual 109, 3) := by decide +kernel
theorem dX5_clear_88 : decode cX5_clear 88 = .ok (.iinc 1 1, 3) := by decide +kernel
theorem dX5_clear_91 : decode cX5_clear 91 = .ok (.goto (-48), 3) := by decide +kernel
theorem dX5_clear_94 : decode cX5_clear 94 = .ok (.iconst 0, 1) := by decide +kernel
theorem dX5_clear_95 : decode cX5_clear 95 = .ok (.istore_n 1, 1) := by decide +kernel
theorem dX5_clear_96 : decode cX5_clear 96 = .ok (.iload_n 1, 1) := by decide +kernel
theorem dX5_clear_97 : decode cX5_clear 97 = .ok (.bipush 32, 2) := by decide +kernel
theorem dX5_clear_99 : decode cX5_clear 99 = .ok (.if_icmp .ge 16, 3) := by decide +kernel
theorem dX5_clear_102 : decode cX5_clear 102 = .ok (.aload_n 0, 1) := by decide +kernel
theorem dX5_clear_103 : decode cX5_clear 103 = .ok (.getfield 35, 3) := by decide +kernel
