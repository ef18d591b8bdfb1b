theorem dX4_start_40 : decode cX4_start 40 = .ok (.astore_n 3, 1) := by decide +kernel
theorem dX4_start_41 : decode cX4_start 41 = .ok (.aload_n 3, 1) := by decide +kernel
theorem dX4_start_42 : decode cX4_start 42 = .ok (.getfield 71, 3) := by decide +kernel
theorem dX4_start_45 : decode cX4_start 45 = .ok (.istore 4, 2) := by decide +kernel
theorem dX4_start_47 : decode cX4_start 47 = .ok (.aload_n 3, 1) := by decide +kernel
theorem dX4_start_48 : decode cX4_start 48 = .ok (.getfield 74, 3) := by decide +kernel
theorem dX4_start_51 : decode cX4_start 51 = .ok (.invokevirtual 78, 3) := by decide +kernel
theorem dX4_start_54 : decode cX4_start 54 = .ok (.aload_n 3, 1) := by decide +kernel
theorem dX4_start_55 : decode cX4_start 55 = .ok (.iload_n 2, 1) := by decide +kernel
theorem dX4_start_56 : decode cX4_start 56 = .ok (.putfield 71, 3) := by decide +kernel
theorem dX4_start_59 : decode cX4_start 59 = .ok (.aload_n 3, 1) := by decide +kernel
theorem dX4_start_60 : decode cX4_start 60 = .ok (.iconst 0, 1) := by decide +kernel
theorem dX4_start_61 : decode cX4_start 61 = .ok (.putfield 83, 3) := by decide +kernel
theorem dX4_start_64 : decode cX4_start 64 = .ok (.iload 4, 2) := by decide +kernel
theorem dX4_start_66 : decode cX4_start 66 = .ok (.ireturn, 1) := by decide +kernel
set_option maxRecDepth 20000 in
theorem ggX4_set_X4_isCore : GoodIn wsX4_set wsX4_isCore := goodIn_r _ [9, 3, 19, 20, 21, 22, 23, 24, 25] (by decide +kernel) (by decide +kernel)
set_option maxRecDepth 20000 in
theorem gX4_set_X4_isCore : GoodIn wsX4_set (wsV RX4 64 RX4 yX4_isCore wsX4_isCore) := goodIn_app (goodIn_of _ (by decide +kernel)) ggX4_set_X4_isCore
set_option maxRecDepth 20000 in
theorem ggX4_set_X4_isRegister : GoodIn wsX4_set wsX4_isRegister := goodIn_r _ [12] (by decide +kernel) (by decide +kernel)
set_option maxRecDepth 20000 in
theorem gX4_set_X4_isRegister : GoodIn wsX4_set (va_wsS RX4 87 yX4_isRegister wsX4_isRegister) := goodIn_app (goodIn_of _ (by decide +kernel)) ggX4_set_X4_isRegister
set_option maxRecDepth 20000 in
theorem ggX4_set_X0_put : GoodIn wsX4_set wsX0_put := goodIn_r _ [17, 18, 26, 27, 28, 29, 30, 31, 32, 33] (by decide +kernel) (by decide +kernel)
set_option maxRecDepth 20000 in
theorem gX4_set_X0_put : GoodIn wsX4_set (wsV RX4 93 RX0 yX0_put wsX0_put) := goodIn_app (goodIn_of _ (by decide +kernel)) ggX4_set_X0_put
theorem dX4_set_0 : decode cX4_set 0 = .ok (.aload_n 0, 1) := by decide +kernel
theorem dX4_set_1 : decode cX4_set 1 = .ok (.iload_n 1, 1) := by decide +kernel
theorem dX4_set_2 : decode cX4_set 2 = .ok (.invokevirtual 64, 3) := by decide +kernel
theorem dX4_set_5 : decode cX4_set 5 = .ok (.ifCond .eq 10, 3) := by decide +kernel
theorem dX4_set_8 : decode cX4_set 8 = .ok (.iload_n 2, 1) := by decide +kernel
theorem dX4_set_9 : decode cX4_set 9 = .ok (.invokestatic 87, 3) := by decide +kernel
theorem dX4_set_12 : decode cX4_set 12 = .ok (.ifCond .ne 11, 3) := by decide +kernel
theorem dX4_set_15 : decode cX4_set 15 = .ok (.new 68, 3) := by decide +kernel
theorem dX4_set_18 : decode cX4_set 18 = .ok (.dup, 1) := by decide +kernel
theorem dX4_set_19 : decode cX4_set 19 = .ok (.invokespecial 70, 3) := by decide +kernel
theorem dX4_set_22 : decode cX4_set 22 = .ok (.athrow, 1) := by decide +kernel
theorem dX4_set_23 : decode cX4_set 23 = .ok (.aload_n 0, 1) := by decide +kernel
theorem dX4_set_24 : decode cX4_set 24 = .ok (.getfield 40, 3) := by decide +kernel
theorem dX4_set_27 : decode cX4_set 27 = .ok (.iload_n 1, 1) := by decide +kernel
theorem dX4_set_28 : decode cX4_set 28 = .ok (.aaload, 1) := by decide +kernel
theorem dX4_set_29 : decode cX4_set 29 = .ok (.getfield 90, 3) := by decide +kernel
theorem dX4_set_32 : decode cX4_set 32 = .ok (.iload_n 2, 1) := by decide +kernel
theorem dX4_set_33 : decode cX4_set 33 = .ok (.iaload, 1) := by decide +kernel
theorem dX4_set_34 : decode cX4_set 34 = .ok (.istore 4, 2) := by decide +kernel
theorem dX4_set_36 : decode cX4_set 36 = .ok (.aload_n 0, 1) := by decide +kernel
theorem dX4_set_37 : decode cX4_set 37 = .ok (.getfield 40, 3) := by decide +kernel
theorem dX4_set_40 : decode cX4_set 40 = .ok (.iload_n 1, 1) := by decide +kernel
theorem dX4_set_41 : decode cX4_set 41 = .ok (.aaload, 1) := by decide +kernel
theorem dX4_set_42 : decode cX4_set 42 = .ok (.iload_n 2, 1) := by decide +kernel
theorem dX4_set_43 : decode cX4_set 43 = .ok (.iload_n 3, 1) := by decide +kernel
theorem dX4_set_44 : decode cX4_set 44 = .ok (.invokevirtual 93, 3) := by decide +kernel
theorem dX4_set_47 : decode cX4_set 47 = .ok (.iload 4, 2) := by decide +kernel
theorem dX4_set_49 : decode cX4_set 49 = .ok (.ireturn, 1) := by decide +kernel
set_option maxRecDepth 20000 in
theorem ggX4_poke_X4_isWord : GoodIn wsX4_poke wsX4_isWord := goodIn_r _ [7] (by decide +kernel) (by decide +kernel)
set_option maxRecDepth 20000 in
theorem gX4_poke_X4_isWord : GoodIn wsX4_poke (va_wsS RX4 97 yX4_isWord wsX4_isWord) := goodIn_app (goodIn_of _ (by decide +kernel)) ggX4_poke_X4_isWord
set_option maxRecDepth 20000 in
theorem ggX4_poke_X4_breakOffAll : GoodIn wsX4_poke wsX4_breakOffAll := goodIn_r _ [11, 12, 13, 14, 15, 16, 17, 18, 19, 20, 21, 22, 23, 6, 24, 25, 26, 27, 28, 29, 30, 31, 32, 33, 34, 35, 36, 37, 38, 39, 40, 41, 42, 43, 44, 45, 46, 47, 48, 49, 50, 51, 52, 53, 54, 55, 56, 57, 58, 59, 60, 61, 62, 63, 64, 65, 66, 67, 68, 69, 70, 71, 72, 73, 74, 75, 76, 77, 78, 79, 80, 81, 82, 83, 84, 85] (by decide +kernel) (by decide +kernel)
set_option maxRecDepth 20000 in
theorem gX4_poke_X4_breakOffAll : GoodIn wsX4_poke (wsV RX4 100 RX4 yX4_breakOffAll wsX4_breakOffAll) := goodIn_app (goodIn_of _ (by decide +kernel)) ggX4_poke_X4_breakOffAll
theorem dX4_poke_0 : decode cX4_poke 0 = .ok (.iload_n 1, 1) := by decide +kernel
theorem dX4_poke_1 : decode cX4_poke 1 = .ok (.invokestatic 97, 3) := by decide +kernel
theorem dX4_poke_4 : decode cX4_poke 4 = .ok (.ifCond .ne 11, 3) := by decide +kernel
theorem dX4_poke_7 : decode cX4_poke 7 = .ok (.new 68, 3) := by decide +kernel
theorem dX4_poke_10 : decode cX4_poke 10 = .ok (.dup, 1) := by decide +kernel
theorem dX4_poke_11 : decode cX4_poke 11 = .ok (.invokespecial 70, 3) := by decide +kernel
theorem dX4_poke_14 : decode cX4_poke 14 = .ok (.athrow, 1) := by decide +kernel
theorem dX4_poke_15 : decode cX4_poke 15 = .ok (.aload_n 0, 1) := by decide +kernel
theorem dX4_poke_16 : decode cX4_poke 16 = .ok (.iconst (-1), 1) := by decide +kernel
theorem dX4_poke_17 : decode cX4_poke 17 = .ok (.iload_n 1, 1) := by decide +kernel
theorem dX4_poke_18 : decode cX4_poke 18 = .ok (.iconst 4, 1) := by decide +kernel
theorem dX4_poke_19 : decode cX4_poke 19 = .ok (.idiv, 1) := by decide +kernel
theorem dX4_poke_20 : decode cX4_poke 20 = .ok (.iconst 1, 1) := by decide +kernel
theorem dX4_poke_21 : decode cX4_poke 21 = .ok (.invokevirtual 100, 3) := by decide +kernel
theorem dX4_poke_24 : decode cX4_poke 24 = .ok (.aload_n 0, 1) := by decide +kernel
theorem dX4_poke_25 : decode cX4_poke 25 = .ok (.getfield 9, 3) := by decide +kernel
theorem dX4_poke_28 : decode cX4_poke 28 = .ok (.iload_n 1, 1) := by decide +kernel
theorem dX4_poke_29 : decode cX4_poke 29 = .ok (.iaload, 1) := by decide +kernel
theorem dX4_poke_30 : decode cX4_poke 30 = .ok (.istore_n 3, 1) := by decide +kernel
theorem dX4_poke_31 : decode cX4_poke 31 = .ok (.aload_n 0, 1) := by decide +kernel
theorem dX4_poke_32 : decode cX4_poke 32 = .ok (.getfield 9, 3) := by decide +kernel
theorem dX4_poke_35 : decode cX4_poke 35 = .ok (.iload_n 1, 1) := by decide +kernel
theorem dX4_poke_36 : decode cX4_poke 36 = .ok (.iload_n 2, 1) := by decide +kernel
theorem dX4_poke_37 : decode cX4_poke 37 = .ok (.iastore, 1) := by decide +kernel
theorem dX4_poke_38 : decode cX4_poke 38 = .ok (.iload_n 3, 1) := by decide +kernel
theorem dX4_poke_39 : decode cX4_poke 39 = .ok (.ireturn, 1) := by decide +kernel
set_option maxRecDepth 20000 in
theorem ggX4_pick_X4_isCore : GoodIn wsX4_pick wsX4_isCore := goodIn_r _ [11, 5, 156, 157, 158, 159, 160, 161, 162] (by decide +kernel) (by decide +kernel)
set_option maxRecDepth 20000 in
theorem gX4_pick_X4_isCore : GoodIn wsX4_pick (wsV RX4 64 RX4 yX4_isCore wsX4_isCore) := goodIn_app (goodIn_of _ (by decide +kernel)) ggX4_pick_X4_isCore
set_option maxRecDepth 20000 in
theorem ggX4_pick_X4_isManyPicks : GoodIn wsX4_pick wsX4_isManyPicks := goodIn_r _ [14] (by decide +kernel) (by decide +kernel)
set_option maxRecDepth 20000 in
theorem gX4_pick_X4_isManyPicks : GoodIn wsX4_pick (va_wsS RX4 104 yX4_isManyPicks wsX4_isManyPicks) := goodIn_app (goodIn_of _ (by decide +kernel)) ggX4_pick_X4_isManyPicks
set_option maxRecDepth 20000 in
theorem ggX4_pick_X4_step : GoodIn wsX4_pick wsX4_step := goodIn_r _ [18, 6, 19, 20, 21, 22, 23, 24, 25, 10, 26, 27, 28, 29, 30, 31, 32, 33, 34, 35, 36, 37, 38, 39, 40, 41, 42, 43, 44, 45, 46, 47, 48, 49, 50, 51, 52, 53, 54, 55, 56, 57, 58, 59, 60, 61, 62, 63, 64, 65, 66, 67, 68, 69, 70, 71, 72, 73, 74, 75, 76, 77, 78, 79, 80, 81, 82, 83, 84, 85, 86, 87, 88, 89, 5, 90, 91, 92, 93, 94, 95, 96, 97, 98, 99, 100, 101, 102, 103, 104, 105, 106, 107, 108, 109, 110, 111, 112, 113, 114, 115, 116, 117, 118, 119, 120, 121, 122, 123, 124, 125, 126, 127, 128, 129, 130, 131, 132, 133, 134, 135, 136, 137, 138, 139, 140, 141, 142, 143, 144, 145, 146, 147, 148, 149, 150, 151, 152, 153, 154, 155, 163, 164, 165, 166, 167, 168, 169, 170, 156, 157, 158, 159, 160, 161, 162, 171, 172, 173, 174, 175, 176, 177, 178, 179, 180, 181, 182, 183, 184, 185, 186, 187] (by decide +kernel) (by decide +kernel)
set_option maxRecDepth 20000 in
theorem gX4_pick_X4_step : GoodIn wsX4_pick (wsV RX4 107 RX4 yX4_step wsX4_step) := goodIn_app (goodIn_of _ (by decide +kernel)) ggX4_pick_X4_step
theorem dX4_pick_0 : decode cX4_pick 0 = .ok (.aload_n 0, 1) := by decide +kernel
theorem dX4_pick_1 : decode cX4_pick 1 = .ok (.iload_n 1, 1) := by decide +kernel
theorem dX4_pick_2 : decode cX4_pick 2 = .ok (.invokevirtual 64, 3) := by decide +kernel
theorem dX4_pick_5 : decode cX4_pick 5 = .ok (.ifCond .ne 11, 3) := by decide +kernel
theorem dX4_pick_8 : decode cX4_pick 8 = .ok (.new 68, 3) := by decide +kernel
theorem dX4_pick_11 : decode cX4_pick 11 = .ok (.dup, 1) := by decide +kernel
theorem dX4_pick_12 : decode cX4_pick 12 = .ok (.invokespecial 70, 3) := by decide +kernel
theorem dX4_pick_15 : decode cX4_pick 15 = .ok (.athrow, 1) := by decide +kernel
theorem dX4_pick_16 : decode cX4_pick 16 = .ok (.iload_n 2, 1) := by decide +kernel
theorem dX4_pick_17 : decode cX4_pick 17 = .ok (.invokestatic 104, 3) := by decide +kernel
theorem dX4_pick_20 : decode cX4_pick 20 = .ok (.ifCond .ne 11, 3) := by decide +kernel
theorem dX4_pick_23 : decode cX4_pick 23 = .ok (.new 51, 3) := by decide +kernel
theorem dX4_pick_26 : decode cX4_pick 26 = .ok (.dup, 1) := by decide +kernel
theorem dX4_pick_27 : decode cX4_pick 27 = .ok (.invokespecial 53, 3) := by decide +kernel
theorem dX4_pick_30 : decode cX4_pick 30 = .ok (.athrow, 1) := by decide +kernel
theorem dX4_pick_31 : decode cX4_pick 31 = .ok (.iconst 0, 1) := by decide +kernel
theorem dX4_pick_32 : decode cX4_pick 32 = .ok (.istore_n 3, 1) := by decide +kernel
theorem dX4_pick_33 : decode cX4_pick 33 = .ok (.iconst 0, 1) := by decide +kernel
theorem dX4_pick_34 : decode cX4_pick 34 = .ok (.istore 4, 2) := by decide +kernel
theorem dX4_pick_36 : decode cX4_pick 36 = .ok (.iload 4, 2) := by decide +kernel
theorem dX4_pick_38 : decode cX4_pick 38 = .ok (.iload_n 2, 1) := by decide +kernel
theorem dX4_pick_39 : decode cX4_pick 39 = .ok (.if_icmp .ge 34, 3) := by decide +kernel
theorem dX4_pick_42 : decode cX4_pick 42 = .ok (.aload_n 0, 1) := by decide +kernel
theorem dX4_pick_43 : decode cX4_pick 43 = .ok (.getfield 40, 3) := by decide +kernel
theorem dX4_pick_46 : decode cX4_pick 46 = .ok (.iload_n 1, 1) := by decide +kernel
theorem dX4_pick_47 : decode cX4_pick 47 = .ok (.aaload, 1) := by decide +kernel
theorem dX4_pick_48 : decode cX4_pick 48 = .ok (.getfield 83, 3) := by decide +kernel
theorem dX4_pick_51 : decode cX4_pick 51 = .ok (.ifCond .ne 22, 3) := by decide +kernel
theorem dX4_pick_54 : decode cX4_pick 54 = .ok (.iload_n 3, 1) := by decide +kernel
theorem dX4_pick_55 : decode cX4_pick 55 = .ok (.aload_n 0, 1) := by decide +kernel
theorem dX4_pick_56 : decode cX4_pick 56 = .ok (.aload_n 0, 1) := by decide +kernel
theorem dX4_pick_57 : decode cX4_pick 57 = .ok (.getfield 40, 3) := by decide +kernel
theorem dX4_pick_60 : decode cX4_pick 60 = .ok (.iload_n 1, 1) := by decide +kernel
theorem dX4_pick_61 : decode cX4_pick 61 = .ok (.aaload, 1) := by decide +kernel
theorem dX4_pick_62 : decode cX4_pick 62 = .ok (.invokevirtual 107, 3) := by decide +kernel
theorem dX4_pick_65 : decode cX4_pick 65 = .ok (.iadd, 1) := by decide +kernel
theorem dX4_pick_66 : decode cX4_pick 66 = .ok (.istore_n 3, 1) := by decide +kernel
theorem dX4_pick_67 : decode cX4_pick 67 = .ok (.iinc 4 1, 3) := by decide +kernel
theorem dX4_pick_70 : decode cX4_pick 70 = .ok (.goto (-34), 3) := by decide +kernel
theorem dX4_pick_73 : decode cX4_pick 73 = .ok (.iload_n 3, 1) := by decide +kernel
theorem dX4_pick_74 : decode cX4_pick 74 = .ok (.ireturn, 1) := by decide +kernel
set_option maxRecDepth 20000 in
theorem ggX4_run_X4_isManyPicks : GoodIn wsX4_run wsX4_isManyPicks := goodIn_r _ [8] (by decide +kernel) (by decide +kernel)
set_option maxRecDepth 20000 in
theorem gX4_run_X4_isManyPicks : GoodIn wsX4_run (va_wsS RX4 104 yX4_isManyPicks wsX4_isManyPicks) := goodIn_app (goodIn_of _ (by decide +kernel)) ggX4_run_X4_isManyPicks
set_option maxRecDepth 20000 in
theorem ggX4_run_X4_step : GoodIn wsX4_run wsX4_step := goodIn_r _ [12, 13, 14, 15, 16, 17, 18, 19, 20, 7, 21, 22, 23, 24, 25, 26, 27, 28, 29, 30, 31, 32, 33, 34, 35, 36, 37, 38, 39, 40, 41, 42, 43, 44, 45, 46, 47, 48, 49, 50, 51, 52, 53, 54, 55, 56, 57, 58, 59, 60, 61, 62, 63, 64, 65, 66, 67, 68, 69, 70, 71, 72, 73, 74, 75, 76, 77, 78, 79, 80, 81, 82, 83, 84, 4, 85, 86, 87, 88, 89, 90, 91, 92, 93, 94, 95, 96, 97, 98, 99, 100, 101, 102, 103, 104, 105, 106, 107, 108, 109, 110, 111, 112, 113, 114, 115, 116, 117, 118, 119, 120, 121, 122, 123, 124, 125, 126, 127, 128, 129, 130, 131, 132, 133, 134, 135, 136, 137, 138, 139, 140, 141, 142, 143, 144, 145, 146, 147, 148, 149, 150, 158, 159, 160, 161, 162, 163, 164, 165, 151, 152, 153, 154, 155, 156, 157, 166, 167, 168, 169, 170, 171, 172, 173, 174, 175, 176, 177, 178, 179, 180, 181, 182] (by decide +kernel) (by decide +kernel)
set_option maxRecDepth 20000 in
theorem gX4_run_X4_step : GoodIn wsX4_run (wsV RX4 107 RX4 yX4_step wsX4_step) := goodIn_app (goodIn_of _ (by decide +kernel)) ggX4_run_X4_step
theorem dX4_run_0 : decode cX4_run 0 = .ok (.iload_n 2, 1) := by decide +kernel
theorem dX4_run_1 : decode cX4_run 1 = .ok (.invokestatic 104, 3) := by decide +kernel
theorem dX4_run_4 : decode cX4_run 4 = .ok (.ifCond .ne 11, 3) := by decide +kernel
theorem dX4_run_7 : decode cX4_run 7 = .ok (.new 51, 3) := by decide +kernel
theorem dX4_run_10 : decode cX4_run 10 = .ok (.dup, 1) := by decide +kernel
theorem dX4_run_11 : decode cX4_run 11 = .ok (.invokespecial 53, 3) := by decide +kernel
theorem dX4_run_14 : decode cX4_run 14 = .ok (.athrow, 1) := by decide +kernel
theorem dX4_run_15 : decode cX4_run 15 = .ok (.iconst 0, 1) := by decide +kernel
theorem dX4_run_16 : decode cX4_run 16 = .ok (.istore_n 3, 1) := by decide +kernel
theorem dX4_run_17 : decode cX4_run 17 = .ok (.iload_n 1, 1) := by decide +kernel
theorem dX4_run_18 : decode cX4_run 18 = .ok (.istore 4, 2) := by decide +kernel
theorem dX4_run_20 : decode cX4_run 20 = .ok (.iconst 0, 1) := by decide +kernel
theorem dX4_run_21 : decode cX4_run 21 = .ok (.istore 5, 2) := by decide +kernel
theorem dX4_run_23 : decode cX4_run 23 = .ok (.iload 5, 2) := by decide +kernel
theorem dX4_run_25 : decode cX4_run 25 = .ok (.iload_n 2, 1) := by decide +kernel
theorem dX4_run_26 : decode cX4_run 26 = .ok (.if_icmp .ge 43, 3) := by decide +kernel
theorem dX4_run_29 : decode cX4_run 29 = .ok (.iload 4, 2) := by decide +kernel
theorem dX4_run_31 : decode cX4_run 31 = .ok (.ldc 111, 2) := by decide +kernel
theorem dX4_run_33 : decode cX4_run 33 = .ok (.imul, 1) := by decide +kernel
theorem dX4_run_34 : decode cX4_run 34 = .ok (.sipush 12345, 3) := by decide +kernel
theorem dX4_run_37 : decode cX4_run 37 = .ok (.iadd, 1) := by decide +kernel
theorem dX4_run_38 : decode cX4_run 38 = .ok (.istore 4, 2) := by decide +kernel
theorem dX4_run_40 : decode cX4_run 40 = .ok (.iload_n 3, 1) := by decide +kernel
theorem dX4_run_41 : decode cX4_run 41 = .ok (.aload_n 0, 1) := by decide +kernel
theorem dX4_run_42 : decode cX4_run 42 = .ok (.aload_n 0, 1) := by decide +kernel
theorem dX4_run_43 : decode cX4_run 43 = .ok (.getfield 40, 3) := by decide +kernel
theorem dX4_run_46 : decode cX4_run 46 = .ok (.iload 4, 2) := by decide +kernel
theorem dX4_run_48 : decode cX4_run 48 = .ok (.bipush 16, 2) := by decide +kernel
theorem dX4_run_50 : decode cX4_run 50 = .ok (.iushr, 1) := by decide +kernel
theorem dX4_run_51 : decode cX4_run 51 = .ok (.aload_n 0, 1) := by decide +kernel
theorem dX4_run_52 : decode cX4_run 52 = .ok (.getfield 40, 3) := by decide +kernel
theorem dX4_run_55 : decode cX4_run 55 = .ok (.arraylength, 1) := by decide +kernel
theorem dX4_run_56 : decode cX4_run 56 = .ok (.irem, 1) := by decide +kernel
theorem dX4_run_57 : decode cX4_run 57 = .ok (.aaload, 1) := by decide +kernel
theorem dX4_run_58 : decode cX4_run 58 = .ok (.invokevirtual 107, 3) := by decide +kernel
theorem dX4_run_61 : decode cX4_run 61 = .ok (.iadd, 1) := by decide +kernel
theorem dX4_run_62 : decode cX4_run 62 = .ok (.istore_n 3, 1) := by decide +kernel
theorem dX4_run_63 : decode cX4_run 63 = .ok (.iinc 5 1, 3) := by decide +kernel
theorem dX4_run_66 : decode cX4_run 66 = .ok (.goto (-43), 3) := by decide +kernel
theorem dX4_run_69 : decode cX4_run 69 = .ok (.iload_n 3, 1) := by decide +kernel
theorem dX4_run_70 : decode cX4_run 70 = .ok (.ireturn, 1) := by decide +kernel
set_option maxRecDepth 20000 in
theorem ggX4_register_X4_isCore : GoodIn wsX4_register wsX4_isCore := goodIn_r _ [9, 3, 13, 14, 15, 16, 17, 18, 19] (by decide +kernel) (by decide +kernel)
set_option maxRecDepth 20000 in
theorem gX4_register_X4_isCore : GoodIn wsX4_register (wsV RX4 64 RX4 yX4_isCore wsX4_isCore) := goodIn_app (goodIn_of _ (by decide +kernel)) ggX4_register_X4_isCore
set_option maxRecDepth 20000 in
theorem ggX4_register_X4_isRegister : GoodIn wsX4_register wsX4_isRegister := goodIn_r _ [12] (by decide +kernel) (by decide +kernel)
set_option maxRecDepth 20000 in
theorem gX4_register_X4_isRegister : GoodIn wsX4_register (va_wsS RX4 87 yX4_isRegister wsX4_isRegister) := goodIn_app (goodIn_of _ (by decide +kernel)) ggX4_register_X4_isRegister
theorem dX4_register_0 : decode cX4_register 0 = .ok (.aload_n 0, 1) := by decide +kernel
theorem dX4_register_1 : decode cX4_register 1 = .ok (.iload_n 1, 1) := by decide +kernel
theorem dX4_register_2 : decode cX4_register 2 = .ok (.invokevirtual 64, 3) := by decide +kernel
theorem dX4_register_5 : decode cX4_register 5 = .ok (.ifCond .eq 10, 3) := by decide +kernel
theorem dX4_register_8 : decode cX4_register 8 = .ok (.iload_n 2, 1) := by decide +kernel
theorem dX4_register_9 : decode cX4_register 9 = .ok (.invokestatic 87, 3) := by decide +kernel
theorem dX4_register_12 : decode cX4_register 12 = .ok (.ifCond .ne 11, 3) := by decide +kernel
theorem dX4_register_15 : decode cX4_register 15 = .ok (.new 68, 3) := by decide +kernel
theorem dX4_register_18 : decode cX4_register 18 = .ok (.dup, 1) := by decide +kernel
theorem dX4_register_19 : decode cX4_register 19 = .ok (.invokespecial 70, 3) := by decide +kernel
theorem dX4_register_22 : decode cX4_register 22 = .ok (.athrow, 1) := by decide +kernel
theorem dX4_register_23 : decode cX4_register 23 = .ok (.aload_n 0, 1) := by decide +kernel
theorem dX4_register_24 : decode cX4_register 24 = .ok (.getfield 40, 3) := by decide +kernel
theorem dX4_register_27 : decode cX4_register 27 = .ok (.iload_n 1, 1) := by decide +kernel
theorem dX4_register_28 : decode cX4_register 28 = .ok (.aaload, 1) := by decide +kernel
theorem dX4_register_29 : decode cX4_register 29 = .ok (.getfield 90, 3) := by decide +kernel
theorem dX4_register_32 : decode cX4_register 32 = .ok (.iload_n 2, 1) := by decide +kernel
theorem dX4_register_33 : decode cX4_register 33 = .ok (.iaload, 1) := by decide +kernel
theorem dX4_register_34 : decode cX4_register 34 = .ok (.ireturn, 1) := by decide +kernel
set_option maxRecDepth 20000 in
theorem ggX4_word_X4_isWord : GoodIn wsX4_word wsX4_isWord := goodIn_r _ [7] (by decide +kernel) (by decide +kernel)
set_option maxRecDepth 20000 in
theorem gX4_word_X4_isWord : GoodIn wsX4_word (va_wsS RX4 97 yX4_isWord wsX4_isWord) := goodIn_app (goodIn_of _ (by decide +kernel)) ggX4_word_X4_isWord
theorem dX4_word_0 : decode cX4_word 0 = .ok (.iload_n 1, 1) := by decide +kernel
theorem dX4_word_1 : decode cX4_word 1 = .ok (.invokestatic 97, 3) := by decide +kernel
theorem dX4_word_4 : decode cX4_word 4 = .ok (.ifCond .ne 11, 3) := by decide +kernel
theorem dX4_word_7 : decode cX4_word 7 = .ok (.new 68, 3) := by decide +kernel
theorem dX4_word_10 : decode cX4_word 10 = .ok (.dup, 1) := by decide +kernel
theorem dX4_word_11 : decode cX4_word 11 = .ok (.invokespecial 70, 3) := by decide +kernel
theorem dX4_word_14 : decode cX4_word 14 = .ok (.athrow, 1) := by decide +kernel
theorem dX4_word_15 : decode cX4_word 15 = .ok (.aload_n 0, 1) := by decide +kernel
theorem dX4_word_16 : decode cX4_word 16 = .ok (.getfield 9, 3) := by decide +kernel
theorem dX4_word_19 : decode cX4_word 19 = .ok (.iload_n 1, 1) := by decide +kernel
theorem dX4_word_20 : decode cX4_word 20 = .ok (.iaload, 1) := by decide +kernel
theorem dX4_word_21 : decode cX4_word 21 = .ok (.ireturn, 1) := by decide +kernel
set_option maxRecDepth 20000 in
theorem ggX4_seen_X4_isCore : GoodIn wsX4_seen wsX4_isCore := goodIn_r _ [8, 3, 25, 26, 27, 28, 29, 30, 31] (by decide +kernel) (by decide +kernel)
set_option maxRecDepth 20000 in
theorem gX4_seen_X4_isCore : GoodIn wsX4_seen (wsV RX4 64 RX4 yX4_isCore wsX4_isCore) := goodIn_app (goodIn_of _ (by decide +kernel)) ggX4_seen_X4_isCore
set_option maxRecDepth 20000 in
theorem ggX4_seen_X4_isWord : GoodIn wsX4_seen wsX4_isWord := goodIn_r _ [11] (by decide +kernel) (by decide +kernel)
set_option maxRecDepth 20000 in
theorem gX4_seen_X4_isWord : GoodIn wsX4_seen (va_wsS RX4 97 yX4_isWord wsX4_isWord) := goodIn_app (goodIn_of _ (by decide +kernel)) ggX4_seen_X4_isWord
set_option maxRecDepth 20000 in
theorem ggX4_seen_X4_wordSeenBy : GoodIn wsX4_seen wsX4_wordSeenBy := goodIn_r _ [15, 16, 17, 18, 19, 20, 21, 22, 23, 24, 32, 33, 34, 35, 36, 37, 38, 39, 40, 41, 42, 43, 44, 45, 46, 47, 48, 25, 26, 27, 28, 29, 30, 31] (by decide +kernel) (by decide +kernel)
set_option maxRecDepth 20000 in
theorem gX4_seen_X4_wordSeenBy : GoodIn wsX4_seen (wsV RX4 112 RX4 yX4_wordSeenBy wsX4_wordSeenBy) := goodIn_app (goodIn_of _ (by decide +kernel)) ggX4_seen_X4_wordSeenBy
theorem dX4_seen_0 : decode cX4_seen 0 = .ok (.aload_n 0, 1) := by decide +kernel
theorem dX4_seen_1 : decode cX4_seen 1 = .ok (.iload_n 1, 1) := by decide +kernel
theorem dX4_seen_2 : decode cX4_seen 2 = .ok (.invokevirtual 64, 3) := by decide +kernel
theorem dX4_seen_5 : decode cX4_seen 5 = .ok (.ifCond .eq 10, 3) := by decide +kernel
theorem dX4_seen_8 : decode cX4_seen 8 = .ok (.iload_n 2, 1) := by decide +kernel
theorem dX4_seen_9 : decode cX4_seen 9 = .ok (.invokestatic 97, 3) := by decide +kernel
theorem dX4_seen_12 : decode cX4_seen 12 = .ok (.ifCond .ne 11, 3) := by decide +kernel
theorem dX4_seen_15 : decode cX4_seen 15 = .ok (.new 68, 3) := by decide +kernel
theorem dX4_seen_18 : decode cX4_seen 18 = .ok (.dup, 1) := by decide +kernel
theorem dX4_seen_19 : decode cX4_seen 19 = .ok (.invokespecial 70, 3) := by decide +kernel
theorem dX4_seen_22 : decode cX4_seen 22 = .ok (.athrow, 1) := by decide +kernel
theorem dX4_seen_23 : decode cX4_seen 23 = .ok (.aload_n 0, 1) := by decide +kernel
theorem dX4_seen_24 : decode cX4_seen 24 = .ok (.aload_n 0, 1) := by decide +kernel
theorem dX4_seen_25 : decode cX4_seen 25 = .ok (.getfield 40, 3) := by decide +kernel
theorem dX4_seen_28 : decode cX4_seen 28 = .ok (.iload_n 1, 1) := by decide +kernel
theorem dX4_seen_29 : decode cX4_seen 29 = .ok (.aaload, 1) := by decide +kernel
theorem dX4_seen_30 : decode cX4_seen 30 = .ok (.iload_n 2, 1) := by decide +kernel
theorem dX4_seen_31 : decode cX4_seen 31 = .ok (.invokevirtual 112, 3) := by decide +kernel
theorem dX4_seen_34 : decode cX4_seen 34 = .ok (.ireturn, 1) := by decide +kernel
set_option maxRecDepth 20000 in
theorem ggX4_told_X4_isCore : GoodIn wsX4_told wsX4_isCore := goodIn_r _ [10, 5, 39, 40, 41, 42, 43, 44, 45] (by decide +kernel) (by decide +kernel)
set_option maxRecDepth 20000 in
theorem gX4_told_X4_isCore : GoodIn wsX4_told (wsV RX4 64 RX4 yX4_isCore wsX4_isCore) := goodIn_app (goodIn_of _ (by decide +kernel)) ggX4_told_X4_isCore
set_option maxRecDepth 20000 in
theorem ggX4_told_X4_factOf : GoodIn wsX4_told wsX4_factOf := goodIn_r _ [13, 14, 15, 16, 17, 18, 19, 20, 21, 22, 23, 24, 25, 26, 27, 28, 29, 30, 31, 32, 33, 34, 35, 36, 37, 38, 46, 47, 48, 49, 50, 51, 52, 53, 54, 55, 56, 57, 58, 59, 60, 61, 62] (by decide +kernel) (by decide +kernel)
set_option maxRecDepth 20000 in
theorem gX4_told_X4_factOf : GoodIn wsX4_told (va_wsS RX4 116 yX4_factOf wsX4_factOf) := goodIn_app (goodIn_of _ (by decide +kernel)) ggX4_told_X4_factOf
theorem dX4_told_0 : decode cX4_told 0 = .ok (.aload_n 0, 1) := by decide +kernel
theorem dX4_told_1 : decode cX4_told 1 = .ok (.iload_n 1, 1) := by decide +kernel
theorem dX4_told_2 : decode cX4_told 2 = .ok (.invokevirtual 64, 3) := by decide +kernel
theorem dX4_told_5 : decode cX4_told 5 = .ok (.ifCond .ne 11, 3) := by decide +kernel
theorem dX4_told_8 : decode cX4_told 8 = .ok (.new 68, 3) := by decide +kernel
theorem dX4_told_11 : decode cX4_told 11 = .ok (.dup, 1) := by decide +kernel
theorem dX4_told_12 : decode cX4_told 12 = .ok (.invokespecial 70, 3) := by decide +kernel
theorem dX4_told_15 : decode cX4_told 15 = .ok (.athrow, 1) := by decide +kernel
theorem dX4_told_16 : decode cX4_told 16 = .ok (.iload_n 2, 1) := by decide +kernel
theorem dX4_told_17 : decode cX4_told 17 = .ok (.ifCond .lt 9, 3) := by decide +kernel
theorem dX4_told_20 : decode cX4_told 20 = .ok (.iload_n 2, 1) := by decide +kernel
theorem dX4_told_21 : decode cX4_told 21 = .ok (.bipush 10, 2) := by decide +kernel
theorem dX4_told_23 : decode cX4_told 23 = .ok (.if_icmp .lt 11, 3) := by decide +kernel
theorem dX4_told_26 : decode cX4_told 26 = .ok (.new 51, 3) := by decide +kernel
theorem dX4_told_29 : decode cX4_told 29 = .ok (.dup, 1) := by decide +kernel
theorem dX4_told_30 : decode cX4_told 30 = .ok (.invokespecial 53, 3) := by decide +kernel
theorem dX4_told_33 : decode cX4_told 33 = .ok (.athrow, 1) := by decide +kernel
theorem dX4_told_34 : decode cX4_told 34 = .ok (.aload_n 0, 1) := by decide +kernel
theorem dX4_told_35 : decode cX4_told 35 = .ok (.getfield 40, 3) := by decide +kernel
theorem dX4_told_38 : decode cX4_told 38 = .ok (.iload_n 1, 1) := by decide +kernel
theorem dX4_told_39 : decode cX4_told 39 = .ok (.aaload, 1) := by decide +kernel
theorem dX4_told_40 : decode cX4_told 40 = .ok (.iload_n 2, 1) := by decide +kernel
theorem dX4_told_41 : decode cX4_told 41 = .ok (.invokestatic 116, 3) := by decide +kernel
theorem dX4_told_44 : decode cX4_told 44 = .ok (.ireturn, 1) := by decide +kernel
theorem dX4_records_0 : decode cX4_records 0 = .ok (.aload_n 0, 1) := by decide +kernel
theorem dX4_records_1 : decode cX4_records 1 = .ok (.getfield 23, 3) := by decide +kernel
theorem dX4_records_4 : decode cX4_records 4 = .ok (.getfield 119, 3) := by decide +kernel
theorem dX4_records_7 : decode cX4_records 7 = .ok (.ireturn, 1) := by decide +kernel
set_option maxRecDepth 20000 in
theorem ggX4_record_X2_field : GoodIn wsX4_record wsX2_field := goodIn_r _ [11, 12, 13, 21, 22, 23] (by decide +kernel) (by decide +kernel)
set_option maxRecDepth 20000 in
theorem gX4_record_X2_field : GoodIn wsX4_record (wsV RX4 122 RX2 yX2_field wsX2_field) := goodIn_app (goodIn_of _ (by decide +kernel)) ggX4_record_X2_field
theorem dX4_record_0 : decode cX4_record 0 = .ok (.iload_n 1, 1) := by decide +kernel
theorem dX4_record_1 : decode cX4_record 1 = .ok (.ifCond .lt 14, 3) := by decide +kernel
theorem dX4_record_4 : decode cX4_record 4 = .ok (.iload_n 1, 1) := by decide +kernel
theorem dX4_record_5 : decode cX4_record 5 = .ok (.aload_n 0, 1) := by decide +kernel
theorem dX4_record_6 : decode cX4_record 6 = .ok (.getfield 23, 3) := by decide +kernel
theorem dX4_record_9 : decode cX4_record 9 = .ok (.getfield 119, 3) := by decide +kernel
theorem dX4_record_12 : decode cX4_record 12 = .ok (.if_icmp .lt 11, 3) := by decide +kernel
theorem dX4_record_15 : decode cX4_record 15 = .ok (.new 68, 3) := by decide +kernel
theorem dX4_record_18 : decode cX4_record 18 = .ok (.dup, 1) := by decide +kernel
theorem dX4_record_19 : decode cX4_record 19 = .ok (.invokespecial 70, 3) := by decide +kernel
theorem dX4_record_22 : decode cX4_record 22 = .ok (.athrow, 1) := by decide +kernel
theorem dX4_record_23 : decode cX4_record 23 = .ok (.iload_n 2, 1) := by decide +kernel
theorem dX4_record_24 : decode cX4_record 24 = .ok (.ifCond .lt 8, 3) := by decide +kernel
theorem dX4_record_27 : decode cX4_record 27 = .ok (.iload_n 2, 1) := by decide +kernel
theorem dX4_record_28 : decode cX4_record 28 = .ok (.iconst 4, 1) := by decide +kernel
theorem dX4_record_29 : decode cX4_record 29 = .ok (.if_icmp .lt 11, 3) := by decide +kernel
theorem dX4_record_32 : decode cX4_record 32 = .ok (.new 51, 3) := by decide +kernel
theorem dX4_record_35 : decode cX4_record 35 = .ok (.dup, 1) := by decide +kernel
theorem dX4_record_36 : decode cX4_record 36 = .ok (.invokespecial 53, 3) := by decide +kernel
theorem dX4_record_39 : decode cX4_record 39 = .ok (.athrow, 1) := by decide +kernel
theorem dX4_record_40 : decode cX4_record 40 = .ok (.aload_n 0, 1) := by decide +kernel
theorem dX4_record_41 : decode cX4_record 41 = .ok (.getfield 23, 3) := by decide +kernel
theorem dX4_record_44 : decode cX4_record 44 = .ok (.iload_n 1, 1) := by decide +kernel
theorem dX4_record_45 : decode cX4_record 45 = .ok (.iload_n 2, 1) := by decide +kernel
theorem dX4_record_46 : decode cX4_record 46 = .ok (.invokevirtual 122, 3) := by decide +kernel
theorem dX4_record_49 : decode cX4_record 49 = .ok (.ireturn, 1) := by decide +kernel
set_option maxRecDepth 20000 in
theorem ggX4_clear_X0_reset : GoodIn wsX4_clear wsX0_reset := goodIn_r _ [11, 12, 13, 14, 15, 16, 17, 18, 19, 20, 21, 22, 23, 24, 25, 26, 27, 28, 48, 49, 50, 51, 52, 53, 54, 55, 56, 57, 58, 59, 60, 61, 62, 63, 64] (by decide +kernel) (by decide +kernel)
set_option maxRecDepth 20000 in
theorem gX4_clear_X0_reset : GoodIn wsX4_clear (wsV RX4 126 RX0 yX0_reset wsX0_reset) := goodIn_app (goodIn_of _ (by decide +kernel)) ggX4_clear_X0_reset
set_option maxRecDepth 20000 in
theorem ggX4_clear_X2_forget : GoodIn wsX4_clear wsX2_forget := goodIn_r _ [33, 34, 35, 65, 66, 67] (by decide +kernel) (by decide +kernel)
set_option maxRecDepth 20000 in
theorem gX4_clear_X2_forget : GoodIn wsX4_clear (wsV RX4 129 RX2 yX2_forget wsX2_forget) := goodIn_app (goodIn_of _ (by decide +kernel)) ggX4_clear_X2_forget
theorem dX4_clear_0 : decode cX4_clear 0 = .ok (.iconst 0, 1) := by decide +kernel
theorem dX4_clear_1 : decode cX4_clear 1 = .ok (.istore_n 1, 1) := by decide +kernel
theorem dX4_clear_2 : decode cX4_clear 2 = .ok (.iload_n 1, 1) := by decide +kernel
theorem dX4_clear_3 : decode cX4_clear 3 = .ok (.aload_n 0, 1) := by decide +kernel
theorem dX4_clear_4 : decode cX4_clear 4 = .ok (.getfield 40, 3) := by decide +kernel
theorem dX4_clear_7 : decode cX4_clear 7 = .ok (.arraylength, 1) := by decide +kernel
theorem dX4_clear_8 : decode cX4_clear 8 = .ok (.if_icmp .ge 18, 3) := by decide +kernel
theorem dX4_clear_11 : decode cX4_clear 11 = .ok (.aload_n 0, 1) := by decide +kernel
theorem dX4_clear_12 : decode cX4_clear 12 = .ok (.getfield 40, 3) := by decide +kernel
theorem dX4_clear_15 : decode cX4_clear 15 = .ok (.iload_n 1, 1) := by decide +kernel
theorem dX4_clear_16 : decode cX4_clear 16 = .ok (.aaload, 1) := by decide +kernel
theorem dX4_clear_17 : decode cX4_clear 17 = .ok (.invokevirtual 126, 3) := by decide +kernel
theorem dX4_clear_20 : decode cX4_clear 20 = .ok (.iinc 1 1, 3) := by decide +kernel
theorem dX4_clear_23 : decode cX4_clear 23 = .ok (.goto (-21), 3) := by decide +kernel
theorem dX4_clear_26 : decode cX4_clear 26 = .ok (.iconst 0, 1) := by decide +kernel
theorem dX4_clear_27 : decode cX4_clear 27 = .ok (.istore_n 1, 1) := by decide +kernel
theorem dX4_clear_28 : decode cX4_clear 28 = .ok (.iload_n 1, 1) := by decide +kernel
theorem dX4_clear_29 : decode cX4_clear 29 = .ok (.bipush 64, 2) := by decide +kernel
theorem dX4_clear_31 : decode cX4_clear 31 = .ok (.if_icmp .ge 16, 3) := by decide +kernel
theorem dX4_clear_34 : decode cX4_clear 34 = .ok (.aload_n 0, 1) := by decide +kernel
theorem dX4_clear_35 : decode cX4_clear 35 = .ok (.getfield 9, 3) := by decide +kernel
theorem dX4_clear_38 : decode cX4_clear 38 = .ok (.iload_n 1, 1) := by decide +kernel
theorem dX4_clear_39 : decode cX4_clear 39 = .ok (.iconst 0, 1) := by decide +kernel
theorem dX4_clear_40 : decode cX4_clear 40 = .ok (.iastore, 1) := by decide +kernel
theorem dX4_clear_41 : decode cX4_clear 41 = .ok (.iinc 1 1, 3) := by decide +kernel
theorem dX4_clear_44 : decode cX4_clear 44 = .ok (.goto (-16), 3) := by decide +kernel
theorem dX4_clear_47 : decode cX4_clear 47 = .ok (.aload_n 0, 1) := by decide +kernel
theorem dX4_clear_48 : decode cX4_clear 48 = .ok (.getfield 16, 3) := by decide +kernel
theorem dX4_clear_51 : decode cX4_clear 51 = .ok (.iconst 0, 1) := by decide +kernel
theorem dX4_clear_52 : decode cX4_clear 52 = .ok (.putfield 54, 3) := by decide +kernel
theorem dX4_clear_55 : decode cX4_clear 55 = .ok (.aload_n 0, 1) := by decide +kernel
theorem dX4_clear_56 : decode cX4_clear 56 = .ok (.getfield 23, 3) := by decide +kernel
theorem dX4_clear_59 : decode cX4_clear 59 = .ok (.invokevirtual 129, 3) := by decide +kernel
theorem dX4_clear_62 : decode cX4_clear 62 = .ok (.aload_n 0, 1) := by decide +kernel
theorem dX4_clear_63 : decode cX4_clear 63 = .ok (.iconst 0, 1) := by decide +kernel
theorem dX4_clear_64 : decode cX4_clear 64 = .ok (.putfield 132, 3) := by decide +kernel
theorem dX4_clear_67 : decode cX4_clear 67 = .ok (.return_, 1) := by decide +kernel
theorem dX4_nearest_0 : decode cX4_nearest 0 = .ok (.iload_n 1, 1) := by decide +kernel
theorem dX4_nearest_1 : decode cX4_nearest 1 = .ok (.iload_n 2, 1) := by decide +kernel
theorem dX4_nearest_2 : decode cX4_nearest 2 = .ok (.iload_n 0, 1) := by decide +kernel
theorem dX4_nearest_3 : decode cX4_nearest 3 = .ok (.invokestatic 135, 3) := by decide +kernel
theorem dX4_nearest_6 : decode cX4_nearest 6 = .ok (.invokestatic 140, 3) := by decide +kernel
theorem dX4_nearest_9 : decode cX4_nearest 9 = .ok (.ireturn, 1) := by decide +kernel
theorem dX4_isRegister_0 : decode cX4_isRegister 0 = .ok (.iload_n 0, 1) := by decide +kernel
theorem dX4_isRegister_1 : decode cX4_isRegister 1 = .ok (.ifCond .lt 13, 3) := by decide +kernel
theorem dX4_isRegister_4 : decode cX4_isRegister 4 = .ok (.iload_n 0, 1) := by decide +kernel
theorem dX4_isRegister_5 : decode cX4_isRegister 5 = .ok (.bipush 8, 2) := by decide +kernel
theorem dX4_isRegister_7 : decode cX4_isRegister 7 = .ok (.if_icmp .ge 7, 3) := by decide +kernel
theorem dX4_isRegister_10 : decode cX4_isRegister 10 = .ok (.iconst 1, 1) := by decide +kernel
theorem dX4_isRegister_11 : decode cX4_isRegister 11 = .ok (.goto 4, 3) := by decide +kernel
theorem dX4_isRegister_14 : decode cX4_isRegister 14 = .ok (.iconst 0, 1) := by decide +kernel
theorem dX4_isRegister_15 : decode cX4_isRegister 15 = .ok (.ireturn, 1) := by decide +kernel
theorem dX4_isWord_0 : decode cX4_isWord 0 = .ok (.iload_n 0, 1) := by decide +kernel
theorem dX4_isWord_1 : decode cX4_isWord 1 = .ok (.ifCond .lt 13, 3) := by decide +kernel
theorem dX4_isWord_4 : decode cX4_isWord 4 = .ok (.iload_n 0, 1) := by decide +kernel
theorem dX4_isWord_5 : decode cX4_isWord 5 = .ok (.bipush 64, 2) := by decide +kernel
theorem dX4_isWord_7 : decode cX4_isWord 7 = .ok (.if_icmp .ge 7, 3) := by decide +kernel
theorem dX4_isWord_10 : decode cX4_isWord 10 = .ok (.iconst 1, 1) := by decide +kernel
theorem dX4_isWord_11 : decode cX4_isWord 11 = .ok (.goto 4, 3) := by decide +kernel
theorem dX4_isWord_14 : decode cX4_isWord 14 = .ok (.iconst 0, 1) := by decide +kernel
theorem dX4_isWord_15 : decode cX4_isWord 15 = .ok (.ireturn, 1) := by decide +kernel
theorem dX4_isManyPicks_0 : decode cX4_isManyPicks 0 = .ok (.iload_n 0, 1) := by decide +kernel
theorem dX4_isManyPicks_1 : decode cX4_isManyPicks 1 = .ok (.ifCond .lt 14, 3) := by decide +kernel
theorem dX4_isManyPicks_4 : decode cX4_isManyPicks 4 = .ok (.iload_n 0, 1) := by decide +kernel
theorem dX4_isManyPicks_5 : decode cX4_isManyPicks 5 = .ok (.sipush 2000, 3) := by decide +kernel
theorem dX4_isManyPicks_8 : decode cX4_isManyPicks 8 = .ok (.if_icmp .gt 7, 3) := by decide +kernel
theorem dX4_isManyPicks_11 : decode cX4_isManyPicks 11 = .ok (.iconst 1, 1) := by decide +kernel
theorem dX4_isManyPicks_12 : decode cX4_isManyPicks 12 = .ok (.goto 4, 3) := by decide +kernel
theorem dX4_isManyPicks_15 : decode cX4_isManyPicks 15 = .ok (.iconst 0, 1) := by decide +kernel
theorem dX4_isManyPicks_16 : decode cX4_isManyPicks 16 = .ok (.ireturn, 1) := by decide +kernel
theorem dX4_isCore_0 : decode cX4_isCore 0 = .ok (.iload_n 1, 1) := by decide +kernel
theorem dX4_isCore_1 : decode cX4_isCore 1 = .ok (.ifCond .lt 16, 3) := by decide +kernel
theorem dX4_isCore_4 : decode cX4_isCore 4 = .ok (.iload_n 1, 1) := by decide +kernel
theorem dX4_isCore_5 : decode cX4_isCore 5 = .ok (.aload_n 0, 1) := by decide +kernel
theorem dX4_isCore_6 : decode cX4_isCore 6 = .ok (.getfield 40, 3) := by decide +kernel
theorem dX4_isCore_9 : decode cX4_isCore 9 = .ok (.arraylength, 1) := by decide +kernel
theorem dX4_isCore_10 : decode cX4_isCore 10 = .ok (.if_icmp .ge 7, 3) := by decide +kernel
theorem dX4_isCore_13 : decode cX4_isCore 13 = .ok (.iconst 1, 1) := by decide +kernel
theorem dX4_isCore_14 : decode cX4_isCore 14 = .ok (.goto 4, 3) := by decide +kernel
theorem dX4_isCore_17 : decode cX4_isCore 17 = .ok (.iconst 0, 1) := by decide +kernel
theorem dX4_isCore_18 : decode cX4_isCore 18 = .ok (.ireturn, 1) := by decide +kernel
set_option maxRecDepth 20000 in
theorem ggX4_namesRegisters_X4_isRegister : GoodIn wsX4_namesRegisters wsX4_isRegister := goodIn_r _ [4] (by decide +kernel) (by decide +kernel)
set_option maxRecDepth 20000 in
theorem gX4_namesRegisters_X4_isRegister : GoodIn wsX4_namesRegisters (va_wsS RX4 87 yX4_isRegister wsX4_isRegister) := goodIn_app (goodIn_of _ (by decide +kernel)) ggX4_namesRegisters_X4_isRegister
theorem dX4_namesRegisters_0 : decode cX4_namesRegisters 0 = .ok (.iload_n 0, 1) := by decide +kernel
theorem dX4_namesRegisters_1 : decode cX4_namesRegisters 1 = .ok (.bipush 8, 2) := by decide +kernel
theorem dX4_namesRegisters_3 : decode cX4_namesRegisters 3 = .ok (.if_icmp .le 9, 3) := by decide +kernel
theorem dX4_namesRegisters_6 : decode cX4_namesRegisters 6 = .ok (.iload_n 0, 1) := by decide +kernel
theorem dX4_namesRegisters_7 : decode cX4_namesRegisters 7 = .ok (.bipush 12, 2) := by decide +kernel
theorem dX4_namesRegisters_9 : decode cX4_namesRegisters 9 = .ok (.if_icmp .ne 7, 3) := by decide +kernel
theorem dX4_namesRegisters_12 : decode cX4_namesRegisters 12 = .ok (.iconst 1, 1) := by decide +kernel
theorem dX4_namesRegisters_13 : decode cX4_namesRegisters 13 = .ok (.goto 4, 3) := by decide +kernel
theorem dX4_namesRegisters_16 : decode cX4_namesRegisters 16 = .ok (.iconst 0, 1) := by decide +kernel
theorem dX4_namesRegisters_17 : decode cX4_namesRegisters 17 = .ok (.istore 4, 2) := by decide +kernel
theorem dX4_namesRegisters_19 : decode cX4_namesRegisters 19 = .ok (.iload_n 0, 1) := by decide +kernel
theorem dX4_namesRegisters_20 : decode cX4_namesRegisters 20 = .ok (.iconst 1, 1) := by decide +kernel
theorem dX4_namesRegisters_21 : decode cX4_namesRegisters 21 = .ok (.if_icmp .lt 13, 3) := by decide +kernel
theorem dX4_namesRegisters_24 : decode cX4_namesRegisters 24 = .ok (.iload_n 0, 1) := by decide +kernel
theorem dX4_namesRegisters_25 : decode cX4_namesRegisters 25 = .ok (.bipush 8, 2) := by decide +kernel
theorem dX4_namesRegisters_27 : decode cX4_namesRegisters 27 = .ok (.if_icmp .gt 7, 3) := by decide +kernel
theorem dX4_namesRegisters_30 : decode cX4_namesRegisters 30 = .ok (.iconst 1, 1) := by decide +kernel
theorem dX4_namesRegisters_31 : decode cX4_namesRegisters 31 = .ok (.goto 4, 3) := by decide +kernel
theorem dX4_namesRegisters_34 : decode cX4_namesRegisters 34 = .ok (.iconst 0, 1) := by decide +kernel
theorem dX4_namesRegisters_35 : decode cX4_namesRegisters 35 = .ok (.istore 5, 2) := by decide +kernel
theorem dX4_namesRegisters_37 : decode cX4_namesRegisters 37 = .ok (.iload_n 0, 1) := by decide +kernel
theorem dX4_namesRegisters_38 : decode cX4_namesRegisters 38 = .ok (.iconst 1, 1) := by decide +kernel
theorem dX4_namesRegisters_39 : decode cX4_namesRegisters 39 = .ok (.if_icmp .lt 12, 3) := by decide +kernel
theorem dX4_namesRegisters_42 : decode cX4_namesRegisters 42 = .ok (.iload_n 0, 1) := by decide +kernel
theorem dX4_namesRegisters_43 : decode cX4_namesRegisters 43 = .ok (.iconst 3, 1) := by decide +kernel
theorem dX4_namesRegisters_44 : decode cX4_namesRegisters 44 = .ok (.if_icmp .gt 7, 3) := by decide +kernel
theorem dX4_namesRegisters_47 : decode cX4_namesRegisters 47 = .ok (.iconst 1, 1) := by decide +kernel
theorem dX4_namesRegisters_48 : decode cX4_namesRegisters 48 = .ok (.goto 4, 3) := by decide +kernel
theorem dX4_namesRegisters_51 : decode cX4_namesRegisters 51 = .ok (.iconst 0, 1) := by decide +kernel
theorem dX4_namesRegisters_52 : decode cX4_namesRegisters 52 = .ok (.istore 6, 2) := by decide +kernel
theorem dX4_namesRegisters_54 : decode cX4_namesRegisters 54 = .ok (.iload 4, 2) := by decide +kernel
theorem dX4_namesRegisters_56 : decode cX4_namesRegisters 56 = .ok (.ifCond .eq 10, 3) := by decide +kernel
theorem dX4_namesRegisters_59 : decode cX4_namesRegisters 59 = .ok (.iload_n 1, 1) := by decide +kernel
theorem dX4_namesRegisters_60 : decode cX4_namesRegisters 60 = .ok (.invokestatic 87, 3) := by decide +kernel
theorem dX4_namesRegisters_63 : decode cX4_namesRegisters 63 = .ok (.ifCond .eq 31, 3) := by decide +kernel
theorem dX4_namesRegisters_66 : decode cX4_namesRegisters 66 = .ok (.iload 5, 2) := by decide +kernel
theorem dX4_namesRegisters_68 : decode cX4_namesRegisters 68 = .ok (.ifCond .eq 10, 3) := by decide +kernel
theorem dX4_namesRegisters_71 : decode cX4_namesRegisters 71 = .ok (.iload_n 2, 1) := by decide +kernel
theorem dX4_namesRegisters_72 : decode cX4_namesRegisters 72 = .ok (.invokestatic 87, 3) := by decide +kernel
theorem dX4_namesRegisters_75 : decode cX4_namesRegisters 75 = .ok (.ifCond .eq 19, 3) := by decide +kernel
theorem dX4_namesRegisters_78 : decode cX4_namesRegisters 78 = .ok (.iload 6, 2) := by decide +kernel
theorem dX4_namesRegisters_80 : decode cX4_namesRegisters 80 = .ok (.ifCond .eq 10, 3) := by decide +kernel
theorem dX4_namesRegisters_83 : decode cX4_namesRegisters 83 = .ok (.iload_n 3, 1) := by decide +kernel
theorem dX4_namesRegisters_84 : decode cX4_namesRegisters 84 = .ok (.invokestatic 87, 3) := by decide +kernel
theorem dX4_namesRegisters_87 : decode cX4_namesRegisters 87 = .ok (.ifCond .eq 7, 3) := by decide +kernel
theorem dX4_namesRegisters_90 : decode cX4_namesRegisters 90 = .ok (.iconst 1, 1) := by decide +kernel
theorem dX4_namesRegisters_91 : decode cX4_namesRegisters 91 = .ok (.goto 4, 3) := by decide +kernel
theorem dX4_namesRegisters_94 : decode cX4_namesRegisters 94 = .ok (.iconst 0, 1) := by decide +kernel
theorem dX4_namesRegisters_95 : decode cX4_namesRegisters 95 = .ok (.ireturn, 1) := by decide +kernel
set_option maxRecDepth 20000 in
theorem ggX4_step_X4_fault : GoodIn wsX4_step wsX4_fault := goodIn_r _ [10, 11, 12, 1, 13, 14, 15, 9, 16, 17, 18, 19, 20, 21, 22, 23, 24, 25, 26, 27, 2, 28, 29, 30, 31, 32, 33, 34, 35, 36, 37, 38, 39, 40, 41, 42, 43, 44, 45, 46, 47, 48, 49, 50, 51, 52, 141, 142, 143, 144, 145, 146, 147, 148, 161, 162, 163, 164, 165, 166, 167, 168, 169, 149, 150, 151, 152, 153, 154, 155, 170, 171, 172] (by decide +kernel) (by decide +kernel)
set_option maxRecDepth 20000 in
theorem gX4_step_X4_fault : GoodIn wsX4_step (wsV RX4 143 RX4 yX4_fault wsX4_fault) := goodIn_app (goodIn_of _ (by decide +kernel)) ggX4_step_X4_fault
set_option maxRecDepth 20000 in
theorem ggX4_step_X4_execute : GoodIn wsX4_step wsX4_execute := goodIn_r _ [56, 22, 3, 57, 58, 59, 60, 2, 37, 38, 39, 40, 41, 42, 61, 62, 63, 9, 64, 18, 11, 12, 65, 66, 67, 68, 69, 6, 7, 8, 10, 1, 13, 14, 15, 16, 17, 19, 20, 21, 23, 24, 25, 26, 27, 28, 29, 30, 31, 32, 33, 34, 35, 36, 43, 44, 45, 46, 47, 48, 49, 50, 51, 52, 70, 71, 72, 73, 74, 75, 76, 77, 78, 79, 80, 81, 82, 83, 84, 85, 86, 87, 88, 89, 90, 91, 92, 93, 94, 95, 96, 97, 98, 99, 100, 101, 102, 103, 104, 105, 106, 107, 108, 109, 110, 111, 112, 113, 114, 115, 116, 117, 118, 119, 120, 121, 122, 123, 124, 125, 126, 127, 128, 129, 130, 131, 132, 133, 134, 135, 136, 137, 138, 139, 140, 141, 142, 143, 144, 145, 146, 147, 148, 149, 150, 151, 152, 153, 154, 155, 156, 157, 158, 159, 160, 161, 162, 163, 164, 165, 166, 167, 168, 169, 170, 171, 172] (by decide +kernel) (by decide +kernel)
set_option maxRecDepth 20000 in
theorem gX4_step_X4_execute : GoodIn wsX4_step (wsV RX4 147 RX4 yX4_execute wsX4_execute) := goodIn_app (goodIn_of _ (by decide +kernel)) ggX4_step_X4_execute
theorem dX4_step_0 : decode cX4_step 0 = .ok (.aload_n 1, 1) := by decide +kernel
theorem dX4_step_1 : decode cX4_step 1 = .ok (.getfield 83, 3) := by decide +kernel
theorem dX4_step_4 : decode cX4_step 4 = .ok (.ifCond .eq 5, 3) := by decide +kernel
theorem dX4_step_7 : decode cX4_step 7 = .ok (.iconst 0, 1) := by decide +kernel
theorem dX4_step_8 : decode cX4_step 8 = .ok (.ireturn, 1) := by decide +kernel
theorem dX4_step_9 : decode cX4_step 9 = .ok (.iconst 0, 1) := by decide +kernel
theorem dX4_step_10 : decode cX4_step 10 = .ok (.istore_n 2, 1) := by decide +kernel
theorem dX4_step_11 : decode cX4_step 11 = .ok (.aload_n 1, 1) := by decide +kernel
theorem dX4_step_12 : decode cX4_step 12 = .ok (.getfield 71, 3) := by decide +kernel
theorem dX4_step_15 : decode cX4_step 15 = .ok (.ifCond .lt 17, 3) := by decide +kernel
theorem dX4_step_18 : decode cX4_step 18 = .ok (.aload_n 1, 1) := by decide +kernel
theorem dX4_step_19 : decode cX4_step 19 = .ok (.getfield 71, 3) := by decide +kernel
theorem dX4_step_22 : decode cX4_step 22 = .ok (.aload_n 0, 1) := by decide +kernel
theorem dX4_step_23 : decode cX4_step 23 = .ok (.getfield 16, 3) := by decide +kernel
theorem dX4_step_26 : decode cX4_step 26 = .ok (.getfield 54, 3) := by decide +kernel
theorem dX4_step_29 : decode cX4_step 29 = .ok (.if_icmp .lt 11, 3) := by decide +kernel
theorem dX4_step_32 : decode cX4_step 32 = .ok (.aload_n 0, 1) := by decide +kernel
theorem dX4_step_33 : decode cX4_step 33 = .ok (.aload_n 1, 1) := by decide +kernel
theorem dX4_step_34 : decode cX4_step 34 = .ok (.invokevirtual 143, 3) := by decide +kernel
