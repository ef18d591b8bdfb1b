theorem dX5_sees_8 : decode cX5_sees 8 = .ok (.lconst 1, 1) := by decide +kernel
theorem dX5_sees_9 : decode cX5_sees 9 = .ok (.land, 1) := by decide +kernel
theorem dX5_sees_10 : decode cX5_sees 10 = .ok (.lconst 1, 1) := by decide +kernel
theorem dX5_sees_11 : decode cX5_sees 11 = .ok (.lcmp, 1) := by decide +kernel
theorem dX5_sees_12 : decode cX5_sees 12 = .ok (.ifCond .ne 17, 3) := by decide +kernel
theorem dX5_sees_15 : decode cX5_sees 15 = .ok (.aload_n 0, 1) := by decide +kernel
theorem dX5_sees_16 : decode cX5_sees 16 = .ok (.getfield 63, 3) := by decide +kernel
theorem dX5_sees_19 : decode cX5_sees 19 = .ok (.bipush 64, 2) := by decide +kernel
theorem dX5_sees_21 : decode cX5_sees 21 = .ok (.iload_n 1, 1) := by decide +kernel
theorem dX5_sees_22 : decode cX5_sees 22 = .ok (.imul, 1) := by decide +kernel
theorem dX5_sees_23 : decode cX5_sees 23 = .ok (.iload_n 2, 1) := by decide +kernel
theorem dX5_sees_24 : decode cX5_sees 24 = .ok (.iadd, 1) := by decide +kernel
theorem dX5_sees_25 : decode cX5_sees 25 = .ok (.iaload, 1) := by decide +kernel
theorem dX5_sees_26 : decode cX5_sees 26 = .ok (.goto 9, 3) := by decide +kernel
theorem dX5_sees_29 : decode cX5_sees 29 = .ok (.aload_n 0, 1) := by decide +kernel
theorem dX5_sees_30 : decode cX5_sees 30 = .ok (.getfield 7, 3) := by decide +kernel
theorem dX5_sees_33 : decode cX5_sees 33 = .ok (.iload_n 2, 1) := by decide +kernel
theorem dX5_sees_34 : decode cX5_sees 34 = .ok (.iaload, 1) := by decide +kernel
theorem dX5_sees_35 : decode cX5_sees 35 = .ok (.ireturn, 1) := by decide +kernel
set_option maxRecDepth 20000 in
theorem ggX5_commit_X5_sees : GoodIn wsX5_commit wsX5_sees := goodIn_r _ [7, 8, 9, 1, 18, 19, 20, 21, 22, 23, 24, 25, 26, 27, 28, 29, 30, 31, 32, 33, 34, 35, 36, 37, 38, 39, 40, 41, 42, 43, 44, 45, 46] (by decide +kernel) (by decide +kernel)
set_option maxRecDepth 20000 in
theorem gX5_commit_X5_sees : GoodIn wsX5_commit (wsV RX5 139 RX5 yX5_sees wsX5_sees) := goodIn_app (goodIn_of _ (by decide +kernel)) ggX5_commit_X5_sees
set_option maxRecDepth 20000 in
theorem ggX5_commit_X5_leave : GoodIn wsX5_commit wsX5_leave := goodIn_r _ [13, 14, 15, 16, 17, 8, 18, 19, 20, 21, 22, 23, 24, 25, 26, 27, 28, 29, 30, 31, 32, 33, 34, 35, 36, 37, 38, 39, 40, 41, 42, 43, 44, 45, 46] (by decide +kernel) (by decide +kernel)
set_option maxRecDepth 20000 in
theorem gX5_commit_X5_leave : GoodIn wsX5_commit (wsV RX5 109 RX5 yX5_leave wsX5_leave) := goodIn_app (goodIn_of _ (by decide +kernel)) ggX5_commit_X5_leave
theorem dX5_commit_0 : decode cX5_commit 0 = .ok (.iconst 0, 1) := by decide +kernel
theorem dX5_commit_1 : decode cX5_commit 1 = .ok (.istore_n 2, 1) := by decide +kernel
theorem dX5_commit_2 : decode cX5_commit 2 = .ok (.iload_n 2, 1) := by decide +kernel
theorem dX5_commit_3 : decode cX5_commit 3 = .ok (.bipush 64, 2) := by decide +kernel
theorem dX5_commit_5 : decode cX5_commit 5 = .ok (.if_icmp .ge 21, 3) := by decide +kernel
theorem dX5_commit_8 : decode cX5_commit 8 = .ok (.aload_n 0, 1) := by decide +kernel
theorem dX5_commit_9 : decode cX5_commit 9 = .ok (.getfield 7, 3) := by decide +kernel
theorem dX5_commit_12 : decode cX5_commit 12 = .ok (.iload_n 2, 1) := by decide +kernel
theorem dX5_commit_13 : decode cX5_commit 13 = .ok (.aload_n 0, 1) := by decide +kernel
theorem dX5_commit_14 : decode cX5_commit 14 = .ok (.iload_n 1, 1) := by decide +kernel
theorem dX5_commit_15 : decode cX5_commit 15 = .ok (.iload_n 2, 1) := by decide +kernel
theorem dX5_commit_16 : decode cX5_commit 16 = .ok (.invokevirtual 139, 3) := by decide +kernel
theorem dX5_commit_19 : decode cX5_commit 19 = .ok (.iastore, 1) := by decide +kernel
theorem dX5_commit_20 : decode cX5_commit 20 = .ok (.iinc 2 1, 3) := by decide +kernel
theorem dX5_commit_23 : decode cX5_commit 23 = .ok (.goto (-21), 3) := by decide +kernel
theorem dX5_commit_26 : decode cX5_commit 26 = .ok (.aload_n 0, 1) := by decide +kernel
theorem dX5_commit_27 : decode cX5_commit 27 = .ok (.getfield 66, 3) := by decide +kernel
theorem dX5_commit_30 : decode cX5_commit 30 = .ok (.iload_n 1, 1) := by decide +kernel
theorem dX5_commit_31 : decode cX5_commit 31 = .ok (.dup2, 1) := by decide +kernel
theorem dX5_commit_32 : decode cX5_commit 32 = .ok (.iaload, 1) := by decide +kernel
theorem dX5_commit_33 : decode cX5_commit 33 = .ok (.iconst 1, 1) := by decide +kernel
theorem dX5_commit_34 : decode cX5_commit 34 = .ok (.iadd, 1) := by decide +kernel
theorem dX5_commit_35 : decode cX5_commit 35 = .ok (.iastore, 1) := by decide +kernel
theorem dX5_commit_36 : decode cX5_commit 36 = .ok (.aload_n 0, 1) := by decide +kernel
theorem dX5_commit_37 : decode cX5_commit 37 = .ok (.iload_n 1, 1) := by decide +kernel
theorem dX5_commit_38 : decode cX5_commit 38 = .ok (.invokevirtual 109, 3) := by decide +kernel
theorem dX5_commit_41 : decode cX5_commit 41 = .ok (.return_, 1) := by decide +kernel
set_option maxRecDepth 20000 in
theorem ggX5_faults_X5_breakOff : GoodIn wsX5_faults wsX5_breakOff := goodIn_r _ [7, 8, 9, 10, 11, 12, 13, 14, 15, 16, 17, 18, 19, 6, 20, 1, 21, 22, 23, 24, 25, 26, 27, 28, 29, 30, 31, 32, 33, 34, 35, 36, 37, 38, 39, 40, 41, 42, 43, 44, 45, 46, 47, 48, 49, 50, 51, 52] (by decide +kernel) (by decide +kernel)
set_option maxRecDepth 20000 in
theorem gX5_faults_X5_breakOff : GoodIn wsX5_faults (wsV RX5 128 RX5 yX5_breakOff wsX5_breakOff) := goodIn_app (goodIn_of _ (by decide +kernel)) ggX5_faults_X5_breakOff
theorem dX5_faults_0 : decode cX5_faults 0 = .ok (.aload_n 0, 1) := by decide +kernel
theorem dX5_faults_1 : decode cX5_faults 1 = .ok (.getfield 38, 3) := by decide +kernel
theorem dX5_faults_4 : decode cX5_faults 4 = .ok (.iload_n 1, 1) := by decide +kernel
theorem dX5_faults_5 : decode cX5_faults 5 = .ok (.iaload, 1) := by decide +kernel
theorem dX5_faults_6 : decode cX5_faults 6 = .ok (.ifCond .le 12, 3) := by decide +kernel
theorem dX5_faults_9 : decode cX5_faults 9 = .ok (.aload_n 0, 1) := by decide +kernel
theorem dX5_faults_10 : decode cX5_faults 10 = .ok (.iload_n 1, 1) := by decide +kernel
theorem dX5_faults_11 : decode cX5_faults 11 = .ok (.iconst 1, 1) := by decide +kernel
theorem dX5_faults_12 : decode cX5_faults 12 = .ok (.invokevirtual 128, 3) := by decide +kernel
theorem dX5_faults_15 : decode cX5_faults 15 = .ok (.goto 10, 3) := by decide +kernel
theorem dX5_faults_18 : decode cX5_faults 18 = .ok (.aload_n 0, 1) := by decide +kernel
theorem dX5_faults_19 : decode cX5_faults 19 = .ok (.getfield 28, 3) := by decide +kernel
theorem dX5_faults_22 : decode cX5_faults 22 = .ok (.iload_n 1, 1) := by decide +kernel
theorem dX5_faults_23 : decode cX5_faults 23 = .ok (.iconst 1, 1) := by decide +kernel
theorem dX5_faults_24 : decode cX5_faults 24 = .ok (.bastore, 1) := by decide +kernel
theorem dX5_faults_25 : decode cX5_faults 25 = .ok (.iconst 0, 1) := by decide +kernel
theorem dX5_faults_26 : decode cX5_faults 26 = .ok (.ireturn, 1) := by decide +kernel
set_option maxRecDepth 20000 in
theorem ggX5_load_X5_isIn : GoodIn wsX5_load wsX5_isIn := goodIn_r _ [4] (by decide +kernel) (by decide +kernel)
set_option maxRecDepth 20000 in
theorem gX5_load_X5_isIn : GoodIn wsX5_load (va_wsS RX5 92 yX5_isIn wsX5_isIn) := goodIn_app (goodIn_of _ (by decide +kernel)) ggX5_load_X5_isIn
set_option maxRecDepth 20000 in
theorem ggX5_load_X5_faults : GoodIn wsX5_load wsX5_faults := goodIn_r _ [8, 9, 10, 11, 12, 13, 3, 14, 15, 16, 17, 18, 19, 20, 21, 22, 23, 24, 25, 26, 27, 28, 29, 30, 60, 61, 62, 63, 64, 65, 66, 67, 68, 69, 70, 71, 72, 73, 74, 75, 76, 77, 78, 79, 80, 81, 82, 83, 84, 85, 86, 87, 88] (by decide +kernel) (by decide +kernel)
set_option maxRecDepth 20000 in
theorem gX5_load_X5_faults : GoodIn wsX5_load (wsV RX5 142 RX5 yX5_faults wsX5_faults) := goodIn_app (goodIn_of _ (by decide +kernel)) ggX5_load_X5_faults
set_option maxRecDepth 20000 in
theorem ggX5_load_X5_comes : GoodIn wsX5_load wsX5_comes := goodIn_r _ [34, 35, 18, 9, 29, 28, 36, 37, 38, 39, 3, 40, 11, 12, 13, 14, 15, 16, 17, 19, 20, 21, 22, 23, 24, 25, 26, 27, 30, 41, 42, 43, 44, 45, 46, 47, 48, 49, 60, 61, 62, 63, 64, 65, 66, 67, 68, 69, 70, 71, 72, 73, 74, 75, 76, 77, 78, 79, 80, 81, 82, 83, 84, 85, 86, 87, 88] (by decide +kernel) (by decide +kernel)
set_option maxRecDepth 20000 in
theorem gX5_load_X5_comes : GoodIn wsX5_load (wsV RX5 145 RX5 yX5_comes wsX5_comes) := goodIn_app (goodIn_of _ (by decide +kernel)) ggX5_load_X5_comes
set_option maxRecDepth 20000 in
theorem ggX5_load_X5_sees : GoodIn wsX5_load wsX5_sees := goodIn_r _ [53, 30, 54, 55, 60, 61, 62, 63, 64, 65, 66, 67, 68, 69, 70, 71, 72, 73, 74, 75, 76, 77, 78, 79, 80, 81, 82, 83, 84, 85, 86, 87, 88] (by decide +kernel) (by decide +kernel)
set_option maxRecDepth 20000 in
theorem gX5_load_X5_sees : GoodIn wsX5_load (wsV RX5 139 RX5 yX5_sees wsX5_sees) := goodIn_app (goodIn_of _ (by decide +kernel)) ggX5_load_X5_sees
set_option maxRecDepth 20000 in
theorem ggX5_load_X5_give : GoodIn wsX5_load wsX5_give := goodIn_r _ [59, 19, 60, 61, 62, 63, 64, 65, 66, 67, 68, 69, 70, 71, 72, 73, 74, 75, 76, 77, 78, 79, 80, 81, 82, 83, 84, 85, 86, 87, 88] (by decide +kernel) (by decide +kernel)
set_option maxRecDepth 20000 in
theorem gX5_load_X5_give : GoodIn wsX5_load (wsV RX5 117 RX5 yX5_give wsX5_give) := goodIn_app (goodIn_of _ (by decide +kernel)) ggX5_load_X5_give
theorem dX5_load_0 : decode cX5_load 0 = .ok (.iload_n 3, 1) := by decide +kernel
theorem dX5_load_1 : decode cX5_load 1 = .ok (.bipush 64, 2) := by decide +kernel
theorem dX5_load_3 : decode cX5_load 3 = .ok (.invokestatic 92, 3) := by decide +kernel
theorem dX5_load_6 : decode cX5_load 6 = .ok (.ifCond .ne 9, 3) := by decide +kernel
theorem dX5_load_9 : decode cX5_load 9 = .ok (.aload_n 0, 1) := by decide +kernel
theorem dX5_load_10 : decode cX5_load 10 = .ok (.iload_n 1, 1) := by decide +kernel
theorem dX5_load_11 : decode cX5_load 11 = .ok (.invokevirtual 142, 3) := by decide +kernel
theorem dX5_load_14 : decode cX5_load 14 = .ok (.ireturn, 1) := by decide +kernel
theorem dX5_load_15 : decode cX5_load 15 = .ok (.aload_n 0, 1) := by decide +kernel
theorem dX5_load_16 : decode cX5_load 16 = .ok (.iload_n 1, 1) := by decide +kernel
theorem dX5_load_17 : decode cX5_load 17 = .ok (.iload_n 3, 1) := by decide +kernel
theorem dX5_load_18 : decode cX5_load 18 = .ok (.iconst 0, 1) := by decide +kernel
theorem dX5_load_19 : decode cX5_load 19 = .ok (.invokevirtual 145, 3) := by decide +kernel
theorem dX5_load_22 : decode cX5_load 22 = .ok (.ifCond .ne 5, 3) := by decide +kernel
theorem dX5_load_25 : decode cX5_load 25 = .ok (.iconst 0, 1) := by decide +kernel
theorem dX5_load_26 : decode cX5_load 26 = .ok (.ireturn, 1) := by decide +kernel
theorem dX5_load_27 : decode cX5_load 27 = .ok (.aload_n 0, 1) := by decide +kernel
theorem dX5_load_28 : decode cX5_load 28 = .ok (.iload_n 1, 1) := by decide +kernel
theorem dX5_load_29 : decode cX5_load 29 = .ok (.iload_n 2, 1) := by decide +kernel
theorem dX5_load_30 : decode cX5_load 30 = .ok (.aload_n 0, 1) := by decide +kernel
theorem dX5_load_31 : decode cX5_load 31 = .ok (.iload_n 1, 1) := by decide +kernel
theorem dX5_load_32 : decode cX5_load 32 = .ok (.iload_n 3, 1) := by decide +kernel
theorem dX5_load_33 : decode cX5_load 33 = .ok (.invokevirtual 139, 3) := by decide +kernel
theorem dX5_load_36 : decode cX5_load 36 = .ok (.invokevirtual 117, 3) := by decide +kernel
theorem dX5_load_39 : decode cX5_load 39 = .ok (.iconst 1, 1) := by decide +kernel
theorem dX5_load_40 : decode cX5_load 40 = .ok (.ireturn, 1) := by decide +kernel
set_option maxRecDepth 20000 in
theorem ggX5_store_X5_isIn : GoodIn wsX5_store wsX5_isIn := goodIn_r _ [8] (by decide +kernel) (by decide +kernel)
set_option maxRecDepth 20000 in
theorem gX5_store_X5_isIn : GoodIn wsX5_store (va_wsS RX5 92 yX5_isIn wsX5_isIn) := goodIn_app (goodIn_of _ (by decide +kernel)) ggX5_store_X5_isIn
set_option maxRecDepth 20000 in
theorem ggX5_store_X5_faults : GoodIn wsX5_store wsX5_faults := goodIn_r _ [12, 1, 13, 14, 15, 16, 7, 17, 18, 19, 20, 21, 22, 23, 24, 25, 26, 27, 28, 29, 30, 31, 32, 3, 56, 57, 58, 59, 60, 61, 62, 63, 64, 65, 66, 67, 68, 69, 70, 71, 72, 73, 74, 75, 76, 77, 78, 79, 80, 81, 82, 83, 84] (by decide +kernel) (by decide +kernel)
set_option maxRecDepth 20000 in
theorem gX5_store_X5_faults : GoodIn wsX5_store (wsV RX5 142 RX5 yX5_faults wsX5_faults) := goodIn_app (goodIn_of _ (by decide +kernel)) ggX5_store_X5_faults
set_option maxRecDepth 20000 in
theorem ggX5_store_X5_comes : GoodIn wsX5_store wsX5_comes := goodIn_r _ [36, 37, 21, 1, 32, 31, 38, 39, 40, 41, 7, 42, 14, 15, 16, 17, 18, 19, 20, 22, 23, 24, 25, 26, 27, 28, 29, 30, 3, 43, 44, 45, 46, 47, 48, 49, 50, 51, 56, 57, 58, 59, 60, 61, 62, 63, 64, 65, 66, 67, 68, 69, 70, 71, 72, 73, 74, 75, 76, 77, 78, 79, 80, 81, 82, 83, 84] (by decide +kernel) (by decide +kernel)
set_option maxRecDepth 20000 in
theorem gX5_store_X5_comes : GoodIn wsX5_store (wsV RX5 145 RX5 yX5_comes wsX5_comes) := goodIn_app (goodIn_of _ (by decide +kernel)) ggX5_store_X5_comes
set_option maxRecDepth 20000 in
theorem ggX5_store_X5_get : GoodIn wsX5_store wsX5_get := goodIn_r _ [55, 22, 56, 57, 58, 59, 60, 61, 62, 63, 64, 65, 66, 67, 68, 69, 70, 71, 72, 73, 74, 75, 76, 77, 78, 79, 80, 81, 82, 83, 84] (by decide +kernel) (by decide +kernel)
set_option maxRecDepth 20000 in
theorem gX5_store_X5_get : GoodIn wsX5_store (wsV RX5 113 RX5 yX5_get wsX5_get) := goodIn_app (goodIn_of _ (by decide +kernel)) ggX5_store_X5_get
theorem dX5_store_0 : decode cX5_store 0 = .ok (.iload_n 3, 1) := by decide +kernel
theorem dX5_store_1 : decode cX5_store 1 = .ok (.bipush 64, 2) := by decide +kernel
theorem dX5_store_3 : decode cX5_store 3 = .ok (.invokestatic 92, 3) := by decide +kernel
theorem dX5_store_6 : decode cX5_store 6 = .ok (.ifCond .ne 9, 3) := by decide +kernel
theorem dX5_store_9 : decode cX5_store 9 = .ok (.aload_n 0, 1) := by decide +kernel
theorem dX5_store_10 : decode cX5_store 10 = .ok (.iload_n 1, 1) := by decide +kernel
theorem dX5_store_11 : decode cX5_store 11 = .ok (.invokevirtual 142, 3) := by decide +kernel
theorem dX5_store_14 : decode cX5_store 14 = .ok (.ireturn, 1) := by decide +kernel
theorem dX5_store_15 : decode cX5_store 15 = .ok (.aload_n 0, 1) := by decide +kernel
theorem dX5_store_16 : decode cX5_store 16 = .ok (.iload_n 1, 1) := by decide +kernel
theorem dX5_store_17 : decode cX5_store 17 = .ok (.iload_n 3, 1) := by decide +kernel
theorem dX5_store_18 : decode cX5_store 18 = .ok (.iconst 1, 1) := by decide +kernel
theorem dX5_store_19 : decode cX5_store 19 = .ok (.invokevirtual 145, 3) := by decide +kernel
theorem dX5_store_22 : decode cX5_store 22 = .ok (.ifCond .ne 5, 3) := by decide +kernel
theorem dX5_store_25 : decode cX5_store 25 = .ok (.iconst 0, 1) := by decide +kernel
theorem dX5_store_26 : decode cX5_store 26 = .ok (.ireturn, 1) := by decide +kernel
theorem dX5_store_27 : decode cX5_store 27 = .ok (.aload_n 0, 1) := by decide +kernel
theorem dX5_store_28 : decode cX5_store 28 = .ok (.getfield 38, 3) := by decide +kernel
theorem dX5_store_31 : decode cX5_store 31 = .ok (.iload_n 1, 1) := by decide +kernel
theorem dX5_store_32 : decode cX5_store 32 = .ok (.iaload, 1) := by decide +kernel
theorem dX5_store_33 : decode cX5_store 33 = .ok (.ifCond .ne 18, 3) := by decide +kernel
theorem dX5_store_36 : decode cX5_store 36 = .ok (.aload_n 0, 1) := by decide +kernel
theorem dX5_store_37 : decode cX5_store 37 = .ok (.getfield 7, 3) := by decide +kernel
theorem dX5_store_40 : decode cX5_store 40 = .ok (.iload_n 3, 1) := by decide +kernel
theorem dX5_store_41 : decode cX5_store 41 = .ok (.aload_n 0, 1) := by decide +kernel
theorem dX5_store_42 : decode cX5_store 42 = .ok (.iload_n 1, 1) := by decide +kernel
theorem dX5_store_43 : decode cX5_store 43 = .ok (.iload_n 2, 1) := by decide +kernel
theorem dX5_store_44 : decode cX5_store 44 = .ok (.invokevirtual 113, 3) := by decide +kernel
theorem dX5_store_47 : decode cX5_store 47 = .ok (.iastore, 1) := by decide +kernel
theorem dX5_store_48 : decode cX5_store 48 = .ok (.goto 36, 3) := by decide +kernel
theorem dX5_store_51 : decode cX5_store 51 = .ok (.aload_n 0, 1) := by decide +kernel
theorem dX5_store_52 : decode cX5_store 52 = .ok (.getfield 59, 3) := by decide +kernel
theorem dX5_store_55 : decode cX5_store 55 = .ok (.iload_n 1, 1) := by decide +kernel
theorem dX5_store_56 : decode cX5_store 56 = .ok (.aload_n 0, 1) := by decide +kernel
theorem dX5_store_57 : decode cX5_store 57 = .ok (.getfield 59, 3) := by decide +kernel
theorem dX5_store_60 : decode cX5_store 60 = .ok (.iload_n 1, 1) := by decide +kernel
theorem dX5_store_61 : decode cX5_store 61 = .ok (.laload, 1) := by decide +kernel
theorem dX5_store_62 : decode cX5_store 62 = .ok (.lconst 1, 1) := by decide +kernel
theorem dX5_store_63 : decode cX5_store 63 = .ok (.iload_n 3, 1) := by decide +kernel
theorem dX5_store_64 : decode cX5_store 64 = .ok (.lshl, 1) := by decide +kernel
theorem dX5_store_65 : decode cX5_store 65 = .ok (.lor, 1) := by decide +kernel
theorem dX5_store_66 : decode cX5_store 66 = .ok (.lastore, 1) := by decide +kernel
theorem dX5_store_67 : decode cX5_store 67 = .ok (.aload_n 0, 1) := by decide +kernel
theorem dX5_store_68 : decode cX5_store 68 = .ok (.getfield 63, 3) := by decide +kernel
theorem dX5_store_71 : decode cX5_store 71 = .ok (.bipush 64, 2) := by decide +kernel
theorem dX5_store_73 : decode cX5_store 73 = .ok (.iload_n 1, 1) := by decide +kernel
theorem dX5_store_74 : decode cX5_store 74 = .ok (.imul, 1) := by decide +kernel
theorem dX5_store_75 : decode cX5_store 75 = .ok (.iload_n 3, 1) := by decide +kernel
theorem dX5_store_76 : decode cX5_store 76 = .ok (.iadd, 1) := by decide +kernel
theorem dX5_store_77 : decode cX5_store 77 = .ok (.aload_n 0, 1) := by decide +kernel
theorem dX5_store_78 : decode cX5_store 78 = .ok (.iload_n 1, 1) := by decide +kernel
theorem dX5_store_79 : decode cX5_store 79 = .ok (.iload_n 2, 1) := by decide +kernel
theorem dX5_store_80 : decode cX5_store 80 = .ok (.invokevirtual 113, 3) := by decide +kernel
theorem dX5_store_83 : decode cX5_store 83 = .ok (.iastore, 1) := by decide +kernel
theorem dX5_store_84 : decode cX5_store 84 = .ok (.iconst 1, 1) := by decide +kernel
theorem dX5_store_85 : decode cX5_store 85 = .ok (.ireturn, 1) := by decide +kernel
set_option maxRecDepth 20000 in
theorem ggX5_begin_X5_breakOff : GoodIn wsX5_begin wsX5_breakOff := goodIn_r _ [12, 13, 14, 4, 3, 7, 6, 15, 5, 16, 17, 18, 19, 11, 20, 1, 21, 22, 23, 24, 25, 26, 27, 28, 29, 30, 31, 32, 33, 34, 35, 36, 37, 38, 39, 40, 41, 42, 43, 44, 45, 46, 47, 48, 49, 50, 51, 52] (by decide +kernel) (by decide +kernel)
set_option maxRecDepth 20000 in
theorem gX5_begin_X5_breakOff : GoodIn wsX5_begin (wsV RX5 128 RX5 yX5_breakOff wsX5_breakOff) := goodIn_app (goodIn_of _ (by decide +kernel)) ggX5_begin_X5_breakOff
theorem dX5_begin_0 : decode cX5_begin 0 = .ok (.aload_n 0, 1) := by decide +kernel
theorem dX5_begin_1 : decode cX5_begin 1 = .ok (.getfield 38, 3) := by decide +kernel
theorem dX5_begin_4 : decode cX5_begin 4 = .ok (.iload_n 1, 1) := by decide +kernel
theorem dX5_begin_5 : decode cX5_begin 5 = .ok (.iaload, 1) := by decide +kernel
theorem dX5_begin_6 : decode cX5_begin 6 = .ok (.bipush 8, 2) := by decide +kernel
theorem dX5_begin_8 : decode cX5_begin 8 = .ok (.if_icmp .ne 11, 3) := by decide +kernel
theorem dX5_begin_11 : decode cX5_begin 11 = .ok (.aload_n 0, 1) := by decide +kernel
theorem dX5_begin_12 : decode cX5_begin 12 = .ok (.iload_n 1, 1) := by decide +kernel
theorem dX5_begin_13 : decode cX5_begin 13 = .ok (.iconst 2, 1) := by decide +kernel
theorem dX5_begin_14 : decode cX5_begin 14 = .ok (.invokevirtual 128, 3) := by decide +kernel
theorem dX5_begin_17 : decode cX5_begin 17 = .ok (.iconst 0, 1) := by decide +kernel
theorem dX5_begin_18 : decode cX5_begin 18 = .ok (.ireturn, 1) := by decide +kernel
theorem dX5_begin_19 : decode cX5_begin 19 = .ok (.aload_n 0, 1) := by decide +kernel
theorem dX5_begin_20 : decode cX5_begin 20 = .ok (.getfield 38, 3) := by decide +kernel
theorem dX5_begin_23 : decode cX5_begin 23 = .ok (.iload_n 1, 1) := by decide +kernel
theorem dX5_begin_24 : decode cX5_begin 24 = .ok (.iaload, 1) := by decide +kernel
theorem dX5_begin_25 : decode cX5_begin 25 = .ok (.ifCond .ne 77, 3) := by decide +kernel
theorem dX5_begin_28 : decode cX5_begin 28 = .ok (.aload_n 0, 1) := by decide +kernel
theorem dX5_begin_29 : decode cX5_begin 29 = .ok (.dup, 1) := by decide +kernel
theorem dX5_begin_30 : decode cX5_begin 30 = .ok (.getfield 148, 3) := by decide +kernel
theorem dX5_begin_33 : decode cX5_begin 33 = .ok (.iconst 1, 1) := by decide +kernel
theorem dX5_begin_34 : decode cX5_begin 34 = .ok (.iadd, 1) := by decide +kernel
theorem dX5_begin_35 : decode cX5_begin 35 = .ok (.putfield 148, 3) := by decide +kernel
theorem dX5_begin_38 : decode cX5_begin 38 = .ok (.aload_n 0, 1) := by decide +kernel
theorem dX5_begin_39 : decode cX5_begin 39 = .ok (.getfield 41, 3) := by decide +kernel
theorem dX5_begin_42 : decode cX5_begin 42 = .ok (.iload_n 1, 1) := by decide +kernel
theorem dX5_begin_43 : decode cX5_begin 43 = .ok (.aload_n 0, 1) := by decide +kernel
theorem dX5_begin_44 : decode cX5_begin 44 = .ok (.getfield 148, 3) := by decide +kernel
theorem dX5_begin_47 : decode cX5_begin 47 = .ok (.iastore, 1) := by decide +kernel
theorem dX5_begin_48 : decode cX5_begin 48 = .ok (.aload_n 0, 1) := by decide +kernel
theorem dX5_begin_49 : decode cX5_begin 49 = .ok (.getfield 44, 3) := by decide +kernel
theorem dX5_begin_52 : decode cX5_begin 52 = .ok (.iload_n 1, 1) := by decide +kernel
theorem dX5_begin_53 : decode cX5_begin 53 = .ok (.iload_n 2, 1) := by decide +kernel
theorem dX5_begin_54 : decode cX5_begin 54 = .ok (.iastore, 1) := by decide +kernel
theorem dX5_begin_55 : decode cX5_begin 55 = .ok (.aload_n 0, 1) := by decide +kernel
theorem dX5_begin_56 : decode cX5_begin 56 = .ok (.getfield 47, 3) := by decide +kernel
theorem dX5_begin_59 : decode cX5_begin 59 = .ok (.iload_n 1, 1) := by decide +kernel
theorem dX5_begin_60 : decode cX5_begin 60 = .ok (.iload_n 3, 1) := by decide +kernel
theorem dX5_begin_61 : decode cX5_begin 61 = .ok (.iastore, 1) := by decide +kernel
theorem dX5_begin_62 : decode cX5_begin 62 = .ok (.iconst 0, 1) := by decide +kernel
theorem dX5_begin_63 : decode cX5_begin 63 = .ok (.istore 4, 2) := by decide +kernel
theorem dX5_begin_65 : decode cX5_begin 65 = .ok (.iload 4, 2) := by decide +kernel
theorem dX5_begin_67 : decode cX5_begin 67 = .ok (.bipush 8, 2) := by decide +kernel
theorem dX5_begin_69 : decode cX5_begin 69 = .ok (.if_icmp .ge 33, 3) := by decide +kernel
theorem dX5_begin_72 : decode cX5_begin 72 = .ok (.aload_n 0, 1) := by decide +kernel
theorem dX5_begin_73 : decode cX5_begin 73 = .ok (.getfield 50, 3) := by decide +kernel
theorem dX5_begin_76 : decode cX5_begin 76 = .ok (.bipush 8, 2) := by decide +kernel
theorem dX5_begin_78 : decode cX5_begin 78 = .ok (.iload_n 1, 1) := by decide +kernel
theorem dX5_begin_79 : decode cX5_begin 79 = .ok (.imul, 1) := by decide +kernel
theorem dX5_begin_80 : decode cX5_begin 80 = .ok (.iload 4, 2) := by decide +kernel
theorem dX5_begin_82 : decode cX5_begin 82 = .ok (.iadd, 1) := by decide +kernel
theorem dX5_begin_83 : decode cX5_begin 83 = .ok (.aload_n 0, 1) := by decide +kernel
theorem dX5_begin_84 : decode cX5_begin 84 = .ok (.getfield 35, 3) := by decide +kernel
theorem dX5_begin_87 : decode cX5_begin 87 = .ok (.bipush 8, 2) := by decide +kernel
theorem dX5_begin_89 : decode cX5_begin 89 = .ok (.iload_n 1, 1) := by decide +kernel
theorem dX5_begin_90 : decode cX5_begin 90 = .ok (.imul, 1) := by decide +kernel
theorem dX5_begin_91 : decode cX5_begin 91 = .ok (.iload 4, 2) := by decide +kernel
theorem dX5_begin_93 : decode cX5_begin 93 = .ok (.iadd, 1) := by decide +kernel
theorem dX5_begin_94 : decode cX5_begin 94 = .ok (.iaload, 1) := by decide +kernel
theorem dX5_begin_95 : decode cX5_begin 95 = .ok (.iastore, 1) := by decide +kernel
theorem dX5_begin_96 : decode cX5_begin 96 = .ok (.iinc 4 1, 3) := by decide +kernel
theorem dX5_begin_99 : decode cX5_begin 99 = .ok (.goto (-34), 3) := by decide +kernel
theorem dX5_begin_102 : decode cX5_begin 102 = .ok (.aload_n 0, 1) := by decide +kernel
theorem dX5_begin_103 : decode cX5_begin 103 = .ok (.getfield 38, 3) := by decide +kernel
theorem dX5_begin_106 : decode cX5_begin 106 = .ok (.iload_n 1, 1) := by decide +kernel
theorem dX5_begin_107 : decode cX5_begin 107 = .ok (.dup2, 1) := by decide +kernel
theorem dX5_begin_108 : decode cX5_begin 108 = .ok (.iaload, 1) := by decide +kernel
theorem dX5_begin_109 : decode cX5_begin 109 = .ok (.iconst 1, 1) := by decide +kernel
theorem dX5_begin_110 : decode cX5_begin 110 = .ok (.iadd, 1) := by decide +kernel
theorem dX5_begin_111 : decode cX5_begin 111 = .ok (.iastore, 1) := by decide +kernel
theorem dX5_begin_112 : decode cX5_begin 112 = .ok (.iconst 1, 1) := by decide +kernel
theorem dX5_begin_113 : decode cX5_begin 113 = .ok (.ireturn, 1) := by decide +kernel
set_option maxRecDepth 20000 in
theorem ggX5_end_X5_commit : GoodIn wsX5_end wsX5_commit := goodIn_r _ [6, 7, 8, 9, 10, 11, 5, 12, 13, 14, 15, 16, 17, 18, 1, 19, 20, 21, 22, 23, 24, 25, 26, 27, 28, 29, 30, 31, 32, 33, 34, 35, 36, 37, 38, 39, 40, 41, 42, 43, 44, 45, 46, 47, 48, 49, 50] (by decide +kernel) (by decide +kernel)
set_option maxRecDepth 20000 in
theorem gX5_end_X5_commit : GoodIn wsX5_end (wsV RX5 151 RX5 yX5_commit wsX5_commit) := goodIn_app (goodIn_of _ (by decide +kernel)) ggX5_end_X5_commit
theorem dX5_end_0 : decode cX5_end 0 = .ok (.aload_n 0, 1) := by decide +kernel
theorem dX5_end_1 : decode cX5_end 1 = .ok (.getfield 38, 3) := by decide +kernel
theorem dX5_end_4 : decode cX5_end 4 = .ok (.iload_n 1, 1) := by decide +kernel
theorem dX5_end_5 : decode cX5_end 5 = .ok (.iaload, 1) := by decide +kernel
theorem dX5_end_6 : decode cX5_end 6 = .ok (.iconst 1, 1) := by decide +kernel
theorem dX5_end_7 : decode cX5_end 7 = .ok (.if_icmp .ne 11, 3) := by decide +kernel
theorem dX5_end_10 : decode cX5_end 10 = .ok (.aload_n 0, 1) := by decide +kernel
theorem dX5_end_11 : decode cX5_end 11 = .ok (.iload_n 1, 1) := by decide +kernel
theorem dX5_end_12 : decode cX5_end 12 = .ok (.invokevirtual 151, 3) := by decide +kernel
theorem dX5_end_15 : decode cX5_end 15 = .ok (.goto 23, 3) := by decide +kernel
theorem dX5_end_18 : decode cX5_end 18 = .ok (.aload_n 0, 1) := by decide +kernel
theorem dX5_end_19 : decode cX5_end 19 = .ok (.getfield 38, 3) := by decide +kernel
theorem dX5_end_22 : decode cX5_end 22 = .ok (.iload_n 1, 1) := by decide +kernel
theorem dX5_end_23 : decode cX5_end 23 = .ok (.iaload, 1) := by decide +kernel
theorem dX5_end_24 : decode cX5_end 24 = .ok (.iconst 1, 1) := by decide +kernel
theorem dX5_end_25 : decode cX5_end 25 = .ok (.if_icmp .le 13, 3) := by decide +kernel
theorem dX5_end_28 : decode cX5_end 28 = .ok (.aload_n 0, 1) := by decide +kernel
theorem dX5_end_29 : decode cX5_end 29 = .ok (.getfield 38, 3) := by decide +kernel
theorem dX5_end_32 : decode cX5_end 32 = .ok (.iload_n 1, 1) := by decide +kernel
theorem dX5_end_33 : decode cX5_end 33 = .ok (.dup2, 1) := by decide +kernel
theorem dX5_end_34 : decode cX5_end 34 = .ok (.iaload, 1) := by decide +kernel
theorem dX5_end_35 : decode cX5_end 35 = .ok (.iconst 1, 1) := by decide +kernel
theorem dX5_end_36 : decode cX5_end 36 = .ok (.isub, 1) := by decide +kernel
theorem dX5_end_37 : decode cX5_end 37 = .ok (.iastore, 1) := by decide +kernel
theorem dX5_end_38 : decode cX5_end 38 = .ok (.return_, 1) := by decide +kernel
set_option maxRecDepth 20000 in
theorem ggX5_abort_X5_breakOff : GoodIn wsX5_abort wsX5_breakOff := goodIn_r _ [6, 7, 8, 9, 10, 11, 12, 13, 14, 15, 16, 17, 18, 5, 19, 1, 20, 21, 22, 23, 24, 25, 26, 27, 28, 29, 30, 31, 32, 33, 34, 35, 36, 37, 38, 39, 40, 41, 42, 43, 44, 45, 46, 47, 48, 49, 50, 51] (by decide +kernel) (by decide +kernel)
set_option maxRecDepth 20000 in
theorem gX5_abort_X5_breakOff : GoodIn wsX5_abort (wsV RX5 128 RX5 yX5_breakOff wsX5_breakOff) := goodIn_app (goodIn_of _ (by decide +kernel)) ggX5_abort_X5_breakOff
theorem dX5_abort_0 : decode cX5_abort 0 = .ok (.aload_n 0, 1) := by decide +kernel
theorem dX5_abort_1 : decode cX5_abort 1 = .ok (.getfield 38, 3) := by decide +kernel
theorem dX5_abort_4 : decode cX5_abort 4 = .ok (.iload_n 1, 1) := by decide +kernel
theorem dX5_abort_5 : decode cX5_abort 5 = .ok (.iaload, 1) := by decide +kernel
theorem dX5_abort_6 : decode cX5_abort 6 = .ok (.ifCond .ne 5, 3) := by decide +kernel
theorem dX5_abort_9 : decode cX5_abort 9 = .ok (.iconst 1, 1) := by decide +kernel
theorem dX5_abort_10 : decode cX5_abort 10 = .ok (.ireturn, 1) := by decide +kernel
theorem dX5_abort_11 : decode cX5_abort 11 = .ok (.aload_n 0, 1) := by decide +kernel
theorem dX5_abort_12 : decode cX5_abort 12 = .ok (.iload_n 1, 1) := by decide +kernel
theorem dX5_abort_13 : decode cX5_abort 13 = .ok (.iload_n 2, 1) := by decide +kernel
theorem dX5_abort_14 : decode cX5_abort 14 = .ok (.invokevirtual 128, 3) := by decide +kernel
theorem dX5_abort_17 : decode cX5_abort 17 = .ok (.iconst 0, 1) := by decide +kernel
theorem dX5_abort_18 : decode cX5_abort 18 = .ok (.ireturn, 1) := by decide +kernel
set_option maxRecDepth 20000 in
theorem ggX5_does_X5_give : GoodIn wsX5_does wsX5_give := goodIn_r _ [12, 13, 95, 96, 97, 98, 99, 100, 101, 102, 103, 104, 105, 106, 107, 108, 109, 110, 111, 112, 113, 114, 115, 116, 117, 118, 119, 120, 121, 122, 123] (by decide +kernel) (by decide +kernel)
set_option maxRecDepth 20000 in
theorem gX5_does_X5_give : GoodIn wsX5_does (wsV RX5 117 RX5 yX5_give wsX5_give) := goodIn_app (goodIn_of _ (by decide +kernel)) ggX5_does_X5_give
set_option maxRecDepth 20000 in
theorem ggX5_does_X5_get : GoodIn wsX5_does wsX5_get := goodIn_r _ [17, 13, 95, 96, 97, 98, 99, 100, 101, 102, 103, 104, 105, 106, 107, 108, 109, 110, 111, 112, 113, 114, 115, 116, 117, 118, 119, 120, 121, 122, 123] (by decide +kernel) (by decide +kernel)
set_option maxRecDepth 20000 in
theorem gX5_does_X5_get : GoodIn wsX5_does (wsV RX5 113 RX5 yX5_get wsX5_get) := goodIn_app (goodIn_of _ (by decide +kernel)) ggX5_does_X5_get
set_option maxRecDepth 20000 in
theorem ggX5_does_X5_load : GoodIn wsX5_does wsX5_load := goodIn_r _ [21, 22, 23, 11, 24, 25, 26, 27, 28, 7, 6, 29, 30, 31, 32, 33, 34, 35, 36, 13, 37, 38, 39, 40, 41, 42, 43, 44, 45, 46, 47, 48, 49, 50, 51, 52, 53, 54, 55, 56, 57, 58, 59, 60, 61, 62, 63, 64, 65, 66, 67, 68, 69, 70, 71, 72, 8, 9, 10, 12, 95, 96, 97, 98, 99, 100, 101, 102, 103, 104, 105, 106, 107, 108, 109, 110, 111, 112, 113, 114, 115, 116, 117, 118, 119, 120, 121, 122, 123] (by decide +kernel) (by decide +kernel)
set_option maxRecDepth 20000 in
theorem gX5_does_X5_load : GoodIn wsX5_does (wsV RX5 154 RX5 yX5_load wsX5_load) := goodIn_app (goodIn_of _ (by decide +kernel)) ggX5_does_X5_load
set_option maxRecDepth 20000 in
theorem ggX5_does_X5_store : GoodIn wsX5_does wsX5_store := goodIn_r _ [76, 7, 72, 47, 71, 22, 23, 11, 24, 25, 26, 27, 28, 6, 29, 30, 31, 32, 33, 34, 35, 36, 13, 37, 38, 39, 40, 41, 42, 43, 44, 45, 46, 48, 49, 50, 51, 52, 53, 54, 55, 56, 57, 58, 59, 60, 61, 62, 63, 64, 65, 66, 14, 15, 16, 17, 95, 96, 97, 98, 99, 100, 101, 102, 103, 104, 105, 106, 107, 108, 109, 110, 111, 112, 113, 114, 115, 116, 117, 118, 119, 120, 121, 122, 123] (by decide +kernel) (by decide +kernel)
set_option maxRecDepth 20000 in
theorem gX5_does_X5_store : GoodIn wsX5_does (wsV RX5 158 RX5 yX5_store wsX5_store) := goodIn_app (goodIn_of _ (by decide +kernel)) ggX5_does_X5_store
set_option maxRecDepth 20000 in
theorem ggX5_does_X5_begin : GoodIn wsX5_does wsX5_begin := goodIn_r _ [80, 7, 81, 36, 35, 39, 37, 13, 29, 30, 31, 11, 32, 33, 34, 38, 40, 41, 42, 43, 44, 45, 46, 47, 95, 96, 97, 98, 99, 100, 101, 102, 103, 104, 105, 106, 107, 108, 109, 110, 111, 112, 113, 114, 115, 116, 117, 118, 119, 120, 121, 122, 123] (by decide +kernel) (by decide +kernel)
set_option maxRecDepth 20000 in
theorem gX5_does_X5_begin : GoodIn wsX5_does (wsV RX5 164 RX5 yX5_begin wsX5_begin) := goodIn_app (goodIn_of _ (by decide +kernel)) ggX5_does_X5_begin
set_option maxRecDepth 20000 in
theorem ggX5_does_X5_end : GoodIn wsX5_does wsX5_end := goodIn_r _ [85, 7, 86, 87, 88, 11, 89, 72, 90, 67, 68, 69, 70, 47, 71, 41, 42, 43, 44, 36, 45, 46, 95, 96, 97, 98, 99, 100, 101, 102, 103, 104, 105, 106, 107, 108, 109, 110, 111, 112, 113, 114, 115, 116, 117, 118, 119, 120, 121, 122, 123] (by decide +kernel) (by decide +kernel)
set_option maxRecDepth 20000 in
theorem gX5_does_X5_end : GoodIn wsX5_does (wsV RX5 167 RX5 yX5_end wsX5_end) := goodIn_app (goodIn_of _ (by decide +kernel)) ggX5_does_X5_end
set_option maxRecDepth 20000 in
theorem ggX5_does_X5_abort : GoodIn wsX5_does wsX5_abort := goodIn_r _ [94, 7, 29, 30, 31, 11, 32, 33, 34, 35, 36, 13, 37, 38, 39, 40, 41, 42, 43, 44, 45, 46, 47, 95, 96, 97, 98, 99, 100, 101, 102, 103, 104, 105, 106, 107, 108, 109, 110, 111, 112, 113, 114, 115, 116, 117, 118, 119, 120, 121, 122, 123] (by decide +kernel) (by decide +kernel)
set_option maxRecDepth 20000 in
theorem gX5_does_X5_abort : GoodIn wsX5_does (wsV RX5 170 RX5 yX5_abort wsX5_abort) := goodIn_app (goodIn_of _ (by decide +kernel)) ggX5_does_X5_abort
theorem dX5_does_0 : decode cX5_does 0 = .ok (.aload_n 0, 1) := by decide +kernel
theorem dX5_does_1 : decode cX5_does 1 = .ok (.getfield 16, 3) := by decide +kernel
theorem dX5_does_4 : decode cX5_does 4 = .ok (.iload_n 2, 1) := by decide +kernel
theorem dX5_does_5 : decode cX5_does 5 = .ok (.iaload, 1) := by decide +kernel
theorem dX5_does_6 : decode cX5_does 6 = .ok (.istore_n 3, 1) := by decide +kernel
theorem dX5_does_7 : decode cX5_does 7 = .ok (.aload_n 0, 1) := by decide +kernel
theorem dX5_does_8 : decode cX5_does 8 = .ok (.getfield 19, 3) := by decide +kernel
theorem dX5_does_11 : decode cX5_does 11 = .ok (.iload_n 2, 1) := by decide +kernel
theorem dX5_does_12 : decode cX5_does 12 = .ok (.iaload, 1) := by decide +kernel
theorem dX5_does_13 : decode cX5_does 13 = .ok (.istore 4, 2) := by decide +kernel
theorem dX5_does_15 : decode cX5_does 15 = .ok (.aload_n 0, 1) := by decide +kernel
theorem dX5_does_16 : decode cX5_does 16 = .ok (.getfield 22, 3) := by decide +kernel
theorem dX5_does_19 : decode cX5_does 19 = .ok (.iload_n 2, 1) := by decide +kernel
theorem dX5_does_20 : decode cX5_does 20 = .ok (.iaload, 1) := by decide +kernel
theorem dX5_does_21 : decode cX5_does 21 = .ok (.istore 5, 2) := by decide +kernel
theorem dX5_does_23 : decode cX5_does 23 = .ok (.aload_n 0, 1) := by decide +kernel
theorem dX5_does_24 : decode cX5_does 24 = .ok (.getfield 13, 3) := by decide +kernel
theorem dX5_does_27 : decode cX5_does 27 = .ok (.iload_n 2, 1) := by decide +kernel
theorem dX5_does_28 : decode cX5_does 28 = .ok (.iaload, 1) := by decide +kernel
theorem dX5_does_29 : decode cX5_does 29 = .ok (.tableswitch 331 0 13 #[71, 81, 104, 127, 150, 168, 185, 202, 233, 264, 272, 281, 288, 304], 71) := by decide +kernel
theorem dX5_does_100 : decode cX5_does 100 = .ok (.aload_n 0, 1) := by decide +kernel
theorem dX5_does_101 : decode cX5_does 101 = .ok (.iload_n 1, 1) := by decide +kernel
theorem dX5_does_102 : decode cX5_does 102 = .ok (.iload_n 3, 1) := by decide +kernel
theorem dX5_does_103 : decode cX5_does 103 = .ok (.iload 5, 2) := by decide +kernel
theorem dX5_does_105 : decode cX5_does 105 = .ok (.invokevirtual 117, 3) := by decide +kernel
theorem dX5_does_108 : decode cX5_does 108 = .ok (.iconst 1, 1) := by decide +kernel
theorem dX5_does_109 : decode cX5_does 109 = .ok (.ireturn, 1) := by decide +kernel
theorem dX5_does_110 : decode cX5_does 110 = .ok (.aload_n 0, 1) := by decide +kernel
theorem dX5_does_111 : decode cX5_does 111 = .ok (.iload_n 1, 1) := by decide +kernel
theorem dX5_does_112 : decode cX5_does 112 = .ok (.iload_n 3, 1) := by decide +kernel
theorem dX5_does_113 : decode cX5_does 113 = .ok (.aload_n 0, 1) := by decide +kernel
theorem dX5_does_114 : decode cX5_does 114 = .ok (.iload_n 1, 1) := by decide +kernel
theorem dX5_does_115 : decode cX5_does 115 = .ok (.iload 4, 2) := by decide +kernel
theorem dX5_does_117 : decode cX5_does 117 = .ok (.invokevirtual 113, 3) := by decide +kernel
theorem dX5_does_120 : decode cX5_does 120 = .ok (.aload_n 0, 1) := by decide +kernel
theorem dX5_does_121 : decode cX5_does 121 = .ok (.iload_n 1, 1) := by decide +kernel
theorem dX5_does_122 : decode cX5_does 122 = .ok (.iload 5, 2) := by decide +kernel
theorem dX5_does_124 : decode cX5_does 124 = .ok (.invokevirtual 113, 3) := by decide +kernel
theorem dX5_does_127 : decode cX5_does 127 = .ok (.iadd, 1) := by decide +kernel
theorem dX5_does_128 : decode cX5_does 128 = .ok (.invokevirtual 117, 3) := by decide +kernel
theorem dX5_does_131 : decode cX5_does 131 = .ok (.iconst 1, 1) := by decide +kernel
theorem dX5_does_132 : decode cX5_does 132 = .ok (.ireturn, 1) := by decide +kernel
theorem dX5_does_133 : decode cX5_does 133 = .ok (.aload_n 0, 1) := by decide +kernel
theorem dX5_does_134 : decode cX5_does 134 = .ok (.iload_n 1, 1) := by decide +kernel
theorem dX5_does_135 : decode cX5_does 135 = .ok (.iload_n 3, 1) := by decide +kernel
theorem dX5_does_136 : decode cX5_does 136 = .ok (.aload_n 0, 1) := by decide +kernel
theorem dX5_does_137 : decode cX5_does 137 = .ok (.iload_n 1, 1) := by decide +kernel
theorem dX5_does_138 : decode cX5_does 138 = .ok (.iload 4, 2) := by decide +kernel
theorem dX5_does_140 : decode cX5_does 140 = .ok (.invokevirtual 113, 3) := by decide +kernel
theorem dX5_does_143 : decode cX5_does 143 = .ok (.aload_n 0, 1) := by decide +kernel
theorem dX5_does_144 : decode cX5_does 144 = .ok (.iload_n 1, 1) := by decide +kernel
theorem dX5_does_145 : decode cX5_does 145 = .ok (.iload 5, 2) := by decide +kernel
theorem dX5_does_147 : decode cX5_does 147 = .ok (.invokevirtual 113, 3) := by decide +kernel
theorem dX5_does_150 : decode cX5_does 150 = .ok (.isub, 1) := by decide +kernel
theorem dX5_does_151 : decode cX5_does 151 = .ok (.invokevirtual 117, 3) := by decide +kernel
theorem dX5_does_154 : decode cX5_does 154 = .ok (.iconst 1, 1) := by decide +kernel
theorem dX5_does_155 : decode cX5_does 155 = .ok (.ireturn, 1) := by decide +kernel
theorem dX5_does_156 : decode cX5_does 156 = .ok (.aload_n 0, 1) := by decide +kernel
theorem dX5_does_157 : decode cX5_does 157 = .ok (.iload_n 1, 1) := by decide +kernel
theorem dX5_does_158 : decode cX5_does 158 = .ok (.iload_n 3, 1) := by decide +kernel
theorem dX5_does_159 : decode cX5_does 159 = .ok (.aload_n 0, 1) := by decide +kernel
theorem dX5_does_160 : decode cX5_does 160 = .ok (.iload_n 1, 1) := by decide +kernel
theorem dX5_does_161 : decode cX5_does 161 = .ok (.iload 4, 2) := by decide +kernel
theorem dX5_does_163 : decode cX5_does 163 = .ok (.invokevirtual 113, 3) := by decide +kernel
theorem dX5_does_166 : decode cX5_does 166 = .ok (.aload_n 0, 1) := by decide +kernel
theorem dX5_does_167 : decode cX5_does 167 = .ok (.iload_n 1, 1) := by decide +kernel
theorem dX5_does_168 : decode cX5_does 168 = .ok (.iload 5, 2) := by decide +kernel
theorem dX5_does_170 : decode cX5_does 170 = .ok (.invokevirtual 113, 3) := by decide +kernel
theorem dX5_does_173 : decode cX5_does 173 = .ok (.imul, 1) := by decide +kernel
theorem dX5_does_174 : decode cX5_does 174 = .ok (.invokevirtual 117, 3) := by decide +kernel
theorem dX5_does_177 : decode cX5_does 177 = .ok (.iconst 1, 1) := by decide +kernel
theorem dX5_does_178 : decode cX5_does 178 = .ok (.ireturn, 1) := by decide +kernel
theorem dX5_does_179 : decode cX5_does 179 = .ok (.aload_n 0, 1) := by decide +kernel
theorem dX5_does_180 : decode cX5_does 180 = .ok (.iload_n 1, 1) := by decide +kernel
theorem dX5_does_181 : decode cX5_does 181 = .ok (.iload_n 3, 1) := by decide +kernel
theorem dX5_does_182 : decode cX5_does 182 = .ok (.aload_n 0, 1) := by decide +kernel
theorem dX5_does_183 : decode cX5_does 183 = .ok (.iload_n 1, 1) := by decide +kernel
theorem dX5_does_184 : decode cX5_does 184 = .ok (.iload 4, 2) := by decide +kernel
theorem dX5_does_186 : decode cX5_does 186 = .ok (.invokevirtual 113, 3) := by decide +kernel
theorem dX5_does_189 : decode cX5_does 189 = .ok (.iload 5, 2) := by decide +kernel
theorem dX5_does_191 : decode cX5_does 191 = .ok (.iadd, 1) := by decide +kernel
theorem dX5_does_192 : decode cX5_does 192 = .ok (.invokevirtual 117, 3) := by decide +kernel
theorem dX5_does_195 : decode cX5_does 195 = .ok (.iconst 1, 1) := by decide +kernel
theorem dX5_does_196 : decode cX5_does 196 = .ok (.ireturn, 1) := by decide +kernel
theorem dX5_does_197 : decode cX5_does 197 = .ok (.aload_n 0, 1) := by decide +kernel
theorem dX5_does_198 : decode cX5_does 198 = .ok (.iload_n 1, 1) := by decide +kernel
theorem dX5_does_199 : decode cX5_does 199 = .ok (.iload_n 3, 1) := by decide +kernel
theorem dX5_does_200 : decode cX5_does 200 = .ok (.aload_n 0, 1) := by decide +kernel
theorem dX5_does_201 : decode cX5_does 201 = .ok (.iload_n 1, 1) := by decide +kernel
theorem dX5_does_202 : decode cX5_does 202 = .ok (.iload 4, 2) := by decide +kernel
theorem dX5_does_204 : decode cX5_does 204 = .ok (.invokevirtual 113, 3) := by decide +kernel
theorem dX5_does_207 : decode cX5_does 207 = .ok (.iload 5, 2) := by decide +kernel
theorem dX5_does_209 : decode cX5_does 209 = .ok (.iadd, 1) := by decide +kernel
theorem dX5_does_210 : decode cX5_does 210 = .ok (.invokevirtual 154, 3) := by decide +kernel
theorem dX5_does_213 : decode cX5_does 213 = .ok (.ireturn, 1) := by decide +kernel
theorem dX5_does_214 : decode cX5_does 214 = .ok (.aload_n 0, 1) := by decide +kernel
theorem dX5_does_215 : decode cX5_does 215 = .ok (.iload_n 1, 1) := by decide +kernel
theorem dX5_does_216 : decode cX5_does 216 = .ok (.iload_n 3, 1) := by decide +kernel
theorem dX5_does_217 : decode cX5_does 217 = .ok (.aload_n 0, 1) := by decide +kernel
theorem dX5_does_218 : decode cX5_does 218 = .ok (.iload_n 1, 1) := by decide +kernel
theorem dX5_does_219 : decode cX5_does 219 = .ok (.iload 4, 2) := by decide +kernel
theorem dX5_does_221 : decode cX5_does 221 = .ok (.invokevirtual 113, 3) := by decide +kernel
theorem dX5_does_224 : decode cX5_does 224 = .ok (.iload 5, 2) := by decide +kernel
theorem dX5_does_226 : decode cX5_does 226 = .ok (.iadd, 1) := by decide +kernel
theorem dX5_does_227 : decode cX5_does 227 = .ok (.invokevirtual 158, 3) := by decide +kernel
theorem dX5_does_230 : decode cX5_does 230 = .ok (.ireturn, 1) := by decide +kernel
theorem dX5_does_231 : decode cX5_does 231 = .ok (.aload_n 0, 1) := by decide +kernel
theorem dX5_does_232 : decode cX5_does 232 = .ok (.aload_n 0, 1) := by decide +kernel
theorem dX5_does_233 : decode cX5_does 233 = .ok (.iload_n 1, 1) := by decide +kernel
theorem dX5_does_234 : decode cX5_does 234 = .ok (.iload_n 3, 1) := by decide +kernel
theorem dX5_does_235 : decode cX5_does 235 = .ok (.invokevirtual 113, 3) := by decide +kernel
theorem dX5_does_238 : decode cX5_does 238 = .ok (.aload_n 0, 1) := by decide +kernel
theorem dX5_does_239 : decode cX5_does 239 = .ok (.iload_n 1, 1) := by decide +kernel
theorem dX5_does_240 : decode cX5_does 240 = .ok (.iload 4, 2) := by decide +kernel
theorem dX5_does_242 : decode cX5_does 242 = .ok (.invokevirtual 113, 3) := by decide +kernel
theorem dX5_does_245 : decode cX5_does 245 = .ok (.if_icmp .ge 8, 3) := by decide +kernel
theorem dX5_does_248 : decode cX5_does 248 = .ok (.iload 5, 2) := by decide +kernel
theorem dX5_does_250 : decode cX5_does 250 = .ok (.goto 7, 3) := by decide +kernel
theorem dX5_does_253 : decode cX5_does 253 = .ok (.aload_n 0, 1) := by decide +kernel
theorem dX5_does_254 : decode cX5_does 254 = .ok (.getfield 161, 3) := by decide +kernel
theorem dX5_does_257 : decode cX5_does 257 = .ok (.putfield 161, 3) := by decide +kernel
theorem dX5_does_260 : decode cX5_does 260 = .ok (.iconst 1, 1) := by decide +kernel
theorem dX5_does_261 : decode cX5_does 261 = .ok (.ireturn, 1) := by decide +kernel
theorem dX5_does_262 : decode cX5_does 262 = .ok (.aload_n 0, 1) := by decide +kernel
theorem dX5_does_263 : decode cX5_does 263 = .ok (.aload_n 0, 1) := by decide +kernel
theorem dX5_does_264 : decode cX5_does 264 = .ok (.iload_n 1, 1) := by decide +kernel
theorem dX5_does_265 : decode cX5_does 265 = .ok (.iload_n 3, 1) := by decide +kernel
theorem dX5_does_266 : decode cX5_does 266 = .ok (.invokevirtual 113, 3) := by decide +kernel
theorem dX5_does_269 : decode cX5_does 269 = .ok (.aload_n 0, 1) := by decide +kernel
theorem dX5_does_270 : decode cX5_does 270 = .ok (.iload_n 1, 1) := by decide +kernel
theorem dX5_does_271 : decode cX5_does 271 = .ok (.iload 4, 2) := by decide +kernel
theorem dX5_does_273 : decode cX5_does 273 = .ok (.invokevirtual 113, 3) := by decide +kernel
theorem dX5_does_276 : decode cX5_does 276 = .ok (.if_icmp .eq 8, 3) := by decide +kernel
theorem dX5_does_279 : decode cX5_does 279 = .ok (.iload 5, 2) := by decide +kernel
theorem dX5_does_281 : decode cX5_does 281 = .ok (.goto 7, 3) := by decide +kernel
theorem dX5_does_284 : decode cX5_does 284 = .ok (.aload_n 0, 1) := by decide +kernel
theorem dX5_does_285 : decode cX5_does 285 = .ok (.getfield 161, 3) := by decide +kernel
theorem dX5_does_288 : decode cX5_does 288 = .ok (.putfield 161, 3) := by decide +kernel
theorem dX5_does_291 : decode cX5_does 291 = .ok (.iconst 1, 1) := by decide +kernel
theorem dX5_does_292 : decode cX5_does 292 = .ok (.ireturn, 1) := by decide +kernel
theorem dX5_does_293 : decode cX5_does 293 = .ok (.aload_n 0, 1) := by decide +kernel
theorem dX5_does_294 : decode cX5_does 294 = .ok (.iload 5, 2) := by decide +kernel
theorem dX5_does_296 : decode cX5_does 296 = .ok (.putfield 161, 3) := by decide +kernel
theorem dX5_does_299 : decode cX5_does 299 = .ok (.iconst 1, 1) := by decide +kernel
theorem dX5_does_300 : decode cX5_does 300 = .ok (.ireturn, 1) := by decide +kernel
theorem dX5_does_301 : decode cX5_does 301 = .ok (.aload_n 0, 1) := by decide +kernel
theorem dX5_does_302 : decode cX5_does 302 = .ok (.iload_n 1, 1) := by decide +kernel
theorem dX5_does_303 : decode cX5_does 303 = .ok (.iload_n 2, 1) := by decide +kernel
theorem dX5_does_304 : decode cX5_does 304 = .ok (.iload 5, 2) := by decide +kernel
theorem dX5_does_306 : decode cX5_does 306 = .ok (.invokevirtual 164, 3) := by decide +kernel
theorem dX5_does_309 : decode cX5_does 309 = .ok (.ireturn, 1) := by decide +kernel
theorem dX5_does_310 : decode cX5_does 310 = .ok (.aload_n 0, 1) := by decide +kernel
theorem dX5_does_311 : decode cX5_does 311 = .ok (.iload_n 1, 1) := by decide +kernel
theorem dX5_does_312 : decode cX5_does 312 = .ok (.invokevirtual 167, 3) := by decide +kernel
theorem dX5_does_315 : decode cX5_does 315 = .ok (.iconst 1, 1) := by decide +kernel
theorem dX5_does_316 : decode cX5_does 316 = .ok (.ireturn, 1) := by decide +kernel
theorem dX5_does_317 : decode cX5_does 317 = .ok (.aload_n 0, 1) := by decide +kernel
