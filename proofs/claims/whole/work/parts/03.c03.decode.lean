set_option maxRecDepth 20000 in
theorem gX4_breakOffAll_X3_touches : GoodIn wsX4_breakOffAll (wsV RX4 220 RX3 yX3_touches wsX3_touches) := goodIn_app (goodIn_of _ (by decide +kernel)) ggX4_breakOffAll_X3_touches
set_option maxRecDepth 20000 in
theorem ggX4_breakOffAll_X4_breakOff : GoodIn wsX4_breakOffAll wsX4_breakOff := goodIn_r _ [14, 2, 15, 16, 17, 18, 19, 20, 21, 22, 23, 24, 25, 26, 27, 28, 29, 30, 31, 32, 33, 34, 35, 36, 37, 38, 39, 40, 41, 42, 43, 44, 6, 45, 46, 47, 8, 9, 48, 56, 57, 58, 59, 60, 61, 62, 63, 49, 50, 51, 52, 53, 54, 55, 64, 65, 66, 67, 68, 69, 70, 71, 72, 73, 74, 75] (by decide +kernel) (by decide +kernel)
set_option maxRecDepth 20000 in
theorem gX4_breakOffAll_X4_breakOff : GoodIn wsX4_breakOffAll (wsV RX4 189 RX4 yX4_breakOff wsX4_breakOff) := goodIn_app (goodIn_of _ (by decide +kernel)) ggX4_breakOffAll_X4_breakOff
theorem dX4_breakOffAll_0 : decode cX4_breakOffAll 0 = .ok (.iconst 0, 1) := by decide +kernel
theorem dX4_breakOffAll_1 : decode cX4_breakOffAll 1 = .ok (.istore 4, 2) := by decide +kernel
theorem dX4_breakOffAll_3 : decode cX4_breakOffAll 3 = .ok (.iload 4, 2) := by decide +kernel
theorem dX4_breakOffAll_5 : decode cX4_breakOffAll 5 = .ok (.aload_n 0, 1) := by decide +kernel
theorem dX4_breakOffAll_6 : decode cX4_breakOffAll 6 = .ok (.getfield 40, 3) := by decide +kernel
theorem dX4_breakOffAll_9 : decode cX4_breakOffAll 9 = .ok (.arraylength, 1) := by decide +kernel
theorem dX4_breakOffAll_10 : decode cX4_breakOffAll 10 = .ok (.if_icmp .ge 45, 3) := by decide +kernel
theorem dX4_breakOffAll_13 : decode cX4_breakOffAll 13 = .ok (.iload 4, 2) := by decide +kernel
theorem dX4_breakOffAll_15 : decode cX4_breakOffAll 15 = .ok (.iload_n 1, 1) := by decide +kernel
theorem dX4_breakOffAll_16 : decode cX4_breakOffAll 16 = .ok (.if_icmp .eq 33, 3) := by decide +kernel
theorem dX4_breakOffAll_19 : decode cX4_breakOffAll 19 = .ok (.aload_n 0, 1) := by decide +kernel
theorem dX4_breakOffAll_20 : decode cX4_breakOffAll 20 = .ok (.getfield 40, 3) := by decide +kernel
theorem dX4_breakOffAll_23 : decode cX4_breakOffAll 23 = .ok (.iload 4, 2) := by decide +kernel
theorem dX4_breakOffAll_25 : decode cX4_breakOffAll 25 = .ok (.aaload, 1) := by decide +kernel
theorem dX4_breakOffAll_26 : decode cX4_breakOffAll 26 = .ok (.getfield 74, 3) := by decide +kernel
theorem dX4_breakOffAll_29 : decode cX4_breakOffAll 29 = .ok (.iload_n 2, 1) := by decide +kernel
theorem dX4_breakOffAll_30 : decode cX4_breakOffAll 30 = .ok (.iload_n 3, 1) := by decide +kernel
theorem dX4_breakOffAll_31 : decode cX4_breakOffAll 31 = .ok (.invokevirtual 220, 3) := by decide +kernel
theorem dX4_breakOffAll_34 : decode cX4_breakOffAll 34 = .ok (.ifCond .eq 15, 3) := by decide +kernel
theorem dX4_breakOffAll_37 : decode cX4_breakOffAll 37 = .ok (.aload_n 0, 1) := by decide +kernel
theorem dX4_breakOffAll_38 : decode cX4_breakOffAll 38 = .ok (.aload_n 0, 1) := by decide +kernel
theorem dX4_breakOffAll_39 : decode cX4_breakOffAll 39 = .ok (.getfield 40, 3) := by decide +kernel
theorem dX4_breakOffAll_42 : decode cX4_breakOffAll 42 = .ok (.iload 4, 2) := by decide +kernel
theorem dX4_breakOffAll_44 : decode cX4_breakOffAll 44 = .ok (.aaload, 1) := by decide +kernel
theorem dX4_breakOffAll_45 : decode cX4_breakOffAll 45 = .ok (.iconst 4, 1) := by decide +kernel
theorem dX4_breakOffAll_46 : decode cX4_breakOffAll 46 = .ok (.invokevirtual 189, 3) := by decide +kernel
theorem dX4_breakOffAll_49 : decode cX4_breakOffAll 49 = .ok (.iinc 4 1, 3) := by decide +kernel
theorem dX4_breakOffAll_52 : decode cX4_breakOffAll 52 = .ok (.goto (-49), 3) := by decide +kernel
theorem dX4_breakOffAll_55 : decode cX4_breakOffAll 55 = .ok (.return_, 1) := by decide +kernel
set_option maxRecDepth 20000 in
theorem ggX4_fault_X4_breakOff : GoodIn wsX4_fault wsX4_breakOff := goodIn_r _ [8, 1, 9, 10, 11, 12, 13, 14, 15, 16, 17, 18, 19, 20, 21, 22, 23, 24, 25, 26, 27, 28, 29, 30, 31, 32, 33, 34, 35, 36, 37, 38, 39, 40, 41, 42, 43, 44, 45, 46, 47, 48, 49, 50, 51, 52, 53, 63, 64, 65, 66, 67, 68, 69, 54, 55, 56, 57, 58, 59, 60, 61, 62, 70, 71, 72] (by decide +kernel) (by decide +kernel)
set_option maxRecDepth 20000 in
theorem gX4_fault_X4_breakOff : GoodIn wsX4_fault (wsV RX4 189 RX4 yX4_breakOff wsX4_breakOff) := goodIn_app (goodIn_of _ (by decide +kernel)) ggX4_fault_X4_breakOff
theorem dX4_fault_0 : decode cX4_fault 0 = .ok (.aload_n 1, 1) := by decide +kernel
theorem dX4_fault_1 : decode cX4_fault 1 = .ok (.getfield 74, 3) := by decide +kernel
theorem dX4_fault_4 : decode cX4_fault 4 = .ok (.getfield 186, 3) := by decide +kernel
theorem dX4_fault_7 : decode cX4_fault 7 = .ok (.ifCond .le 12, 3) := by decide +kernel
theorem dX4_fault_10 : decode cX4_fault 10 = .ok (.aload_n 0, 1) := by decide +kernel
theorem dX4_fault_11 : decode cX4_fault 11 = .ok (.aload_n 1, 1) := by decide +kernel
theorem dX4_fault_12 : decode cX4_fault 12 = .ok (.iconst 1, 1) := by decide +kernel
theorem dX4_fault_13 : decode cX4_fault 13 = .ok (.invokevirtual 189, 3) := by decide +kernel
theorem dX4_fault_16 : decode cX4_fault 16 = .ok (.goto 8, 3) := by decide +kernel
theorem dX4_fault_19 : decode cX4_fault 19 = .ok (.aload_n 1, 1) := by decide +kernel
theorem dX4_fault_20 : decode cX4_fault 20 = .ok (.iconst 1, 1) := by decide +kernel
theorem dX4_fault_21 : decode cX4_fault 21 = .ok (.putfield 83, 3) := by decide +kernel
theorem dX4_fault_24 : decode cX4_fault 24 = .ok (.return_, 1) := by decide +kernel
set_option maxRecDepth 20000 in
theorem ggX4_breaksOff_X4_breakOff : GoodIn wsX4_breaksOff wsX4_breakOff := goodIn_r _ [7, 1, 8, 9, 10, 11, 12, 13, 14, 15, 16, 17, 18, 19, 20, 21, 22, 23, 24, 25, 26, 27, 28, 29, 30, 31, 32, 33, 34, 35, 36, 37, 38, 39, 40, 41, 42, 43, 44, 45, 46, 47, 48, 49, 50, 51, 52, 62, 63, 64, 65, 66, 67, 68, 53, 54, 55, 56, 57, 58, 59, 60, 61, 69, 70, 71] (by decide +kernel) (by decide +kernel)
set_option maxRecDepth 20000 in
theorem gX4_breaksOff_X4_breakOff : GoodIn wsX4_breaksOff (wsV RX4 189 RX4 yX4_breakOff wsX4_breakOff) := goodIn_app (goodIn_of _ (by decide +kernel)) ggX4_breaksOff_X4_breakOff
theorem dX4_breaksOff_0 : decode cX4_breaksOff 0 = .ok (.aload_n 1, 1) := by decide +kernel
theorem dX4_breaksOff_1 : decode cX4_breaksOff 1 = .ok (.getfield 74, 3) := by decide +kernel
theorem dX4_breaksOff_4 : decode cX4_breaksOff 4 = .ok (.getfield 186, 3) := by decide +kernel
theorem dX4_breaksOff_7 : decode cX4_breaksOff 7 = .ok (.ifCond .ne 5, 3) := by decide +kernel
theorem dX4_breaksOff_10 : decode cX4_breaksOff 10 = .ok (.iconst 0, 1) := by decide +kernel
theorem dX4_breaksOff_11 : decode cX4_breaksOff 11 = .ok (.ireturn, 1) := by decide +kernel
theorem dX4_breaksOff_12 : decode cX4_breaksOff 12 = .ok (.aload_n 0, 1) := by decide +kernel
theorem dX4_breaksOff_13 : decode cX4_breaksOff 13 = .ok (.aload_n 1, 1) := by decide +kernel
theorem dX4_breaksOff_14 : decode cX4_breaksOff 14 = .ok (.iload_n 2, 1) := by decide +kernel
theorem dX4_breaksOff_15 : decode cX4_breaksOff 15 = .ok (.invokevirtual 189, 3) := by decide +kernel
theorem dX4_breaksOff_18 : decode cX4_breaksOff 18 = .ok (.iconst 1, 1) := by decide +kernel
theorem dX4_breaksOff_19 : decode cX4_breaksOff 19 = .ok (.ireturn, 1) := by decide +kernel
set_option maxRecDepth 20000 in
theorem ggX4_breakOff_X2_add : GoodIn wsX4_breakOff wsX2_add := goodIn_r _ [19, 20, 21, 22, 63, 64, 65] (by decide +kernel) (by decide +kernel)
set_option maxRecDepth 20000 in
theorem gX4_breakOff_X2_add : GoodIn wsX4_breakOff (wsV RX4 230 RX2 yX2_add wsX2_add) := goodIn_app (goodIn_of _ (by decide +kernel)) ggX4_breakOff_X2_add
set_option maxRecDepth 20000 in
theorem ggX4_breakOff_X0_put : GoodIn wsX4_breakOff wsX0_put := goodIn_r _ [27, 28, 39, 40, 41, 42, 43, 44, 45, 46] (by decide +kernel) (by decide +kernel)
set_option maxRecDepth 20000 in
theorem gX4_breakOff_X0_put : GoodIn wsX4_breakOff (wsV RX4 93 RX0 yX0_put wsX0_put) := goodIn_app (goodIn_of _ (by decide +kernel)) ggX4_breakOff_X0_put
set_option maxRecDepth 20000 in
theorem ggX4_breakOff_X3_close : GoodIn wsX4_breakOff wsX3_close := goodIn_r _ [33, 34, 35, 36, 37, 38, 54, 55, 56, 57, 58, 59, 60, 61, 62] (by decide +kernel) (by decide +kernel)
set_option maxRecDepth 20000 in
theorem gX4_breakOff_X3_close : GoodIn wsX4_breakOff (wsV RX4 78 RX3 yX3_close wsX3_close) := goodIn_app (goodIn_of _ (by decide +kernel)) ggX4_breakOff_X3_close
theorem dX4_breakOff_0 : decode cX4_breakOff 0 = .ok (.aload_n 1, 1) := by decide +kernel
theorem dX4_breakOff_1 : decode cX4_breakOff 1 = .ok (.getfield 74, 3) := by decide +kernel
theorem dX4_breakOff_4 : decode cX4_breakOff 4 = .ok (.astore_n 3, 1) := by decide +kernel
theorem dX4_breakOff_5 : decode cX4_breakOff 5 = .ok (.aload_n 0, 1) := by decide +kernel
theorem dX4_breakOff_6 : decode cX4_breakOff 6 = .ok (.getfield 23, 3) := by decide +kernel
theorem dX4_breakOff_9 : decode cX4_breakOff 9 = .ok (.aload_n 1, 1) := by decide +kernel
theorem dX4_breakOff_10 : decode cX4_breakOff 10 = .ok (.getfield 210, 3) := by decide +kernel
theorem dX4_breakOff_13 : decode cX4_breakOff 13 = .ok (.aload_n 3, 1) := by decide +kernel
theorem dX4_breakOff_14 : decode cX4_breakOff 14 = .ok (.getfield 227, 3) := by decide +kernel
theorem dX4_breakOff_17 : decode cX4_breakOff 17 = .ok (.iload_n 2, 1) := by decide +kernel
theorem dX4_breakOff_18 : decode cX4_breakOff 18 = .ok (.aload_n 3, 1) := by decide +kernel
theorem dX4_breakOff_19 : decode cX4_breakOff 19 = .ok (.getfield 224, 3) := by decide +kernel
theorem dX4_breakOff_22 : decode cX4_breakOff 22 = .ok (.invokevirtual 230, 3) := by decide +kernel
theorem dX4_breakOff_25 : decode cX4_breakOff 25 = .ok (.aload_n 3, 1) := by decide +kernel
theorem dX4_breakOff_26 : decode cX4_breakOff 26 = .ok (.getfield 234, 3) := by decide +kernel
theorem dX4_breakOff_29 : decode cX4_breakOff 29 = .ok (.iconst 0, 1) := by decide +kernel
theorem dX4_breakOff_30 : decode cX4_breakOff 30 = .ok (.aload_n 1, 1) := by decide +kernel
theorem dX4_breakOff_31 : decode cX4_breakOff 31 = .ok (.getfield 90, 3) := by decide +kernel
theorem dX4_breakOff_34 : decode cX4_breakOff 34 = .ok (.iconst 0, 1) := by decide +kernel
theorem dX4_breakOff_35 : decode cX4_breakOff 35 = .ok (.bipush 8, 2) := by decide +kernel
theorem dX4_breakOff_37 : decode cX4_breakOff 37 = .ok (.invokestatic 237, 3) := by decide +kernel
theorem dX4_breakOff_40 : decode cX4_breakOff 40 = .ok (.aload_n 1, 1) := by decide +kernel
theorem dX4_breakOff_41 : decode cX4_breakOff 41 = .ok (.iconst 1, 1) := by decide +kernel
theorem dX4_breakOff_42 : decode cX4_breakOff 42 = .ok (.iload_n 2, 1) := by decide +kernel
theorem dX4_breakOff_43 : decode cX4_breakOff 43 = .ok (.invokevirtual 93, 3) := by decide +kernel
theorem dX4_breakOff_46 : decode cX4_breakOff 46 = .ok (.aload_n 1, 1) := by decide +kernel
theorem dX4_breakOff_47 : decode cX4_breakOff 47 = .ok (.aload_n 3, 1) := by decide +kernel
theorem dX4_breakOff_48 : decode cX4_breakOff 48 = .ok (.getfield 243, 3) := by decide +kernel
theorem dX4_breakOff_51 : decode cX4_breakOff 51 = .ok (.putfield 71, 3) := by decide +kernel
theorem dX4_breakOff_54 : decode cX4_breakOff 54 = .ok (.aload_n 1, 1) := by decide +kernel
theorem dX4_breakOff_55 : decode cX4_breakOff 55 = .ok (.dup, 1) := by decide +kernel
theorem dX4_breakOff_56 : decode cX4_breakOff 56 = .ok (.getfield 246, 3) := by decide +kernel
theorem dX4_breakOff_59 : decode cX4_breakOff 59 = .ok (.iconst 1, 1) := by decide +kernel
theorem dX4_breakOff_60 : decode cX4_breakOff 60 = .ok (.iadd, 1) := by decide +kernel
theorem dX4_breakOff_61 : decode cX4_breakOff 61 = .ok (.putfield 246, 3) := by decide +kernel
theorem dX4_breakOff_64 : decode cX4_breakOff 64 = .ok (.aload_n 3, 1) := by decide +kernel
theorem dX4_breakOff_65 : decode cX4_breakOff 65 = .ok (.invokevirtual 78, 3) := by decide +kernel
theorem dX4_breakOff_68 : decode cX4_breakOff 68 = .ok (.return_, 1) := by decide +kernel
set_option maxRecDepth 20000 in
theorem ggX4_wordSeenBy_X3_hasStored : GoodIn wsX4_wordSeenBy wsX3_hasStored := goodIn_r _ [8, 9, 18, 19, 20, 21, 22, 23, 24, 25, 26] (by decide +kernel) (by decide +kernel)
set_option maxRecDepth 20000 in
theorem gX4_wordSeenBy_X3_hasStored : GoodIn wsX4_wordSeenBy (wsV RX4 249 RX3 yX3_hasStored wsX3_hasStored) := goodIn_app (goodIn_of _ (by decide +kernel)) ggX4_wordSeenBy_X3_hasStored
theorem dX4_wordSeenBy_0 : decode cX4_wordSeenBy 0 = .ok (.aload_n 1, 1) := by decide +kernel
theorem dX4_wordSeenBy_1 : decode cX4_wordSeenBy 1 = .ok (.getfield 74, 3) := by decide +kernel
theorem dX4_wordSeenBy_4 : decode cX4_wordSeenBy 4 = .ok (.iload_n 2, 1) := by decide +kernel
theorem dX4_wordSeenBy_5 : decode cX4_wordSeenBy 5 = .ok (.invokevirtual 249, 3) := by decide +kernel
theorem dX4_wordSeenBy_8 : decode cX4_wordSeenBy 8 = .ok (.ifCond .eq 15, 3) := by decide +kernel
theorem dX4_wordSeenBy_11 : decode cX4_wordSeenBy 11 = .ok (.aload_n 1, 1) := by decide +kernel
theorem dX4_wordSeenBy_12 : decode cX4_wordSeenBy 12 = .ok (.getfield 74, 3) := by decide +kernel
theorem dX4_wordSeenBy_15 : decode cX4_wordSeenBy 15 = .ok (.getfield 252, 3) := by decide +kernel
theorem dX4_wordSeenBy_18 : decode cX4_wordSeenBy 18 = .ok (.iload_n 2, 1) := by decide +kernel
theorem dX4_wordSeenBy_19 : decode cX4_wordSeenBy 19 = .ok (.iaload, 1) := by decide +kernel
theorem dX4_wordSeenBy_20 : decode cX4_wordSeenBy 20 = .ok (.goto 9, 3) := by decide +kernel
theorem dX4_wordSeenBy_23 : decode cX4_wordSeenBy 23 = .ok (.aload_n 0, 1) := by decide +kernel
theorem dX4_wordSeenBy_24 : decode cX4_wordSeenBy 24 = .ok (.getfield 9, 3) := by decide +kernel
theorem dX4_wordSeenBy_27 : decode cX4_wordSeenBy 27 = .ok (.iload_n 2, 1) := by decide +kernel
theorem dX4_wordSeenBy_28 : decode cX4_wordSeenBy 28 = .ok (.iaload, 1) := by decide +kernel
theorem dX4_wordSeenBy_29 : decode cX4_wordSeenBy 29 = .ok (.ireturn, 1) := by decide +kernel
set_option maxRecDepth 20000 in
theorem ggX4_factOf_J6_bitCount_0f7a4 : GoodIn wsX4_factOf wsJ6_bitCount_0f7a4 := goodIn_r _ [15, 16, 17, 18] (by decide +kernel) (by decide +kernel)
set_option maxRecDepth 20000 in
theorem gX4_factOf_J6_bitCount_0f7a4 : GoodIn wsX4_factOf (va_wsS RX4 258 yJ6_bitCount_0f7a4 wsJ6_bitCount_0f7a4) := goodIn_app (goodIn_of _ (by decide +kernel)) ggX4_factOf_J6_bitCount_0f7a4
set_option maxRecDepth 20000 in
theorem ggX4_factOf_J13_bitCount_95d88 : GoodIn wsX4_factOf wsJ13_bitCount_95d88 := goodIn_r _ [22, 23, 24, 25] (by decide +kernel) (by decide +kernel)
set_option maxRecDepth 20000 in
theorem gX4_factOf_J13_bitCount_95d88 : GoodIn wsX4_factOf (va_wsS RX4 271 yJ13_bitCount_95d88 wsJ13_bitCount_95d88) := goodIn_app (goodIn_of _ (by decide +kernel)) ggX4_factOf_J13_bitCount_95d88
theorem dX4_factOf_0 : decode cX4_factOf 0 = .ok (.aload_n 0, 1) := by decide +kernel
theorem dX4_factOf_1 : decode cX4_factOf 1 = .ok (.getfield 74, 3) := by decide +kernel
theorem dX4_factOf_4 : decode cX4_factOf 4 = .ok (.astore_n 2, 1) := by decide +kernel
theorem dX4_factOf_5 : decode cX4_factOf 5 = .ok (.iload_n 1, 1) := by decide +kernel
theorem dX4_factOf_6 : decode cX4_factOf 6 = .ok (.tableswitch 112 0 8 #[50, 55, 68, 73, 78, 83, 91, 99, 107], 50) := by decide +kernel
theorem dX4_factOf_56 : decode cX4_factOf 56 = .ok (.aload_n 0, 1) := by decide +kernel
theorem dX4_factOf_57 : decode cX4_factOf 57 = .ok (.getfield 71, 3) := by decide +kernel
theorem dX4_factOf_60 : decode cX4_factOf 60 = .ok (.ireturn, 1) := by decide +kernel
theorem dX4_factOf_61 : decode cX4_factOf 61 = .ok (.aload_n 0, 1) := by decide +kernel
theorem dX4_factOf_62 : decode cX4_factOf 62 = .ok (.getfield 83, 3) := by decide +kernel
theorem dX4_factOf_65 : decode cX4_factOf 65 = .ok (.ifCond .eq 7, 3) := by decide +kernel
theorem dX4_factOf_68 : decode cX4_factOf 68 = .ok (.iconst 1, 1) := by decide +kernel
theorem dX4_factOf_69 : decode cX4_factOf 69 = .ok (.goto 4, 3) := by decide +kernel
theorem dX4_factOf_72 : decode cX4_factOf 72 = .ok (.iconst 0, 1) := by decide +kernel
theorem dX4_factOf_73 : decode cX4_factOf 73 = .ok (.ireturn, 1) := by decide +kernel
theorem dX4_factOf_74 : decode cX4_factOf 74 = .ok (.aload_n 0, 1) := by decide +kernel
theorem dX4_factOf_75 : decode cX4_factOf 75 = .ok (.getfield 151, 3) := by decide +kernel
theorem dX4_factOf_78 : decode cX4_factOf 78 = .ok (.ireturn, 1) := by decide +kernel
theorem dX4_factOf_79 : decode cX4_factOf 79 = .ok (.aload_n 2, 1) := by decide +kernel
theorem dX4_factOf_80 : decode cX4_factOf 80 = .ok (.getfield 186, 3) := by decide +kernel
theorem dX4_factOf_83 : decode cX4_factOf 83 = .ok (.ireturn, 1) := by decide +kernel
theorem dX4_factOf_84 : decode cX4_factOf 84 = .ok (.aload_n 2, 1) := by decide +kernel
theorem dX4_factOf_85 : decode cX4_factOf 85 = .ok (.getfield 224, 3) := by decide +kernel
theorem dX4_factOf_88 : decode cX4_factOf 88 = .ok (.ireturn, 1) := by decide +kernel
theorem dX4_factOf_89 : decode cX4_factOf 89 = .ok (.aload_n 2, 1) := by decide +kernel
theorem dX4_factOf_90 : decode cX4_factOf 90 = .ok (.getfield 255, 3) := by decide +kernel
theorem dX4_factOf_93 : decode cX4_factOf 93 = .ok (.invokestatic 258, 3) := by decide +kernel
theorem dX4_factOf_96 : decode cX4_factOf 96 = .ok (.ireturn, 1) := by decide +kernel
theorem dX4_factOf_97 : decode cX4_factOf 97 = .ok (.aload_n 2, 1) := by decide +kernel
theorem dX4_factOf_98 : decode cX4_factOf 98 = .ok (.getfield 264, 3) := by decide +kernel
theorem dX4_factOf_101 : decode cX4_factOf 101 = .ok (.invokestatic 258, 3) := by decide +kernel
theorem dX4_factOf_104 : decode cX4_factOf 104 = .ok (.ireturn, 1) := by decide +kernel
theorem dX4_factOf_105 : decode cX4_factOf 105 = .ok (.aload_n 2, 1) := by decide +kernel
theorem dX4_factOf_106 : decode cX4_factOf 106 = .ok (.getfield 267, 3) := by decide +kernel
theorem dX4_factOf_109 : decode cX4_factOf 109 = .ok (.invokestatic 271, 3) := by decide +kernel
theorem dX4_factOf_112 : decode cX4_factOf 112 = .ok (.ireturn, 1) := by decide +kernel
theorem dX4_factOf_113 : decode cX4_factOf 113 = .ok (.aload_n 0, 1) := by decide +kernel
theorem dX4_factOf_114 : decode cX4_factOf 114 = .ok (.getfield 201, 3) := by decide +kernel
theorem dX4_factOf_117 : decode cX4_factOf 117 = .ok (.ireturn, 1) := by decide +kernel
theorem dX4_factOf_118 : decode cX4_factOf 118 = .ok (.aload_n 0, 1) := by decide +kernel
theorem dX4_factOf_119 : decode cX4_factOf 119 = .ok (.getfield 246, 3) := by decide +kernel
theorem dX4_factOf_122 : decode cX4_factOf 122 = .ok (.ireturn, 1) := by decide +kernel
set_option maxRecDepth 20000 in
theorem ggX5_init_X5_near : GoodIn wsX5_init wsX5_near := goodIn_r _ [34] (by decide +kernel) (by decide +kernel)
set_option maxRecDepth 20000 in
theorem gX5_init_X5_near : GoodIn wsX5_init (va_wsS RX5 75 yX5_near wsX5_near) := goodIn_app (goodIn_of _ (by decide +kernel)) ggX5_init_X5_near
theorem dX5_init_0 : decode cX5_init 0 = .ok (.aload_n 0, 1) := by decide +kernel
theorem dX5_init_1 : decode cX5_init 1 = .ok (.invokespecial 1, 3) := by decide +kernel
theorem dX5_init_4 : decode cX5_init 4 = .ok (.aload_n 0, 1) := by decide +kernel
theorem dX5_init_5 : decode cX5_init 5 = .ok (.bipush 64, 2) := by decide +kernel
theorem dX5_init_7 : decode cX5_init 7 = .ok (.newarray .int, 2) := by decide +kernel
theorem dX5_init_9 : decode cX5_init 9 = .ok (.putfield 7, 3) := by decide +kernel
theorem dX5_init_12 : decode cX5_init 12 = .ok (.aload_n 0, 1) := by decide +kernel
theorem dX5_init_13 : decode cX5_init 13 = .ok (.bipush 80, 2) := by decide +kernel
theorem dX5_init_15 : decode cX5_init 15 = .ok (.newarray .int, 2) := by decide +kernel
theorem dX5_init_17 : decode cX5_init 17 = .ok (.putfield 13, 3) := by decide +kernel
theorem dX5_init_20 : decode cX5_init 20 = .ok (.aload_n 0, 1) := by decide +kernel
theorem dX5_init_21 : decode cX5_init 21 = .ok (.bipush 80, 2) := by decide +kernel
theorem dX5_init_23 : decode cX5_init 23 = .ok (.newarray .int, 2) := by decide +kernel
theorem dX5_init_25 : decode cX5_init 25 = .ok (.putfield 16, 3) := by decide +kernel
theorem dX5_init_28 : decode cX5_init 28 = .ok (.aload_n 0, 1) := by decide +kernel
theorem dX5_init_29 : decode cX5_init 29 = .ok (.bipush 80, 2) := by decide +kernel
theorem dX5_init_31 : decode cX5_init 31 = .ok (.newarray .int, 2) := by decide +kernel
theorem dX5_init_33 : decode cX5_init 33 = .ok (.putfield 19, 3) := by decide +kernel
theorem dX5_init_36 : decode cX5_init 36 = .ok (.aload_n 0, 1) := by decide +kernel
theorem dX5_init_37 : decode cX5_init 37 = .ok (.bipush 80, 2) := by decide +kernel
theorem dX5_init_39 : decode cX5_init 39 = .ok (.newarray .int, 2) := by decide +kernel
theorem dX5_init_41 : decode cX5_init 41 = .ok (.putfield 22, 3) := by decide +kernel
theorem dX5_init_44 : decode cX5_init 44 = .ok (.aload_n 0, 1) := by decide +kernel
theorem dX5_init_45 : decode cX5_init 45 = .ok (.iconst 4, 1) := by decide +kernel
theorem dX5_init_46 : decode cX5_init 46 = .ok (.newarray .int, 2) := by decide +kernel
theorem dX5_init_48 : decode cX5_init 48 = .ok (.putfield 25, 3) := by decide +kernel
theorem dX5_init_51 : decode cX5_init 51 = .ok (.aload_n 0, 1) := by decide +kernel
theorem dX5_init_52 : decode cX5_init 52 = .ok (.iconst 4, 1) := by decide +kernel
theorem dX5_init_53 : decode cX5_init 53 = .ok (.newarray .boolean, 2) := by decide +kernel
theorem dX5_init_55 : decode cX5_init 55 = .ok (.putfield 28, 3) := by decide +kernel
theorem dX5_init_58 : decode cX5_init 58 = .ok (.aload_n 0, 1) := by decide +kernel
theorem dX5_init_59 : decode cX5_init 59 = .ok (.iconst 4, 1) := by decide +kernel
theorem dX5_init_60 : decode cX5_init 60 = .ok (.newarray .int, 2) := by decide +kernel
theorem dX5_init_62 : decode cX5_init 62 = .ok (.putfield 32, 3) := by decide +kernel
theorem dX5_init_65 : decode cX5_init 65 = .ok (.aload_n 0, 1) := by decide +kernel
theorem dX5_init_66 : decode cX5_init 66 = .ok (.bipush 32, 2) := by decide +kernel
theorem dX5_init_68 : decode cX5_init 68 = .ok (.newarray .int, 2) := by decide +kernel
theorem dX5_init_70 : decode cX5_init 70 = .ok (.putfield 35, 3) := by decide +kernel
theorem dX5_init_73 : decode cX5_init 73 = .ok (.aload_n 0, 1) := by decide +kernel
theorem dX5_init_74 : decode cX5_init 74 = .ok (.iconst 4, 1) := by decide +kernel
theorem dX5_init_75 : decode cX5_init 75 = .ok (.newarray .int, 2) := by decide +kernel
theorem dX5_init_77 : decode cX5_init 77 = .ok (.putfield 38, 3) := by decide +kernel
theorem dX5_init_80 : decode cX5_init 80 = .ok (.aload_n 0, 1) := by decide +kernel
theorem dX5_init_81 : decode cX5_init 81 = .ok (.iconst 4, 1) := by decide +kernel
theorem dX5_init_82 : decode cX5_init 82 = .ok (.newarray .int, 2) := by decide +kernel
theorem dX5_init_84 : decode cX5_init 84 = .ok (.putfield 41, 3) := by decide +kernel
theorem dX5_init_87 : decode cX5_init 87 = .ok (.aload_n 0, 1) := by decide +kernel
theorem dX5_init_88 : decode cX5_init 88 = .ok (.iconst 4, 1) := by decide +kernel
theorem dX5_init_89 : decode cX5_init 89 = .ok (.newarray .int, 2) := by decide +kernel
theorem dX5_init_91 : decode cX5_init 91 = .ok (.putfield 44, 3) := by decide +kernel
theorem dX5_init_94 : decode cX5_init 94 = .ok (.aload_n 0, 1) := by decide +kernel
theorem dX5_init_95 : decode cX5_init 95 = .ok (.iconst 4, 1) := by decide +kernel
theorem dX5_init_96 : decode cX5_init 96 = .ok (.newarray .int, 2) := by decide +kernel
theorem dX5_init_98 : decode cX5_init 98 = .ok (.putfield 47, 3) := by decide +kernel
theorem dX5_init_101 : decode cX5_init 101 = .ok (.aload_n 0, 1) := by decide +kernel
theorem dX5_init_102 : decode cX5_init 102 = .ok (.bipush 32, 2) := by decide +kernel
theorem dX5_init_104 : decode cX5_init 104 = .ok (.newarray .int, 2) := by decide +kernel
theorem dX5_init_106 : decode cX5_init 106 = .ok (.putfield 50, 3) := by decide +kernel
theorem dX5_init_109 : decode cX5_init 109 = .ok (.aload_n 0, 1) := by decide +kernel
theorem dX5_init_110 : decode cX5_init 110 = .ok (.iconst 4, 1) := by decide +kernel
theorem dX5_init_111 : decode cX5_init 111 = .ok (.newarray .int, 2) := by decide +kernel
theorem dX5_init_113 : decode cX5_init 113 = .ok (.putfield 53, 3) := by decide +kernel
theorem dX5_init_116 : decode cX5_init 116 = .ok (.aload_n 0, 1) := by decide +kernel
theorem dX5_init_117 : decode cX5_init 117 = .ok (.iconst 4, 1) := by decide +kernel
theorem dX5_init_118 : decode cX5_init 118 = .ok (.newarray .int, 2) := by decide +kernel
theorem dX5_init_120 : decode cX5_init 120 = .ok (.putfield 56, 3) := by decide +kernel
theorem dX5_init_123 : decode cX5_init 123 = .ok (.aload_n 0, 1) := by decide +kernel
theorem dX5_init_124 : decode cX5_init 124 = .ok (.iconst 4, 1) := by decide +kernel
theorem dX5_init_125 : decode cX5_init 125 = .ok (.newarray .long, 2) := by decide +kernel
theorem dX5_init_127 : decode cX5_init 127 = .ok (.putfield 59, 3) := by decide +kernel
theorem dX5_init_130 : decode cX5_init 130 = .ok (.aload_n 0, 1) := by decide +kernel
theorem dX5_init_131 : decode cX5_init 131 = .ok (.sipush 256, 3) := by decide +kernel
theorem dX5_init_134 : decode cX5_init 134 = .ok (.newarray .int, 2) := by decide +kernel
theorem dX5_init_136 : decode cX5_init 136 = .ok (.putfield 63, 3) := by decide +kernel
theorem dX5_init_139 : decode cX5_init 139 = .ok (.aload_n 0, 1) := by decide +kernel
theorem dX5_init_140 : decode cX5_init 140 = .ok (.iconst 4, 1) := by decide +kernel
theorem dX5_init_141 : decode cX5_init 141 = .ok (.newarray .int, 2) := by decide +kernel
theorem dX5_init_143 : decode cX5_init 143 = .ok (.putfield 66, 3) := by decide +kernel
theorem dX5_init_146 : decode cX5_init 146 = .ok (.aload_n 0, 1) := by decide +kernel
theorem dX5_init_147 : decode cX5_init 147 = .ok (.iconst 4, 1) := by decide +kernel
theorem dX5_init_148 : decode cX5_init 148 = .ok (.newarray .int, 2) := by decide +kernel
theorem dX5_init_150 : decode cX5_init 150 = .ok (.putfield 69, 3) := by decide +kernel
theorem dX5_init_153 : decode cX5_init 153 = .ok (.aload_n 0, 1) := by decide +kernel
theorem dX5_init_154 : decode cX5_init 154 = .ok (.sipush 400, 3) := by decide +kernel
theorem dX5_init_157 : decode cX5_init 157 = .ok (.newarray .int, 2) := by decide +kernel
theorem dX5_init_159 : decode cX5_init 159 = .ok (.putfield 72, 3) := by decide +kernel
theorem dX5_init_162 : decode cX5_init 162 = .ok (.aload_n 0, 1) := by decide +kernel
theorem dX5_init_163 : decode cX5_init 163 = .ok (.iload_n 1, 1) := by decide +kernel
theorem dX5_init_164 : decode cX5_init 164 = .ok (.iconst 1, 1) := by decide +kernel
theorem dX5_init_165 : decode cX5_init 165 = .ok (.iconst 4, 1) := by decide +kernel
theorem dX5_init_166 : decode cX5_init 166 = .ok (.invokestatic 75, 3) := by decide +kernel
theorem dX5_init_169 : decode cX5_init 169 = .ok (.putfield 79, 3) := by decide +kernel
theorem dX5_init_172 : decode cX5_init 172 = .ok (.aload_n 0, 1) := by decide +kernel
theorem dX5_init_173 : decode cX5_init 173 = .ok (.iconst 1, 1) := by decide +kernel
theorem dX5_init_174 : decode cX5_init 174 = .ok (.iload_n 2, 1) := by decide +kernel
theorem dX5_init_175 : decode cX5_init 175 = .ok (.iconst 0, 1) := by decide +kernel
theorem dX5_init_176 : decode cX5_init 176 = .ok (.iconst 2, 1) := by decide +kernel
theorem dX5_init_177 : decode cX5_init 177 = .ok (.invokestatic 75, 3) := by decide +kernel
theorem dX5_init_180 : decode cX5_init 180 = .ok (.ishl, 1) := by decide +kernel
theorem dX5_init_181 : decode cX5_init 181 = .ok (.putfield 83, 3) := by decide +kernel
theorem dX5_init_184 : decode cX5_init 184 = .ok (.aload_n 0, 1) := by decide +kernel
theorem dX5_init_185 : decode cX5_init 185 = .ok (.iload_n 3, 1) := by decide +kernel
theorem dX5_init_186 : decode cX5_init 186 = .ok (.iconst 1, 1) := by decide +kernel
theorem dX5_init_187 : decode cX5_init 187 = .ok (.iconst 4, 1) := by decide +kernel
theorem dX5_init_188 : decode cX5_init 188 = .ok (.invokestatic 75, 3) := by decide +kernel
theorem dX5_init_191 : decode cX5_init 191 = .ok (.putfield 86, 3) := by decide +kernel
theorem dX5_init_194 : decode cX5_init 194 = .ok (.return_, 1) := by decide +kernel
theorem dX5_thrown_0 : decode cX5_thrown 0 = .ok (.aload_n 0, 1) := by decide +kernel
theorem dX5_thrown_1 : decode cX5_thrown 1 = .ok (.getfield 89, 3) := by decide +kernel
theorem dX5_thrown_4 : decode cX5_thrown 4 = .ok (.ireturn, 1) := by decide +kernel
theorem dX5_near_0 : decode cX5_near 0 = .ok (.iload_n 0, 1) := by decide +kernel
theorem dX5_near_1 : decode cX5_near 1 = .ok (.iload_n 1, 1) := by decide +kernel
theorem dX5_near_2 : decode cX5_near 2 = .ok (.if_icmp .ge 7, 3) := by decide +kernel
theorem dX5_near_5 : decode cX5_near 5 = .ok (.iload_n 1, 1) := by decide +kernel
theorem dX5_near_6 : decode cX5_near 6 = .ok (.goto 13, 3) := by decide +kernel
theorem dX5_near_9 : decode cX5_near 9 = .ok (.iload_n 0, 1) := by decide +kernel
theorem dX5_near_10 : decode cX5_near 10 = .ok (.iload_n 2, 1) := by decide +kernel
theorem dX5_near_11 : decode cX5_near 11 = .ok (.if_icmp .le 7, 3) := by decide +kernel
theorem dX5_near_14 : decode cX5_near 14 = .ok (.iload_n 2, 1) := by decide +kernel
theorem dX5_near_15 : decode cX5_near 15 = .ok (.goto 4, 3) := by decide +kernel
theorem dX5_near_18 : decode cX5_near 18 = .ok (.iload_n 0, 1) := by decide +kernel
theorem dX5_near_19 : decode cX5_near 19 = .ok (.ireturn, 1) := by decide +kernel
theorem dX5_isIn_0 : decode cX5_isIn 0 = .ok (.iload_n 0, 1) := by decide +kernel
theorem dX5_isIn_1 : decode cX5_isIn 1 = .ok (.ifCond .lt 12, 3) := by decide +kernel
theorem dX5_isIn_4 : decode cX5_isIn 4 = .ok (.iload_n 0, 1) := by decide +kernel
theorem dX5_isIn_5 : decode cX5_isIn 5 = .ok (.iload_n 1, 1) := by decide +kernel
theorem dX5_isIn_6 : decode cX5_isIn 6 = .ok (.if_icmp .ge 7, 3) := by decide +kernel
theorem dX5_isIn_9 : decode cX5_isIn 9 = .ok (.iconst 1, 1) := by decide +kernel
theorem dX5_isIn_10 : decode cX5_isIn 10 = .ok (.goto 4, 3) := by decide +kernel
theorem dX5_isIn_13 : decode cX5_isIn 13 = .ok (.iconst 0, 1) := by decide +kernel
theorem dX5_isIn_14 : decode cX5_isIn 14 = .ok (.ireturn, 1) := by decide +kernel
theorem dX5_namesA_0 : decode cX5_namesA 0 = .ok (.iload_n 0, 1) := by decide +kernel
theorem dX5_namesA_1 : decode cX5_namesA 1 = .ok (.bipush 8, 2) := by decide +kernel
theorem dX5_namesA_3 : decode cX5_namesA 3 = .ok (.if_icmp .le 9, 3) := by decide +kernel
theorem dX5_namesA_6 : decode cX5_namesA 6 = .ok (.iload_n 0, 1) := by decide +kernel
theorem dX5_namesA_7 : decode cX5_namesA 7 = .ok (.bipush 12, 2) := by decide +kernel
theorem dX5_namesA_9 : decode cX5_namesA 9 = .ok (.if_icmp .ne 7, 3) := by decide +kernel
theorem dX5_namesA_12 : decode cX5_namesA 12 = .ok (.iconst 1, 1) := by decide +kernel
theorem dX5_namesA_13 : decode cX5_namesA 13 = .ok (.goto 4, 3) := by decide +kernel
theorem dX5_namesA_16 : decode cX5_namesA 16 = .ok (.iconst 0, 1) := by decide +kernel
theorem dX5_namesA_17 : decode cX5_namesA 17 = .ok (.ireturn, 1) := by decide +kernel
theorem dX5_namesB_0 : decode cX5_namesB 0 = .ok (.iload_n 0, 1) := by decide +kernel
theorem dX5_namesB_1 : decode cX5_namesB 1 = .ok (.iconst 1, 1) := by decide +kernel
theorem dX5_namesB_2 : decode cX5_namesB 2 = .ok (.if_icmp .lt 13, 3) := by decide +kernel
theorem dX5_namesB_5 : decode cX5_namesB 5 = .ok (.iload_n 0, 1) := by decide +kernel
theorem dX5_namesB_6 : decode cX5_namesB 6 = .ok (.bipush 8, 2) := by decide +kernel
theorem dX5_namesB_8 : decode cX5_namesB 8 = .ok (.if_icmp .gt 7, 3) := by decide +kernel
theorem dX5_namesB_11 : decode cX5_namesB 11 = .ok (.iconst 1, 1) := by decide +kernel
theorem dX5_namesB_12 : decode cX5_namesB 12 = .ok (.goto 4, 3) := by decide +kernel
theorem dX5_namesB_15 : decode cX5_namesB 15 = .ok (.iconst 0, 1) := by decide +kernel
theorem dX5_namesB_16 : decode cX5_namesB 16 = .ok (.ireturn, 1) := by decide +kernel
theorem dX5_namesC_0 : decode cX5_namesC 0 = .ok (.iload_n 0, 1) := by decide +kernel
theorem dX5_namesC_1 : decode cX5_namesC 1 = .ok (.iconst 1, 1) := by decide +kernel
theorem dX5_namesC_2 : decode cX5_namesC 2 = .ok (.if_icmp .lt 12, 3) := by decide +kernel
theorem dX5_namesC_5 : decode cX5_namesC 5 = .ok (.iload_n 0, 1) := by decide +kernel
theorem dX5_namesC_6 : decode cX5_namesC 6 = .ok (.iconst 3, 1) := by decide +kernel
theorem dX5_namesC_7 : decode cX5_namesC 7 = .ok (.if_icmp .gt 7, 3) := by decide +kernel
theorem dX5_namesC_10 : decode cX5_namesC 10 = .ok (.iconst 1, 1) := by decide +kernel
theorem dX5_namesC_11 : decode cX5_namesC 11 = .ok (.goto 4, 3) := by decide +kernel
theorem dX5_namesC_14 : decode cX5_namesC 14 = .ok (.iconst 0, 1) := by decide +kernel
theorem dX5_namesC_15 : decode cX5_namesC 15 = .ok (.ireturn, 1) := by decide +kernel
set_option maxRecDepth 20000 in
theorem ggX5_instruction_X5_isIn : GoodIn wsX5_instruction wsX5_isIn := goodIn_r _ [10] (by decide +kernel) (by decide +kernel)
set_option maxRecDepth 20000 in
theorem gX5_instruction_X5_isIn : GoodIn wsX5_instruction (va_wsS RX5 92 yX5_isIn wsX5_isIn) := goodIn_app (goodIn_of _ (by decide +kernel)) ggX5_instruction_X5_isIn
set_option maxRecDepth 20000 in
theorem ggX5_instruction_X5_namesA : GoodIn wsX5_instruction wsX5_namesA := goodIn_r _ [13] (by decide +kernel) (by decide +kernel)
set_option maxRecDepth 20000 in
theorem gX5_instruction_X5_namesA : GoodIn wsX5_instruction (va_wsS RX5 96 yX5_namesA wsX5_namesA) := goodIn_app (goodIn_of _ (by decide +kernel)) ggX5_instruction_X5_namesA
set_option maxRecDepth 20000 in
theorem ggX5_instruction_X5_namesB : GoodIn wsX5_instruction wsX5_namesB := goodIn_r _ [16] (by decide +kernel) (by decide +kernel)
set_option maxRecDepth 20000 in
theorem gX5_instruction_X5_namesB : GoodIn wsX5_instruction (va_wsS RX5 100 yX5_namesB wsX5_namesB) := goodIn_app (goodIn_of _ (by decide +kernel)) ggX5_instruction_X5_namesB
set_option maxRecDepth 20000 in
theorem ggX5_instruction_X5_namesC : GoodIn wsX5_instruction wsX5_namesC := goodIn_r _ [19] (by decide +kernel) (by decide +kernel)
set_option maxRecDepth 20000 in
theorem gX5_instruction_X5_namesC : GoodIn wsX5_instruction (va_wsS RX5 103 yX5_namesC wsX5_namesC) := goodIn_app (goodIn_of _ (by decide +kernel)) ggX5_instruction_X5_namesC
theorem dX5_instruction_0 : decode cX5_instruction 0 = .ok (.iload_n 1, 1) := by decide +kernel
theorem dX5_instruction_1 : decode cX5_instruction 1 = .ok (.bipush 14, 2) := by decide +kernel
theorem dX5_instruction_3 : decode cX5_instruction 3 = .ok (.invokestatic 92, 3) := by decide +kernel
theorem dX5_instruction_6 : decode cX5_instruction 6 = .ok (.istore 5, 2) := by decide +kernel
theorem dX5_instruction_8 : decode cX5_instruction 8 = .ok (.iload 5, 2) := by decide +kernel
theorem dX5_instruction_10 : decode cX5_instruction 10 = .ok (.ifCond .eq 56, 3) := by decide +kernel
theorem dX5_instruction_13 : decode cX5_instruction 13 = .ok (.iload_n 1, 1) := by decide +kernel
theorem dX5_instruction_14 : decode cX5_instruction 14 = .ok (.invokestatic 96, 3) := by decide +kernel
theorem dX5_instruction_17 : decode cX5_instruction 17 = .ok (.ifCond .eq 12, 3) := by decide +kernel
theorem dX5_instruction_20 : decode cX5_instruction 20 = .ok (.iload_n 2, 1) := by decide +kernel
theorem dX5_instruction_21 : decode cX5_instruction 21 = .ok (.bipush 8, 2) := by decide +kernel
theorem dX5_instruction_23 : decode cX5_instruction 23 = .ok (.invokestatic 92, 3) := by decide +kernel
theorem dX5_instruction_26 : decode cX5_instruction 26 = .ok (.ifCond .eq 40, 3) := by decide +kernel
theorem dX5_instruction_29 : decode cX5_instruction 29 = .ok (.iload_n 1, 1) := by decide +kernel
theorem dX5_instruction_30 : decode cX5_instruction 30 = .ok (.invokestatic 100, 3) := by decide +kernel
theorem dX5_instruction_33 : decode cX5_instruction 33 = .ok (.ifCond .eq 12, 3) := by decide +kernel
theorem dX5_instruction_36 : decode cX5_instruction 36 = .ok (.iload_n 3, 1) := by decide +kernel
theorem dX5_instruction_37 : decode cX5_instruction 37 = .ok (.bipush 8, 2) := by decide +kernel
theorem dX5_instruction_39 : decode cX5_instruction 39 = .ok (.invokestatic 92, 3) := by decide +kernel
theorem dX5_instruction_42 : decode cX5_instruction 42 = .ok (.ifCond .eq 24, 3) := by decide +kernel
theorem dX5_instruction_45 : decode cX5_instruction 45 = .ok (.iload_n 1, 1) := by decide +kernel
theorem dX5_instruction_46 : decode cX5_instruction 46 = .ok (.invokestatic 103, 3) := by decide +kernel
theorem dX5_instruction_49 : decode cX5_instruction 49 = .ok (.ifCond .eq 13, 3) := by decide +kernel
theorem dX5_instruction_52 : decode cX5_instruction 52 = .ok (.iload 4, 2) := by decide +kernel
theorem dX5_instruction_54 : decode cX5_instruction 54 = .ok (.bipush 8, 2) := by decide +kernel
theorem dX5_instruction_56 : decode cX5_instruction 56 = .ok (.invokestatic 92, 3) := by decide +kernel
theorem dX5_instruction_59 : decode cX5_instruction 59 = .ok (.ifCond .eq 7, 3) := by decide +kernel
theorem dX5_instruction_62 : decode cX5_instruction 62 = .ok (.iconst 1, 1) := by decide +kernel
theorem dX5_instruction_63 : decode cX5_instruction 63 = .ok (.goto 4, 3) := by decide +kernel
theorem dX5_instruction_66 : decode cX5_instruction 66 = .ok (.iconst 0, 1) := by decide +kernel
theorem dX5_instruction_67 : decode cX5_instruction 67 = .ok (.istore 5, 2) := by decide +kernel
theorem dX5_instruction_69 : decode cX5_instruction 69 = .ok (.aload_n 0, 1) := by decide +kernel
theorem dX5_instruction_70 : decode cX5_instruction 70 = .ok (.iload 5, 2) := by decide +kernel
theorem dX5_instruction_72 : decode cX5_instruction 72 = .ok (.ifCond .ne 7, 3) := by decide +kernel
theorem dX5_instruction_75 : decode cX5_instruction 75 = .ok (.iconst 1, 1) := by decide +kernel
theorem dX5_instruction_76 : decode cX5_instruction 76 = .ok (.goto 17, 3) := by decide +kernel
theorem dX5_instruction_79 : decode cX5_instruction 79 = .ok (.aload_n 0, 1) := by decide +kernel
theorem dX5_instruction_80 : decode cX5_instruction 80 = .ok (.getfield 106, 3) := by decide +kernel
theorem dX5_instruction_83 : decode cX5_instruction 83 = .ok (.bipush 80, 2) := by decide +kernel
theorem dX5_instruction_85 : decode cX5_instruction 85 = .ok (.if_icmp .ne 7, 3) := by decide +kernel
theorem dX5_instruction_88 : decode cX5_instruction 88 = .ok (.iconst 2, 1) := by decide +kernel
theorem dX5_instruction_89 : decode cX5_instruction 89 = .ok (.goto 4, 3) := by decide +kernel
theorem dX5_instruction_92 : decode cX5_instruction 92 = .ok (.iconst 0, 1) := by decide +kernel
theorem dX5_instruction_93 : decode cX5_instruction 93 = .ok (.putfield 89, 3) := by decide +kernel
theorem dX5_instruction_96 : decode cX5_instruction 96 = .ok (.aload_n 0, 1) := by decide +kernel
theorem dX5_instruction_97 : decode cX5_instruction 97 = .ok (.getfield 89, 3) := by decide +kernel
theorem dX5_instruction_100 : decode cX5_instruction 100 = .ok (.ifCond .le 5, 3) := by decide +kernel
theorem dX5_instruction_103 : decode cX5_instruction 103 = .ok (.iconst 0, 1) := by decide +kernel
theorem dX5_instruction_104 : decode cX5_instruction 104 = .ok (.ireturn, 1) := by decide +kernel
theorem dX5_instruction_105 : decode cX5_instruction 105 = .ok (.aload_n 0, 1) := by decide +kernel
theorem dX5_instruction_106 : decode cX5_instruction 106 = .ok (.getfield 13, 3) := by decide +kernel
theorem dX5_instruction_109 : decode cX5_instruction 109 = .ok (.aload_n 0, 1) := by decide +kernel
theorem dX5_instruction_110 : decode cX5_instruction 110 = .ok (.getfield 106, 3) := by decide +kernel
theorem dX5_instruction_113 : decode cX5_instruction 113 = .ok (.iload_n 1, 1) := by decide +kernel
theorem dX5_instruction_114 : decode cX5_instruction 114 = .ok (.iastore, 1) := by decide +kernel
theorem dX5_instruction_115 : decode cX5_instruction 115 = .ok (.aload_n 0, 1) := by decide +kernel
theorem dX5_instruction_116 : decode cX5_instruction 116 = .ok (.getfield 16, 3) := by decide +kernel
theorem dX5_instruction_119 : decode cX5_instruction 119 = .ok (.aload_n 0, 1) := by decide +kernel
theorem dX5_instruction_120 : decode cX5_instruction 120 = .ok (.getfield 106, 3) := by decide +kernel
theorem dX5_instruction_123 : decode cX5_instruction 123 = .ok (.iload_n 2, 1) := by decide +kernel
theorem dX5_instruction_124 : decode cX5_instruction 124 = .ok (.iastore, 1) := by decide +kernel
theorem dX5_instruction_125 : decode cX5_instruction 125 = .ok (.aload_n 0, 1) := by decide +kernel
theorem dX5_instruction_126 : decode cX5_instruction 126 = .ok (.getfield 19, 3) := by decide +kernel
theorem dX5_instruction_129 : decode cX5_instruction 129 = .ok (.aload_n 0, 1) := by decide +kernel
theorem dX5_instruction_130 : decode cX5_instruction 130 = .ok (.getfield 106, 3) := by decide +kernel
theorem dX5_instruction_133 : decode cX5_instruction 133 = .ok (.iload_n 3, 1) := by decide +kernel
theorem dX5_instruction_134 : decode cX5_instruction 134 = .ok (.iastore, 1) := by decide +kernel
theorem dX5_instruction_135 : decode cX5_instruction 135 = .ok (.aload_n 0, 1) := by decide +kernel
theorem dX5_instruction_136 : decode cX5_instruction 136 = .ok (.getfield 22, 3) := by decide +kernel
theorem dX5_instruction_139 : decode cX5_instruction 139 = .ok (.aload_n 0, 1) := by decide +kernel
theorem dX5_instruction_140 : decode cX5_instruction 140 = .ok (.getfield 106, 3) := by decide +kernel
theorem dX5_instruction_143 : decode cX5_instruction 143 = .ok (.iload 4, 2) := by decide +kernel
theorem dX5_instruction_145 : decode cX5_instruction 145 = .ok (.iastore, 1) := by decide +kernel
theorem dX5_instruction_146 : decode cX5_instruction 146 = .ok (.aload_n 0, 1) := by decide +kernel
theorem dX5_instruction_147 : decode cX5_instruction 147 = .ok (.dup, 1) := by decide +kernel
theorem dX5_instruction_148 : decode cX5_instruction 148 = .ok (.getfield 106, 3) := by decide +kernel
theorem dX5_instruction_151 : decode cX5_instruction 151 = .ok (.iconst 1, 1) := by decide +kernel
theorem dX5_instruction_152 : decode cX5_instruction 152 = .ok (.iadd, 1) := by decide +kernel
theorem dX5_instruction_153 : decode cX5_instruction 153 = .ok (.putfield 106, 3) := by decide +kernel
theorem dX5_instruction_156 : decode cX5_instruction 156 = .ok (.aload_n 0, 1) := by decide +kernel
theorem dX5_instruction_157 : decode cX5_instruction 157 = .ok (.getfield 106, 3) := by decide +kernel
theorem dX5_instruction_160 : decode cX5_instruction 160 = .ok (.iconst 1, 1) := by decide +kernel
theorem dX5_instruction_161 : decode cX5_instruction 161 = .ok (.isub, 1) := by decide +kernel
theorem dX5_instruction_162 : decode cX5_instruction 162 = .ok (.ireturn, 1) := by decide +kernel
theorem dX5_leave_0 : decode cX5_leave 0 = .ok (.aload_n 0, 1) := by decide +kernel
theorem dX5_leave_1 : decode cX5_leave 1 = .ok (.getfield 38, 3) := by decide +kernel
theorem dX5_leave_4 : decode cX5_leave 4 = .ok (.iload_n 1, 1) := by decide +kernel
theorem dX5_leave_5 : decode cX5_leave 5 = .ok (.iconst 0, 1) := by decide +kernel
theorem dX5_leave_6 : decode cX5_leave 6 = .ok (.iastore, 1) := by decide +kernel
theorem dX5_leave_7 : decode cX5_leave 7 = .ok (.aload_n 0, 1) := by decide +kernel
theorem dX5_leave_8 : decode cX5_leave 8 = .ok (.getfield 41, 3) := by decide +kernel
theorem dX5_leave_11 : decode cX5_leave 11 = .ok (.iload_n 1, 1) := by decide +kernel
theorem dX5_leave_12 : decode cX5_leave 12 = .ok (.iconst 0, 1) := by decide +kernel
theorem dX5_leave_13 : decode cX5_leave 13 = .ok (.iastore, 1) := by decide +kernel
theorem dX5_leave_14 : decode cX5_leave 14 = .ok (.aload_n 0, 1) := by decide +kernel
theorem dX5_leave_15 : decode cX5_leave 15 = .ok (.getfield 53, 3) := by decide +kernel
theorem dX5_leave_18 : decode cX5_leave 18 = .ok (.iload_n 1, 1) := by decide +kernel
theorem dX5_leave_19 : decode cX5_leave 19 = .ok (.iconst 0, 1) := by decide +kernel
theorem dX5_leave_20 : decode cX5_leave 20 = .ok (.iastore, 1) := by decide +kernel
theorem dX5_leave_21 : decode cX5_leave 21 = .ok (.aload_n 0, 1) := by decide +kernel
theorem dX5_leave_22 : decode cX5_leave 22 = .ok (.getfield 56, 3) := by decide +kernel
theorem dX5_leave_25 : decode cX5_leave 25 = .ok (.iload_n 1, 1) := by decide +kernel
theorem dX5_leave_26 : decode cX5_leave 26 = .ok (.iconst 0, 1) := by decide +kernel
theorem dX5_leave_27 : decode cX5_leave 27 = .ok (.iastore, 1) := by decide +kernel
theorem dX5_leave_28 : decode cX5_leave 28 = .ok (.aload_n 0, 1) := by decide +kernel
theorem dX5_leave_29 : decode cX5_leave 29 = .ok (.getfield 59, 3) := by decide +kernel
theorem dX5_leave_32 : decode cX5_leave 32 = .ok (.iload_n 1, 1) := by decide +kernel
theorem dX5_leave_33 : decode cX5_leave 33 = .ok (.lconst 0, 1) := by decide +kernel
theorem dX5_leave_34 : decode cX5_leave 34 = .ok (.lastore, 1) := by decide +kernel
theorem dX5_leave_35 : decode cX5_leave 35 = .ok (.return_, 1) := by decide +kernel
set_option maxRecDepth 20000 in
theorem ggX5_start_X5_isIn : GoodIn wsX5_start wsX5_isIn := goodIn_r _ [8] (by decide +kernel) (by decide +kernel)
set_option maxRecDepth 20000 in
theorem gX5_start_X5_isIn : GoodIn wsX5_start (va_wsS RX5 92 yX5_isIn wsX5_isIn) := goodIn_app (goodIn_of _ (by decide +kernel)) ggX5_start_X5_isIn
set_option maxRecDepth 20000 in
theorem ggX5_start_X5_leave : GoodIn wsX5_start wsX5_leave := goodIn_r _ [12, 13, 14, 15, 16, 17, 18, 19, 20, 21, 22, 23, 24, 25, 26, 27, 28, 29, 30, 31, 32, 33, 34, 35, 36, 37, 38, 39, 40, 41, 42, 43, 44, 45, 46] (by decide +kernel) (by decide +kernel)
set_option maxRecDepth 20000 in
theorem gX5_start_X5_leave : GoodIn wsX5_start (wsV RX5 109 RX5 yX5_leave wsX5_leave) := goodIn_app (goodIn_of _ (by decide +kernel)) ggX5_start_X5_leave
theorem dX5_start_0 : decode cX5_start 0 = .ok (.aload_n 0, 1) := by decide +kernel
theorem dX5_start_1 : decode cX5_start 1 = .ok (.iload_n 1, 1) := by decide +kernel
theorem dX5_start_2 : decode cX5_start 2 = .ok (.aload_n 0, 1) := by decide +kernel
theorem dX5_start_3 : decode cX5_start 3 = .ok (.getfield 79, 3) := by decide +kernel
theorem dX5_start_6 : decode cX5_start 6 = .ok (.invokestatic 92, 3) := by decide +kernel
theorem dX5_start_9 : decode cX5_start 9 = .ok (.ifCond .ne 7, 3) := by decide +kernel
theorem dX5_start_12 : decode cX5_start 12 = .ok (.iconst 1, 1) := by decide +kernel
theorem dX5_start_13 : decode cX5_start 13 = .ok (.goto 18, 3) := by decide +kernel
theorem dX5_start_16 : decode cX5_start 16 = .ok (.iload_n 2, 1) := by decide +kernel
theorem dX5_start_17 : decode cX5_start 17 = .ok (.ifCond .lt 9, 3) := by decide +kernel
theorem dX5_start_20 : decode cX5_start 20 = .ok (.iload_n 2, 1) := by decide +kernel
theorem dX5_start_21 : decode cX5_start 21 = .ok (.bipush 80, 2) := by decide +kernel
theorem dX5_start_23 : decode cX5_start 23 = .ok (.if_icmp .le 7, 3) := by decide +kernel
