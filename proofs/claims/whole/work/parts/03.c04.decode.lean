theorem dX5_start_26 : decode cX5_start 26 = .ok (.iconst 2, 1) := by decide +kernel
theorem dX5_start_27 : decode cX5_start 27 = .ok (.goto 4, 3) := by decide +kernel
theorem dX5_start_30 : decode cX5_start 30 = .ok (.iconst 0, 1) := by decide +kernel
theorem dX5_start_31 : decode cX5_start 31 = .ok (.putfield 89, 3) := by decide +kernel
theorem dX5_start_34 : decode cX5_start 34 = .ok (.aload_n 0, 1) := by decide +kernel
theorem dX5_start_35 : decode cX5_start 35 = .ok (.getfield 89, 3) := by decide +kernel
theorem dX5_start_38 : decode cX5_start 38 = .ok (.ifCond .le 5, 3) := by decide +kernel
theorem dX5_start_41 : decode cX5_start 41 = .ok (.iconst 0, 1) := by decide +kernel
theorem dX5_start_42 : decode cX5_start 42 = .ok (.ireturn, 1) := by decide +kernel
theorem dX5_start_43 : decode cX5_start 43 = .ok (.aload_n 0, 1) := by decide +kernel
theorem dX5_start_44 : decode cX5_start 44 = .ok (.getfield 25, 3) := by decide +kernel
theorem dX5_start_47 : decode cX5_start 47 = .ok (.iload_n 1, 1) := by decide +kernel
theorem dX5_start_48 : decode cX5_start 48 = .ok (.iaload, 1) := by decide +kernel
theorem dX5_start_49 : decode cX5_start 49 = .ok (.istore_n 3, 1) := by decide +kernel
theorem dX5_start_50 : decode cX5_start 50 = .ok (.aload_n 0, 1) := by decide +kernel
theorem dX5_start_51 : decode cX5_start 51 = .ok (.getfield 25, 3) := by decide +kernel
theorem dX5_start_54 : decode cX5_start 54 = .ok (.iload_n 1, 1) := by decide +kernel
theorem dX5_start_55 : decode cX5_start 55 = .ok (.iload_n 2, 1) := by decide +kernel
theorem dX5_start_56 : decode cX5_start 56 = .ok (.iastore, 1) := by decide +kernel
theorem dX5_start_57 : decode cX5_start 57 = .ok (.aload_n 0, 1) := by decide +kernel
theorem dX5_start_58 : decode cX5_start 58 = .ok (.getfield 28, 3) := by decide +kernel
theorem dX5_start_61 : decode cX5_start 61 = .ok (.iload_n 1, 1) := by decide +kernel
theorem dX5_start_62 : decode cX5_start 62 = .ok (.iconst 0, 1) := by decide +kernel
theorem dX5_start_63 : decode cX5_start 63 = .ok (.bastore, 1) := by decide +kernel
theorem dX5_start_64 : decode cX5_start 64 = .ok (.aload_n 0, 1) := by decide +kernel
theorem dX5_start_65 : decode cX5_start 65 = .ok (.iload_n 1, 1) := by decide +kernel
theorem dX5_start_66 : decode cX5_start 66 = .ok (.invokevirtual 109, 3) := by decide +kernel
theorem dX5_start_69 : decode cX5_start 69 = .ok (.iload_n 3, 1) := by decide +kernel
theorem dX5_start_70 : decode cX5_start 70 = .ok (.ireturn, 1) := by decide +kernel
theorem dX5_get_0 : decode cX5_get 0 = .ok (.iload_n 2, 1) := by decide +kernel
theorem dX5_get_1 : decode cX5_get 1 = .ok (.ifCond .ne 7, 3) := by decide +kernel
theorem dX5_get_4 : decode cX5_get 4 = .ok (.iconst 0, 1) := by decide +kernel
theorem dX5_get_5 : decode cX5_get 5 = .ok (.goto 14, 3) := by decide +kernel
theorem dX5_get_8 : decode cX5_get 8 = .ok (.aload_n 0, 1) := by decide +kernel
theorem dX5_get_9 : decode cX5_get 9 = .ok (.getfield 35, 3) := by decide +kernel
theorem dX5_get_12 : decode cX5_get 12 = .ok (.bipush 8, 2) := by decide +kernel
theorem dX5_get_14 : decode cX5_get 14 = .ok (.iload_n 1, 1) := by decide +kernel
theorem dX5_get_15 : decode cX5_get 15 = .ok (.imul, 1) := by decide +kernel
theorem dX5_get_16 : decode cX5_get 16 = .ok (.iload_n 2, 1) := by decide +kernel
theorem dX5_get_17 : decode cX5_get 17 = .ok (.iadd, 1) := by decide +kernel
theorem dX5_get_18 : decode cX5_get 18 = .ok (.iaload, 1) := by decide +kernel
theorem dX5_get_19 : decode cX5_get 19 = .ok (.ireturn, 1) := by decide +kernel
theorem dX5_give_0 : decode cX5_give 0 = .ok (.iload_n 2, 1) := by decide +kernel
theorem dX5_give_1 : decode cX5_give 1 = .ok (.ifCond .eq 15, 3) := by decide +kernel
theorem dX5_give_4 : decode cX5_give 4 = .ok (.aload_n 0, 1) := by decide +kernel
theorem dX5_give_5 : decode cX5_give 5 = .ok (.getfield 35, 3) := by decide +kernel
theorem dX5_give_8 : decode cX5_give 8 = .ok (.bipush 8, 2) := by decide +kernel
theorem dX5_give_10 : decode cX5_give 10 = .ok (.iload_n 1, 1) := by decide +kernel
theorem dX5_give_11 : decode cX5_give 11 = .ok (.imul, 1) := by decide +kernel
theorem dX5_give_12 : decode cX5_give 12 = .ok (.iload_n 2, 1) := by decide +kernel
theorem dX5_give_13 : decode cX5_give 13 = .ok (.iadd, 1) := by decide +kernel
theorem dX5_give_14 : decode cX5_give 14 = .ok (.iload_n 3, 1) := by decide +kernel
theorem dX5_give_15 : decode cX5_give 15 = .ok (.iastore, 1) := by decide +kernel
theorem dX5_give_16 : decode cX5_give 16 = .ok (.return_, 1) := by decide +kernel
set_option maxRecDepth 20000 in
theorem ggX5_set_X5_isIn : GoodIn wsX5_set wsX5_isIn := goodIn_r _ [6] (by decide +kernel) (by decide +kernel)
set_option maxRecDepth 20000 in
theorem gX5_set_X5_isIn : GoodIn wsX5_set (va_wsS RX5 92 yX5_isIn wsX5_isIn) := goodIn_app (goodIn_of _ (by decide +kernel)) ggX5_set_X5_isIn
set_option maxRecDepth 20000 in
theorem ggX5_set_X5_get : GoodIn wsX5_set wsX5_get := goodIn_r _ [10, 11, 16, 17, 18, 19, 20, 21, 22, 23, 24, 25, 26, 27, 28, 29, 30, 31, 32, 33, 34, 35, 36, 37, 38, 39, 40, 41, 42, 43, 44] (by decide +kernel) (by decide +kernel)
set_option maxRecDepth 20000 in
theorem gX5_set_X5_get : GoodIn wsX5_set (wsV RX5 113 RX5 yX5_get wsX5_get) := goodIn_app (goodIn_of _ (by decide +kernel)) ggX5_set_X5_get
set_option maxRecDepth 20000 in
theorem ggX5_set_X5_give : GoodIn wsX5_set wsX5_give := goodIn_r _ [15, 11, 16, 17, 18, 19, 20, 21, 22, 23, 24, 25, 26, 27, 28, 29, 30, 31, 32, 33, 34, 35, 36, 37, 38, 39, 40, 41, 42, 43, 44] (by decide +kernel) (by decide +kernel)
set_option maxRecDepth 20000 in
theorem gX5_set_X5_give : GoodIn wsX5_set (wsV RX5 117 RX5 yX5_give wsX5_give) := goodIn_app (goodIn_of _ (by decide +kernel)) ggX5_set_X5_give
theorem dX5_set_0 : decode cX5_set 0 = .ok (.aload_n 0, 1) := by decide +kernel
theorem dX5_set_1 : decode cX5_set 1 = .ok (.iload_n 1, 1) := by decide +kernel
theorem dX5_set_2 : decode cX5_set 2 = .ok (.aload_n 0, 1) := by decide +kernel
theorem dX5_set_3 : decode cX5_set 3 = .ok (.getfield 79, 3) := by decide +kernel
theorem dX5_set_6 : decode cX5_set 6 = .ok (.invokestatic 92, 3) := by decide +kernel
theorem dX5_set_9 : decode cX5_set 9 = .ok (.ifCond .eq 16, 3) := by decide +kernel
theorem dX5_set_12 : decode cX5_set 12 = .ok (.iload_n 2, 1) := by decide +kernel
theorem dX5_set_13 : decode cX5_set 13 = .ok (.bipush 8, 2) := by decide +kernel
theorem dX5_set_15 : decode cX5_set 15 = .ok (.invokestatic 92, 3) := by decide +kernel
theorem dX5_set_18 : decode cX5_set 18 = .ok (.ifCond .eq 7, 3) := by decide +kernel
theorem dX5_set_21 : decode cX5_set 21 = .ok (.iconst 0, 1) := by decide +kernel
theorem dX5_set_22 : decode cX5_set 22 = .ok (.goto 4, 3) := by decide +kernel
theorem dX5_set_25 : decode cX5_set 25 = .ok (.iconst 1, 1) := by decide +kernel
theorem dX5_set_26 : decode cX5_set 26 = .ok (.putfield 89, 3) := by decide +kernel
theorem dX5_set_29 : decode cX5_set 29 = .ok (.aload_n 0, 1) := by decide +kernel
theorem dX5_set_30 : decode cX5_set 30 = .ok (.getfield 89, 3) := by decide +kernel
theorem dX5_set_33 : decode cX5_set 33 = .ok (.ifCond .le 5, 3) := by decide +kernel
theorem dX5_set_36 : decode cX5_set 36 = .ok (.iconst 0, 1) := by decide +kernel
theorem dX5_set_37 : decode cX5_set 37 = .ok (.ireturn, 1) := by decide +kernel
theorem dX5_set_38 : decode cX5_set 38 = .ok (.aload_n 0, 1) := by decide +kernel
theorem dX5_set_39 : decode cX5_set 39 = .ok (.iload_n 1, 1) := by decide +kernel
theorem dX5_set_40 : decode cX5_set 40 = .ok (.iload_n 2, 1) := by decide +kernel
theorem dX5_set_41 : decode cX5_set 41 = .ok (.invokevirtual 113, 3) := by decide +kernel
theorem dX5_set_44 : decode cX5_set 44 = .ok (.istore 4, 2) := by decide +kernel
theorem dX5_set_46 : decode cX5_set 46 = .ok (.aload_n 0, 1) := by decide +kernel
theorem dX5_set_47 : decode cX5_set 47 = .ok (.iload_n 1, 1) := by decide +kernel
theorem dX5_set_48 : decode cX5_set 48 = .ok (.iload_n 2, 1) := by decide +kernel
theorem dX5_set_49 : decode cX5_set 49 = .ok (.iload_n 3, 1) := by decide +kernel
theorem dX5_set_50 : decode cX5_set 50 = .ok (.invokevirtual 117, 3) := by decide +kernel
theorem dX5_set_53 : decode cX5_set 53 = .ok (.iload 4, 2) := by decide +kernel
theorem dX5_set_55 : decode cX5_set 55 = .ok (.ireturn, 1) := by decide +kernel
set_option maxRecDepth 20000 in
theorem ggX5_breakOff_X5_leave : GoodIn wsX5_breakOff wsX5_leave := goodIn_r _ [14, 15, 4, 16, 17, 18, 19, 20, 21, 22, 23, 24, 25, 26, 27, 28, 29, 30, 31, 32, 33, 34, 35, 36, 37, 38, 39, 40, 41, 42, 43, 44, 45, 46, 47] (by decide +kernel) (by decide +kernel)
set_option maxRecDepth 20000 in
theorem gX5_breakOff_X5_leave : GoodIn wsX5_breakOff (wsV RX5 109 RX5 yX5_leave wsX5_leave) := goodIn_app (goodIn_of _ (by decide +kernel)) ggX5_breakOff_X5_leave
theorem dX5_breakOff_0 : decode cX5_breakOff 0 = .ok (.aload_n 0, 1) := by decide +kernel
theorem dX5_breakOff_1 : decode cX5_breakOff 1 = .ok (.getfield 121, 3) := by decide +kernel
theorem dX5_breakOff_4 : decode cX5_breakOff 4 = .ok (.bipush 100, 2) := by decide +kernel
theorem dX5_breakOff_6 : decode cX5_breakOff 6 = .ok (.if_icmp .ne 42, 3) := by decide +kernel
theorem dX5_breakOff_9 : decode cX5_breakOff 9 = .ok (.iconst 0, 1) := by decide +kernel
theorem dX5_breakOff_10 : decode cX5_breakOff 10 = .ok (.istore_n 3, 1) := by decide +kernel
theorem dX5_breakOff_11 : decode cX5_breakOff 11 = .ok (.iload_n 3, 1) := by decide +kernel
theorem dX5_breakOff_12 : decode cX5_breakOff 12 = .ok (.sipush 396, 3) := by decide +kernel
theorem dX5_breakOff_15 : decode cX5_breakOff 15 = .ok (.if_icmp .ge 23, 3) := by decide +kernel
theorem dX5_breakOff_18 : decode cX5_breakOff 18 = .ok (.aload_n 0, 1) := by decide +kernel
theorem dX5_breakOff_19 : decode cX5_breakOff 19 = .ok (.getfield 72, 3) := by decide +kernel
theorem dX5_breakOff_22 : decode cX5_breakOff 22 = .ok (.iload_n 3, 1) := by decide +kernel
theorem dX5_breakOff_23 : decode cX5_breakOff 23 = .ok (.aload_n 0, 1) := by decide +kernel
theorem dX5_breakOff_24 : decode cX5_breakOff 24 = .ok (.getfield 72, 3) := by decide +kernel
theorem dX5_breakOff_27 : decode cX5_breakOff 27 = .ok (.iload_n 3, 1) := by decide +kernel
theorem dX5_breakOff_28 : decode cX5_breakOff 28 = .ok (.iconst 4, 1) := by decide +kernel
theorem dX5_breakOff_29 : decode cX5_breakOff 29 = .ok (.iadd, 1) := by decide +kernel
theorem dX5_breakOff_30 : decode cX5_breakOff 30 = .ok (.iaload, 1) := by decide +kernel
theorem dX5_breakOff_31 : decode cX5_breakOff 31 = .ok (.iastore, 1) := by decide +kernel
theorem dX5_breakOff_32 : decode cX5_breakOff 32 = .ok (.iinc 3 1, 3) := by decide +kernel
theorem dX5_breakOff_35 : decode cX5_breakOff 35 = .ok (.goto (-24), 3) := by decide +kernel
theorem dX5_breakOff_38 : decode cX5_breakOff 38 = .ok (.aload_n 0, 1) := by decide +kernel
theorem dX5_breakOff_39 : decode cX5_breakOff 39 = .ok (.dup, 1) := by decide +kernel
theorem dX5_breakOff_40 : decode cX5_breakOff 40 = .ok (.getfield 121, 3) := by decide +kernel
theorem dX5_breakOff_43 : decode cX5_breakOff 43 = .ok (.iconst 1, 1) := by decide +kernel
theorem dX5_breakOff_44 : decode cX5_breakOff 44 = .ok (.isub, 1) := by decide +kernel
theorem dX5_breakOff_45 : decode cX5_breakOff 45 = .ok (.putfield 121, 3) := by decide +kernel
theorem dX5_breakOff_48 : decode cX5_breakOff 48 = .ok (.aload_n 0, 1) := by decide +kernel
theorem dX5_breakOff_49 : decode cX5_breakOff 49 = .ok (.getfield 72, 3) := by decide +kernel
theorem dX5_breakOff_52 : decode cX5_breakOff 52 = .ok (.iconst 4, 1) := by decide +kernel
theorem dX5_breakOff_53 : decode cX5_breakOff 53 = .ok (.aload_n 0, 1) := by decide +kernel
theorem dX5_breakOff_54 : decode cX5_breakOff 54 = .ok (.getfield 121, 3) := by decide +kernel
theorem dX5_breakOff_57 : decode cX5_breakOff 57 = .ok (.imul, 1) := by decide +kernel
theorem dX5_breakOff_58 : decode cX5_breakOff 58 = .ok (.iload_n 1, 1) := by decide +kernel
theorem dX5_breakOff_59 : decode cX5_breakOff 59 = .ok (.iastore, 1) := by decide +kernel
theorem dX5_breakOff_60 : decode cX5_breakOff 60 = .ok (.aload_n 0, 1) := by decide +kernel
theorem dX5_breakOff_61 : decode cX5_breakOff 61 = .ok (.getfield 72, 3) := by decide +kernel
theorem dX5_breakOff_64 : decode cX5_breakOff 64 = .ok (.iconst 4, 1) := by decide +kernel
theorem dX5_breakOff_65 : decode cX5_breakOff 65 = .ok (.aload_n 0, 1) := by decide +kernel
theorem dX5_breakOff_66 : decode cX5_breakOff 66 = .ok (.getfield 121, 3) := by decide +kernel
theorem dX5_breakOff_69 : decode cX5_breakOff 69 = .ok (.imul, 1) := by decide +kernel
theorem dX5_breakOff_70 : decode cX5_breakOff 70 = .ok (.iconst 1, 1) := by decide +kernel
theorem dX5_breakOff_71 : decode cX5_breakOff 71 = .ok (.iadd, 1) := by decide +kernel
theorem dX5_breakOff_72 : decode cX5_breakOff 72 = .ok (.aload_n 0, 1) := by decide +kernel
theorem dX5_breakOff_73 : decode cX5_breakOff 73 = .ok (.getfield 44, 3) := by decide +kernel
theorem dX5_breakOff_76 : decode cX5_breakOff 76 = .ok (.iload_n 1, 1) := by decide +kernel
theorem dX5_breakOff_77 : decode cX5_breakOff 77 = .ok (.iaload, 1) := by decide +kernel
theorem dX5_breakOff_78 : decode cX5_breakOff 78 = .ok (.iastore, 1) := by decide +kernel
theorem dX5_breakOff_79 : decode cX5_breakOff 79 = .ok (.aload_n 0, 1) := by decide +kernel
theorem dX5_breakOff_80 : decode cX5_breakOff 80 = .ok (.getfield 72, 3) := by decide +kernel
theorem dX5_breakOff_83 : decode cX5_breakOff 83 = .ok (.iconst 4, 1) := by decide +kernel
theorem dX5_breakOff_84 : decode cX5_breakOff 84 = .ok (.aload_n 0, 1) := by decide +kernel
theorem dX5_breakOff_85 : decode cX5_breakOff 85 = .ok (.getfield 121, 3) := by decide +kernel
theorem dX5_breakOff_88 : decode cX5_breakOff 88 = .ok (.imul, 1) := by decide +kernel
theorem dX5_breakOff_89 : decode cX5_breakOff 89 = .ok (.iconst 2, 1) := by decide +kernel
theorem dX5_breakOff_90 : decode cX5_breakOff 90 = .ok (.iadd, 1) := by decide +kernel
theorem dX5_breakOff_91 : decode cX5_breakOff 91 = .ok (.iload_n 2, 1) := by decide +kernel
theorem dX5_breakOff_92 : decode cX5_breakOff 92 = .ok (.iastore, 1) := by decide +kernel
theorem dX5_breakOff_93 : decode cX5_breakOff 93 = .ok (.aload_n 0, 1) := by decide +kernel
theorem dX5_breakOff_94 : decode cX5_breakOff 94 = .ok (.getfield 72, 3) := by decide +kernel
theorem dX5_breakOff_97 : decode cX5_breakOff 97 = .ok (.iconst 4, 1) := by decide +kernel
theorem dX5_breakOff_98 : decode cX5_breakOff 98 = .ok (.aload_n 0, 1) := by decide +kernel
theorem dX5_breakOff_99 : decode cX5_breakOff 99 = .ok (.getfield 121, 3) := by decide +kernel
theorem dX5_breakOff_102 : decode cX5_breakOff 102 = .ok (.imul, 1) := by decide +kernel
theorem dX5_breakOff_103 : decode cX5_breakOff 103 = .ok (.iconst 3, 1) := by decide +kernel
theorem dX5_breakOff_104 : decode cX5_breakOff 104 = .ok (.iadd, 1) := by decide +kernel
theorem dX5_breakOff_105 : decode cX5_breakOff 105 = .ok (.aload_n 0, 1) := by decide +kernel
theorem dX5_breakOff_106 : decode cX5_breakOff 106 = .ok (.getfield 41, 3) := by decide +kernel
theorem dX5_breakOff_109 : decode cX5_breakOff 109 = .ok (.iload_n 1, 1) := by decide +kernel
theorem dX5_breakOff_110 : decode cX5_breakOff 110 = .ok (.iaload, 1) := by decide +kernel
theorem dX5_breakOff_111 : decode cX5_breakOff 111 = .ok (.iastore, 1) := by decide +kernel
theorem dX5_breakOff_112 : decode cX5_breakOff 112 = .ok (.aload_n 0, 1) := by decide +kernel
theorem dX5_breakOff_113 : decode cX5_breakOff 113 = .ok (.dup, 1) := by decide +kernel
theorem dX5_breakOff_114 : decode cX5_breakOff 114 = .ok (.getfield 121, 3) := by decide +kernel
theorem dX5_breakOff_117 : decode cX5_breakOff 117 = .ok (.iconst 1, 1) := by decide +kernel
theorem dX5_breakOff_118 : decode cX5_breakOff 118 = .ok (.iadd, 1) := by decide +kernel
theorem dX5_breakOff_119 : decode cX5_breakOff 119 = .ok (.putfield 121, 3) := by decide +kernel
theorem dX5_breakOff_122 : decode cX5_breakOff 122 = .ok (.iconst 1, 1) := by decide +kernel
theorem dX5_breakOff_123 : decode cX5_breakOff 123 = .ok (.istore_n 3, 1) := by decide +kernel
theorem dX5_breakOff_124 : decode cX5_breakOff 124 = .ok (.iload_n 3, 1) := by decide +kernel
theorem dX5_breakOff_125 : decode cX5_breakOff 125 = .ok (.bipush 8, 2) := by decide +kernel
theorem dX5_breakOff_127 : decode cX5_breakOff 127 = .ok (.if_icmp .ge 31, 3) := by decide +kernel
theorem dX5_breakOff_130 : decode cX5_breakOff 130 = .ok (.aload_n 0, 1) := by decide +kernel
theorem dX5_breakOff_131 : decode cX5_breakOff 131 = .ok (.getfield 35, 3) := by decide +kernel
theorem dX5_breakOff_134 : decode cX5_breakOff 134 = .ok (.bipush 8, 2) := by decide +kernel
theorem dX5_breakOff_136 : decode cX5_breakOff 136 = .ok (.iload_n 1, 1) := by decide +kernel
theorem dX5_breakOff_137 : decode cX5_breakOff 137 = .ok (.imul, 1) := by decide +kernel
theorem dX5_breakOff_138 : decode cX5_breakOff 138 = .ok (.iload_n 3, 1) := by decide +kernel
theorem dX5_breakOff_139 : decode cX5_breakOff 139 = .ok (.iadd, 1) := by decide +kernel
theorem dX5_breakOff_140 : decode cX5_breakOff 140 = .ok (.aload_n 0, 1) := by decide +kernel
theorem dX5_breakOff_141 : decode cX5_breakOff 141 = .ok (.getfield 50, 3) := by decide +kernel
theorem dX5_breakOff_144 : decode cX5_breakOff 144 = .ok (.bipush 8, 2) := by decide +kernel
theorem dX5_breakOff_146 : decode cX5_breakOff 146 = .ok (.iload_n 1, 1) := by decide +kernel
theorem dX5_breakOff_147 : decode cX5_breakOff 147 = .ok (.imul, 1) := by decide +kernel
theorem dX5_breakOff_148 : decode cX5_breakOff 148 = .ok (.iload_n 3, 1) := by decide +kernel
theorem dX5_breakOff_149 : decode cX5_breakOff 149 = .ok (.iadd, 1) := by decide +kernel
theorem dX5_breakOff_150 : decode cX5_breakOff 150 = .ok (.iaload, 1) := by decide +kernel
theorem dX5_breakOff_151 : decode cX5_breakOff 151 = .ok (.iastore, 1) := by decide +kernel
theorem dX5_breakOff_152 : decode cX5_breakOff 152 = .ok (.iinc 3 1, 3) := by decide +kernel
theorem dX5_breakOff_155 : decode cX5_breakOff 155 = .ok (.goto (-31), 3) := by decide +kernel
theorem dX5_breakOff_158 : decode cX5_breakOff 158 = .ok (.aload_n 0, 1) := by decide +kernel
theorem dX5_breakOff_159 : decode cX5_breakOff 159 = .ok (.getfield 35, 3) := by decide +kernel
theorem dX5_breakOff_162 : decode cX5_breakOff 162 = .ok (.bipush 8, 2) := by decide +kernel
theorem dX5_breakOff_164 : decode cX5_breakOff 164 = .ok (.iload_n 1, 1) := by decide +kernel
theorem dX5_breakOff_165 : decode cX5_breakOff 165 = .ok (.imul, 1) := by decide +kernel
theorem dX5_breakOff_166 : decode cX5_breakOff 166 = .ok (.iconst 1, 1) := by decide +kernel
theorem dX5_breakOff_167 : decode cX5_breakOff 167 = .ok (.iadd, 1) := by decide +kernel
theorem dX5_breakOff_168 : decode cX5_breakOff 168 = .ok (.iload_n 2, 1) := by decide +kernel
theorem dX5_breakOff_169 : decode cX5_breakOff 169 = .ok (.iastore, 1) := by decide +kernel
theorem dX5_breakOff_170 : decode cX5_breakOff 170 = .ok (.aload_n 0, 1) := by decide +kernel
theorem dX5_breakOff_171 : decode cX5_breakOff 171 = .ok (.getfield 25, 3) := by decide +kernel
theorem dX5_breakOff_174 : decode cX5_breakOff 174 = .ok (.iload_n 1, 1) := by decide +kernel
theorem dX5_breakOff_175 : decode cX5_breakOff 175 = .ok (.aload_n 0, 1) := by decide +kernel
theorem dX5_breakOff_176 : decode cX5_breakOff 176 = .ok (.getfield 47, 3) := by decide +kernel
theorem dX5_breakOff_179 : decode cX5_breakOff 179 = .ok (.iload_n 1, 1) := by decide +kernel
theorem dX5_breakOff_180 : decode cX5_breakOff 180 = .ok (.iaload, 1) := by decide +kernel
theorem dX5_breakOff_181 : decode cX5_breakOff 181 = .ok (.iastore, 1) := by decide +kernel
theorem dX5_breakOff_182 : decode cX5_breakOff 182 = .ok (.aload_n 0, 1) := by decide +kernel
theorem dX5_breakOff_183 : decode cX5_breakOff 183 = .ok (.getfield 69, 3) := by decide +kernel
theorem dX5_breakOff_186 : decode cX5_breakOff 186 = .ok (.iload_n 1, 1) := by decide +kernel
theorem dX5_breakOff_187 : decode cX5_breakOff 187 = .ok (.dup2, 1) := by decide +kernel
theorem dX5_breakOff_188 : decode cX5_breakOff 188 = .ok (.iaload, 1) := by decide +kernel
theorem dX5_breakOff_189 : decode cX5_breakOff 189 = .ok (.iconst 1, 1) := by decide +kernel
theorem dX5_breakOff_190 : decode cX5_breakOff 190 = .ok (.iadd, 1) := by decide +kernel
theorem dX5_breakOff_191 : decode cX5_breakOff 191 = .ok (.iastore, 1) := by decide +kernel
theorem dX5_breakOff_192 : decode cX5_breakOff 192 = .ok (.aload_n 0, 1) := by decide +kernel
theorem dX5_breakOff_193 : decode cX5_breakOff 193 = .ok (.iload_n 1, 1) := by decide +kernel
theorem dX5_breakOff_194 : decode cX5_breakOff 194 = .ok (.invokevirtual 109, 3) := by decide +kernel
theorem dX5_breakOff_197 : decode cX5_breakOff 197 = .ok (.return_, 1) := by decide +kernel
set_option maxRecDepth 20000 in
theorem ggX5_breakOthers_X5_meets : GoodIn wsX5_breakOthers wsX5_meets := goodIn_r _ [6, 7, 8, 9, 28, 29, 30, 31, 32, 33, 34, 35, 36, 37, 38, 39, 40, 41, 42, 43, 44, 45, 46, 47, 48, 49, 50, 51, 52, 53, 54, 55, 56] (by decide +kernel) (by decide +kernel)
set_option maxRecDepth 20000 in
theorem gX5_breakOthers_X5_meets : GoodIn wsX5_breakOthers (wsV RX5 124 RX5 yX5_meets wsX5_meets) := goodIn_app (goodIn_of _ (by decide +kernel)) ggX5_breakOthers_X5_meets
set_option maxRecDepth 20000 in
theorem ggX5_breakOthers_X5_breakOff : GoodIn wsX5_breakOthers wsX5_breakOff := goodIn_r _ [13, 14, 15, 16, 17, 18, 19, 20, 21, 22, 23, 24, 25, 5, 26, 9, 7, 8, 27, 28, 29, 30, 31, 32, 33, 34, 35, 36, 37, 38, 39, 40, 41, 42, 43, 44, 45, 46, 47, 48, 49, 50, 51, 52, 53, 54, 55, 56] (by decide +kernel) (by decide +kernel)
set_option maxRecDepth 20000 in
theorem gX5_breakOthers_X5_breakOff : GoodIn wsX5_breakOthers (wsV RX5 128 RX5 yX5_breakOff wsX5_breakOff) := goodIn_app (goodIn_of _ (by decide +kernel)) ggX5_breakOthers_X5_breakOff
theorem dX5_breakOthers_0 : decode cX5_breakOthers 0 = .ok (.iconst 0, 1) := by decide +kernel
theorem dX5_breakOthers_1 : decode cX5_breakOthers 1 = .ok (.istore 4, 2) := by decide +kernel
theorem dX5_breakOthers_3 : decode cX5_breakOthers 3 = .ok (.iload 4, 2) := by decide +kernel
theorem dX5_breakOthers_5 : decode cX5_breakOthers 5 = .ok (.aload_n 0, 1) := by decide +kernel
theorem dX5_breakOthers_6 : decode cX5_breakOthers 6 = .ok (.getfield 79, 3) := by decide +kernel
theorem dX5_breakOthers_9 : decode cX5_breakOthers 9 = .ok (.if_icmp .ge 33, 3) := by decide +kernel
theorem dX5_breakOthers_12 : decode cX5_breakOthers 12 = .ok (.iload 4, 2) := by decide +kernel
theorem dX5_breakOthers_14 : decode cX5_breakOthers 14 = .ok (.iload_n 1, 1) := by decide +kernel
theorem dX5_breakOthers_15 : decode cX5_breakOthers 15 = .ok (.if_icmp .eq 21, 3) := by decide +kernel
theorem dX5_breakOthers_18 : decode cX5_breakOthers 18 = .ok (.aload_n 0, 1) := by decide +kernel
theorem dX5_breakOthers_19 : decode cX5_breakOthers 19 = .ok (.iload 4, 2) := by decide +kernel
theorem dX5_breakOthers_21 : decode cX5_breakOthers 21 = .ok (.iload_n 2, 1) := by decide +kernel
theorem dX5_breakOthers_22 : decode cX5_breakOthers 22 = .ok (.iload_n 3, 1) := by decide +kernel
theorem dX5_breakOthers_23 : decode cX5_breakOthers 23 = .ok (.invokevirtual 124, 3) := by decide +kernel
theorem dX5_breakOthers_26 : decode cX5_breakOthers 26 = .ok (.ifCond .eq 10, 3) := by decide +kernel
theorem dX5_breakOthers_29 : decode cX5_breakOthers 29 = .ok (.aload_n 0, 1) := by decide +kernel
theorem dX5_breakOthers_30 : decode cX5_breakOthers 30 = .ok (.iload 4, 2) := by decide +kernel
theorem dX5_breakOthers_32 : decode cX5_breakOthers 32 = .ok (.iconst 4, 1) := by decide +kernel
theorem dX5_breakOthers_33 : decode cX5_breakOthers 33 = .ok (.invokevirtual 128, 3) := by decide +kernel
theorem dX5_breakOthers_36 : decode cX5_breakOthers 36 = .ok (.iinc 4 1, 3) := by decide +kernel
theorem dX5_breakOthers_39 : decode cX5_breakOthers 39 = .ok (.goto (-36), 3) := by decide +kernel
theorem dX5_breakOthers_42 : decode cX5_breakOthers 42 = .ok (.return_, 1) := by decide +kernel
theorem dX5_meets_0 : decode cX5_meets 0 = .ok (.iload_n 3, 1) := by decide +kernel
theorem dX5_meets_1 : decode cX5_meets 1 = .ok (.ifCond .eq 19, 3) := by decide +kernel
theorem dX5_meets_4 : decode cX5_meets 4 = .ok (.aload_n 0, 1) := by decide +kernel
theorem dX5_meets_5 : decode cX5_meets 5 = .ok (.getfield 53, 3) := by decide +kernel
theorem dX5_meets_8 : decode cX5_meets 8 = .ok (.iload_n 1, 1) := by decide +kernel
theorem dX5_meets_9 : decode cX5_meets 9 = .ok (.iaload, 1) := by decide +kernel
theorem dX5_meets_10 : decode cX5_meets 10 = .ok (.aload_n 0, 1) := by decide +kernel
theorem dX5_meets_11 : decode cX5_meets 11 = .ok (.getfield 56, 3) := by decide +kernel
theorem dX5_meets_14 : decode cX5_meets 14 = .ok (.iload_n 1, 1) := by decide +kernel
theorem dX5_meets_15 : decode cX5_meets 15 = .ok (.iaload, 1) := by decide +kernel
theorem dX5_meets_16 : decode cX5_meets 16 = .ok (.ior, 1) := by decide +kernel
theorem dX5_meets_17 : decode cX5_meets 17 = .ok (.goto 9, 3) := by decide +kernel
theorem dX5_meets_20 : decode cX5_meets 20 = .ok (.aload_n 0, 1) := by decide +kernel
theorem dX5_meets_21 : decode cX5_meets 21 = .ok (.getfield 56, 3) := by decide +kernel
theorem dX5_meets_24 : decode cX5_meets 24 = .ok (.iload_n 1, 1) := by decide +kernel
theorem dX5_meets_25 : decode cX5_meets 25 = .ok (.iaload, 1) := by decide +kernel
theorem dX5_meets_26 : decode cX5_meets 26 = .ok (.istore 4, 2) := by decide +kernel
theorem dX5_meets_28 : decode cX5_meets 28 = .ok (.aload_n 0, 1) := by decide +kernel
theorem dX5_meets_29 : decode cX5_meets 29 = .ok (.getfield 38, 3) := by decide +kernel
theorem dX5_meets_32 : decode cX5_meets 32 = .ok (.iload_n 1, 1) := by decide +kernel
theorem dX5_meets_33 : decode cX5_meets 33 = .ok (.iaload, 1) := by decide +kernel
theorem dX5_meets_34 : decode cX5_meets 34 = .ok (.ifCond .le 17, 3) := by decide +kernel
theorem dX5_meets_37 : decode cX5_meets 37 = .ok (.iload 4, 2) := by decide +kernel
theorem dX5_meets_39 : decode cX5_meets 39 = .ok (.iload_n 2, 1) := by decide +kernel
theorem dX5_meets_40 : decode cX5_meets 40 = .ok (.ishr, 1) := by decide +kernel
theorem dX5_meets_41 : decode cX5_meets 41 = .ok (.iconst 1, 1) := by decide +kernel
theorem dX5_meets_42 : decode cX5_meets 42 = .ok (.iand, 1) := by decide +kernel
theorem dX5_meets_43 : decode cX5_meets 43 = .ok (.iconst 1, 1) := by decide +kernel
theorem dX5_meets_44 : decode cX5_meets 44 = .ok (.if_icmp .ne 7, 3) := by decide +kernel
theorem dX5_meets_47 : decode cX5_meets 47 = .ok (.iconst 1, 1) := by decide +kernel
theorem dX5_meets_48 : decode cX5_meets 48 = .ok (.goto 4, 3) := by decide +kernel
theorem dX5_meets_51 : decode cX5_meets 51 = .ok (.iconst 0, 1) := by decide +kernel
theorem dX5_meets_52 : decode cX5_meets 52 = .ok (.ireturn, 1) := by decide +kernel
set_option maxRecDepth 20000 in
theorem ggX5_poke_X5_isIn : GoodIn wsX5_poke wsX5_isIn := goodIn_r _ [6] (by decide +kernel) (by decide +kernel)
set_option maxRecDepth 20000 in
theorem gX5_poke_X5_isIn : GoodIn wsX5_poke (va_wsS RX5 92 yX5_isIn wsX5_isIn) := goodIn_app (goodIn_of _ (by decide +kernel)) ggX5_poke_X5_isIn
set_option maxRecDepth 20000 in
theorem ggX5_poke_X5_breakOthers : GoodIn wsX5_poke wsX5_breakOthers := goodIn_r _ [10, 11, 12, 13, 14, 5, 15, 16, 17, 18, 19, 20, 21, 22, 23, 24, 25, 26, 27, 28, 29, 30, 31, 32, 33, 34, 35, 36, 37, 38, 39, 40, 41, 42, 43, 44, 45, 46, 47, 48, 49, 50, 51, 52, 53, 54, 55, 56, 57, 58, 59, 60, 61, 62, 63, 64, 65] (by decide +kernel) (by decide +kernel)
set_option maxRecDepth 20000 in
theorem gX5_poke_X5_breakOthers : GoodIn wsX5_poke (wsV RX5 132 RX5 yX5_breakOthers wsX5_breakOthers) := goodIn_app (goodIn_of _ (by decide +kernel)) ggX5_poke_X5_breakOthers
theorem dX5_poke_0 : decode cX5_poke 0 = .ok (.aload_n 0, 1) := by decide +kernel
theorem dX5_poke_1 : decode cX5_poke 1 = .ok (.iload_n 1, 1) := by decide +kernel
theorem dX5_poke_2 : decode cX5_poke 2 = .ok (.bipush 64, 2) := by decide +kernel
theorem dX5_poke_4 : decode cX5_poke 4 = .ok (.invokestatic 92, 3) := by decide +kernel
theorem dX5_poke_7 : decode cX5_poke 7 = .ok (.ifCond .eq 7, 3) := by decide +kernel
theorem dX5_poke_10 : decode cX5_poke 10 = .ok (.iconst 0, 1) := by decide +kernel
theorem dX5_poke_11 : decode cX5_poke 11 = .ok (.goto 4, 3) := by decide +kernel
theorem dX5_poke_14 : decode cX5_poke 14 = .ok (.iconst 1, 1) := by decide +kernel
theorem dX5_poke_15 : decode cX5_poke 15 = .ok (.putfield 89, 3) := by decide +kernel
theorem dX5_poke_18 : decode cX5_poke 18 = .ok (.aload_n 0, 1) := by decide +kernel
theorem dX5_poke_19 : decode cX5_poke 19 = .ok (.getfield 89, 3) := by decide +kernel
theorem dX5_poke_22 : decode cX5_poke 22 = .ok (.ifCond .le 5, 3) := by decide +kernel
theorem dX5_poke_25 : decode cX5_poke 25 = .ok (.iconst 0, 1) := by decide +kernel
theorem dX5_poke_26 : decode cX5_poke 26 = .ok (.ireturn, 1) := by decide +kernel
theorem dX5_poke_27 : decode cX5_poke 27 = .ok (.aload_n 0, 1) := by decide +kernel
theorem dX5_poke_28 : decode cX5_poke 28 = .ok (.getfield 7, 3) := by decide +kernel
theorem dX5_poke_31 : decode cX5_poke 31 = .ok (.iload_n 1, 1) := by decide +kernel
theorem dX5_poke_32 : decode cX5_poke 32 = .ok (.iaload, 1) := by decide +kernel
theorem dX5_poke_33 : decode cX5_poke 33 = .ok (.istore_n 3, 1) := by decide +kernel
theorem dX5_poke_34 : decode cX5_poke 34 = .ok (.aload_n 0, 1) := by decide +kernel
theorem dX5_poke_35 : decode cX5_poke 35 = .ok (.iconst (-1), 1) := by decide +kernel
theorem dX5_poke_36 : decode cX5_poke 36 = .ok (.iload_n 1, 1) := by decide +kernel
theorem dX5_poke_37 : decode cX5_poke 37 = .ok (.iconst 4, 1) := by decide +kernel
theorem dX5_poke_38 : decode cX5_poke 38 = .ok (.idiv, 1) := by decide +kernel
theorem dX5_poke_39 : decode cX5_poke 39 = .ok (.iconst 1, 1) := by decide +kernel
theorem dX5_poke_40 : decode cX5_poke 40 = .ok (.invokevirtual 132, 3) := by decide +kernel
theorem dX5_poke_43 : decode cX5_poke 43 = .ok (.aload_n 0, 1) := by decide +kernel
theorem dX5_poke_44 : decode cX5_poke 44 = .ok (.getfield 7, 3) := by decide +kernel
theorem dX5_poke_47 : decode cX5_poke 47 = .ok (.iload_n 1, 1) := by decide +kernel
theorem dX5_poke_48 : decode cX5_poke 48 = .ok (.iload_n 2, 1) := by decide +kernel
theorem dX5_poke_49 : decode cX5_poke 49 = .ok (.iastore, 1) := by decide +kernel
theorem dX5_poke_50 : decode cX5_poke 50 = .ok (.iload_n 3, 1) := by decide +kernel
theorem dX5_poke_51 : decode cX5_poke 51 = .ok (.ireturn, 1) := by decide +kernel
theorem dX5_linesInSet_0 : decode cX5_linesInSet 0 = .ok (.iconst 0, 1) := by decide +kernel
theorem dX5_linesInSet_1 : decode cX5_linesInSet 1 = .ok (.istore_n 3, 1) := by decide +kernel
theorem dX5_linesInSet_2 : decode cX5_linesInSet 2 = .ok (.iload_n 2, 1) := by decide +kernel
theorem dX5_linesInSet_3 : decode cX5_linesInSet 3 = .ok (.aload_n 0, 1) := by decide +kernel
theorem dX5_linesInSet_4 : decode cX5_linesInSet 4 = .ok (.getfield 83, 3) := by decide +kernel
theorem dX5_linesInSet_7 : decode cX5_linesInSet 7 = .ok (.irem, 1) := by decide +kernel
theorem dX5_linesInSet_8 : decode cX5_linesInSet 8 = .ok (.istore 4, 2) := by decide +kernel
theorem dX5_linesInSet_10 : decode cX5_linesInSet 10 = .ok (.iload 4, 2) := by decide +kernel
theorem dX5_linesInSet_12 : decode cX5_linesInSet 12 = .ok (.bipush 16, 2) := by decide +kernel
theorem dX5_linesInSet_14 : decode cX5_linesInSet 14 = .ok (.if_icmp .ge 45, 3) := by decide +kernel
theorem dX5_linesInSet_17 : decode cX5_linesInSet 17 = .ok (.aload_n 0, 1) := by decide +kernel
theorem dX5_linesInSet_18 : decode cX5_linesInSet 18 = .ok (.getfield 53, 3) := by decide +kernel
theorem dX5_linesInSet_21 : decode cX5_linesInSet 21 = .ok (.iload_n 1, 1) := by decide +kernel
theorem dX5_linesInSet_22 : decode cX5_linesInSet 22 = .ok (.iaload, 1) := by decide +kernel
theorem dX5_linesInSet_23 : decode cX5_linesInSet 23 = .ok (.aload_n 0, 1) := by decide +kernel
theorem dX5_linesInSet_24 : decode cX5_linesInSet 24 = .ok (.getfield 56, 3) := by decide +kernel
theorem dX5_linesInSet_27 : decode cX5_linesInSet 27 = .ok (.iload_n 1, 1) := by decide +kernel
theorem dX5_linesInSet_28 : decode cX5_linesInSet 28 = .ok (.iaload, 1) := by decide +kernel
theorem dX5_linesInSet_29 : decode cX5_linesInSet 29 = .ok (.ior, 1) := by decide +kernel
theorem dX5_linesInSet_30 : decode cX5_linesInSet 30 = .ok (.iload 4, 2) := by decide +kernel
theorem dX5_linesInSet_32 : decode cX5_linesInSet 32 = .ok (.ishr, 1) := by decide +kernel
theorem dX5_linesInSet_33 : decode cX5_linesInSet 33 = .ok (.iconst 1, 1) := by decide +kernel
theorem dX5_linesInSet_34 : decode cX5_linesInSet 34 = .ok (.iand, 1) := by decide +kernel
theorem dX5_linesInSet_35 : decode cX5_linesInSet 35 = .ok (.iconst 1, 1) := by decide +kernel
theorem dX5_linesInSet_36 : decode cX5_linesInSet 36 = .ok (.if_icmp .ne 9, 3) := by decide +kernel
theorem dX5_linesInSet_39 : decode cX5_linesInSet 39 = .ok (.iload_n 3, 1) := by decide +kernel
theorem dX5_linesInSet_40 : decode cX5_linesInSet 40 = .ok (.iconst 1, 1) := by decide +kernel
theorem dX5_linesInSet_41 : decode cX5_linesInSet 41 = .ok (.iadd, 1) := by decide +kernel
theorem dX5_linesInSet_42 : decode cX5_linesInSet 42 = .ok (.goto 4, 3) := by decide +kernel
theorem dX5_linesInSet_45 : decode cX5_linesInSet 45 = .ok (.iload_n 3, 1) := by decide +kernel
theorem dX5_linesInSet_46 : decode cX5_linesInSet 46 = .ok (.istore_n 3, 1) := by decide +kernel
theorem dX5_linesInSet_47 : decode cX5_linesInSet 47 = .ok (.iload 4, 2) := by decide +kernel
theorem dX5_linesInSet_49 : decode cX5_linesInSet 49 = .ok (.aload_n 0, 1) := by decide +kernel
theorem dX5_linesInSet_50 : decode cX5_linesInSet 50 = .ok (.getfield 83, 3) := by decide +kernel
theorem dX5_linesInSet_53 : decode cX5_linesInSet 53 = .ok (.iadd, 1) := by decide +kernel
theorem dX5_linesInSet_54 : decode cX5_linesInSet 54 = .ok (.istore 4, 2) := by decide +kernel
theorem dX5_linesInSet_56 : decode cX5_linesInSet 56 = .ok (.goto (-46), 3) := by decide +kernel
theorem dX5_linesInSet_59 : decode cX5_linesInSet 59 = .ok (.iload_n 3, 1) := by decide +kernel
theorem dX5_linesInSet_60 : decode cX5_linesInSet 60 = .ok (.ireturn, 1) := by decide +kernel
set_option maxRecDepth 20000 in
theorem ggX5_comes_X5_meets : GoodIn wsX5_comes wsX5_meets := goodIn_r _ [11, 5, 4, 3, 38, 39, 40, 41, 42, 43, 44, 45, 46, 47, 48, 49, 50, 51, 52, 53, 54, 55, 56, 57, 58, 59, 60, 61, 62, 63, 64, 65, 66] (by decide +kernel) (by decide +kernel)
set_option maxRecDepth 20000 in
theorem gX5_comes_X5_meets : GoodIn wsX5_comes (wsV RX5 124 RX5 yX5_meets wsX5_meets) := goodIn_app (goodIn_of _ (by decide +kernel)) ggX5_comes_X5_meets
set_option maxRecDepth 20000 in
theorem ggX5_comes_X5_breakOff : GoodIn wsX5_comes wsX5_breakOff := goodIn_r _ [15, 16, 17, 18, 2, 19, 20, 21, 22, 23, 24, 25, 26, 10, 27, 3, 5, 4, 28, 38, 39, 40, 41, 42, 43, 44, 45, 46, 47, 48, 49, 50, 51, 52, 53, 54, 55, 56, 57, 58, 59, 60, 61, 62, 63, 64, 65, 66] (by decide +kernel) (by decide +kernel)
set_option maxRecDepth 20000 in
theorem gX5_comes_X5_breakOff : GoodIn wsX5_comes (wsV RX5 128 RX5 yX5_breakOff wsX5_breakOff) := goodIn_app (goodIn_of _ (by decide +kernel)) ggX5_comes_X5_breakOff
set_option maxRecDepth 20000 in
theorem ggX5_comes_X5_breakOthers : GoodIn wsX5_comes wsX5_breakOthers := goodIn_r _ [32, 1, 7, 8, 9, 10, 11, 5, 4, 3, 12, 13, 14, 15, 16, 17, 18, 2, 19, 20, 21, 22, 23, 24, 25, 26, 27, 28, 38, 39, 40, 41, 42, 43, 44, 45, 46, 47, 48, 49, 50, 51, 52, 53, 54, 55, 56, 57, 58, 59, 60, 61, 62, 63, 64, 65, 66] (by decide +kernel) (by decide +kernel)
set_option maxRecDepth 20000 in
theorem gX5_comes_X5_breakOthers : GoodIn wsX5_comes (wsV RX5 132 RX5 yX5_breakOthers wsX5_breakOthers) := goodIn_app (goodIn_of _ (by decide +kernel)) ggX5_comes_X5_breakOthers
set_option maxRecDepth 20000 in
theorem ggX5_comes_X5_linesInSet : GoodIn wsX5_comes wsX5_linesInSet := goodIn_r _ [36, 37, 5, 4, 38, 39, 40, 41, 42, 43, 44, 45, 46, 47, 48, 49, 50, 51, 52, 53, 54, 55, 56, 57, 58, 59, 60, 61, 62, 63, 64, 65, 66] (by decide +kernel) (by decide +kernel)
set_option maxRecDepth 20000 in
theorem gX5_comes_X5_linesInSet : GoodIn wsX5_comes (wsV RX5 136 RX5 yX5_linesInSet wsX5_linesInSet) := goodIn_app (goodIn_of _ (by decide +kernel)) ggX5_comes_X5_linesInSet
theorem dX5_comes_0 : decode cX5_comes 0 = .ok (.iload_n 2, 1) := by decide +kernel
theorem dX5_comes_1 : decode cX5_comes 1 = .ok (.iconst 4, 1) := by decide +kernel
theorem dX5_comes_2 : decode cX5_comes 2 = .ok (.idiv, 1) := by decide +kernel
theorem dX5_comes_3 : decode cX5_comes 3 = .ok (.istore 4, 2) := by decide +kernel
theorem dX5_comes_5 : decode cX5_comes 5 = .ok (.iconst 0, 1) := by decide +kernel
theorem dX5_comes_6 : decode cX5_comes 6 = .ok (.istore 5, 2) := by decide +kernel
theorem dX5_comes_8 : decode cX5_comes 8 = .ok (.iconst 0, 1) := by decide +kernel
theorem dX5_comes_9 : decode cX5_comes 9 = .ok (.istore 6, 2) := by decide +kernel
theorem dX5_comes_11 : decode cX5_comes 11 = .ok (.iload 6, 2) := by decide +kernel
theorem dX5_comes_13 : decode cX5_comes 13 = .ok (.aload_n 0, 1) := by decide +kernel
theorem dX5_comes_14 : decode cX5_comes 14 = .ok (.getfield 79, 3) := by decide +kernel
theorem dX5_comes_17 : decode cX5_comes 17 = .ok (.if_icmp .ge 55, 3) := by decide +kernel
theorem dX5_comes_20 : decode cX5_comes 20 = .ok (.iload 5, 2) := by decide +kernel
theorem dX5_comes_22 : decode cX5_comes 22 = .ok (.ifCond .ne 37, 3) := by decide +kernel
theorem dX5_comes_25 : decode cX5_comes 25 = .ok (.iload 6, 2) := by decide +kernel
theorem dX5_comes_27 : decode cX5_comes 27 = .ok (.iload_n 1, 1) := by decide +kernel
theorem dX5_comes_28 : decode cX5_comes 28 = .ok (.if_icmp .eq 35, 3) := by decide +kernel
theorem dX5_comes_31 : decode cX5_comes 31 = .ok (.aload_n 0, 1) := by decide +kernel
theorem dX5_comes_32 : decode cX5_comes 32 = .ok (.iload 6, 2) := by decide +kernel
theorem dX5_comes_34 : decode cX5_comes 34 = .ok (.iload 4, 2) := by decide +kernel
theorem dX5_comes_36 : decode cX5_comes 36 = .ok (.iload_n 3, 1) := by decide +kernel
theorem dX5_comes_37 : decode cX5_comes 37 = .ok (.invokevirtual 124, 3) := by decide +kernel
theorem dX5_comes_40 : decode cX5_comes 40 = .ok (.ifCond .eq 23, 3) := by decide +kernel
theorem dX5_comes_43 : decode cX5_comes 43 = .ok (.aload_n 0, 1) := by decide +kernel
theorem dX5_comes_44 : decode cX5_comes 44 = .ok (.getfield 41, 3) := by decide +kernel
theorem dX5_comes_47 : decode cX5_comes 47 = .ok (.iload 6, 2) := by decide +kernel
theorem dX5_comes_49 : decode cX5_comes 49 = .ok (.iaload, 1) := by decide +kernel
theorem dX5_comes_50 : decode cX5_comes 50 = .ok (.aload_n 0, 1) := by decide +kernel
theorem dX5_comes_51 : decode cX5_comes 51 = .ok (.getfield 41, 3) := by decide +kernel
theorem dX5_comes_54 : decode cX5_comes 54 = .ok (.iload_n 1, 1) := by decide +kernel
theorem dX5_comes_55 : decode cX5_comes 55 = .ok (.iaload, 1) := by decide +kernel
theorem dX5_comes_56 : decode cX5_comes 56 = .ok (.if_icmp .ge 7, 3) := by decide +kernel
theorem dX5_comes_59 : decode cX5_comes 59 = .ok (.iconst 1, 1) := by decide +kernel
theorem dX5_comes_60 : decode cX5_comes 60 = .ok (.goto 4, 3) := by decide +kernel
theorem dX5_comes_63 : decode cX5_comes 63 = .ok (.iconst 0, 1) := by decide +kernel
theorem dX5_comes_64 : decode cX5_comes 64 = .ok (.istore 5, 2) := by decide +kernel
theorem dX5_comes_66 : decode cX5_comes 66 = .ok (.iinc 6 1, 3) := by decide +kernel
theorem dX5_comes_69 : decode cX5_comes 69 = .ok (.goto (-58), 3) := by decide +kernel
theorem dX5_comes_72 : decode cX5_comes 72 = .ok (.aload_n 0, 1) := by decide +kernel
theorem dX5_comes_73 : decode cX5_comes 73 = .ok (.getfield 38, 3) := by decide +kernel
theorem dX5_comes_76 : decode cX5_comes 76 = .ok (.iload_n 1, 1) := by decide +kernel
theorem dX5_comes_77 : decode cX5_comes 77 = .ok (.iaload, 1) := by decide +kernel
theorem dX5_comes_78 : decode cX5_comes 78 = .ok (.ifCond .le 16, 3) := by decide +kernel
theorem dX5_comes_81 : decode cX5_comes 81 = .ok (.iload 5, 2) := by decide +kernel
theorem dX5_comes_83 : decode cX5_comes 83 = .ok (.ifCond .eq 11, 3) := by decide +kernel
theorem dX5_comes_86 : decode cX5_comes 86 = .ok (.aload_n 0, 1) := by decide +kernel
theorem dX5_comes_87 : decode cX5_comes 87 = .ok (.iload_n 1, 1) := by decide +kernel
theorem dX5_comes_88 : decode cX5_comes 88 = .ok (.iconst 4, 1) := by decide +kernel
theorem dX5_comes_89 : decode cX5_comes 89 = .ok (.invokevirtual 128, 3) := by decide +kernel
theorem dX5_comes_92 : decode cX5_comes 92 = .ok (.iconst 0, 1) := by decide +kernel
theorem dX5_comes_93 : decode cX5_comes 93 = .ok (.ireturn, 1) := by decide +kernel
theorem dX5_comes_94 : decode cX5_comes 94 = .ok (.aload_n 0, 1) := by decide +kernel
theorem dX5_comes_95 : decode cX5_comes 95 = .ok (.iload_n 1, 1) := by decide +kernel
theorem dX5_comes_96 : decode cX5_comes 96 = .ok (.iload 4, 2) := by decide +kernel
theorem dX5_comes_98 : decode cX5_comes 98 = .ok (.iload_n 3, 1) := by decide +kernel
theorem dX5_comes_99 : decode cX5_comes 99 = .ok (.invokevirtual 132, 3) := by decide +kernel
theorem dX5_comes_102 : decode cX5_comes 102 = .ok (.aload_n 0, 1) := by decide +kernel
theorem dX5_comes_103 : decode cX5_comes 103 = .ok (.getfield 38, 3) := by decide +kernel
theorem dX5_comes_106 : decode cX5_comes 106 = .ok (.iload_n 1, 1) := by decide +kernel
theorem dX5_comes_107 : decode cX5_comes 107 = .ok (.iaload, 1) := by decide +kernel
theorem dX5_comes_108 : decode cX5_comes 108 = .ok (.ifCond .ne 5, 3) := by decide +kernel
theorem dX5_comes_111 : decode cX5_comes 111 = .ok (.iconst 1, 1) := by decide +kernel
theorem dX5_comes_112 : decode cX5_comes 112 = .ok (.ireturn, 1) := by decide +kernel
theorem dX5_comes_113 : decode cX5_comes 113 = .ok (.iload_n 3, 1) := by decide +kernel
theorem dX5_comes_114 : decode cX5_comes 114 = .ok (.ifCond .eq 23, 3) := by decide +kernel
theorem dX5_comes_117 : decode cX5_comes 117 = .ok (.aload_n 0, 1) := by decide +kernel
theorem dX5_comes_118 : decode cX5_comes 118 = .ok (.getfield 56, 3) := by decide +kernel
theorem dX5_comes_121 : decode cX5_comes 121 = .ok (.iload_n 1, 1) := by decide +kernel
theorem dX5_comes_122 : decode cX5_comes 122 = .ok (.aload_n 0, 1) := by decide +kernel
theorem dX5_comes_123 : decode cX5_comes 123 = .ok (.getfield 56, 3) := by decide +kernel
theorem dX5_comes_126 : decode cX5_comes 126 = .ok (.iload_n 1, 1) := by decide +kernel
theorem dX5_comes_127 : decode cX5_comes 127 = .ok (.iaload, 1) := by decide +kernel
theorem dX5_comes_128 : decode cX5_comes 128 = .ok (.iconst 1, 1) := by decide +kernel
theorem dX5_comes_129 : decode cX5_comes 129 = .ok (.iload 4, 2) := by decide +kernel
theorem dX5_comes_131 : decode cX5_comes 131 = .ok (.ishl, 1) := by decide +kernel
theorem dX5_comes_132 : decode cX5_comes 132 = .ok (.ior, 1) := by decide +kernel
theorem dX5_comes_133 : decode cX5_comes 133 = .ok (.iastore, 1) := by decide +kernel
theorem dX5_comes_134 : decode cX5_comes 134 = .ok (.goto 20, 3) := by decide +kernel
theorem dX5_comes_137 : decode cX5_comes 137 = .ok (.aload_n 0, 1) := by decide +kernel
theorem dX5_comes_138 : decode cX5_comes 138 = .ok (.getfield 53, 3) := by decide +kernel
theorem dX5_comes_141 : decode cX5_comes 141 = .ok (.iload_n 1, 1) := by decide +kernel
theorem dX5_comes_142 : decode cX5_comes 142 = .ok (.aload_n 0, 1) := by decide +kernel
theorem dX5_comes_143 : decode cX5_comes 143 = .ok (.getfield 53, 3) := by decide +kernel
theorem dX5_comes_146 : decode cX5_comes 146 = .ok (.iload_n 1, 1) := by decide +kernel
theorem dX5_comes_147 : decode cX5_comes 147 = .ok (.iaload, 1) := by decide +kernel
theorem dX5_comes_148 : decode cX5_comes 148 = .ok (.iconst 1, 1) := by decide +kernel
theorem dX5_comes_149 : decode cX5_comes 149 = .ok (.iload 4, 2) := by decide +kernel
theorem dX5_comes_151 : decode cX5_comes 151 = .ok (.ishl, 1) := by decide +kernel
theorem dX5_comes_152 : decode cX5_comes 152 = .ok (.ior, 1) := by decide +kernel
theorem dX5_comes_153 : decode cX5_comes 153 = .ok (.iastore, 1) := by decide +kernel
theorem dX5_comes_154 : decode cX5_comes 154 = .ok (.aload_n 0, 1) := by decide +kernel
theorem dX5_comes_155 : decode cX5_comes 155 = .ok (.iload_n 1, 1) := by decide +kernel
theorem dX5_comes_156 : decode cX5_comes 156 = .ok (.iload 4, 2) := by decide +kernel
theorem dX5_comes_158 : decode cX5_comes 158 = .ok (.invokevirtual 136, 3) := by decide +kernel
theorem dX5_comes_161 : decode cX5_comes 161 = .ok (.aload_n 0, 1) := by decide +kernel
theorem dX5_comes_162 : decode cX5_comes 162 = .ok (.getfield 86, 3) := by decide +kernel
theorem dX5_comes_165 : decode cX5_comes 165 = .ok (.if_icmp .le 11, 3) := by decide +kernel
theorem dX5_comes_168 : decode cX5_comes 168 = .ok (.aload_n 0, 1) := by decide +kernel
theorem dX5_comes_169 : decode cX5_comes 169 = .ok (.iload_n 1, 1) := by decide +kernel
theorem dX5_comes_170 : decode cX5_comes 170 = .ok (.iconst 3, 1) := by decide +kernel
theorem dX5_comes_171 : decode cX5_comes 171 = .ok (.invokevirtual 128, 3) := by decide +kernel
theorem dX5_comes_174 : decode cX5_comes 174 = .ok (.iconst 0, 1) := by decide +kernel
theorem dX5_comes_175 : decode cX5_comes 175 = .ok (.ireturn, 1) := by decide +kernel
theorem dX5_comes_176 : decode cX5_comes 176 = .ok (.iconst 1, 1) := by decide +kernel
theorem dX5_comes_177 : decode cX5_comes 177 = .ok (.ireturn, 1) := by decide +kernel
theorem dX5_sees_0 : decode cX5_sees 0 = .ok (.aload_n 0, 1) := by decide +kernel
theorem dX5_sees_1 : decode cX5_sees 1 = .ok (.getfield 59, 3) := by decide +kernel
theorem dX5_sees_4 : decode cX5_sees 4 = .ok (.iload_n 1, 1) := by decide +kernel
theorem dX5_sees_5 : decode cX5_sees 5 = .ok (.laload, 1) := by decide +kernel
theorem dX5_sees_6 : decode cX5_sees 6 = .ok (.iload_n 2, 1) := by decide +kernel
theorem dX5_sees_7 : decode cX5_sees 7 = .ok (.lshr, 1) := by decide +kernel
