set_option maxRecDepth 20000 in
theorem ggX0_init_X3_init : GoodIn wsX0_init wsX3_init := goodIn_r _ [12, 13, 2, 3, 4, 14, 15, 24, 25, 26, 27, 28, 29, 30, 31, 32] (by decide +kernel) (by decide +kernel)
set_option maxRecDepth 20000 in
theorem gX0_init_X3_init_n17 : GoodIn wsX0_init (wsX3_init) := ggX0_init_X3_init
theorem dX0_init_0 : decode cX0_init 0 = .ok (.aload_n 0, 1) := by decide +kernel
theorem dX0_init_1 : decode cX0_init 1 = .ok (.invokespecial 3, 3) := by decide +kernel
theorem dX0_init_4 : decode cX0_init 4 = .ok (.aload_n 0, 1) := by decide +kernel
theorem dX0_init_5 : decode cX0_init 5 = .ok (.bipush 8, 2) := by decide +kernel
theorem dX0_init_7 : decode cX0_init 7 = .ok (.newarray .int, 2) := by decide +kernel
theorem dX0_init_9 : decode cX0_init 9 = .ok (.putfield 9, 3) := by decide +kernel
theorem dX0_init_12 : decode cX0_init 12 = .ok (.aload_n 0, 1) := by decide +kernel
theorem dX0_init_13 : decode cX0_init 13 = .ok (.new 15, 3) := by decide +kernel
theorem dX0_init_16 : decode cX0_init 16 = .ok (.dup, 1) := by decide +kernel
theorem dX0_init_17 : decode cX0_init 17 = .ok (.invokespecial 17, 3) := by decide +kernel
theorem dX0_init_20 : decode cX0_init 20 = .ok (.putfield 18, 3) := by decide +kernel
theorem dX0_init_23 : decode cX0_init 23 = .ok (.aload_n 0, 1) := by decide +kernel
theorem dX0_init_24 : decode cX0_init 24 = .ok (.iload_n 1, 1) := by decide +kernel
theorem dX0_init_25 : decode cX0_init 25 = .ok (.putfield 22, 3) := by decide +kernel
theorem dX0_init_28 : decode cX0_init 28 = .ok (.return_, 1) := by decide +kernel
theorem dX0_put_0 : decode cX0_put 0 = .ok (.iload_n 1, 1) := by decide +kernel
theorem dX0_put_1 : decode cX0_put 1 = .ok (.ifCond .eq 10, 3) := by decide +kernel
theorem dX0_put_4 : decode cX0_put 4 = .ok (.aload_n 0, 1) := by decide +kernel
theorem dX0_put_5 : decode cX0_put 5 = .ok (.getfield 9, 3) := by decide +kernel
theorem dX0_put_8 : decode cX0_put 8 = .ok (.iload_n 1, 1) := by decide +kernel
theorem dX0_put_9 : decode cX0_put 9 = .ok (.iload_n 2, 1) := by decide +kernel
theorem dX0_put_10 : decode cX0_put 10 = .ok (.iastore, 1) := by decide +kernel
theorem dX0_put_11 : decode cX0_put 11 = .ok (.return_, 1) := by decide +kernel
set_option maxRecDepth 20000 in
theorem ggX0_reset_X3_close : GoodIn wsX0_reset wsX3_close := goodIn_r _ [12, 13, 14, 15, 16, 17, 26, 27, 28, 29, 30, 31, 32, 33, 34] (by decide +kernel) (by decide +kernel)
set_option maxRecDepth 20000 in
theorem gX0_reset_X3_close : GoodIn wsX0_reset (wsV RX0 26 RX3 yX3_close wsX3_close) := goodIn_app (goodIn_of _ (by decide +kernel)) ggX0_reset_X3_close
theorem dX0_reset_0 : decode cX0_reset 0 = .ok (.iconst 0, 1) := by decide +kernel
theorem dX0_reset_1 : decode cX0_reset 1 = .ok (.istore_n 1, 1) := by decide +kernel
theorem dX0_reset_2 : decode cX0_reset 2 = .ok (.iload_n 1, 1) := by decide +kernel
theorem dX0_reset_3 : decode cX0_reset 3 = .ok (.bipush 8, 2) := by decide +kernel
theorem dX0_reset_5 : decode cX0_reset 5 = .ok (.if_icmp .ge 16, 3) := by decide +kernel
theorem dX0_reset_8 : decode cX0_reset 8 = .ok (.aload_n 0, 1) := by decide +kernel
theorem dX0_reset_9 : decode cX0_reset 9 = .ok (.getfield 9, 3) := by decide +kernel
theorem dX0_reset_12 : decode cX0_reset 12 = .ok (.iload_n 1, 1) := by decide +kernel
theorem dX0_reset_13 : decode cX0_reset 13 = .ok (.iconst 0, 1) := by decide +kernel
theorem dX0_reset_14 : decode cX0_reset 14 = .ok (.iastore, 1) := by decide +kernel
theorem dX0_reset_15 : decode cX0_reset 15 = .ok (.iinc 1 1, 3) := by decide +kernel
theorem dX0_reset_18 : decode cX0_reset 18 = .ok (.goto (-16), 3) := by decide +kernel
theorem dX0_reset_21 : decode cX0_reset 21 = .ok (.aload_n 0, 1) := by decide +kernel
theorem dX0_reset_22 : decode cX0_reset 22 = .ok (.getfield 18, 3) := by decide +kernel
theorem dX0_reset_25 : decode cX0_reset 25 = .ok (.invokevirtual 26, 3) := by decide +kernel
theorem dX0_reset_28 : decode cX0_reset 28 = .ok (.aload_n 0, 1) := by decide +kernel
theorem dX0_reset_29 : decode cX0_reset 29 = .ok (.iconst 0, 1) := by decide +kernel
theorem dX0_reset_30 : decode cX0_reset 30 = .ok (.putfield 29, 3) := by decide +kernel
theorem dX0_reset_33 : decode cX0_reset 33 = .ok (.aload_n 0, 1) := by decide +kernel
theorem dX0_reset_34 : decode cX0_reset 34 = .ok (.iconst 0, 1) := by decide +kernel
theorem dX0_reset_35 : decode cX0_reset 35 = .ok (.putfield 32, 3) := by decide +kernel
theorem dX0_reset_38 : decode cX0_reset 38 = .ok (.aload_n 0, 1) := by decide +kernel
theorem dX0_reset_39 : decode cX0_reset 39 = .ok (.iconst 0, 1) := by decide +kernel
theorem dX0_reset_40 : decode cX0_reset 40 = .ok (.putfield 36, 3) := by decide +kernel
theorem dX0_reset_43 : decode cX0_reset 43 = .ok (.aload_n 0, 1) := by decide +kernel
theorem dX0_reset_44 : decode cX0_reset 44 = .ok (.iconst 0, 1) := by decide +kernel
theorem dX0_reset_45 : decode cX0_reset 45 = .ok (.putfield 39, 3) := by decide +kernel
theorem dX0_reset_48 : decode cX0_reset 48 = .ok (.aload_n 0, 1) := by decide +kernel
theorem dX0_reset_49 : decode cX0_reset 49 = .ok (.iconst 0, 1) := by decide +kernel
theorem dX0_reset_50 : decode cX0_reset 50 = .ok (.putfield 42, 3) := by decide +kernel
theorem dX0_reset_53 : decode cX0_reset 53 = .ok (.return_, 1) := by decide +kernel
theorem dX1_init_0 : decode cX1_init 0 = .ok (.aload_n 0, 1) := by decide +kernel
theorem dX1_init_1 : decode cX1_init 1 = .ok (.invokespecial 3, 3) := by decide +kernel
theorem dX1_init_4 : decode cX1_init 4 = .ok (.aload_n 0, 1) := by decide +kernel
theorem dX1_init_5 : decode cX1_init 5 = .ok (.bipush 80, 2) := by decide +kernel
theorem dX1_init_7 : decode cX1_init 7 = .ok (.newarray .int, 2) := by decide +kernel
theorem dX1_init_9 : decode cX1_init 9 = .ok (.putfield 9, 3) := by decide +kernel
theorem dX1_init_12 : decode cX1_init 12 = .ok (.aload_n 0, 1) := by decide +kernel
theorem dX1_init_13 : decode cX1_init 13 = .ok (.bipush 80, 2) := by decide +kernel
theorem dX1_init_15 : decode cX1_init 15 = .ok (.newarray .int, 2) := by decide +kernel
theorem dX1_init_17 : decode cX1_init 17 = .ok (.putfield 15, 3) := by decide +kernel
theorem dX1_init_20 : decode cX1_init 20 = .ok (.aload_n 0, 1) := by decide +kernel
theorem dX1_init_21 : decode cX1_init 21 = .ok (.bipush 80, 2) := by decide +kernel
theorem dX1_init_23 : decode cX1_init 23 = .ok (.newarray .int, 2) := by decide +kernel
theorem dX1_init_25 : decode cX1_init 25 = .ok (.putfield 18, 3) := by decide +kernel
theorem dX1_init_28 : decode cX1_init 28 = .ok (.aload_n 0, 1) := by decide +kernel
theorem dX1_init_29 : decode cX1_init 29 = .ok (.bipush 80, 2) := by decide +kernel
theorem dX1_init_31 : decode cX1_init 31 = .ok (.newarray .int, 2) := by decide +kernel
theorem dX1_init_33 : decode cX1_init 33 = .ok (.putfield 21, 3) := by decide +kernel
theorem dX1_init_36 : decode cX1_init 36 = .ok (.return_, 1) := by decide +kernel
theorem dX1_append_0 : decode cX1_append 0 = .ok (.aload_n 0, 1) := by decide +kernel
theorem dX1_append_1 : decode cX1_append 1 = .ok (.getfield 24, 3) := by decide +kernel
theorem dX1_append_4 : decode cX1_append 4 = .ok (.istore 5, 2) := by decide +kernel
theorem dX1_append_6 : decode cX1_append 6 = .ok (.aload_n 0, 1) := by decide +kernel
theorem dX1_append_7 : decode cX1_append 7 = .ok (.getfield 9, 3) := by decide +kernel
theorem dX1_append_10 : decode cX1_append 10 = .ok (.iload 5, 2) := by decide +kernel
theorem dX1_append_12 : decode cX1_append 12 = .ok (.iload_n 1, 1) := by decide +kernel
theorem dX1_append_13 : decode cX1_append 13 = .ok (.iastore, 1) := by decide +kernel
theorem dX1_append_14 : decode cX1_append 14 = .ok (.aload_n 0, 1) := by decide +kernel
theorem dX1_append_15 : decode cX1_append 15 = .ok (.getfield 15, 3) := by decide +kernel
theorem dX1_append_18 : decode cX1_append 18 = .ok (.iload 5, 2) := by decide +kernel
theorem dX1_append_20 : decode cX1_append 20 = .ok (.iload_n 2, 1) := by decide +kernel
theorem dX1_append_21 : decode cX1_append 21 = .ok (.iastore, 1) := by decide +kernel
theorem dX1_append_22 : decode cX1_append 22 = .ok (.aload_n 0, 1) := by decide +kernel
theorem dX1_append_23 : decode cX1_append 23 = .ok (.getfield 18, 3) := by decide +kernel
theorem dX1_append_26 : decode cX1_append 26 = .ok (.iload 5, 2) := by decide +kernel
theorem dX1_append_28 : decode cX1_append 28 = .ok (.iload_n 3, 1) := by decide +kernel
theorem dX1_append_29 : decode cX1_append 29 = .ok (.iastore, 1) := by decide +kernel
theorem dX1_append_30 : decode cX1_append 30 = .ok (.aload_n 0, 1) := by decide +kernel
theorem dX1_append_31 : decode cX1_append 31 = .ok (.getfield 21, 3) := by decide +kernel
theorem dX1_append_34 : decode cX1_append 34 = .ok (.iload 5, 2) := by decide +kernel
theorem dX1_append_36 : decode cX1_append 36 = .ok (.iload 4, 2) := by decide +kernel
theorem dX1_append_38 : decode cX1_append 38 = .ok (.iastore, 1) := by decide +kernel
theorem dX1_append_39 : decode cX1_append 39 = .ok (.aload_n 0, 1) := by decide +kernel
theorem dX1_append_40 : decode cX1_append 40 = .ok (.dup, 1) := by decide +kernel
theorem dX1_append_41 : decode cX1_append 41 = .ok (.getfield 24, 3) := by decide +kernel
theorem dX1_append_44 : decode cX1_append 44 = .ok (.iconst 1, 1) := by decide +kernel
theorem dX1_append_45 : decode cX1_append 45 = .ok (.iadd, 1) := by decide +kernel
theorem dX1_append_46 : decode cX1_append 46 = .ok (.putfield 24, 3) := by decide +kernel
theorem dX1_append_49 : decode cX1_append 49 = .ok (.iload 5, 2) := by decide +kernel
theorem dX1_append_51 : decode cX1_append 51 = .ok (.ireturn, 1) := by decide +kernel
theorem dX2_init_0 : decode cX2_init 0 = .ok (.aload_n 0, 1) := by decide +kernel
theorem dX2_init_1 : decode cX2_init 1 = .ok (.invokespecial 3, 3) := by decide +kernel
theorem dX2_init_4 : decode cX2_init 4 = .ok (.aload_n 0, 1) := by decide +kernel
theorem dX2_init_5 : decode cX2_init 5 = .ok (.sipush 400, 3) := by decide +kernel
theorem dX2_init_8 : decode cX2_init 8 = .ok (.newarray .int, 2) := by decide +kernel
theorem dX2_init_10 : decode cX2_init 10 = .ok (.putfield 9, 3) := by decide +kernel
theorem dX2_init_13 : decode cX2_init 13 = .ok (.return_, 1) := by decide +kernel
theorem dX2_add_0 : decode cX2_add 0 = .ok (.aload_n 0, 1) := by decide +kernel
theorem dX2_add_1 : decode cX2_add 1 = .ok (.getfield 15, 3) := by decide +kernel
theorem dX2_add_4 : decode cX2_add 4 = .ok (.aload_n 0, 1) := by decide +kernel
theorem dX2_add_5 : decode cX2_add 5 = .ok (.getfield 19, 3) := by decide +kernel
theorem dX2_add_8 : decode cX2_add 8 = .ok (.iadd, 1) := by decide +kernel
theorem dX2_add_9 : decode cX2_add 9 = .ok (.bipush 100, 2) := by decide +kernel
theorem dX2_add_11 : decode cX2_add 11 = .ok (.irem, 1) := by decide +kernel
theorem dX2_add_12 : decode cX2_add 12 = .ok (.iconst 4, 1) := by decide +kernel
theorem dX2_add_13 : decode cX2_add 13 = .ok (.imul, 1) := by decide +kernel
theorem dX2_add_14 : decode cX2_add 14 = .ok (.istore 5, 2) := by decide +kernel
theorem dX2_add_16 : decode cX2_add 16 = .ok (.aload_n 0, 1) := by decide +kernel
theorem dX2_add_17 : decode cX2_add 17 = .ok (.getfield 9, 3) := by decide +kernel
theorem dX2_add_20 : decode cX2_add 20 = .ok (.iload 5, 2) := by decide +kernel
theorem dX2_add_22 : decode cX2_add 22 = .ok (.iload_n 1, 1) := by decide +kernel
theorem dX2_add_23 : decode cX2_add 23 = .ok (.iastore, 1) := by decide +kernel
theorem dX2_add_24 : decode cX2_add 24 = .ok (.aload_n 0, 1) := by decide +kernel
theorem dX2_add_25 : decode cX2_add 25 = .ok (.getfield 9, 3) := by decide +kernel
theorem dX2_add_28 : decode cX2_add 28 = .ok (.iload 5, 2) := by decide +kernel
theorem dX2_add_30 : decode cX2_add 30 = .ok (.iconst 1, 1) := by decide +kernel
theorem dX2_add_31 : decode cX2_add 31 = .ok (.iadd, 1) := by decide +kernel
theorem dX2_add_32 : decode cX2_add 32 = .ok (.iload_n 2, 1) := by decide +kernel
theorem dX2_add_33 : decode cX2_add 33 = .ok (.iastore, 1) := by decide +kernel
theorem dX2_add_34 : decode cX2_add 34 = .ok (.aload_n 0, 1) := by decide +kernel
theorem dX2_add_35 : decode cX2_add 35 = .ok (.getfield 9, 3) := by decide +kernel
theorem dX2_add_38 : decode cX2_add 38 = .ok (.iload 5, 2) := by decide +kernel
theorem dX2_add_40 : decode cX2_add 40 = .ok (.iconst 2, 1) := by decide +kernel
theorem dX2_add_41 : decode cX2_add 41 = .ok (.iadd, 1) := by decide +kernel
theorem dX2_add_42 : decode cX2_add 42 = .ok (.iload_n 3, 1) := by decide +kernel
theorem dX2_add_43 : decode cX2_add 43 = .ok (.iastore, 1) := by decide +kernel
theorem dX2_add_44 : decode cX2_add 44 = .ok (.aload_n 0, 1) := by decide +kernel
theorem dX2_add_45 : decode cX2_add 45 = .ok (.getfield 9, 3) := by decide +kernel
theorem dX2_add_48 : decode cX2_add 48 = .ok (.iload 5, 2) := by decide +kernel
theorem dX2_add_50 : decode cX2_add 50 = .ok (.iconst 3, 1) := by decide +kernel
theorem dX2_add_51 : decode cX2_add 51 = .ok (.iadd, 1) := by decide +kernel
theorem dX2_add_52 : decode cX2_add 52 = .ok (.iload 4, 2) := by decide +kernel
theorem dX2_add_54 : decode cX2_add 54 = .ok (.iastore, 1) := by decide +kernel
theorem dX2_add_55 : decode cX2_add 55 = .ok (.aload_n 0, 1) := by decide +kernel
theorem dX2_add_56 : decode cX2_add 56 = .ok (.getfield 19, 3) := by decide +kernel
theorem dX2_add_59 : decode cX2_add 59 = .ok (.bipush 100, 2) := by decide +kernel
theorem dX2_add_61 : decode cX2_add 61 = .ok (.if_icmp .ge 16, 3) := by decide +kernel
theorem dX2_add_64 : decode cX2_add 64 = .ok (.aload_n 0, 1) := by decide +kernel
theorem dX2_add_65 : decode cX2_add 65 = .ok (.dup, 1) := by decide +kernel
theorem dX2_add_66 : decode cX2_add 66 = .ok (.getfield 19, 3) := by decide +kernel
theorem dX2_add_69 : decode cX2_add 69 = .ok (.iconst 1, 1) := by decide +kernel
theorem dX2_add_70 : decode cX2_add 70 = .ok (.iadd, 1) := by decide +kernel
theorem dX2_add_71 : decode cX2_add 71 = .ok (.putfield 19, 3) := by decide +kernel
theorem dX2_add_74 : decode cX2_add 74 = .ok (.goto 16, 3) := by decide +kernel
theorem dX2_add_77 : decode cX2_add 77 = .ok (.aload_n 0, 1) := by decide +kernel
theorem dX2_add_78 : decode cX2_add 78 = .ok (.aload_n 0, 1) := by decide +kernel
theorem dX2_add_79 : decode cX2_add 79 = .ok (.getfield 15, 3) := by decide +kernel
theorem dX2_add_82 : decode cX2_add 82 = .ok (.iconst 1, 1) := by decide +kernel
theorem dX2_add_83 : decode cX2_add 83 = .ok (.iadd, 1) := by decide +kernel
theorem dX2_add_84 : decode cX2_add 84 = .ok (.bipush 100, 2) := by decide +kernel
theorem dX2_add_86 : decode cX2_add 86 = .ok (.irem, 1) := by decide +kernel
theorem dX2_add_87 : decode cX2_add 87 = .ok (.putfield 15, 3) := by decide +kernel
theorem dX2_add_90 : decode cX2_add 90 = .ok (.return_, 1) := by decide +kernel
theorem dX2_field_0 : decode cX2_field 0 = .ok (.aload_n 0, 1) := by decide +kernel
theorem dX2_field_1 : decode cX2_field 1 = .ok (.getfield 9, 3) := by decide +kernel
theorem dX2_field_4 : decode cX2_field 4 = .ok (.aload_n 0, 1) := by decide +kernel
theorem dX2_field_5 : decode cX2_field 5 = .ok (.getfield 15, 3) := by decide +kernel
theorem dX2_field_8 : decode cX2_field 8 = .ok (.iload_n 1, 1) := by decide +kernel
theorem dX2_field_9 : decode cX2_field 9 = .ok (.iadd, 1) := by decide +kernel
theorem dX2_field_10 : decode cX2_field 10 = .ok (.bipush 100, 2) := by decide +kernel
theorem dX2_field_12 : decode cX2_field 12 = .ok (.irem, 1) := by decide +kernel
theorem dX2_field_13 : decode cX2_field 13 = .ok (.iconst 4, 1) := by decide +kernel
theorem dX2_field_14 : decode cX2_field 14 = .ok (.imul, 1) := by decide +kernel
theorem dX2_field_15 : decode cX2_field 15 = .ok (.iload_n 2, 1) := by decide +kernel
theorem dX2_field_16 : decode cX2_field 16 = .ok (.iadd, 1) := by decide +kernel
theorem dX2_field_17 : decode cX2_field 17 = .ok (.iaload, 1) := by decide +kernel
theorem dX2_field_18 : decode cX2_field 18 = .ok (.ireturn, 1) := by decide +kernel
theorem dX2_forget_0 : decode cX2_forget 0 = .ok (.aload_n 0, 1) := by decide +kernel
theorem dX2_forget_1 : decode cX2_forget 1 = .ok (.iconst 0, 1) := by decide +kernel
theorem dX2_forget_2 : decode cX2_forget 2 = .ok (.putfield 19, 3) := by decide +kernel
theorem dX2_forget_5 : decode cX2_forget 5 = .ok (.aload_n 0, 1) := by decide +kernel
theorem dX2_forget_6 : decode cX2_forget 6 = .ok (.iconst 0, 1) := by decide +kernel
theorem dX2_forget_7 : decode cX2_forget 7 = .ok (.putfield 15, 3) := by decide +kernel
theorem dX2_forget_10 : decode cX2_forget 10 = .ok (.return_, 1) := by decide +kernel
theorem dX3_init_0 : decode cX3_init 0 = .ok (.aload_n 0, 1) := by decide +kernel
theorem dX3_init_1 : decode cX3_init 1 = .ok (.invokespecial 3, 3) := by decide +kernel
theorem dX3_init_4 : decode cX3_init 4 = .ok (.aload_n 0, 1) := by decide +kernel
theorem dX3_init_5 : decode cX3_init 5 = .ok (.bipush 8, 2) := by decide +kernel
theorem dX3_init_7 : decode cX3_init 7 = .ok (.newarray .int, 2) := by decide +kernel
theorem dX3_init_9 : decode cX3_init 9 = .ok (.putfield 9, 3) := by decide +kernel
theorem dX3_init_12 : decode cX3_init 12 = .ok (.aload_n 0, 1) := by decide +kernel
theorem dX3_init_13 : decode cX3_init 13 = .ok (.bipush 64, 2) := by decide +kernel
theorem dX3_init_15 : decode cX3_init 15 = .ok (.newarray .int, 2) := by decide +kernel
theorem dX3_init_17 : decode cX3_init 17 = .ok (.putfield 15, 3) := by decide +kernel
theorem dX3_init_20 : decode cX3_init 20 = .ok (.return_, 1) := by decide +kernel
theorem dX3_open_0 : decode cX3_open 0 = .ok (.aload_n 0, 1) := by decide +kernel
theorem dX3_open_1 : decode cX3_open 1 = .ok (.iload_n 1, 1) := by decide +kernel
theorem dX3_open_2 : decode cX3_open 2 = .ok (.putfield 18, 3) := by decide +kernel
theorem dX3_open_5 : decode cX3_open 5 = .ok (.aload_n 0, 1) := by decide +kernel
theorem dX3_open_6 : decode cX3_open 6 = .ok (.iload_n 2, 1) := by decide +kernel
theorem dX3_open_7 : decode cX3_open 7 = .ok (.putfield 22, 3) := by decide +kernel
theorem dX3_open_10 : decode cX3_open 10 = .ok (.aload_n 0, 1) := by decide +kernel
theorem dX3_open_11 : decode cX3_open 11 = .ok (.iload_n 3, 1) := by decide +kernel
theorem dX3_open_12 : decode cX3_open 12 = .ok (.putfield 25, 3) := by decide +kernel
theorem dX3_open_15 : decode cX3_open 15 = .ok (.aload 4, 2) := by decide +kernel
theorem dX3_open_17 : decode cX3_open 17 = .ok (.iconst 0, 1) := by decide +kernel
theorem dX3_open_18 : decode cX3_open 18 = .ok (.aload_n 0, 1) := by decide +kernel
theorem dX3_open_19 : decode cX3_open 19 = .ok (.getfield 9, 3) := by decide +kernel
theorem dX3_open_22 : decode cX3_open 22 = .ok (.iconst 0, 1) := by decide +kernel
theorem dX3_open_23 : decode cX3_open 23 = .ok (.bipush 8, 2) := by decide +kernel
theorem dX3_open_25 : decode cX3_open 25 = .ok (.invokestatic 28, 3) := by decide +kernel
theorem dX3_open_28 : decode cX3_open 28 = .ok (.return_, 1) := by decide +kernel
theorem dX3_close_0 : decode cX3_close 0 = .ok (.aload_n 0, 1) := by decide +kernel
theorem dX3_close_1 : decode cX3_close 1 = .ok (.iconst 0, 1) := by decide +kernel
theorem dX3_close_2 : decode cX3_close 2 = .ok (.putfield 34, 3) := by decide +kernel
theorem dX3_close_5 : decode cX3_close 5 = .ok (.aload_n 0, 1) := by decide +kernel
theorem dX3_close_6 : decode cX3_close 6 = .ok (.iconst 0, 1) := by decide +kernel
theorem dX3_close_7 : decode cX3_close 7 = .ok (.putfield 18, 3) := by decide +kernel
theorem dX3_close_10 : decode cX3_close 10 = .ok (.aload_n 0, 1) := by decide +kernel
theorem dX3_close_11 : decode cX3_close 11 = .ok (.iconst 0, 1) := by decide +kernel
theorem dX3_close_12 : decode cX3_close 12 = .ok (.putfield 37, 3) := by decide +kernel
theorem dX3_close_15 : decode cX3_close 15 = .ok (.aload_n 0, 1) := by decide +kernel
theorem dX3_close_16 : decode cX3_close 16 = .ok (.iconst 0, 1) := by decide +kernel
theorem dX3_close_17 : decode cX3_close 17 = .ok (.putfield 40, 3) := by decide +kernel
theorem dX3_close_20 : decode cX3_close 20 = .ok (.aload_n 0, 1) := by decide +kernel
theorem dX3_close_21 : decode cX3_close 21 = .ok (.lconst 0, 1) := by decide +kernel
theorem dX3_close_22 : decode cX3_close 22 = .ok (.putfield 43, 3) := by decide +kernel
theorem dX3_close_25 : decode cX3_close 25 = .ok (.return_, 1) := by decide +kernel
theorem dX3_mark_0 : decode cX3_mark 0 = .ok (.iload_n 2, 1) := by decide +kernel
theorem dX3_mark_1 : decode cX3_mark 1 = .ok (.ifCond .eq 18, 3) := by decide +kernel
theorem dX3_mark_4 : decode cX3_mark 4 = .ok (.aload_n 0, 1) := by decide +kernel
theorem dX3_mark_5 : decode cX3_mark 5 = .ok (.dup, 1) := by decide +kernel
theorem dX3_mark_6 : decode cX3_mark 6 = .ok (.getfield 40, 3) := by decide +kernel
theorem dX3_mark_9 : decode cX3_mark 9 = .ok (.iconst 1, 1) := by decide +kernel
theorem dX3_mark_10 : decode cX3_mark 10 = .ok (.iload_n 1, 1) := by decide +kernel
theorem dX3_mark_11 : decode cX3_mark 11 = .ok (.ishl, 1) := by decide +kernel
theorem dX3_mark_12 : decode cX3_mark 12 = .ok (.ior, 1) := by decide +kernel
theorem dX3_mark_13 : decode cX3_mark 13 = .ok (.putfield 40, 3) := by decide +kernel
theorem dX3_mark_16 : decode cX3_mark 16 = .ok (.goto 15, 3) := by decide +kernel
theorem dX3_mark_19 : decode cX3_mark 19 = .ok (.aload_n 0, 1) := by decide +kernel
theorem dX3_mark_20 : decode cX3_mark 20 = .ok (.dup, 1) := by decide +kernel
theorem dX3_mark_21 : decode cX3_mark 21 = .ok (.getfield 37, 3) := by decide +kernel
theorem dX3_mark_24 : decode cX3_mark 24 = .ok (.iconst 1, 1) := by decide +kernel
theorem dX3_mark_25 : decode cX3_mark 25 = .ok (.iload_n 1, 1) := by decide +kernel
theorem dX3_mark_26 : decode cX3_mark 26 = .ok (.ishl, 1) := by decide +kernel
theorem dX3_mark_27 : decode cX3_mark 27 = .ok (.ior, 1) := by decide +kernel
theorem dX3_mark_28 : decode cX3_mark 28 = .ok (.putfield 37, 3) := by decide +kernel
theorem dX3_mark_31 : decode cX3_mark 31 = .ok (.return_, 1) := by decide +kernel
theorem dX3_touches_0 : decode cX3_touches 0 = .ok (.iload_n 2, 1) := by decide +kernel
theorem dX3_touches_1 : decode cX3_touches 1 = .ok (.ifCond .eq 15, 3) := by decide +kernel
theorem dX3_touches_4 : decode cX3_touches 4 = .ok (.aload_n 0, 1) := by decide +kernel
theorem dX3_touches_5 : decode cX3_touches 5 = .ok (.getfield 37, 3) := by decide +kernel
theorem dX3_touches_8 : decode cX3_touches 8 = .ok (.aload_n 0, 1) := by decide +kernel
theorem dX3_touches_9 : decode cX3_touches 9 = .ok (.getfield 40, 3) := by decide +kernel
theorem dX3_touches_12 : decode cX3_touches 12 = .ok (.ior, 1) := by decide +kernel
theorem dX3_touches_13 : decode cX3_touches 13 = .ok (.goto 7, 3) := by decide +kernel
theorem dX3_touches_16 : decode cX3_touches 16 = .ok (.aload_n 0, 1) := by decide +kernel
theorem dX3_touches_17 : decode cX3_touches 17 = .ok (.getfield 40, 3) := by decide +kernel
theorem dX3_touches_20 : decode cX3_touches 20 = .ok (.istore_n 3, 1) := by decide +kernel
theorem dX3_touches_21 : decode cX3_touches 21 = .ok (.iload_n 3, 1) := by decide +kernel
theorem dX3_touches_22 : decode cX3_touches 22 = .ok (.iload_n 1, 1) := by decide +kernel
theorem dX3_touches_23 : decode cX3_touches 23 = .ok (.ishr, 1) := by decide +kernel
theorem dX3_touches_24 : decode cX3_touches 24 = .ok (.iconst 1, 1) := by decide +kernel
theorem dX3_touches_25 : decode cX3_touches 25 = .ok (.iand, 1) := by decide +kernel
theorem dX3_touches_26 : decode cX3_touches 26 = .ok (.iconst 1, 1) := by decide +kernel
theorem dX3_touches_27 : decode cX3_touches 27 = .ok (.if_icmp .ne 7, 3) := by decide +kernel
theorem dX3_touches_30 : decode cX3_touches 30 = .ok (.iconst 1, 1) := by decide +kernel
theorem dX3_touches_31 : decode cX3_touches 31 = .ok (.goto 4, 3) := by decide +kernel
theorem dX3_touches_34 : decode cX3_touches 34 = .ok (.iconst 0, 1) := by decide +kernel
theorem dX3_touches_35 : decode cX3_touches 35 = .ok (.ireturn, 1) := by decide +kernel
theorem dX3_linesInSet_0 : decode cX3_linesInSet 0 = .ok (.iconst 0, 1) := by decide +kernel
theorem dX3_linesInSet_1 : decode cX3_linesInSet 1 = .ok (.istore_n 3, 1) := by decide +kernel
theorem dX3_linesInSet_2 : decode cX3_linesInSet 2 = .ok (.iconst 0, 1) := by decide +kernel
theorem dX3_linesInSet_3 : decode cX3_linesInSet 3 = .ok (.istore 4, 2) := by decide +kernel
theorem dX3_linesInSet_5 : decode cX3_linesInSet 5 = .ok (.iload 4, 2) := by decide +kernel
theorem dX3_linesInSet_7 : decode cX3_linesInSet 7 = .ok (.bipush 16, 2) := by decide +kernel
theorem dX3_linesInSet_9 : decode cX3_linesInSet 9 = .ok (.if_icmp .ge 34, 3) := by decide +kernel
theorem dX3_linesInSet_12 : decode cX3_linesInSet 12 = .ok (.iload 4, 2) := by decide +kernel
theorem dX3_linesInSet_14 : decode cX3_linesInSet 14 = .ok (.iload_n 2, 1) := by decide +kernel
theorem dX3_linesInSet_15 : decode cX3_linesInSet 15 = .ok (.irem, 1) := by decide +kernel
theorem dX3_linesInSet_16 : decode cX3_linesInSet 16 = .ok (.iload_n 1, 1) := by decide +kernel
theorem dX3_linesInSet_17 : decode cX3_linesInSet 17 = .ok (.if_icmp .ne 20, 3) := by decide +kernel
theorem dX3_linesInSet_20 : decode cX3_linesInSet 20 = .ok (.iload_n 3, 1) := by decide +kernel
theorem dX3_linesInSet_21 : decode cX3_linesInSet 21 = .ok (.aload_n 0, 1) := by decide +kernel
theorem dX3_linesInSet_22 : decode cX3_linesInSet 22 = .ok (.getfield 37, 3) := by decide +kernel
theorem dX3_linesInSet_25 : decode cX3_linesInSet 25 = .ok (.aload_n 0, 1) := by decide +kernel
theorem dX3_linesInSet_26 : decode cX3_linesInSet 26 = .ok (.getfield 40, 3) := by decide +kernel
theorem dX3_linesInSet_29 : decode cX3_linesInSet 29 = .ok (.ior, 1) := by decide +kernel
theorem dX3_linesInSet_30 : decode cX3_linesInSet 30 = .ok (.iload 4, 2) := by decide +kernel
theorem dX3_linesInSet_32 : decode cX3_linesInSet 32 = .ok (.ishr, 1) := by decide +kernel
theorem dX3_linesInSet_33 : decode cX3_linesInSet 33 = .ok (.iconst 1, 1) := by decide +kernel
theorem dX3_linesInSet_34 : decode cX3_linesInSet 34 = .ok (.iand, 1) := by decide +kernel
theorem dX3_linesInSet_35 : decode cX3_linesInSet 35 = .ok (.iadd, 1) := by decide +kernel
theorem dX3_linesInSet_36 : decode cX3_linesInSet 36 = .ok (.istore_n 3, 1) := by decide +kernel
theorem dX3_linesInSet_37 : decode cX3_linesInSet 37 = .ok (.iinc 4 1, 3) := by decide +kernel
theorem dX3_linesInSet_40 : decode cX3_linesInSet 40 = .ok (.goto (-35), 3) := by decide +kernel
theorem dX3_linesInSet_43 : decode cX3_linesInSet 43 = .ok (.iload_n 3, 1) := by decide +kernel
theorem dX3_linesInSet_44 : decode cX3_linesInSet 44 = .ok (.ireturn, 1) := by decide +kernel
theorem dX3_keep_0 : decode cX3_keep 0 = .ok (.aload_n 0, 1) := by decide +kernel
theorem dX3_keep_1 : decode cX3_keep 1 = .ok (.dup, 1) := by decide +kernel
theorem dX3_keep_2 : decode cX3_keep 2 = .ok (.getfield 43, 3) := by decide +kernel
theorem dX3_keep_5 : decode cX3_keep 5 = .ok (.lconst 1, 1) := by decide +kernel
theorem dX3_keep_6 : decode cX3_keep 6 = .ok (.iload_n 1, 1) := by decide +kernel
theorem dX3_keep_7 : decode cX3_keep 7 = .ok (.lshl, 1) := by decide +kernel
theorem dX3_keep_8 : decode cX3_keep 8 = .ok (.lor, 1) := by decide +kernel
theorem dX3_keep_9 : decode cX3_keep 9 = .ok (.putfield 43, 3) := by decide +kernel
theorem dX3_keep_12 : decode cX3_keep 12 = .ok (.aload_n 0, 1) := by decide +kernel
theorem dX3_keep_13 : decode cX3_keep 13 = .ok (.getfield 15, 3) := by decide +kernel
theorem dX3_keep_16 : decode cX3_keep 16 = .ok (.iload_n 1, 1) := by decide +kernel
theorem dX3_keep_17 : decode cX3_keep 17 = .ok (.iload_n 2, 1) := by decide +kernel
theorem dX3_keep_18 : decode cX3_keep 18 = .ok (.iastore, 1) := by decide +kernel
theorem dX3_keep_19 : decode cX3_keep 19 = .ok (.return_, 1) := by decide +kernel
theorem dX3_hasStored_0 : decode cX3_hasStored 0 = .ok (.aload_n 0, 1) := by decide +kernel
theorem dX3_hasStored_1 : decode cX3_hasStored 1 = .ok (.getfield 43, 3) := by decide +kernel
theorem dX3_hasStored_4 : decode cX3_hasStored 4 = .ok (.iload_n 1, 1) := by decide +kernel
theorem dX3_hasStored_5 : decode cX3_hasStored 5 = .ok (.lshr, 1) := by decide +kernel
theorem dX3_hasStored_6 : decode cX3_hasStored 6 = .ok (.lconst 1, 1) := by decide +kernel
theorem dX3_hasStored_7 : decode cX3_hasStored 7 = .ok (.land, 1) := by decide +kernel
theorem dX3_hasStored_8 : decode cX3_hasStored 8 = .ok (.lconst 1, 1) := by decide +kernel
theorem dX3_hasStored_9 : decode cX3_hasStored 9 = .ok (.lcmp, 1) := by decide +kernel
theorem dX3_hasStored_10 : decode cX3_hasStored 10 = .ok (.ifCond .ne 7, 3) := by decide +kernel
theorem dX3_hasStored_13 : decode cX3_hasStored 13 = .ok (.iconst 1, 1) := by decide +kernel
theorem dX3_hasStored_14 : decode cX3_hasStored 14 = .ok (.goto 4, 3) := by decide +kernel
theorem dX3_hasStored_17 : decode cX3_hasStored 17 = .ok (.iconst 0, 1) := by decide +kernel
theorem dX3_hasStored_18 : decode cX3_hasStored 18 = .ok (.ireturn, 1) := by decide +kernel
set_option maxRecDepth 20000 in
theorem ggX3_writeTo_X3_hasStored : GoodIn wsX3_writeTo wsX3_hasStored := goodIn_r _ [6, 7, 8, 9, 10, 11, 12, 13, 14, 15, 16] (by decide +kernel) (by decide +kernel)
set_option maxRecDepth 20000 in
theorem gX3_writeTo_X3_hasStored : GoodIn wsX3_writeTo (wsV RX3 47 RX3 yX3_hasStored wsX3_hasStored) := goodIn_app (goodIn_of _ (by decide +kernel)) ggX3_writeTo_X3_hasStored
theorem dX3_writeTo_0 : decode cX3_writeTo 0 = .ok (.iconst 0, 1) := by decide +kernel
theorem dX3_writeTo_1 : decode cX3_writeTo 1 = .ok (.istore_n 2, 1) := by decide +kernel
theorem dX3_writeTo_2 : decode cX3_writeTo 2 = .ok (.iload_n 2, 1) := by decide +kernel
theorem dX3_writeTo_3 : decode cX3_writeTo 3 = .ok (.bipush 64, 2) := by decide +kernel
theorem dX3_writeTo_5 : decode cX3_writeTo 5 = .ok (.if_icmp .ge 26, 3) := by decide +kernel
theorem dX3_writeTo_8 : decode cX3_writeTo 8 = .ok (.aload_n 0, 1) := by decide +kernel
theorem dX3_writeTo_9 : decode cX3_writeTo 9 = .ok (.iload_n 2, 1) := by decide +kernel
theorem dX3_writeTo_10 : decode cX3_writeTo 10 = .ok (.invokevirtual 47, 3) := by decide +kernel
theorem dX3_writeTo_13 : decode cX3_writeTo 13 = .ok (.ifCond .eq 12, 3) := by decide +kernel
theorem dX3_writeTo_16 : decode cX3_writeTo 16 = .ok (.aload_n 1, 1) := by decide +kernel
theorem dX3_writeTo_17 : decode cX3_writeTo 17 = .ok (.iload_n 2, 1) := by decide +kernel
theorem dX3_writeTo_18 : decode cX3_writeTo 18 = .ok (.aload_n 0, 1) := by decide +kernel
theorem dX3_writeTo_19 : decode cX3_writeTo 19 = .ok (.getfield 15, 3) := by decide +kernel
theorem dX3_writeTo_22 : decode cX3_writeTo 22 = .ok (.iload_n 2, 1) := by decide +kernel
theorem dX3_writeTo_23 : decode cX3_writeTo 23 = .ok (.iaload, 1) := by decide +kernel
theorem dX3_writeTo_24 : decode cX3_writeTo 24 = .ok (.iastore, 1) := by decide +kernel
theorem dX3_writeTo_25 : decode cX3_writeTo 25 = .ok (.iinc 2 1, 3) := by decide +kernel
theorem dX3_writeTo_28 : decode cX3_writeTo 28 = .ok (.goto (-26), 3) := by decide +kernel
theorem dX3_writeTo_31 : decode cX3_writeTo 31 = .ok (.return_, 1) := by decide +kernel
set_option maxRecDepth 20000 in
theorem ggX4_init_X1_init : GoodIn wsX4_init wsX1_init := goodIn_r _ [21, 22, 2, 3, 4, 23, 24, 25, 26, 64, 65, 66, 67, 68] (by decide +kernel) (by decide +kernel)
set_option maxRecDepth 20000 in
theorem gX4_init_X1_init_n15 : GoodIn wsX4_init (wsX1_init) := ggX4_init_X1_init
set_option maxRecDepth 20000 in
theorem ggX4_init_X2_init : GoodIn wsX4_init wsX2_init := goodIn_r _ [28, 29, 2, 3, 4, 30, 69, 70, 71] (by decide +kernel) (by decide +kernel)
set_option maxRecDepth 20000 in
theorem gX4_init_X2_init_n22 : GoodIn wsX4_init (wsX2_init) := ggX4_init_X2_init
set_option maxRecDepth 20000 in
theorem ggX4_init_X4_nearest : GoodIn wsX4_init wsX4_nearest := goodIn_r _ [34, 35, 36, 37, 38, 39, 40, 41] (by decide +kernel) (by decide +kernel)
set_option maxRecDepth 20000 in
theorem gX4_init_X4_nearest : GoodIn wsX4_init (va_wsS RX4 27 yX4_nearest wsX4_nearest) := goodIn_app (goodIn_of _ (by decide +kernel)) ggX4_init_X4_nearest
set_option maxRecDepth 20000 in
theorem ggX4_init_X0_init : GoodIn wsX4_init wsX0_init := goodIn_r _ [44, 45, 2, 3, 4, 46, 47, 48, 49, 50, 51, 52, 53, 54, 55, 56, 72, 73, 74, 75, 76, 77, 78, 79, 80, 81, 82, 83, 84, 85, 86, 87, 88] (by decide +kernel) (by decide +kernel)
set_option maxRecDepth 20000 in
theorem gX4_init_X0_init : GoodIn wsX4_init (wsX0_init) := ggX4_init_X0_init
theorem dX4_init_0 : decode cX4_init 0 = .ok (.aload_n 0, 1) := by decide +kernel
theorem dX4_init_1 : decode cX4_init 1 = .ok (.invokespecial 1, 3) := by decide +kernel
theorem dX4_init_4 : decode cX4_init 4 = .ok (.aload_n 0, 1) := by decide +kernel
theorem dX4_init_5 : decode cX4_init 5 = .ok (.bipush 64, 2) := by decide +kernel
theorem dX4_init_7 : decode cX4_init 7 = .ok (.newarray .int, 2) := by decide +kernel
theorem dX4_init_9 : decode cX4_init 9 = .ok (.putfield 9, 3) := by decide +kernel
theorem dX4_init_12 : decode cX4_init 12 = .ok (.aload_n 0, 1) := by decide +kernel
theorem dX4_init_13 : decode cX4_init 13 = .ok (.new 13, 3) := by decide +kernel
theorem dX4_init_16 : decode cX4_init 16 = .ok (.dup, 1) := by decide +kernel
theorem dX4_init_17 : decode cX4_init 17 = .ok (.invokespecial 15, 3) := by decide +kernel
theorem dX4_init_20 : decode cX4_init 20 = .ok (.putfield 16, 3) := by decide +kernel
theorem dX4_init_23 : decode cX4_init 23 = .ok (.aload_n 0, 1) := by decide +kernel
theorem dX4_init_24 : decode cX4_init 24 = .ok (.new 20, 3) := by decide +kernel
theorem dX4_init_27 : decode cX4_init 27 = .ok (.dup, 1) := by decide +kernel
theorem dX4_init_28 : decode cX4_init 28 = .ok (.invokespecial 22, 3) := by decide +kernel
theorem dX4_init_31 : decode cX4_init 31 = .ok (.putfield 23, 3) := by decide +kernel
theorem dX4_init_34 : decode cX4_init 34 = .ok (.iload_n 1, 1) := by decide +kernel
theorem dX4_init_35 : decode cX4_init 35 = .ok (.iconst 1, 1) := by decide +kernel
theorem dX4_init_36 : decode cX4_init 36 = .ok (.iconst 4, 1) := by decide +kernel
theorem dX4_init_37 : decode cX4_init 37 = .ok (.invokestatic 27, 3) := by decide +kernel
theorem dX4_init_40 : decode cX4_init 40 = .ok (.istore 4, 2) := by decide +kernel
theorem dX4_init_42 : decode cX4_init 42 = .ok (.aload_n 0, 1) := by decide +kernel
theorem dX4_init_43 : decode cX4_init 43 = .ok (.iconst 1, 1) := by decide +kernel
theorem dX4_init_44 : decode cX4_init 44 = .ok (.iload_n 2, 1) := by decide +kernel
theorem dX4_init_45 : decode cX4_init 45 = .ok (.iconst 0, 1) := by decide +kernel
theorem dX4_init_46 : decode cX4_init 46 = .ok (.iconst 2, 1) := by decide +kernel
theorem dX4_init_47 : decode cX4_init 47 = .ok (.invokestatic 27, 3) := by decide +kernel
theorem dX4_init_50 : decode cX4_init 50 = .ok (.ishl, 1) := by decide +kernel
theorem dX4_init_51 : decode cX4_init 51 = .ok (.putfield 31, 3) := by decide +kernel
theorem dX4_init_54 : decode cX4_init 54 = .ok (.aload_n 0, 1) := by decide +kernel
theorem dX4_init_55 : decode cX4_init 55 = .ok (.iload_n 3, 1) := by decide +kernel
theorem dX4_init_56 : decode cX4_init 56 = .ok (.iconst 1, 1) := by decide +kernel
theorem dX4_init_57 : decode cX4_init 57 = .ok (.iconst 4, 1) := by decide +kernel
theorem dX4_init_58 : decode cX4_init 58 = .ok (.invokestatic 27, 3) := by decide +kernel
theorem dX4_init_61 : decode cX4_init 61 = .ok (.putfield 35, 3) := by decide +kernel
theorem dX4_init_64 : decode cX4_init 64 = .ok (.aload_n 0, 1) := by decide +kernel
theorem dX4_init_65 : decode cX4_init 65 = .ok (.iload 4, 2) := by decide +kernel
theorem dX4_init_67 : decode cX4_init 67 = .ok (.anewarray 38, 3) := by decide +kernel
theorem dX4_init_70 : decode cX4_init 70 = .ok (.putfield 40, 3) := by decide +kernel
theorem dX4_init_73 : decode cX4_init 73 = .ok (.iconst 0, 1) := by decide +kernel
theorem dX4_init_74 : decode cX4_init 74 = .ok (.istore 5, 2) := by decide +kernel
theorem dX4_init_76 : decode cX4_init 76 = .ok (.iload 5, 2) := by decide +kernel
theorem dX4_init_78 : decode cX4_init 78 = .ok (.iload 4, 2) := by decide +kernel
theorem dX4_init_80 : decode cX4_init 80 = .ok (.if_icmp .ge 25, 3) := by decide +kernel
theorem dX4_init_83 : decode cX4_init 83 = .ok (.aload_n 0, 1) := by decide +kernel
theorem dX4_init_84 : decode cX4_init 84 = .ok (.getfield 40, 3) := by decide +kernel
theorem dX4_init_87 : decode cX4_init 87 = .ok (.iload 5, 2) := by decide +kernel
theorem dX4_init_89 : decode cX4_init 89 = .ok (.new 38, 3) := by decide +kernel
theorem dX4_init_92 : decode cX4_init 92 = .ok (.dup, 1) := by decide +kernel
theorem dX4_init_93 : decode cX4_init 93 = .ok (.iload 5, 2) := by decide +kernel
theorem dX4_init_95 : decode cX4_init 95 = .ok (.invokespecial 44, 3) := by decide +kernel
theorem dX4_init_98 : decode cX4_init 98 = .ok (.aastore, 1) := by decide +kernel
theorem dX4_init_99 : decode cX4_init 99 = .ok (.iinc 5 1, 3) := by decide +kernel
theorem dX4_init_102 : decode cX4_init 102 = .ok (.goto (-26), 3) := by decide +kernel
theorem dX4_init_105 : decode cX4_init 105 = .ok (.return_, 1) := by decide +kernel
set_option maxRecDepth 20000 in
theorem ggX4_instruction_X4_namesRegisters : GoodIn wsX4_instruction wsX4_namesRegisters := goodIn_r _ [10, 11, 12, 9, 13] (by decide +kernel) (by decide +kernel)
set_option maxRecDepth 20000 in
theorem gX4_instruction_X4_namesRegisters : GoodIn wsX4_instruction (va_wsS RX4 47 yX4_namesRegisters wsX4_namesRegisters) := goodIn_app (goodIn_of _ (by decide +kernel)) ggX4_instruction_X4_namesRegisters
set_option maxRecDepth 20000 in
theorem ggX4_instruction_X1_append : GoodIn wsX4_instruction wsX1_append := goodIn_r _ [18, 19, 20, 21, 22, 23, 31, 32, 33, 34, 35] (by decide +kernel) (by decide +kernel)
set_option maxRecDepth 20000 in
theorem gX4_instruction_X1_append : GoodIn wsX4_instruction (wsV RX4 60 RX1 yX1_append wsX1_append) := goodIn_app (goodIn_of _ (by decide +kernel)) ggX4_instruction_X1_append
theorem dX4_instruction_0 : decode cX4_instruction 0 = .ok (.iload_n 1, 1) := by decide +kernel
theorem dX4_instruction_1 : decode cX4_instruction 1 = .ok (.ifCond .lt 20, 3) := by decide +kernel
theorem dX4_instruction_4 : decode cX4_instruction 4 = .ok (.iload_n 1, 1) := by decide +kernel
theorem dX4_instruction_5 : decode cX4_instruction 5 = .ok (.bipush 13, 2) := by decide +kernel
theorem dX4_instruction_7 : decode cX4_instruction 7 = .ok (.if_icmp .gt 14, 3) := by decide +kernel
theorem dX4_instruction_10 : decode cX4_instruction 10 = .ok (.iload_n 1, 1) := by decide +kernel
theorem dX4_instruction_11 : decode cX4_instruction 11 = .ok (.iload_n 2, 1) := by decide +kernel
theorem dX4_instruction_12 : decode cX4_instruction 12 = .ok (.iload_n 3, 1) := by decide +kernel
theorem dX4_instruction_13 : decode cX4_instruction 13 = .ok (.iload 4, 2) := by decide +kernel
theorem dX4_instruction_15 : decode cX4_instruction 15 = .ok (.invokestatic 47, 3) := by decide +kernel
theorem dX4_instruction_18 : decode cX4_instruction 18 = .ok (.ifCond .ne 11, 3) := by decide +kernel
theorem dX4_instruction_21 : decode cX4_instruction 21 = .ok (.new 51, 3) := by decide +kernel
theorem dX4_instruction_24 : decode cX4_instruction 24 = .ok (.dup, 1) := by decide +kernel
theorem dX4_instruction_25 : decode cX4_instruction 25 = .ok (.invokespecial 53, 3) := by decide +kernel
theorem dX4_instruction_28 : decode cX4_instruction 28 = .ok (.athrow, 1) := by decide +kernel
theorem dX4_instruction_29 : decode cX4_instruction 29 = .ok (.aload_n 0, 1) := by decide +kernel
theorem dX4_instruction_30 : decode cX4_instruction 30 = .ok (.getfield 16, 3) := by decide +kernel
theorem dX4_instruction_33 : decode cX4_instruction 33 = .ok (.getfield 54, 3) := by decide +kernel
theorem dX4_instruction_36 : decode cX4_instruction 36 = .ok (.bipush 80, 2) := by decide +kernel
theorem dX4_instruction_38 : decode cX4_instruction 38 = .ok (.if_icmp .lt 11, 3) := by decide +kernel
theorem dX4_instruction_41 : decode cX4_instruction 41 = .ok (.new 57, 3) := by decide +kernel
theorem dX4_instruction_44 : decode cX4_instruction 44 = .ok (.dup, 1) := by decide +kernel
theorem dX4_instruction_45 : decode cX4_instruction 45 = .ok (.invokespecial 59, 3) := by decide +kernel
theorem dX4_instruction_48 : decode cX4_instruction 48 = .ok (.athrow, 1) := by decide +kernel
theorem dX4_instruction_49 : decode cX4_instruction 49 = .ok (.aload_n 0, 1) := by decide +kernel
theorem dX4_instruction_50 : decode cX4_instruction 50 = .ok (.getfield 16, 3) := by decide +kernel
theorem dX4_instruction_53 : decode cX4_instruction 53 = .ok (.iload_n 1, 1) := by decide +kernel
theorem dX4_instruction_54 : decode cX4_instruction 54 = .ok (.iload_n 2, 1) := by decide +kernel
theorem dX4_instruction_55 : decode cX4_instruction 55 = .ok (.iload_n 3, 1) := by decide +kernel
theorem dX4_instruction_56 : decode cX4_instruction 56 = .ok (.iload 4, 2) := by decide +kernel
theorem dX4_instruction_58 : decode cX4_instruction 58 = .ok (.invokevirtual 60, 3) := by decide +kernel
theorem dX4_instruction_61 : decode cX4_instruction 61 = .ok (.ireturn, 1) := by decide +kernel
set_option maxRecDepth 20000 in
theorem ggX4_start_X4_isCore : GoodIn wsX4_start wsX4_isCore := goodIn_r _ [13, 5, 24, 25, 26, 27, 28, 29, 30] (by decide +kernel) (by decide +kernel)
set_option maxRecDepth 20000 in
theorem gX4_start_X4_isCore : GoodIn wsX4_start (wsV RX4 64 RX4 yX4_isCore wsX4_isCore) := goodIn_app (goodIn_of _ (by decide +kernel)) ggX4_start_X4_isCore
set_option maxRecDepth 20000 in
theorem ggX4_start_X3_close : GoodIn wsX4_start wsX3_close := goodIn_r _ [18, 19, 20, 21, 22, 23, 39, 40, 41, 42, 43, 44, 45, 46, 47] (by decide +kernel) (by decide +kernel)
set_option maxRecDepth 20000 in
theorem gX4_start_X3_close : GoodIn wsX4_start (wsV RX4 78 RX3 yX3_close wsX3_close) := goodIn_app (goodIn_of _ (by decide +kernel)) ggX4_start_X3_close
theorem dX4_start_0 : decode cX4_start 0 = .ok (.aload_n 0, 1) := by decide +kernel
theorem dX4_start_1 : decode cX4_start 1 = .ok (.iload_n 1, 1) := by decide +kernel
theorem dX4_start_2 : decode cX4_start 2 = .ok (.invokevirtual 64, 3) := by decide +kernel
theorem dX4_start_5 : decode cX4_start 5 = .ok (.ifCond .ne 11, 3) := by decide +kernel
theorem dX4_start_8 : decode cX4_start 8 = .ok (.new 68, 3) := by decide +kernel
theorem dX4_start_11 : decode cX4_start 11 = .ok (.dup, 1) := by decide +kernel
theorem dX4_start_12 : decode cX4_start 12 = .ok (.invokespecial 70, 3) := by decide +kernel
theorem dX4_start_15 : decode cX4_start 15 = .ok (.athrow, 1) := by decide +kernel
theorem dX4_start_16 : decode cX4_start 16 = .ok (.iload_n 2, 1) := by decide +kernel
theorem dX4_start_17 : decode cX4_start 17 = .ok (.ifCond .lt 9, 3) := by decide +kernel
theorem dX4_start_20 : decode cX4_start 20 = .ok (.iload_n 2, 1) := by decide +kernel
theorem dX4_start_21 : decode cX4_start 21 = .ok (.bipush 80, 2) := by decide +kernel
theorem dX4_start_23 : decode cX4_start 23 = .ok (.if_icmp .le 11, 3) := by decide +kernel
theorem dX4_start_26 : decode cX4_start 26 = .ok (.new 51, 3) := by decide +kernel
theorem dX4_start_29 : decode cX4_start 29 = .ok (.dup, 1) := by decide +kernel
theorem dX4_start_30 : decode cX4_start 30 = .ok (.invokespecial 53, 3) := by decide +kernel
theorem dX4_start_33 : decode cX4_start 33 = .ok (.athrow, 1) := by decide +kernel
theorem dX4_start_34 : decode cX4_start 34 = .ok (.aload_n 0, 1) := by decide +kernel
theorem dX4_start_35 : decode cX4_start 35 = .ok (.getfield 40, 3) := by decide +kernel
theorem dX4_start_38 : decode cX4_start 38 = .ok (.iload_n 1, 1) := by decide +kernel
theorem dX4_start_39 : decode cX4_start 39 = .ok (.aaload, 1) := by decide +kernel
