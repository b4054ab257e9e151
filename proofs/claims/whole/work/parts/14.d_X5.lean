theorem dX5_init_0 : decode cX5_init 0 = .ok (.aload_n 0, 1) := by decide +kernel
theorem dX5_init_1 : decode cX5_init 1 = .ok (.invokespecial 5, 3) := by decide +kernel
theorem dX5_init_4 : decode cX5_init 4 = .ok (.aload_n 0, 1) := by decide +kernel
theorem dX5_init_5 : decode cX5_init 5 = .ok (.sipush 512, 3) := by decide +kernel
theorem dX5_init_8 : decode cX5_init 8 = .ok (.newarray .int, 2) := by decide +kernel
theorem dX5_init_10 : decode cX5_init 10 = .ok (.putfield 11, 3) := by decide +kernel
theorem dX5_init_13 : decode cX5_init 13 = .ok (.aload_n 0, 1) := by decide +kernel
theorem dX5_init_14 : decode cX5_init 14 = .ok (.iload_n 1, 1) := by decide +kernel
theorem dX5_init_15 : decode cX5_init 15 = .ok (.putfield 15, 3) := by decide +kernel
theorem dX5_init_18 : decode cX5_init 18 = .ok (.return_, 1) := by decide +kernel
set_option maxRecDepth 1000000 in
theorem ggX5_get_X5_isOne : GoodIn wsX5_get wsX5_isOne := goodIn_r _ [6, 1, 7, 8, 9] (by decide +kernel) (by decide +kernel)
set_option maxRecDepth 1000000 in
theorem gX5_get_X5_isOne : GoodIn wsX5_get (wsV RX5 19 RX5 yX5_isOne wsX5_isOne) := goodIn_app (goodIn_of _ (by decide +kernel)) ggX5_get_X5_isOne
theorem dX5_get_0 : decode cX5_get 0 = .ok (.aload_n 0, 1) := by decide +kernel
theorem dX5_get_1 : decode cX5_get 1 = .ok (.iload_n 1, 1) := by decide +kernel
theorem dX5_get_2 : decode cX5_get 2 = .ok (.invokevirtual 19, 3) := by decide +kernel
theorem dX5_get_5 : decode cX5_get 5 = .ok (.ifCond .eq 16, 3) := by decide +kernel
theorem dX5_get_8 : decode cX5_get 8 = .ok (.aload_n 0, 1) := by decide +kernel
theorem dX5_get_9 : decode cX5_get 9 = .ok (.getfield 11, 3) := by decide +kernel
theorem dX5_get_12 : decode cX5_get 12 = .ok (.iload_n 1, 1) := by decide +kernel
theorem dX5_get_13 : decode cX5_get 13 = .ok (.sipush 1024, 3) := by decide +kernel
theorem dX5_get_16 : decode cX5_get 16 = .ok (.isub, 1) := by decide +kernel
theorem dX5_get_17 : decode cX5_get 17 = .ok (.iaload, 1) := by decide +kernel
theorem dX5_get_18 : decode cX5_get 18 = .ok (.goto 4, 3) := by decide +kernel
theorem dX5_get_21 : decode cX5_get 21 = .ok (.iconst 0, 1) := by decide +kernel
theorem dX5_get_22 : decode cX5_get 22 = .ok (.ireturn, 1) := by decide +kernel
set_option maxRecDepth 1000000 in
theorem ggX5_put_X5_isOne : GoodIn wsX5_put wsX5_isOne := goodIn_r _ [6, 1, 7, 8, 9] (by decide +kernel) (by decide +kernel)
set_option maxRecDepth 1000000 in
theorem gX5_put_X5_isOne : GoodIn wsX5_put (wsV RX5 19 RX5 yX5_isOne wsX5_isOne) := goodIn_app (goodIn_of _ (by decide +kernel)) ggX5_put_X5_isOne
theorem dX5_put_0 : decode cX5_put 0 = .ok (.aload_n 0, 1) := by decide +kernel
theorem dX5_put_1 : decode cX5_put 1 = .ok (.iload_n 1, 1) := by decide +kernel
theorem dX5_put_2 : decode cX5_put 2 = .ok (.invokevirtual 19, 3) := by decide +kernel
theorem dX5_put_5 : decode cX5_put 5 = .ok (.ifCond .eq 14, 3) := by decide +kernel
theorem dX5_put_8 : decode cX5_put 8 = .ok (.aload_n 0, 1) := by decide +kernel
theorem dX5_put_9 : decode cX5_put 9 = .ok (.getfield 11, 3) := by decide +kernel
theorem dX5_put_12 : decode cX5_put 12 = .ok (.iload_n 1, 1) := by decide +kernel
theorem dX5_put_13 : decode cX5_put 13 = .ok (.sipush 1024, 3) := by decide +kernel
theorem dX5_put_16 : decode cX5_put 16 = .ok (.isub, 1) := by decide +kernel
theorem dX5_put_17 : decode cX5_put 17 = .ok (.iload_n 2, 1) := by decide +kernel
theorem dX5_put_18 : decode cX5_put 18 = .ok (.iastore, 1) := by decide +kernel
theorem dX5_put_19 : decode cX5_put 19 = .ok (.return_, 1) := by decide +kernel
set_option maxRecDepth 1000000 in
theorem ggX5_reset_J7_fill_53178 : GoodIn wsX5_reset wsJ7_fill_53178 := goodIn_r _ [5] (by decide +kernel) (by decide +kernel)
set_option maxRecDepth 1000000 in
theorem gX5_reset_J7_fill_53178 : GoodIn wsX5_reset (va_wsS RX5 23 yJ7_fill_53178 wsJ7_fill_53178) := goodIn_app (goodIn_of _ (by decide +kernel)) ggX5_reset_J7_fill_53178
theorem dX5_reset_0 : decode cX5_reset 0 = .ok (.aload_n 0, 1) := by decide +kernel
theorem dX5_reset_1 : decode cX5_reset 1 = .ok (.getfield 11, 3) := by decide +kernel
theorem dX5_reset_4 : decode cX5_reset 4 = .ok (.iconst 0, 1) := by decide +kernel
theorem dX5_reset_5 : decode cX5_reset 5 = .ok (.invokestatic 23, 3) := by decide +kernel
theorem dX5_reset_8 : decode cX5_reset 8 = .ok (.return_, 1) := by decide +kernel
set_option maxRecDepth 1000000 in
theorem ggX5_codePlace_X5_setOf : GoodIn wsX5_codePlace wsX5_setOf := goodIn_r _ [7, 8, 15, 16] (by decide +kernel) (by decide +kernel)
set_option maxRecDepth 1000000 in
theorem gX5_codePlace_X5_setOf : GoodIn wsX5_codePlace (wsV RX5 29 RX5 yX5_setOf wsX5_setOf) := goodIn_app (goodIn_of _ (by decide +kernel)) ggX5_codePlace_X5_setOf
set_option maxRecDepth 1000000 in
theorem ggX5_codePlace_X5_matches : GoodIn wsX5_codePlace wsX5_matches := goodIn_r _ [11] (by decide +kernel) (by decide +kernel)
set_option maxRecDepth 1000000 in
theorem gX5_codePlace_X5_matches : GoodIn wsX5_codePlace (va_wsS RX5 33 yX5_matches wsX5_matches) := goodIn_app (goodIn_of _ (by decide +kernel)) ggX5_codePlace_X5_matches
set_option maxRecDepth 1000000 in
theorem ggX5_codePlace_X5_join : GoodIn wsX5_codePlace wsX5_join := goodIn_r _ [14] (by decide +kernel) (by decide +kernel)
set_option maxRecDepth 1000000 in
theorem gX5_codePlace_X5_join : GoodIn wsX5_codePlace (va_wsS RX5 37 yX5_join wsX5_join) := goodIn_app (goodIn_of _ (by decide +kernel)) ggX5_codePlace_X5_join
theorem dX5_codePlace_0 : decode cX5_codePlace 0 = .ok (.iload_n 1, 1) := by decide +kernel
theorem dX5_codePlace_1 : decode cX5_codePlace 1 = .ok (.iconst 3, 1) := by decide +kernel
theorem dX5_codePlace_2 : decode cX5_codePlace 2 = .ok (.iand, 1) := by decide +kernel
theorem dX5_codePlace_3 : decode cX5_codePlace 3 = .ok (.ifCond .eq 6, 3) := by decide +kernel
theorem dX5_codePlace_6 : decode cX5_codePlace 6 = .ok (.bipush (-6), 2) := by decide +kernel
theorem dX5_codePlace_8 : decode cX5_codePlace 8 = .ok (.ireturn, 1) := by decide +kernel
theorem dX5_codePlace_9 : decode cX5_codePlace 9 = .ok (.iload_n 1, 1) := by decide +kernel
theorem dX5_codePlace_10 : decode cX5_codePlace 10 = .ok (.istore_n 3, 1) := by decide +kernel
theorem dX5_codePlace_11 : decode cX5_codePlace 11 = .ok (.iload_n 2, 1) := by decide +kernel
theorem dX5_codePlace_12 : decode cX5_codePlace 12 = .ok (.bipush 16, 2) := by decide +kernel
theorem dX5_codePlace_14 : decode cX5_codePlace 14 = .ok (.iand, 1) := by decide +kernel
theorem dX5_codePlace_15 : decode cX5_codePlace 15 = .ok (.ifCond .eq 69, 3) := by decide +kernel
theorem dX5_codePlace_18 : decode cX5_codePlace 18 = .ok (.aload_n 0, 1) := by decide +kernel
theorem dX5_codePlace_19 : decode cX5_codePlace 19 = .ok (.iload_n 1, 1) := by decide +kernel
theorem dX5_codePlace_20 : decode cX5_codePlace 20 = .ok (.invokevirtual 29, 3) := by decide +kernel
theorem dX5_codePlace_23 : decode cX5_codePlace 23 = .ok (.istore 4, 2) := by decide +kernel
theorem dX5_codePlace_25 : decode cX5_codePlace 25 = .ok (.aload_n 0, 1) := by decide +kernel
theorem dX5_codePlace_26 : decode cX5_codePlace 26 = .ok (.getfield 11, 3) := by decide +kernel
theorem dX5_codePlace_29 : decode cX5_codePlace 29 = .ok (.sipush 128, 3) := by decide +kernel
theorem dX5_codePlace_32 : decode cX5_codePlace 32 = .ok (.iload 4, 2) := by decide +kernel
theorem dX5_codePlace_34 : decode cX5_codePlace 34 = .ok (.iadd, 1) := by decide +kernel
theorem dX5_codePlace_35 : decode cX5_codePlace 35 = .ok (.iaload, 1) := by decide +kernel
theorem dX5_codePlace_36 : decode cX5_codePlace 36 = .ok (.istore 5, 2) := by decide +kernel
theorem dX5_codePlace_38 : decode cX5_codePlace 38 = .ok (.aload_n 0, 1) := by decide +kernel
theorem dX5_codePlace_39 : decode cX5_codePlace 39 = .ok (.getfield 11, 3) := by decide +kernel
theorem dX5_codePlace_42 : decode cX5_codePlace 42 = .ok (.iconst 0, 1) := by decide +kernel
theorem dX5_codePlace_43 : decode cX5_codePlace 43 = .ok (.iload 4, 2) := by decide +kernel
theorem dX5_codePlace_45 : decode cX5_codePlace 45 = .ok (.iadd, 1) := by decide +kernel
theorem dX5_codePlace_46 : decode cX5_codePlace 46 = .ok (.iaload, 1) := by decide +kernel
theorem dX5_codePlace_47 : decode cX5_codePlace 47 = .ok (.iload_n 1, 1) := by decide +kernel
theorem dX5_codePlace_48 : decode cX5_codePlace 48 = .ok (.invokestatic 33, 3) := by decide +kernel
theorem dX5_codePlace_51 : decode cX5_codePlace 51 = .ok (.ifCond .ne 6, 3) := by decide +kernel
theorem dX5_codePlace_54 : decode cX5_codePlace 54 = .ok (.bipush (-10), 2) := by decide +kernel
theorem dX5_codePlace_56 : decode cX5_codePlace 56 = .ok (.ireturn, 1) := by decide +kernel
theorem dX5_codePlace_57 : decode cX5_codePlace 57 = .ok (.iload 5, 2) := by decide +kernel
theorem dX5_codePlace_59 : decode cX5_codePlace 59 = .ok (.iload_n 2, 1) := by decide +kernel
theorem dX5_codePlace_60 : decode cX5_codePlace 60 = .ok (.iconst 1, 1) := by decide +kernel
theorem dX5_codePlace_61 : decode cX5_codePlace 61 = .ok (.iand, 1) := by decide +kernel
theorem dX5_codePlace_62 : decode cX5_codePlace 62 = .ok (.ifCond .eq 7, 3) := by decide +kernel
theorem dX5_codePlace_65 : decode cX5_codePlace 65 = .ok (.iconst 4, 1) := by decide +kernel
theorem dX5_codePlace_66 : decode cX5_codePlace 66 = .ok (.goto 4, 3) := by decide +kernel
theorem dX5_codePlace_69 : decode cX5_codePlace 69 = .ok (.iconst 1, 1) := by decide +kernel
theorem dX5_codePlace_70 : decode cX5_codePlace 70 = .ok (.iand, 1) := by decide +kernel
theorem dX5_codePlace_71 : decode cX5_codePlace 71 = .ok (.ifCond .ne 6, 3) := by decide +kernel
theorem dX5_codePlace_74 : decode cX5_codePlace 74 = .ok (.bipush (-4), 2) := by decide +kernel
theorem dX5_codePlace_76 : decode cX5_codePlace 76 = .ok (.ireturn, 1) := by decide +kernel
theorem dX5_codePlace_77 : decode cX5_codePlace 77 = .ok (.iload 5, 2) := by decide +kernel
theorem dX5_codePlace_79 : decode cX5_codePlace 79 = .ok (.iload_n 1, 1) := by decide +kernel
theorem dX5_codePlace_80 : decode cX5_codePlace 80 = .ok (.invokestatic 37, 3) := by decide +kernel
theorem dX5_codePlace_83 : decode cX5_codePlace 83 = .ok (.istore_n 3, 1) := by decide +kernel
theorem dX5_codePlace_84 : decode cX5_codePlace 84 = .ok (.iload_n 3, 1) := by decide +kernel
theorem dX5_codePlace_85 : decode cX5_codePlace 85 = .ok (.ifCond .lt 9, 3) := by decide +kernel
theorem dX5_codePlace_88 : decode cX5_codePlace 88 = .ok (.iload_n 3, 1) := by decide +kernel
theorem dX5_codePlace_89 : decode cX5_codePlace 89 = .ok (.ldc 41, 2) := by decide +kernel
theorem dX5_codePlace_91 : decode cX5_codePlace 91 = .ok (.if_icmp .lt 8, 3) := by decide +kernel
theorem dX5_codePlace_94 : decode cX5_codePlace 94 = .ok (.bipush (-2), 2) := by decide +kernel
theorem dX5_codePlace_96 : decode cX5_codePlace 96 = .ok (.goto 4, 3) := by decide +kernel
theorem dX5_codePlace_99 : decode cX5_codePlace 99 = .ok (.iload_n 3, 1) := by decide +kernel
theorem dX5_codePlace_100 : decode cX5_codePlace 100 = .ok (.ireturn, 1) := by decide +kernel
set_option maxRecDepth 1000000 in
theorem ggX5_dataPlace_X5_setOf : GoodIn wsX5_dataPlace wsX5_setOf := goodIn_r _ [8, 9, 16, 17] (by decide +kernel) (by decide +kernel)
set_option maxRecDepth 1000000 in
theorem gX5_dataPlace_X5_setOf : GoodIn wsX5_dataPlace (wsV RX5 29 RX5 yX5_setOf wsX5_setOf) := goodIn_app (goodIn_of _ (by decide +kernel)) ggX5_dataPlace_X5_setOf
set_option maxRecDepth 1000000 in
theorem ggX5_dataPlace_X5_matches : GoodIn wsX5_dataPlace wsX5_matches := goodIn_r _ [12] (by decide +kernel) (by decide +kernel)
set_option maxRecDepth 1000000 in
theorem gX5_dataPlace_X5_matches : GoodIn wsX5_dataPlace (va_wsS RX5 33 yX5_matches wsX5_matches) := goodIn_app (goodIn_of _ (by decide +kernel)) ggX5_dataPlace_X5_matches
set_option maxRecDepth 1000000 in
theorem ggX5_dataPlace_X5_join : GoodIn wsX5_dataPlace wsX5_join := goodIn_r _ [15] (by decide +kernel) (by decide +kernel)
set_option maxRecDepth 1000000 in
theorem gX5_dataPlace_X5_join : GoodIn wsX5_dataPlace (va_wsS RX5 37 yX5_join wsX5_join) := goodIn_app (goodIn_of _ (by decide +kernel)) ggX5_dataPlace_X5_join
theorem dX5_dataPlace_0 : decode cX5_dataPlace 0 = .ok (.iload_n 1, 1) := by decide +kernel
theorem dX5_dataPlace_1 : decode cX5_dataPlace 1 = .ok (.istore 4, 2) := by decide +kernel
theorem dX5_dataPlace_3 : decode cX5_dataPlace 3 = .ok (.iload_n 2, 1) := by decide +kernel
theorem dX5_dataPlace_4 : decode cX5_dataPlace 4 = .ok (.bipush 8, 2) := by decide +kernel
theorem dX5_dataPlace_6 : decode cX5_dataPlace 6 = .ok (.iand, 1) := by decide +kernel
theorem dX5_dataPlace_7 : decode cX5_dataPlace 7 = .ok (.ifCond .eq 87, 3) := by decide +kernel
theorem dX5_dataPlace_10 : decode cX5_dataPlace 10 = .ok (.aload_n 0, 1) := by decide +kernel
theorem dX5_dataPlace_11 : decode cX5_dataPlace 11 = .ok (.iload_n 1, 1) := by decide +kernel
theorem dX5_dataPlace_12 : decode cX5_dataPlace 12 = .ok (.invokevirtual 29, 3) := by decide +kernel
theorem dX5_dataPlace_15 : decode cX5_dataPlace 15 = .ok (.istore 5, 2) := by decide +kernel
theorem dX5_dataPlace_17 : decode cX5_dataPlace 17 = .ok (.aload_n 0, 1) := by decide +kernel
theorem dX5_dataPlace_18 : decode cX5_dataPlace 18 = .ok (.getfield 11, 3) := by decide +kernel
theorem dX5_dataPlace_21 : decode cX5_dataPlace 21 = .ok (.sipush 384, 3) := by decide +kernel
theorem dX5_dataPlace_24 : decode cX5_dataPlace 24 = .ok (.iload 5, 2) := by decide +kernel
theorem dX5_dataPlace_26 : decode cX5_dataPlace 26 = .ok (.iadd, 1) := by decide +kernel
theorem dX5_dataPlace_27 : decode cX5_dataPlace 27 = .ok (.iaload, 1) := by decide +kernel
theorem dX5_dataPlace_28 : decode cX5_dataPlace 28 = .ok (.istore 6, 2) := by decide +kernel
theorem dX5_dataPlace_30 : decode cX5_dataPlace 30 = .ok (.iload_n 3, 1) := by decide +kernel
theorem dX5_dataPlace_31 : decode cX5_dataPlace 31 = .ok (.ifCond .eq 7, 3) := by decide +kernel
theorem dX5_dataPlace_34 : decode cX5_dataPlace 34 = .ok (.iconst 2, 1) := by decide +kernel
theorem dX5_dataPlace_35 : decode cX5_dataPlace 35 = .ok (.goto 4, 3) := by decide +kernel
theorem dX5_dataPlace_38 : decode cX5_dataPlace 38 = .ok (.iconst 1, 1) := by decide +kernel
theorem dX5_dataPlace_39 : decode cX5_dataPlace 39 = .ok (.istore 7, 2) := by decide +kernel
theorem dX5_dataPlace_41 : decode cX5_dataPlace 41 = .ok (.aload_n 0, 1) := by decide +kernel
theorem dX5_dataPlace_42 : decode cX5_dataPlace 42 = .ok (.getfield 11, 3) := by decide +kernel
theorem dX5_dataPlace_45 : decode cX5_dataPlace 45 = .ok (.sipush 256, 3) := by decide +kernel
theorem dX5_dataPlace_48 : decode cX5_dataPlace 48 = .ok (.iload 5, 2) := by decide +kernel
theorem dX5_dataPlace_50 : decode cX5_dataPlace 50 = .ok (.iadd, 1) := by decide +kernel
theorem dX5_dataPlace_51 : decode cX5_dataPlace 51 = .ok (.iaload, 1) := by decide +kernel
theorem dX5_dataPlace_52 : decode cX5_dataPlace 52 = .ok (.iload_n 1, 1) := by decide +kernel
theorem dX5_dataPlace_53 : decode cX5_dataPlace 53 = .ok (.invokestatic 33, 3) := by decide +kernel
theorem dX5_dataPlace_56 : decode cX5_dataPlace 56 = .ok (.ifCond .ne 6, 3) := by decide +kernel
theorem dX5_dataPlace_59 : decode cX5_dataPlace 59 = .ok (.bipush (-9), 2) := by decide +kernel
theorem dX5_dataPlace_61 : decode cX5_dataPlace 61 = .ok (.ireturn, 1) := by decide +kernel
theorem dX5_dataPlace_62 : decode cX5_dataPlace 62 = .ok (.iload 6, 2) := by decide +kernel
theorem dX5_dataPlace_64 : decode cX5_dataPlace 64 = .ok (.iload_n 2, 1) := by decide +kernel
theorem dX5_dataPlace_65 : decode cX5_dataPlace 65 = .ok (.iconst 1, 1) := by decide +kernel
theorem dX5_dataPlace_66 : decode cX5_dataPlace 66 = .ok (.iand, 1) := by decide +kernel
theorem dX5_dataPlace_67 : decode cX5_dataPlace 67 = .ok (.ifCond .eq 10, 3) := by decide +kernel
theorem dX5_dataPlace_70 : decode cX5_dataPlace 70 = .ok (.iconst 4, 1) := by decide +kernel
theorem dX5_dataPlace_71 : decode cX5_dataPlace 71 = .ok (.iload 7, 2) := by decide +kernel
theorem dX5_dataPlace_73 : decode cX5_dataPlace 73 = .ok (.imul, 1) := by decide +kernel
theorem dX5_dataPlace_74 : decode cX5_dataPlace 74 = .ok (.goto 5, 3) := by decide +kernel
theorem dX5_dataPlace_77 : decode cX5_dataPlace 77 = .ok (.iload 7, 2) := by decide +kernel
theorem dX5_dataPlace_79 : decode cX5_dataPlace 79 = .ok (.iand, 1) := by decide +kernel
theorem dX5_dataPlace_80 : decode cX5_dataPlace 80 = .ok (.ifCond .ne 6, 3) := by decide +kernel
theorem dX5_dataPlace_83 : decode cX5_dataPlace 83 = .ok (.bipush (-3), 2) := by decide +kernel
theorem dX5_dataPlace_85 : decode cX5_dataPlace 85 = .ok (.ireturn, 1) := by decide +kernel
theorem dX5_dataPlace_86 : decode cX5_dataPlace 86 = .ok (.iload 6, 2) := by decide +kernel
theorem dX5_dataPlace_88 : decode cX5_dataPlace 88 = .ok (.iload_n 1, 1) := by decide +kernel
theorem dX5_dataPlace_89 : decode cX5_dataPlace 89 = .ok (.invokestatic 37, 3) := by decide +kernel
theorem dX5_dataPlace_92 : decode cX5_dataPlace 92 = .ok (.istore 4, 2) := by decide +kernel
theorem dX5_dataPlace_94 : decode cX5_dataPlace 94 = .ok (.iload_n 3, 1) := by decide +kernel
theorem dX5_dataPlace_95 : decode cX5_dataPlace 95 = .ok (.ifCond .eq 8, 3) := by decide +kernel
theorem dX5_dataPlace_98 : decode cX5_dataPlace 98 = .ok (.ldc 41, 2) := by decide +kernel
theorem dX5_dataPlace_100 : decode cX5_dataPlace 100 = .ok (.goto 4, 3) := by decide +kernel
theorem dX5_dataPlace_103 : decode cX5_dataPlace 103 = .ok (.iconst 0, 1) := by decide +kernel
theorem dX5_dataPlace_104 : decode cX5_dataPlace 104 = .ok (.istore 5, 2) := by decide +kernel
theorem dX5_dataPlace_106 : decode cX5_dataPlace 106 = .ok (.iload 4, 2) := by decide +kernel
theorem dX5_dataPlace_108 : decode cX5_dataPlace 108 = .ok (.iload 5, 2) := by decide +kernel
theorem dX5_dataPlace_110 : decode cX5_dataPlace 110 = .ok (.if_icmp .lt 10, 3) := by decide +kernel
theorem dX5_dataPlace_113 : decode cX5_dataPlace 113 = .ok (.iload 4, 2) := by decide +kernel
theorem dX5_dataPlace_115 : decode cX5_dataPlace 115 = .ok (.ldc 42, 2) := by decide +kernel
theorem dX5_dataPlace_117 : decode cX5_dataPlace 117 = .ok (.if_icmp .lt 8, 3) := by decide +kernel
theorem dX5_dataPlace_120 : decode cX5_dataPlace 120 = .ok (.bipush (-2), 2) := by decide +kernel
theorem dX5_dataPlace_122 : decode cX5_dataPlace 122 = .ok (.goto 5, 3) := by decide +kernel
theorem dX5_dataPlace_125 : decode cX5_dataPlace 125 = .ok (.iload 4, 2) := by decide +kernel
theorem dX5_dataPlace_127 : decode cX5_dataPlace 127 = .ok (.ireturn, 1) := by decide +kernel
theorem dX5_isOne_0 : decode cX5_isOne 0 = .ok (.iload_n 1, 1) := by decide +kernel
theorem dX5_isOne_1 : decode cX5_isOne 1 = .ok (.sipush 1024, 3) := by decide +kernel
theorem dX5_isOne_4 : decode cX5_isOne 4 = .ok (.isub, 1) := by decide +kernel
theorem dX5_isOne_5 : decode cX5_isOne 5 = .ok (.istore_n 2, 1) := by decide +kernel
theorem dX5_isOne_6 : decode cX5_isOne 6 = .ok (.iload_n 2, 1) := by decide +kernel
theorem dX5_isOne_7 : decode cX5_isOne 7 = .ok (.ifCond .lt 28, 3) := by decide +kernel
theorem dX5_isOne_10 : decode cX5_isOne 10 = .ok (.iload_n 2, 1) := by decide +kernel
theorem dX5_isOne_11 : decode cX5_isOne 11 = .ok (.aload_n 0, 1) := by decide +kernel
theorem dX5_isOne_12 : decode cX5_isOne 12 = .ok (.getfield 11, 3) := by decide +kernel
theorem dX5_isOne_15 : decode cX5_isOne 15 = .ok (.arraylength, 1) := by decide +kernel
theorem dX5_isOne_16 : decode cX5_isOne 16 = .ok (.if_icmp .ge 19, 3) := by decide +kernel
theorem dX5_isOne_19 : decode cX5_isOne 19 = .ok (.iload_n 2, 1) := by decide +kernel
theorem dX5_isOne_20 : decode cX5_isOne 20 = .ok (.sipush 128, 3) := by decide +kernel
theorem dX5_isOne_23 : decode cX5_isOne 23 = .ok (.irem, 1) := by decide +kernel
theorem dX5_isOne_24 : decode cX5_isOne 24 = .ok (.aload_n 0, 1) := by decide +kernel
theorem dX5_isOne_25 : decode cX5_isOne 25 = .ok (.getfield 15, 3) := by decide +kernel
theorem dX5_isOne_28 : decode cX5_isOne 28 = .ok (.if_icmp .ge 7, 3) := by decide +kernel
theorem dX5_isOne_31 : decode cX5_isOne 31 = .ok (.iconst 1, 1) := by decide +kernel
theorem dX5_isOne_32 : decode cX5_isOne 32 = .ok (.goto 4, 3) := by decide +kernel
theorem dX5_isOne_35 : decode cX5_isOne 35 = .ok (.iconst 0, 1) := by decide +kernel
theorem dX5_isOne_36 : decode cX5_isOne 36 = .ok (.ireturn, 1) := by decide +kernel
theorem dX5_setOf_0 : decode cX5_setOf 0 = .ok (.iload_n 1, 1) := by decide +kernel
theorem dX5_setOf_1 : decode cX5_setOf 1 = .ok (.bipush 10, 2) := by decide +kernel
theorem dX5_setOf_3 : decode cX5_setOf 3 = .ok (.iushr, 1) := by decide +kernel
theorem dX5_setOf_4 : decode cX5_setOf 4 = .ok (.aload_n 0, 1) := by decide +kernel
theorem dX5_setOf_5 : decode cX5_setOf 5 = .ok (.getfield 15, 3) := by decide +kernel
theorem dX5_setOf_8 : decode cX5_setOf 8 = .ok (.iconst 1, 1) := by decide +kernel
theorem dX5_setOf_9 : decode cX5_setOf 9 = .ok (.isub, 1) := by decide +kernel
theorem dX5_setOf_10 : decode cX5_setOf 10 = .ok (.iand, 1) := by decide +kernel
theorem dX5_setOf_11 : decode cX5_setOf 11 = .ok (.ireturn, 1) := by decide +kernel
theorem dX5_matches_0 : decode cX5_matches 0 = .ok (.iload_n 0, 1) := by decide +kernel
theorem dX5_matches_1 : decode cX5_matches 1 = .ok (.iconst 1, 1) := by decide +kernel
theorem dX5_matches_2 : decode cX5_matches 2 = .ok (.iand, 1) := by decide +kernel
theorem dX5_matches_3 : decode cX5_matches 3 = .ok (.ifCond .eq 18, 3) := by decide +kernel
theorem dX5_matches_6 : decode cX5_matches 6 = .ok (.iload_n 0, 1) := by decide +kernel
theorem dX5_matches_7 : decode cX5_matches 7 = .ok (.bipush 10, 2) := by decide +kernel
theorem dX5_matches_9 : decode cX5_matches 9 = .ok (.iushr, 1) := by decide +kernel
theorem dX5_matches_10 : decode cX5_matches 10 = .ok (.iload_n 1, 1) := by decide +kernel
theorem dX5_matches_11 : decode cX5_matches 11 = .ok (.bipush 10, 2) := by decide +kernel
theorem dX5_matches_13 : decode cX5_matches 13 = .ok (.iushr, 1) := by decide +kernel
theorem dX5_matches_14 : decode cX5_matches 14 = .ok (.if_icmp .ne 7, 3) := by decide +kernel
theorem dX5_matches_17 : decode cX5_matches 17 = .ok (.iconst 1, 1) := by decide +kernel
theorem dX5_matches_18 : decode cX5_matches 18 = .ok (.goto 4, 3) := by decide +kernel
theorem dX5_matches_21 : decode cX5_matches 21 = .ok (.iconst 0, 1) := by decide +kernel
theorem dX5_matches_22 : decode cX5_matches 22 = .ok (.ireturn, 1) := by decide +kernel
theorem dX5_join_0 : decode cX5_join 0 = .ok (.iload_n 0, 1) := by decide +kernel
theorem dX5_join_1 : decode cX5_join 1 = .ok (.sipush (-1024), 3) := by decide +kernel
theorem dX5_join_4 : decode cX5_join 4 = .ok (.iand, 1) := by decide +kernel
theorem dX5_join_5 : decode cX5_join 5 = .ok (.iload_n 1, 1) := by decide +kernel
theorem dX5_join_6 : decode cX5_join 6 = .ok (.sipush 1023, 3) := by decide +kernel
theorem dX5_join_9 : decode cX5_join 9 = .ok (.iand, 1) := by decide +kernel
theorem dX5_join_10 : decode cX5_join 10 = .ok (.ior, 1) := by decide +kernel
theorem dX5_join_11 : decode cX5_join 11 = .ok (.ireturn, 1) := by decide +kernel
