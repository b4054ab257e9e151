theorem dX1_init_0 : decode cX1_init 0 = .ok (.aload_n 0, 1) := by decide +kernel
theorem dX1_init_1 : decode cX1_init 1 = .ok (.invokespecial 3, 3) := by decide +kernel
theorem dX1_init_4 : decode cX1_init 4 = .ok (.aload_n 0, 1) := by decide +kernel
theorem dX1_init_5 : decode cX1_init 5 = .ok (.sipush 2816, 3) := by decide +kernel
theorem dX1_init_8 : decode cX1_init 8 = .ok (.newarray .int, 2) := by decide +kernel
theorem dX1_init_10 : decode cX1_init 10 = .ok (.putfield 11, 3) := by decide +kernel
theorem dX1_init_13 : decode cX1_init 13 = .ok (.return_, 1) := by decide +kernel
theorem dX1_reset_0 : decode cX1_reset 0 = .ok (.aload_n 0, 1) := by decide +kernel
theorem dX1_reset_1 : decode cX1_reset 1 = .ok (.iconst 0, 1) := by decide +kernel
theorem dX1_reset_2 : decode cX1_reset 2 = .ok (.putfield 15, 3) := by decide +kernel
theorem dX1_reset_5 : decode cX1_reset 5 = .ok (.aload_n 0, 1) := by decide +kernel
theorem dX1_reset_6 : decode cX1_reset 6 = .ok (.iconst 0, 1) := by decide +kernel
theorem dX1_reset_7 : decode cX1_reset 7 = .ok (.putfield 19, 3) := by decide +kernel
theorem dX1_reset_10 : decode cX1_reset 10 = .ok (.aload_n 0, 1) := by decide +kernel
theorem dX1_reset_11 : decode cX1_reset 11 = .ok (.iconst 0, 1) := by decide +kernel
theorem dX1_reset_12 : decode cX1_reset 12 = .ok (.putfield 22, 3) := by decide +kernel
theorem dX1_reset_15 : decode cX1_reset 15 = .ok (.aload_n 0, 1) := by decide +kernel
theorem dX1_reset_16 : decode cX1_reset 16 = .ok (.iconst 0, 1) := by decide +kernel
theorem dX1_reset_17 : decode cX1_reset 17 = .ok (.putfield 25, 3) := by decide +kernel
theorem dX1_reset_20 : decode cX1_reset 20 = .ok (.aload_n 0, 1) := by decide +kernel
theorem dX1_reset_21 : decode cX1_reset 21 = .ok (.iconst 0, 1) := by decide +kernel
theorem dX1_reset_22 : decode cX1_reset 22 = .ok (.putfield 28, 3) := by decide +kernel
theorem dX1_reset_25 : decode cX1_reset 25 = .ok (.return_, 1) := by decide +kernel
theorem dX1_keeps_0 : decode cX1_keeps 0 = .ok (.iload_n 1, 1) := by decide +kernel
theorem dX1_keeps_1 : decode cX1_keeps 1 = .ok (.ifCond .lt 27, 3) := by decide +kernel
theorem dX1_keeps_4 : decode cX1_keeps 4 = .ok (.iload_n 1, 1) := by decide +kernel
theorem dX1_keeps_5 : decode cX1_keeps 5 = .ok (.aload_n 0, 1) := by decide +kernel
theorem dX1_keeps_6 : decode cX1_keeps 6 = .ok (.getfield 15, 3) := by decide +kernel
theorem dX1_keeps_9 : decode cX1_keeps 9 = .ok (.if_icmp .ge 19, 3) := by decide +kernel
theorem dX1_keeps_12 : decode cX1_keeps 12 = .ok (.iload_n 1, 1) := by decide +kernel
theorem dX1_keeps_13 : decode cX1_keeps 13 = .ok (.aload_n 0, 1) := by decide +kernel
theorem dX1_keeps_14 : decode cX1_keeps 14 = .ok (.getfield 15, 3) := by decide +kernel
theorem dX1_keeps_17 : decode cX1_keeps 17 = .ok (.sipush 256, 3) := by decide +kernel
theorem dX1_keeps_20 : decode cX1_keeps 20 = .ok (.isub, 1) := by decide +kernel
theorem dX1_keeps_21 : decode cX1_keeps 21 = .ok (.if_icmp .lt 7, 3) := by decide +kernel
theorem dX1_keeps_24 : decode cX1_keeps 24 = .ok (.iconst 1, 1) := by decide +kernel
theorem dX1_keeps_25 : decode cX1_keeps 25 = .ok (.goto 4, 3) := by decide +kernel
theorem dX1_keeps_28 : decode cX1_keeps 28 = .ok (.iconst 0, 1) := by decide +kernel
theorem dX1_keeps_29 : decode cX1_keeps 29 = .ok (.ireturn, 1) := by decide +kernel
theorem dX1_firstKept_0 : decode cX1_firstKept 0 = .ok (.aload_n 0, 1) := by decide +kernel
theorem dX1_firstKept_1 : decode cX1_firstKept 1 = .ok (.getfield 15, 3) := by decide +kernel
theorem dX1_firstKept_4 : decode cX1_firstKept 4 = .ok (.ifCond .ne 7, 3) := by decide +kernel
theorem dX1_firstKept_7 : decode cX1_firstKept 7 = .ok (.iconst (-1), 1) := by decide +kernel
theorem dX1_firstKept_8 : decode cX1_firstKept 8 = .ok (.goto 15, 3) := by decide +kernel
theorem dX1_firstKept_11 : decode cX1_firstKept 11 = .ok (.iconst 0, 1) := by decide +kernel
theorem dX1_firstKept_12 : decode cX1_firstKept 12 = .ok (.aload_n 0, 1) := by decide +kernel
theorem dX1_firstKept_13 : decode cX1_firstKept 13 = .ok (.getfield 15, 3) := by decide +kernel
theorem dX1_firstKept_16 : decode cX1_firstKept 16 = .ok (.sipush 256, 3) := by decide +kernel
theorem dX1_firstKept_19 : decode cX1_firstKept 19 = .ok (.isub, 1) := by decide +kernel
theorem dX1_firstKept_20 : decode cX1_firstKept 20 = .ok (.invokestatic 31, 3) := by decide +kernel
theorem dX1_firstKept_23 : decode cX1_firstKept 23 = .ok (.ireturn, 1) := by decide +kernel
theorem dX1_field_0 : decode cX1_field 0 = .ok (.aload_n 0, 1) := by decide +kernel
theorem dX1_field_1 : decode cX1_field 1 = .ok (.getfield 11, 3) := by decide +kernel
theorem dX1_field_4 : decode cX1_field 4 = .ok (.iload_n 1, 1) := by decide +kernel
theorem dX1_field_5 : decode cX1_field 5 = .ok (.sipush 255, 3) := by decide +kernel
theorem dX1_field_8 : decode cX1_field 8 = .ok (.iand, 1) := by decide +kernel
theorem dX1_field_9 : decode cX1_field 9 = .ok (.bipush 11, 2) := by decide +kernel
theorem dX1_field_11 : decode cX1_field 11 = .ok (.imul, 1) := by decide +kernel
theorem dX1_field_12 : decode cX1_field 12 = .ok (.iload_n 2, 1) := by decide +kernel
theorem dX1_field_13 : decode cX1_field 13 = .ok (.iadd, 1) := by decide +kernel
theorem dX1_field_14 : decode cX1_field 14 = .ok (.iaload, 1) := by decide +kernel
theorem dX1_field_15 : decode cX1_field 15 = .ok (.ireturn, 1) := by decide +kernel
set_option maxRecDepth 1000000 in
theorem ggX1_add_X1_countCycle : GoodIn wsX1_add wsX1_countCycle := goodIn_r _ [16, 3, 17, 18, 19, 20, 21, 22, 23, 66, 67, 68, 69, 70, 71] (by decide +kernel) (by decide +kernel)
set_option maxRecDepth 1000000 in
theorem gX1_add_X1_countCycle : GoodIn wsX1_add (wsV RX1 42 RX1 yX1_countCycle wsX1_countCycle) := goodIn_app (goodIn_of _ (by decide +kernel)) ggX1_add_X1_countCycle
set_option maxRecDepth 1000000 in
theorem ggX1_add_X2_retires : GoodIn wsX1_add wsX2_retires := goodIn_r _ [28, 29, 30, 72, 73, 74, 75, 76, 77, 78, 79, 80, 81, 82, 83, 84, 85, 86] (by decide +kernel) (by decide +kernel)
set_option maxRecDepth 1000000 in
theorem gX1_add_X2_retires : GoodIn wsX1_add (wsV RX1 46 RX2 yX2_retires wsX2_retires) := goodIn_app (goodIn_of _ (by decide +kernel)) ggX1_add_X2_retires
set_option maxRecDepth 1000000 in
theorem ggX1_add_X1_keepWrites : GoodIn wsX1_add wsX1_keepWrites := goodIn_r _ [34, 35, 5, 36, 4, 37, 38, 39, 24, 25, 26, 27, 28, 29, 30, 40, 41, 42, 43, 44, 45, 46, 47, 48, 49, 50, 51, 72, 73, 74, 75, 76, 77, 78, 79, 80, 81, 82, 83, 84, 85, 86, 66, 67, 68, 69, 70, 71, 93, 94, 95, 96, 97, 98, 99, 100] rfl (by decide +kernel)
set_option maxRecDepth 1000000 in
theorem gX1_add_X1_keepWrites : GoodIn wsX1_add (wsV RX1 80 RX1 yX1_keepWrites wsX1_keepWrites) := goodIn_app (goodIn_of _ (by decide +kernel)) ggX1_add_X1_keepWrites
theorem dX1_add_0 : decode cX1_add 0 = .ok (.aload_n 0, 1) := by decide +kernel
theorem dX1_add_1 : decode cX1_add 1 = .ok (.aload_n 2, 1) := by decide +kernel
theorem dX1_add_2 : decode cX1_add 2 = .ok (.getfield 37, 3) := by decide +kernel
theorem dX1_add_5 : decode cX1_add 5 = .ok (.invokevirtual 42, 3) := by decide +kernel
theorem dX1_add_8 : decode cX1_add 8 = .ok (.aload_n 1, 1) := by decide +kernel
theorem dX1_add_9 : decode cX1_add 9 = .ok (.invokevirtual 46, 3) := by decide +kernel
theorem dX1_add_12 : decode cX1_add 12 = .ok (.ifCond .ne 13, 3) := by decide +kernel
theorem dX1_add_15 : decode cX1_add 15 = .ok (.aload_n 0, 1) := by decide +kernel
theorem dX1_add_16 : decode cX1_add 16 = .ok (.dup, 1) := by decide +kernel
theorem dX1_add_17 : decode cX1_add 17 = .ok (.getfield 19, 3) := by decide +kernel
theorem dX1_add_20 : decode cX1_add 20 = .ok (.iconst 1, 1) := by decide +kernel
theorem dX1_add_21 : decode cX1_add 21 = .ok (.iadd, 1) := by decide +kernel
theorem dX1_add_22 : decode cX1_add 22 = .ok (.putfield 19, 3) := by decide +kernel
theorem dX1_add_25 : decode cX1_add 25 = .ok (.aload_n 0, 1) := by decide +kernel
theorem dX1_add_26 : decode cX1_add 26 = .ok (.getfield 15, 3) := by decide +kernel
theorem dX1_add_29 : decode cX1_add 29 = .ok (.sipush 255, 3) := by decide +kernel
theorem dX1_add_32 : decode cX1_add 32 = .ok (.iand, 1) := by decide +kernel
theorem dX1_add_33 : decode cX1_add 33 = .ok (.bipush 11, 2) := by decide +kernel
theorem dX1_add_35 : decode cX1_add 35 = .ok (.imul, 1) := by decide +kernel
theorem dX1_add_36 : decode cX1_add 36 = .ok (.istore_n 3, 1) := by decide +kernel
theorem dX1_add_37 : decode cX1_add 37 = .ok (.aload_n 0, 1) := by decide +kernel
theorem dX1_add_38 : decode cX1_add 38 = .ok (.getfield 11, 3) := by decide +kernel
theorem dX1_add_41 : decode cX1_add 41 = .ok (.iload_n 3, 1) := by decide +kernel
theorem dX1_add_42 : decode cX1_add 42 = .ok (.aload_n 2, 1) := by decide +kernel
theorem dX1_add_43 : decode cX1_add 43 = .ok (.getfield 37, 3) := by decide +kernel
theorem dX1_add_46 : decode cX1_add 46 = .ok (.iastore, 1) := by decide +kernel
theorem dX1_add_47 : decode cX1_add 47 = .ok (.aload_n 0, 1) := by decide +kernel
theorem dX1_add_48 : decode cX1_add 48 = .ok (.getfield 11, 3) := by decide +kernel
theorem dX1_add_51 : decode cX1_add 51 = .ok (.iload_n 3, 1) := by decide +kernel
theorem dX1_add_52 : decode cX1_add 52 = .ok (.iconst 1, 1) := by decide +kernel
theorem dX1_add_53 : decode cX1_add 53 = .ok (.iadd, 1) := by decide +kernel
theorem dX1_add_54 : decode cX1_add 54 = .ok (.aload_n 1, 1) := by decide +kernel
theorem dX1_add_55 : decode cX1_add 55 = .ok (.getfield 52, 3) := by decide +kernel
theorem dX1_add_58 : decode cX1_add 58 = .ok (.getfield 56, 3) := by decide +kernel
theorem dX1_add_61 : decode cX1_add 61 = .ok (.iastore, 1) := by decide +kernel
theorem dX1_add_62 : decode cX1_add 62 = .ok (.aload_n 0, 1) := by decide +kernel
theorem dX1_add_63 : decode cX1_add 63 = .ok (.getfield 11, 3) := by decide +kernel
theorem dX1_add_66 : decode cX1_add 66 = .ok (.iload_n 3, 1) := by decide +kernel
theorem dX1_add_67 : decode cX1_add 67 = .ok (.iconst 5, 1) := by decide +kernel
theorem dX1_add_68 : decode cX1_add 68 = .ok (.iadd, 1) := by decide +kernel
theorem dX1_add_69 : decode cX1_add 69 = .ok (.aload_n 1, 1) := by decide +kernel
theorem dX1_add_70 : decode cX1_add 70 = .ok (.getfield 61, 3) := by decide +kernel
theorem dX1_add_73 : decode cX1_add 73 = .ok (.getfield 65, 3) := by decide +kernel
theorem dX1_add_76 : decode cX1_add 76 = .ok (.ifCond .eq 7, 3) := by decide +kernel
theorem dX1_add_79 : decode cX1_add 79 = .ok (.iconst 1, 1) := by decide +kernel
theorem dX1_add_80 : decode cX1_add 80 = .ok (.goto 4, 3) := by decide +kernel
theorem dX1_add_83 : decode cX1_add 83 = .ok (.iconst 0, 1) := by decide +kernel
theorem dX1_add_84 : decode cX1_add 84 = .ok (.iastore, 1) := by decide +kernel
theorem dX1_add_85 : decode cX1_add 85 = .ok (.aload_n 0, 1) := by decide +kernel
theorem dX1_add_86 : decode cX1_add 86 = .ok (.getfield 11, 3) := by decide +kernel
theorem dX1_add_89 : decode cX1_add 89 = .ok (.iload_n 3, 1) := by decide +kernel
theorem dX1_add_90 : decode cX1_add 90 = .ok (.bipush 6, 2) := by decide +kernel
theorem dX1_add_92 : decode cX1_add 92 = .ok (.iadd, 1) := by decide +kernel
theorem dX1_add_93 : decode cX1_add 93 = .ok (.aload_n 2, 1) := by decide +kernel
theorem dX1_add_94 : decode cX1_add 94 = .ok (.getfield 71, 3) := by decide +kernel
theorem dX1_add_97 : decode cX1_add 97 = .ok (.iastore, 1) := by decide +kernel
theorem dX1_add_98 : decode cX1_add 98 = .ok (.aload_n 0, 1) := by decide +kernel
theorem dX1_add_99 : decode cX1_add 99 = .ok (.getfield 11, 3) := by decide +kernel
theorem dX1_add_102 : decode cX1_add 102 = .ok (.iload_n 3, 1) := by decide +kernel
theorem dX1_add_103 : decode cX1_add 103 = .ok (.bipush 7, 2) := by decide +kernel
theorem dX1_add_105 : decode cX1_add 105 = .ok (.iadd, 1) := by decide +kernel
theorem dX1_add_106 : decode cX1_add 106 = .ok (.aload_n 2, 1) := by decide +kernel
theorem dX1_add_107 : decode cX1_add 107 = .ok (.getfield 74, 3) := by decide +kernel
theorem dX1_add_110 : decode cX1_add 110 = .ok (.iastore, 1) := by decide +kernel
theorem dX1_add_111 : decode cX1_add 111 = .ok (.aload_n 0, 1) := by decide +kernel
theorem dX1_add_112 : decode cX1_add 112 = .ok (.getfield 11, 3) := by decide +kernel
theorem dX1_add_115 : decode cX1_add 115 = .ok (.iload_n 3, 1) := by decide +kernel
theorem dX1_add_116 : decode cX1_add 116 = .ok (.bipush 8, 2) := by decide +kernel
theorem dX1_add_118 : decode cX1_add 118 = .ok (.iadd, 1) := by decide +kernel
theorem dX1_add_119 : decode cX1_add 119 = .ok (.aload_n 1, 1) := by decide +kernel
theorem dX1_add_120 : decode cX1_add 120 = .ok (.getfield 61, 3) := by decide +kernel
theorem dX1_add_123 : decode cX1_add 123 = .ok (.getfield 77, 3) := by decide +kernel
theorem dX1_add_126 : decode cX1_add 126 = .ok (.iastore, 1) := by decide +kernel
theorem dX1_add_127 : decode cX1_add 127 = .ok (.aload_n 0, 1) := by decide +kernel
theorem dX1_add_128 : decode cX1_add 128 = .ok (.iload_n 3, 1) := by decide +kernel
theorem dX1_add_129 : decode cX1_add 129 = .ok (.aload_n 1, 1) := by decide +kernel
theorem dX1_add_130 : decode cX1_add 130 = .ok (.invokevirtual 80, 3) := by decide +kernel
theorem dX1_add_133 : decode cX1_add 133 = .ok (.aload_n 0, 1) := by decide +kernel
theorem dX1_add_134 : decode cX1_add 134 = .ok (.dup, 1) := by decide +kernel
theorem dX1_add_135 : decode cX1_add 135 = .ok (.getfield 15, 3) := by decide +kernel
theorem dX1_add_138 : decode cX1_add 138 = .ok (.iconst 1, 1) := by decide +kernel
theorem dX1_add_139 : decode cX1_add 139 = .ok (.iadd, 1) := by decide +kernel
theorem dX1_add_140 : decode cX1_add 140 = .ok (.putfield 15, 3) := by decide +kernel
theorem dX1_add_143 : decode cX1_add 143 = .ok (.return_, 1) := by decide +kernel
set_option maxRecDepth 1000000 in
theorem ggX1_keepWrites_X2_retires : GoodIn wsX1_keepWrites wsX2_retires := goodIn_r _ [12, 13, 14, 27, 28, 29, 30, 31, 32, 33, 34, 35, 36, 37, 38, 39, 40, 41] (by decide +kernel) (by decide +kernel)
set_option maxRecDepth 1000000 in
theorem gX1_keepWrites_X2_retires : GoodIn wsX1_keepWrites (wsV RX1 46 RX2 yX2_retires wsX2_retires) := goodIn_app (goodIn_of _ (by decide +kernel)) ggX1_keepWrites_X2_retires
set_option maxRecDepth 1000000 in
theorem ggX1_keepWrites_X3_writtenRegister : GoodIn wsX1_keepWrites wsX3_writtenRegister := goodIn_r _ [19, 20, 21, 22, 23, 18, 24, 25, 48, 49, 50, 51, 52, 53, 54, 55] (by decide +kernel) (by decide +kernel)
set_option maxRecDepth 1000000 in
theorem gX1_keepWrites_X3_writtenRegister : GoodIn wsX1_keepWrites (wsV RX1 88 RX3 yX3_writtenRegister wsX3_writtenRegister) := goodIn_app (goodIn_of _ (by decide +kernel)) ggX1_keepWrites_X3_writtenRegister
set_option maxRecDepth 1000000 in
theorem ggX1_keepWrites_X3_is : GoodIn wsX1_keepWrites wsX3_is := goodIn_r _ [24, 25, 48, 49, 50, 51, 52, 53, 54, 55] (by decide +kernel) (by decide +kernel)
set_option maxRecDepth 1000000 in
theorem gX1_keepWrites_X3_is : GoodIn wsX1_keepWrites (wsV RX1 97 RX3 yX3_is wsX3_is) := goodIn_app (goodIn_of _ (by decide +kernel)) ggX1_keepWrites_X3_is
theorem dX1_keepWrites_0 : decode cX1_keepWrites 0 = .ok (.aload_n 2, 1) := by decide +kernel
theorem dX1_keepWrites_1 : decode cX1_keepWrites 1 = .ok (.getfield 84, 3) := by decide +kernel
theorem dX1_keepWrites_4 : decode cX1_keepWrites 4 = .ok (.astore_n 3, 1) := by decide +kernel
theorem dX1_keepWrites_5 : decode cX1_keepWrites 5 = .ok (.aload_n 2, 1) := by decide +kernel
theorem dX1_keepWrites_6 : decode cX1_keepWrites 6 = .ok (.getfield 52, 3) := by decide +kernel
theorem dX1_keepWrites_9 : decode cX1_keepWrites 9 = .ok (.astore 4, 2) := by decide +kernel
theorem dX1_keepWrites_11 : decode cX1_keepWrites 11 = .ok (.aload_n 2, 1) := by decide +kernel
theorem dX1_keepWrites_12 : decode cX1_keepWrites 12 = .ok (.invokevirtual 46, 3) := by decide +kernel
theorem dX1_keepWrites_15 : decode cX1_keepWrites 15 = .ok (.istore 5, 2) := by decide +kernel
theorem dX1_keepWrites_17 : decode cX1_keepWrites 17 = .ok (.iload 5, 2) := by decide +kernel
theorem dX1_keepWrites_19 : decode cX1_keepWrites 19 = .ok (.ifCond .eq 10, 3) := by decide +kernel
theorem dX1_keepWrites_22 : decode cX1_keepWrites 22 = .ok (.aload_n 3, 1) := by decide +kernel
theorem dX1_keepWrites_23 : decode cX1_keepWrites 23 = .ok (.invokevirtual 88, 3) := by decide +kernel
theorem dX1_keepWrites_26 : decode cX1_keepWrites 26 = .ok (.goto 4, 3) := by decide +kernel
theorem dX1_keepWrites_29 : decode cX1_keepWrites 29 = .ok (.iconst 0, 1) := by decide +kernel
theorem dX1_keepWrites_30 : decode cX1_keepWrites 30 = .ok (.istore 6, 2) := by decide +kernel
theorem dX1_keepWrites_32 : decode cX1_keepWrites 32 = .ok (.iload 5, 2) := by decide +kernel
theorem dX1_keepWrites_34 : decode cX1_keepWrites 34 = .ok (.ifCond .eq 15, 3) := by decide +kernel
theorem dX1_keepWrites_37 : decode cX1_keepWrites 37 = .ok (.aload 4, 2) := by decide +kernel
theorem dX1_keepWrites_39 : decode cX1_keepWrites 39 = .ok (.getfield 94, 3) := by decide +kernel
theorem dX1_keepWrites_42 : decode cX1_keepWrites 42 = .ok (.ifCond .eq 7, 3) := by decide +kernel
theorem dX1_keepWrites_45 : decode cX1_keepWrites 45 = .ok (.iconst 1, 1) := by decide +kernel
theorem dX1_keepWrites_46 : decode cX1_keepWrites 46 = .ok (.goto 4, 3) := by decide +kernel
theorem dX1_keepWrites_49 : decode cX1_keepWrites 49 = .ok (.iconst 0, 1) := by decide +kernel
theorem dX1_keepWrites_50 : decode cX1_keepWrites 50 = .ok (.istore 7, 2) := by decide +kernel
theorem dX1_keepWrites_52 : decode cX1_keepWrites 52 = .ok (.aload_n 0, 1) := by decide +kernel
theorem dX1_keepWrites_53 : decode cX1_keepWrites 53 = .ok (.getfield 11, 3) := by decide +kernel
theorem dX1_keepWrites_56 : decode cX1_keepWrites 56 = .ok (.iload_n 1, 1) := by decide +kernel
theorem dX1_keepWrites_57 : decode cX1_keepWrites 57 = .ok (.iconst 2, 1) := by decide +kernel
theorem dX1_keepWrites_58 : decode cX1_keepWrites 58 = .ok (.iadd, 1) := by decide +kernel
theorem dX1_keepWrites_59 : decode cX1_keepWrites 59 = .ok (.iload 6, 2) := by decide +kernel
theorem dX1_keepWrites_61 : decode cX1_keepWrites 61 = .ok (.ifCond .ne 7, 3) := by decide +kernel
theorem dX1_keepWrites_64 : decode cX1_keepWrites 64 = .ok (.iconst (-1), 1) := by decide +kernel
theorem dX1_keepWrites_65 : decode cX1_keepWrites 65 = .ok (.goto 5, 3) := by decide +kernel
theorem dX1_keepWrites_68 : decode cX1_keepWrites 68 = .ok (.iload 6, 2) := by decide +kernel
theorem dX1_keepWrites_70 : decode cX1_keepWrites 70 = .ok (.iastore, 1) := by decide +kernel
theorem dX1_keepWrites_71 : decode cX1_keepWrites 71 = .ok (.aload_n 0, 1) := by decide +kernel
theorem dX1_keepWrites_72 : decode cX1_keepWrites 72 = .ok (.getfield 11, 3) := by decide +kernel
theorem dX1_keepWrites_75 : decode cX1_keepWrites 75 = .ok (.iload_n 1, 1) := by decide +kernel
theorem dX1_keepWrites_76 : decode cX1_keepWrites 76 = .ok (.iconst 3, 1) := by decide +kernel
theorem dX1_keepWrites_77 : decode cX1_keepWrites 77 = .ok (.iadd, 1) := by decide +kernel
theorem dX1_keepWrites_78 : decode cX1_keepWrites 78 = .ok (.iload 5, 2) := by decide +kernel
theorem dX1_keepWrites_80 : decode cX1_keepWrites 80 = .ok (.ifCond .eq 17, 3) := by decide +kernel
theorem dX1_keepWrites_83 : decode cX1_keepWrites 83 = .ok (.aload_n 3, 1) := by decide +kernel
theorem dX1_keepWrites_84 : decode cX1_keepWrites 84 = .ok (.sipush 128, 3) := by decide +kernel
theorem dX1_keepWrites_87 : decode cX1_keepWrites 87 = .ok (.invokevirtual 97, 3) := by decide +kernel
theorem dX1_keepWrites_90 : decode cX1_keepWrites 90 = .ok (.ifCond .eq 7, 3) := by decide +kernel
theorem dX1_keepWrites_93 : decode cX1_keepWrites 93 = .ok (.iconst 1, 1) := by decide +kernel
theorem dX1_keepWrites_94 : decode cX1_keepWrites 94 = .ok (.goto 4, 3) := by decide +kernel
theorem dX1_keepWrites_97 : decode cX1_keepWrites 97 = .ok (.iconst 0, 1) := by decide +kernel
theorem dX1_keepWrites_98 : decode cX1_keepWrites 98 = .ok (.iastore, 1) := by decide +kernel
theorem dX1_keepWrites_99 : decode cX1_keepWrites 99 = .ok (.aload_n 0, 1) := by decide +kernel
theorem dX1_keepWrites_100 : decode cX1_keepWrites 100 = .ok (.getfield 11, 3) := by decide +kernel
theorem dX1_keepWrites_103 : decode cX1_keepWrites 103 = .ok (.iload_n 1, 1) := by decide +kernel
theorem dX1_keepWrites_104 : decode cX1_keepWrites 104 = .ok (.iconst 4, 1) := by decide +kernel
theorem dX1_keepWrites_105 : decode cX1_keepWrites 105 = .ok (.iadd, 1) := by decide +kernel
theorem dX1_keepWrites_106 : decode cX1_keepWrites 106 = .ok (.iload 7, 2) := by decide +kernel
theorem dX1_keepWrites_108 : decode cX1_keepWrites 108 = .ok (.ifCond .eq 11, 3) := by decide +kernel
theorem dX1_keepWrites_111 : decode cX1_keepWrites 111 = .ok (.aload 4, 2) := by decide +kernel
theorem dX1_keepWrites_113 : decode cX1_keepWrites 113 = .ok (.getfield 101, 3) := by decide +kernel
theorem dX1_keepWrites_116 : decode cX1_keepWrites 116 = .ok (.goto 4, 3) := by decide +kernel
theorem dX1_keepWrites_119 : decode cX1_keepWrites 119 = .ok (.iconst (-1), 1) := by decide +kernel
theorem dX1_keepWrites_120 : decode cX1_keepWrites 120 = .ok (.iastore, 1) := by decide +kernel
theorem dX1_keepWrites_121 : decode cX1_keepWrites 121 = .ok (.aload_n 0, 1) := by decide +kernel
theorem dX1_keepWrites_122 : decode cX1_keepWrites 122 = .ok (.getfield 11, 3) := by decide +kernel
theorem dX1_keepWrites_125 : decode cX1_keepWrites 125 = .ok (.iload_n 1, 1) := by decide +kernel
theorem dX1_keepWrites_126 : decode cX1_keepWrites 126 = .ok (.bipush 8, 2) := by decide +kernel
theorem dX1_keepWrites_128 : decode cX1_keepWrites 128 = .ok (.iadd, 1) := by decide +kernel
theorem dX1_keepWrites_129 : decode cX1_keepWrites 129 = .ok (.iconst 1, 1) := by decide +kernel
theorem dX1_keepWrites_130 : decode cX1_keepWrites 130 = .ok (.iadd, 1) := by decide +kernel
theorem dX1_keepWrites_131 : decode cX1_keepWrites 131 = .ok (.iload 6, 2) := by decide +kernel
theorem dX1_keepWrites_133 : decode cX1_keepWrites 133 = .ok (.ifCond .ne 7, 3) := by decide +kernel
theorem dX1_keepWrites_136 : decode cX1_keepWrites 136 = .ok (.iconst 0, 1) := by decide +kernel
theorem dX1_keepWrites_137 : decode cX1_keepWrites 137 = .ok (.goto 8, 3) := by decide +kernel
theorem dX1_keepWrites_140 : decode cX1_keepWrites 140 = .ok (.aload 4, 2) := by decide +kernel
theorem dX1_keepWrites_142 : decode cX1_keepWrites 142 = .ok (.getfield 104, 3) := by decide +kernel
theorem dX1_keepWrites_145 : decode cX1_keepWrites 145 = .ok (.iastore, 1) := by decide +kernel
theorem dX1_keepWrites_146 : decode cX1_keepWrites 146 = .ok (.aload_n 0, 1) := by decide +kernel
theorem dX1_keepWrites_147 : decode cX1_keepWrites 147 = .ok (.getfield 11, 3) := by decide +kernel
theorem dX1_keepWrites_150 : decode cX1_keepWrites 150 = .ok (.iload_n 1, 1) := by decide +kernel
theorem dX1_keepWrites_151 : decode cX1_keepWrites 151 = .ok (.bipush 8, 2) := by decide +kernel
theorem dX1_keepWrites_153 : decode cX1_keepWrites 153 = .ok (.iadd, 1) := by decide +kernel
theorem dX1_keepWrites_154 : decode cX1_keepWrites 154 = .ok (.iconst 2, 1) := by decide +kernel
theorem dX1_keepWrites_155 : decode cX1_keepWrites 155 = .ok (.iadd, 1) := by decide +kernel
theorem dX1_keepWrites_156 : decode cX1_keepWrites 156 = .ok (.iload 7, 2) := by decide +kernel
theorem dX1_keepWrites_158 : decode cX1_keepWrites 158 = .ok (.ifCond .eq 11, 3) := by decide +kernel
theorem dX1_keepWrites_161 : decode cX1_keepWrites 161 = .ok (.aload 4, 2) := by decide +kernel
theorem dX1_keepWrites_163 : decode cX1_keepWrites 163 = .ok (.getfield 107, 3) := by decide +kernel
theorem dX1_keepWrites_166 : decode cX1_keepWrites 166 = .ok (.goto 4, 3) := by decide +kernel
theorem dX1_keepWrites_169 : decode cX1_keepWrites 169 = .ok (.iconst 0, 1) := by decide +kernel
theorem dX1_keepWrites_170 : decode cX1_keepWrites 170 = .ok (.iastore, 1) := by decide +kernel
theorem dX1_keepWrites_171 : decode cX1_keepWrites 171 = .ok (.return_, 1) := by decide +kernel
theorem dX1_countCycle_0 : decode cX1_countCycle 0 = .ok (.aload_n 0, 1) := by decide +kernel
theorem dX1_countCycle_1 : decode cX1_countCycle 1 = .ok (.getfield 15, 3) := by decide +kernel
theorem dX1_countCycle_4 : decode cX1_countCycle 4 = .ok (.ifCond .le 21, 3) := by decide +kernel
theorem dX1_countCycle_7 : decode cX1_countCycle 7 = .ok (.iload_n 1, 1) := by decide +kernel
theorem dX1_countCycle_8 : decode cX1_countCycle 8 = .ok (.aload_n 0, 1) := by decide +kernel
theorem dX1_countCycle_9 : decode cX1_countCycle 9 = .ok (.getfield 28, 3) := by decide +kernel
theorem dX1_countCycle_12 : decode cX1_countCycle 12 = .ok (.if_icmp .ne 13, 3) := by decide +kernel
theorem dX1_countCycle_15 : decode cX1_countCycle 15 = .ok (.aload_n 0, 1) := by decide +kernel
theorem dX1_countCycle_16 : decode cX1_countCycle 16 = .ok (.dup, 1) := by decide +kernel
theorem dX1_countCycle_17 : decode cX1_countCycle 17 = .ok (.getfield 22, 3) := by decide +kernel
theorem dX1_countCycle_20 : decode cX1_countCycle 20 = .ok (.iconst 1, 1) := by decide +kernel
theorem dX1_countCycle_21 : decode cX1_countCycle 21 = .ok (.iadd, 1) := by decide +kernel
theorem dX1_countCycle_22 : decode cX1_countCycle 22 = .ok (.putfield 22, 3) := by decide +kernel
theorem dX1_countCycle_25 : decode cX1_countCycle 25 = .ok (.aload_n 0, 1) := by decide +kernel
theorem dX1_countCycle_26 : decode cX1_countCycle 26 = .ok (.aload_n 0, 1) := by decide +kernel
theorem dX1_countCycle_27 : decode cX1_countCycle 27 = .ok (.getfield 25, 3) := by decide +kernel
theorem dX1_countCycle_30 : decode cX1_countCycle 30 = .ok (.iload_n 1, 1) := by decide +kernel
theorem dX1_countCycle_31 : decode cX1_countCycle 31 = .ok (.aload_n 0, 1) := by decide +kernel
theorem dX1_countCycle_32 : decode cX1_countCycle 32 = .ok (.getfield 28, 3) := by decide +kernel
theorem dX1_countCycle_35 : decode cX1_countCycle 35 = .ok (.isub, 1) := by decide +kernel
theorem dX1_countCycle_36 : decode cX1_countCycle 36 = .ok (.invokestatic 31, 3) := by decide +kernel
theorem dX1_countCycle_39 : decode cX1_countCycle 39 = .ok (.putfield 25, 3) := by decide +kernel
theorem dX1_countCycle_42 : decode cX1_countCycle 42 = .ok (.aload_n 0, 1) := by decide +kernel
theorem dX1_countCycle_43 : decode cX1_countCycle 43 = .ok (.iload_n 1, 1) := by decide +kernel
theorem dX1_countCycle_44 : decode cX1_countCycle 44 = .ok (.putfield 28, 3) := by decide +kernel
theorem dX1_countCycle_47 : decode cX1_countCycle 47 = .ok (.return_, 1) := by decide +kernel
