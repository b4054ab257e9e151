theorem dX3_init_0 : decode cX3_init 0 = .ok (.aload_n 0, 1) := by decide +kernel
theorem dX3_init_1 : decode cX3_init 1 = .ok (.invokespecial 3, 3) := by decide +kernel
theorem dX3_init_4 : decode cX3_init 4 = .ok (.return_, 1) := by decide +kernel
set_option maxRecDepth 1000000 in
theorem ggX3_decode_X3_is : GoodIn wsX3_decode wsX3_is := goodIn_r _ [15, 9, 16, 17, 18, 19, 20, 21, 22, 23] (by decide +kernel) (by decide +kernel)
set_option maxRecDepth 1000000 in
theorem gX3_decode_X3_is : GoodIn wsX3_decode (wsV RX3 41 RX3 yX3_is wsX3_is) := goodIn_app (goodIn_of _ (by decide +kernel)) ggX3_decode_X3_is
theorem dX3_decode_0 : decode cX3_decode 0 = .ok (.aload_n 0, 1) := by decide +kernel
theorem dX3_decode_1 : decode cX3_decode 1 = .ok (.iload_n 1, 1) := by decide +kernel
theorem dX3_decode_2 : decode cX3_decode 2 = .ok (.bipush 26, 2) := by decide +kernel
theorem dX3_decode_4 : decode cX3_decode 4 = .ok (.iushr, 1) := by decide +kernel
theorem dX3_decode_5 : decode cX3_decode 5 = .ok (.putfield 9, 3) := by decide +kernel
theorem dX3_decode_8 : decode cX3_decode 8 = .ok (.aload_n 0, 1) := by decide +kernel
theorem dX3_decode_9 : decode cX3_decode 9 = .ok (.iload_n 1, 1) := by decide +kernel
theorem dX3_decode_10 : decode cX3_decode 10 = .ok (.bipush 21, 2) := by decide +kernel
theorem dX3_decode_12 : decode cX3_decode 12 = .ok (.iushr, 1) := by decide +kernel
theorem dX3_decode_13 : decode cX3_decode 13 = .ok (.bipush 31, 2) := by decide +kernel
theorem dX3_decode_15 : decode cX3_decode 15 = .ok (.iand, 1) := by decide +kernel
theorem dX3_decode_16 : decode cX3_decode 16 = .ok (.putfield 15, 3) := by decide +kernel
theorem dX3_decode_19 : decode cX3_decode 19 = .ok (.aload_n 0, 1) := by decide +kernel
theorem dX3_decode_20 : decode cX3_decode 20 = .ok (.iload_n 1, 1) := by decide +kernel
theorem dX3_decode_21 : decode cX3_decode 21 = .ok (.bipush 16, 2) := by decide +kernel
theorem dX3_decode_23 : decode cX3_decode 23 = .ok (.iushr, 1) := by decide +kernel
theorem dX3_decode_24 : decode cX3_decode 24 = .ok (.bipush 31, 2) := by decide +kernel
theorem dX3_decode_26 : decode cX3_decode 26 = .ok (.iand, 1) := by decide +kernel
theorem dX3_decode_27 : decode cX3_decode 27 = .ok (.putfield 18, 3) := by decide +kernel
theorem dX3_decode_30 : decode cX3_decode 30 = .ok (.aload_n 0, 1) := by decide +kernel
theorem dX3_decode_31 : decode cX3_decode 31 = .ok (.iload_n 1, 1) := by decide +kernel
theorem dX3_decode_32 : decode cX3_decode 32 = .ok (.bipush 11, 2) := by decide +kernel
theorem dX3_decode_34 : decode cX3_decode 34 = .ok (.iushr, 1) := by decide +kernel
theorem dX3_decode_35 : decode cX3_decode 35 = .ok (.bipush 31, 2) := by decide +kernel
theorem dX3_decode_37 : decode cX3_decode 37 = .ok (.iand, 1) := by decide +kernel
theorem dX3_decode_38 : decode cX3_decode 38 = .ok (.putfield 21, 3) := by decide +kernel
theorem dX3_decode_41 : decode cX3_decode 41 = .ok (.aload_n 0, 1) := by decide +kernel
theorem dX3_decode_42 : decode cX3_decode 42 = .ok (.iload_n 1, 1) := by decide +kernel
theorem dX3_decode_43 : decode cX3_decode 43 = .ok (.ldc 24, 2) := by decide +kernel
theorem dX3_decode_45 : decode cX3_decode 45 = .ok (.iand, 1) := by decide +kernel
theorem dX3_decode_46 : decode cX3_decode 46 = .ok (.putfield 25, 3) := by decide +kernel
theorem dX3_decode_49 : decode cX3_decode 49 = .ok (.aload_n 0, 1) := by decide +kernel
theorem dX3_decode_50 : decode cX3_decode 50 = .ok (.iload_n 1, 1) := by decide +kernel
theorem dX3_decode_51 : decode cX3_decode 51 = .ok (.i2s, 1) := by decide +kernel
theorem dX3_decode_52 : decode cX3_decode 52 = .ok (.putfield 28, 3) := by decide +kernel
theorem dX3_decode_55 : decode cX3_decode 55 = .ok (.aload_n 0, 1) := by decide +kernel
theorem dX3_decode_56 : decode cX3_decode 56 = .ok (.iload_n 1, 1) := by decide +kernel
theorem dX3_decode_57 : decode cX3_decode 57 = .ok (.bipush 6, 2) := by decide +kernel
theorem dX3_decode_59 : decode cX3_decode 59 = .ok (.ishl, 1) := by decide +kernel
theorem dX3_decode_60 : decode cX3_decode 60 = .ok (.bipush 6, 2) := by decide +kernel
theorem dX3_decode_62 : decode cX3_decode 62 = .ok (.ishr, 1) := by decide +kernel
theorem dX3_decode_63 : decode cX3_decode 63 = .ok (.putfield 31, 3) := by decide +kernel
theorem dX3_decode_66 : decode cX3_decode 66 = .ok (.aload_n 0, 1) := by decide +kernel
theorem dX3_decode_67 : decode cX3_decode 67 = .ok (.getstatic 34, 3) := by decide +kernel
theorem dX3_decode_70 : decode cX3_decode 70 = .ok (.aload_n 0, 1) := by decide +kernel
theorem dX3_decode_71 : decode cX3_decode 71 = .ok (.getfield 9, 3) := by decide +kernel
theorem dX3_decode_74 : decode cX3_decode 74 = .ok (.iaload, 1) := by decide +kernel
theorem dX3_decode_75 : decode cX3_decode 75 = .ok (.putfield 38, 3) := by decide +kernel
theorem dX3_decode_78 : decode cX3_decode 78 = .ok (.aload_n 0, 1) := by decide +kernel
theorem dX3_decode_79 : decode cX3_decode 79 = .ok (.sipush 128, 3) := by decide +kernel
theorem dX3_decode_82 : decode cX3_decode 82 = .ok (.invokevirtual 41, 3) := by decide +kernel
theorem dX3_decode_85 : decode cX3_decode 85 = .ok (.ifCond .eq 18, 3) := by decide +kernel
theorem dX3_decode_88 : decode cX3_decode 88 = .ok (.aload_n 0, 1) := by decide +kernel
theorem dX3_decode_89 : decode cX3_decode 89 = .ok (.getfield 15, 3) := by decide +kernel
theorem dX3_decode_92 : decode cX3_decode 92 = .ok (.bipush 9, 2) := by decide +kernel
theorem dX3_decode_94 : decode cX3_decode 94 = .ok (.if_icmp .le 9, 3) := by decide +kernel
theorem dX3_decode_97 : decode cX3_decode 97 = .ok (.aload_n 0, 1) := by decide +kernel
theorem dX3_decode_98 : decode cX3_decode 98 = .ok (.ldc 45, 2) := by decide +kernel
theorem dX3_decode_100 : decode cX3_decode 100 = .ok (.putfield 38, 3) := by decide +kernel
theorem dX3_decode_103 : decode cX3_decode 103 = .ok (.return_, 1) := by decide +kernel
theorem dX3_setUnreadable_0 : decode cX3_setUnreadable 0 = .ok (.aload_n 0, 1) := by decide +kernel
theorem dX3_setUnreadable_1 : decode cX3_setUnreadable 1 = .ok (.iconst 0, 1) := by decide +kernel
theorem dX3_setUnreadable_2 : decode cX3_setUnreadable 2 = .ok (.putfield 38, 3) := by decide +kernel
theorem dX3_setUnreadable_5 : decode cX3_setUnreadable 5 = .ok (.return_, 1) := by decide +kernel
theorem dX3_is_0 : decode cX3_is 0 = .ok (.aload_n 0, 1) := by decide +kernel
theorem dX3_is_1 : decode cX3_is 1 = .ok (.getfield 38, 3) := by decide +kernel
theorem dX3_is_4 : decode cX3_is 4 = .ok (.iload_n 1, 1) := by decide +kernel
theorem dX3_is_5 : decode cX3_is 5 = .ok (.iand, 1) := by decide +kernel
theorem dX3_is_6 : decode cX3_is 6 = .ok (.ifCond .eq 7, 3) := by decide +kernel
theorem dX3_is_9 : decode cX3_is 9 = .ok (.iconst 1, 1) := by decide +kernel
theorem dX3_is_10 : decode cX3_is 10 = .ok (.goto 4, 3) := by decide +kernel
theorem dX3_is_13 : decode cX3_is 13 = .ok (.iconst 0, 1) := by decide +kernel
theorem dX3_is_14 : decode cX3_is 14 = .ok (.ireturn, 1) := by decide +kernel
set_option maxRecDepth 1000000 in
theorem ggX3_writtenRegister_X3_is : GoodIn wsX3_writtenRegister wsX3_is := goodIn_r _ [6, 7, 8, 9, 10, 11, 12, 13, 14, 15] (by decide +kernel) (by decide +kernel)
set_option maxRecDepth 1000000 in
theorem gX3_writtenRegister_X3_is : GoodIn wsX3_writtenRegister (wsV RX3 41 RX3 yX3_is wsX3_is) := goodIn_app (goodIn_of _ (by decide +kernel)) ggX3_writtenRegister_X3_is
theorem dX3_writtenRegister_0 : decode cX3_writtenRegister 0 = .ok (.aload_n 0, 1) := by decide +kernel
theorem dX3_writtenRegister_1 : decode cX3_writtenRegister 1 = .ok (.bipush 64, 2) := by decide +kernel
theorem dX3_writtenRegister_3 : decode cX3_writtenRegister 3 = .ok (.invokevirtual 41, 3) := by decide +kernel
theorem dX3_writtenRegister_6 : decode cX3_writtenRegister 6 = .ok (.ifCond .eq 6, 3) := by decide +kernel
theorem dX3_writtenRegister_9 : decode cX3_writtenRegister 9 = .ok (.bipush 31, 2) := by decide +kernel
theorem dX3_writtenRegister_11 : decode cX3_writtenRegister 11 = .ok (.ireturn, 1) := by decide +kernel
theorem dX3_writtenRegister_12 : decode cX3_writtenRegister 12 = .ok (.aload_n 0, 1) := by decide +kernel
theorem dX3_writtenRegister_13 : decode cX3_writtenRegister 13 = .ok (.bipush 32, 2) := by decide +kernel
theorem dX3_writtenRegister_15 : decode cX3_writtenRegister 15 = .ok (.invokevirtual 41, 3) := by decide +kernel
theorem dX3_writtenRegister_18 : decode cX3_writtenRegister 18 = .ok (.ifCond .eq 10, 3) := by decide +kernel
theorem dX3_writtenRegister_21 : decode cX3_writtenRegister 21 = .ok (.aload_n 0, 1) := by decide +kernel
theorem dX3_writtenRegister_22 : decode cX3_writtenRegister 22 = .ok (.getfield 15, 3) := by decide +kernel
theorem dX3_writtenRegister_25 : decode cX3_writtenRegister 25 = .ok (.goto 4, 3) := by decide +kernel
theorem dX3_writtenRegister_28 : decode cX3_writtenRegister 28 = .ok (.iconst 0, 1) := by decide +kernel
theorem dX3_writtenRegister_29 : decode cX3_writtenRegister 29 = .ok (.ireturn, 1) := by decide +kernel
theorem dX3_isForeseenToGo_0 : decode cX3_isForeseenToGo 0 = .ok (.aload_n 0, 1) := by decide +kernel
theorem dX3_isForeseenToGo_1 : decode cX3_isForeseenToGo 1 = .ok (.getfield 9, 3) := by decide +kernel
theorem dX3_isForeseenToGo_4 : decode cX3_isForeseenToGo 4 = .ok (.bipush 21, 2) := by decide +kernel
theorem dX3_isForeseenToGo_6 : decode cX3_isForeseenToGo 6 = .ok (.if_icmp .le 19, 3) := by decide +kernel
theorem dX3_isForeseenToGo_9 : decode cX3_isForeseenToGo 9 = .ok (.aload_n 0, 1) := by decide +kernel
theorem dX3_isForeseenToGo_10 : decode cX3_isForeseenToGo 10 = .ok (.getfield 9, 3) := by decide +kernel
theorem dX3_isForeseenToGo_13 : decode cX3_isForeseenToGo 13 = .ok (.bipush 23, 2) := by decide +kernel
theorem dX3_isForeseenToGo_15 : decode cX3_isForeseenToGo 15 = .ok (.if_icmp .gt 14, 3) := by decide +kernel
theorem dX3_isForeseenToGo_18 : decode cX3_isForeseenToGo 18 = .ok (.aload_n 0, 1) := by decide +kernel
theorem dX3_isForeseenToGo_19 : decode cX3_isForeseenToGo 19 = .ok (.getfield 31, 3) := by decide +kernel
theorem dX3_isForeseenToGo_22 : decode cX3_isForeseenToGo 22 = .ok (.ifCond .ge 7, 3) := by decide +kernel
theorem dX3_isForeseenToGo_25 : decode cX3_isForeseenToGo 25 = .ok (.iconst 1, 1) := by decide +kernel
theorem dX3_isForeseenToGo_26 : decode cX3_isForeseenToGo 26 = .ok (.goto 4, 3) := by decide +kernel
theorem dX3_isForeseenToGo_29 : decode cX3_isForeseenToGo 29 = .ok (.iconst 0, 1) := by decide +kernel
theorem dX3_isForeseenToGo_30 : decode cX3_isForeseenToGo 30 = .ok (.ireturn, 1) := by decide +kernel
