theorem dX11_runCycles_33 : decode cX11_runCycles 33 = .ok (.getfield 75, 3) := by decide +kernel
theorem dX11_runCycles_36 : decode cX11_runCycles 36 = .ok (.iload_n 1, 1) := by decide +kernel
theorem dX11_runCycles_37 : decode cX11_runCycles 37 = .ok (.iadd, 1) := by decide +kernel
theorem dX11_runCycles_38 : decode cX11_runCycles 38 = .ok (.putfield 75, 3) := by decide +kernel
theorem dX11_runCycles_41 : decode cX11_runCycles 41 = .ok (.aload_n 0, 1) := by decide +kernel
theorem dX11_runCycles_42 : decode cX11_runCycles 42 = .ok (.getfield 78, 3) := by decide +kernel
theorem dX11_runCycles_45 : decode cX11_runCycles 45 = .ok (.istore_n 2, 1) := by decide +kernel
theorem dX11_runCycles_46 : decode cX11_runCycles 46 = .ok (.iconst 1, 1) := by decide +kernel
theorem dX11_runCycles_47 : decode cX11_runCycles 47 = .ok (.istore_n 3, 1) := by decide +kernel
theorem dX11_runCycles_48 : decode cX11_runCycles 48 = .ok (.iload_n 3, 1) := by decide +kernel
theorem dX11_runCycles_49 : decode cX11_runCycles 49 = .ok (.ifCond .eq 39, 3) := by decide +kernel
theorem dX11_runCycles_52 : decode cX11_runCycles 52 = .ok (.aload_n 0, 1) := by decide +kernel
theorem dX11_runCycles_53 : decode cX11_runCycles 53 = .ok (.invokevirtual 368, 3) := by decide +kernel
theorem dX11_runCycles_56 : decode cX11_runCycles 56 = .ok (.aload_n 0, 1) := by decide +kernel
theorem dX11_runCycles_57 : decode cX11_runCycles 57 = .ok (.invokevirtual 371, 3) := by decide +kernel
theorem dX11_runCycles_60 : decode cX11_runCycles 60 = .ok (.aload_n 0, 1) := by decide +kernel
theorem dX11_runCycles_61 : decode cX11_runCycles 61 = .ok (.getfield 340, 3) := by decide +kernel
theorem dX11_runCycles_64 : decode cX11_runCycles 64 = .ok (.aload_n 0, 1) := by decide +kernel
theorem dX11_runCycles_65 : decode cX11_runCycles 65 = .ok (.getfield 75, 3) := by decide +kernel
theorem dX11_runCycles_68 : decode cX11_runCycles 68 = .ok (.if_icmp .gt 7, 3) := by decide +kernel
theorem dX11_runCycles_71 : decode cX11_runCycles 71 = .ok (.iconst 1, 1) := by decide +kernel
theorem dX11_runCycles_72 : decode cX11_runCycles 72 = .ok (.goto 4, 3) := by decide +kernel
theorem dX11_runCycles_75 : decode cX11_runCycles 75 = .ok (.iconst 0, 1) := by decide +kernel
theorem dX11_runCycles_76 : decode cX11_runCycles 76 = .ok (.istore_n 3, 1) := by decide +kernel
theorem dX11_runCycles_77 : decode cX11_runCycles 77 = .ok (.iload_n 3, 1) := by decide +kernel
theorem dX11_runCycles_78 : decode cX11_runCycles 78 = .ok (.ifCond .eq (-30), 3) := by decide +kernel
theorem dX11_runCycles_81 : decode cX11_runCycles 81 = .ok (.aload_n 0, 1) := by decide +kernel
theorem dX11_runCycles_82 : decode cX11_runCycles 82 = .ok (.invokevirtual 374, 3) := by decide +kernel
theorem dX11_runCycles_85 : decode cX11_runCycles 85 = .ok (.goto (-37), 3) := by decide +kernel
theorem dX11_runCycles_88 : decode cX11_runCycles 88 = .ok (.aload_n 0, 1) := by decide +kernel
theorem dX11_runCycles_89 : decode cX11_runCycles 89 = .ok (.getfield 78, 3) := by decide +kernel
theorem dX11_runCycles_92 : decode cX11_runCycles 92 = .ok (.iload_n 2, 1) := by decide +kernel
theorem dX11_runCycles_93 : decode cX11_runCycles 93 = .ok (.isub, 1) := by decide +kernel
theorem dX11_runCycles_94 : decode cX11_runCycles 94 = .ok (.ireturn, 1) := by decide +kernel
theorem dX11_registerOf_0 : decode cX11_registerOf 0 = .ok (.aload_n 0, 1) := by decide +kernel
theorem dX11_registerOf_1 : decode cX11_registerOf 1 = .ok (.iconst 0, 1) := by decide +kernel
theorem dX11_registerOf_2 : decode cX11_registerOf 2 = .ok (.putfield 49, 3) := by decide +kernel
theorem dX11_registerOf_5 : decode cX11_registerOf 5 = .ok (.iload_n 1, 1) := by decide +kernel
theorem dX11_registerOf_6 : decode cX11_registerOf 6 = .ok (.ifCond .lt 9, 3) := by decide +kernel
theorem dX11_registerOf_9 : decode cX11_registerOf 9 = .ok (.iload_n 1, 1) := by decide +kernel
theorem dX11_registerOf_10 : decode cX11_registerOf 10 = .ok (.bipush 31, 2) := by decide +kernel
theorem dX11_registerOf_12 : decode cX11_registerOf 12 = .ok (.if_icmp .le 7, 3) := by decide +kernel
theorem dX11_registerOf_15 : decode cX11_registerOf 15 = .ok (.iconst 0, 1) := by decide +kernel
theorem dX11_registerOf_16 : decode cX11_registerOf 16 = .ok (.goto 9, 3) := by decide +kernel
theorem dX11_registerOf_19 : decode cX11_registerOf 19 = .ok (.aload_n 0, 1) := by decide +kernel
theorem dX11_registerOf_20 : decode cX11_registerOf 20 = .ok (.getfield 14, 3) := by decide +kernel
theorem dX11_registerOf_23 : decode cX11_registerOf 23 = .ok (.iload_n 1, 1) := by decide +kernel
theorem dX11_registerOf_24 : decode cX11_registerOf 24 = .ok (.iaload, 1) := by decide +kernel
theorem dX11_registerOf_25 : decode cX11_registerOf 25 = .ok (.ireturn, 1) := by decide +kernel
set_option maxRecDepth 1000000 in
theorem ggX11_specialOf_X11_special : GoodIn wsX11_specialOf wsX11_special := goodIn_r _ [6, 7, 8, 9, 10, 11, 12, 13, 5, 14, 15, 16, 17, 18, 19, 20, 21, 22, 23, 24, 25, 26, 27, 28, 29, 30, 31, 32, 33, 34, 35, 36, 37, 38, 39, 40, 41, 42, 43, 44, 45, 46, 47, 48, 49, 50, 51, 52, 53, 54, 55, 56, 57, 58, 59, 60, 61, 62, 63, 64, 65, 66, 67, 68, 69, 70, 71, 72, 73, 74, 75, 76, 77, 78, 79, 80, 81, 82, 83, 84, 85, 86] rfl (by decide +kernel)
set_option maxRecDepth 1000000 in
theorem gX11_specialOf_X11_special : GoodIn wsX11_specialOf (wsV RX11 265 RX11 yX11_special wsX11_special) := goodIn_app (goodIn_of _ (by decide +kernel)) ggX11_specialOf_X11_special
theorem dX11_specialOf_0 : decode cX11_specialOf 0 = .ok (.aload_n 0, 1) := by decide +kernel
theorem dX11_specialOf_1 : decode cX11_specialOf 1 = .ok (.iconst 0, 1) := by decide +kernel
theorem dX11_specialOf_2 : decode cX11_specialOf 2 = .ok (.putfield 49, 3) := by decide +kernel
theorem dX11_specialOf_5 : decode cX11_specialOf 5 = .ok (.iload_n 1, 1) := by decide +kernel
theorem dX11_specialOf_6 : decode cX11_specialOf 6 = .ok (.ifCond .ge 7, 3) := by decide +kernel
theorem dX11_specialOf_9 : decode cX11_specialOf 9 = .ok (.iconst 0, 1) := by decide +kernel
theorem dX11_specialOf_10 : decode cX11_specialOf 10 = .ok (.goto 8, 3) := by decide +kernel
theorem dX11_specialOf_13 : decode cX11_specialOf 13 = .ok (.aload_n 0, 1) := by decide +kernel
theorem dX11_specialOf_14 : decode cX11_specialOf 14 = .ok (.iload_n 1, 1) := by decide +kernel
theorem dX11_specialOf_15 : decode cX11_specialOf 15 = .ok (.invokevirtual 265, 3) := by decide +kernel
theorem dX11_specialOf_18 : decode cX11_specialOf 18 = .ok (.ireturn, 1) := by decide +kernel
set_option maxRecDepth 1000000 in
theorem ggX11_wordAt_X11_wordIn : GoodIn wsX11_wordAt wsX11_wordIn := goodIn_r _ [7, 8, 9, 10, 11, 12, 13, 14, 15, 16, 17, 18, 19, 20, 21, 22, 23, 24, 25, 26, 27, 28, 29, 30, 31, 32, 33, 34, 35, 36, 37, 38, 39, 40, 41, 42, 43, 44, 45, 46, 47, 48, 49, 50, 51, 52, 53, 54, 55, 56, 57, 58, 59, 60, 61, 62, 63, 64, 65, 66, 67, 68] rfl (by decide +kernel)
set_option maxRecDepth 1000000 in
theorem gX11_wordAt_X11_wordIn : GoodIn wsX11_wordAt (wsV RX11 233 RX11 yX11_wordIn wsX11_wordIn) := goodIn_app (goodIn_of _ (by decide +kernel)) ggX11_wordAt_X11_wordIn
theorem dX11_wordAt_0 : decode cX11_wordAt 0 = .ok (.aload_n 0, 1) := by decide +kernel
theorem dX11_wordAt_1 : decode cX11_wordAt 1 = .ok (.iconst 0, 1) := by decide +kernel
theorem dX11_wordAt_2 : decode cX11_wordAt 2 = .ok (.putfield 49, 3) := by decide +kernel
theorem dX11_wordAt_5 : decode cX11_wordAt 5 = .ok (.iload_n 1, 1) := by decide +kernel
theorem dX11_wordAt_6 : decode cX11_wordAt 6 = .ok (.ifCond .lt 15, 3) := by decide +kernel
theorem dX11_wordAt_9 : decode cX11_wordAt 9 = .ok (.iload_n 1, 1) := by decide +kernel
theorem dX11_wordAt_10 : decode cX11_wordAt 10 = .ok (.ldc 108, 2) := by decide +kernel
theorem dX11_wordAt_12 : decode cX11_wordAt 12 = .ok (.if_icmp .gt 9, 3) := by decide +kernel
theorem dX11_wordAt_15 : decode cX11_wordAt 15 = .ok (.iload_n 1, 1) := by decide +kernel
theorem dX11_wordAt_16 : decode cX11_wordAt 16 = .ok (.iconst 4, 1) := by decide +kernel
theorem dX11_wordAt_17 : decode cX11_wordAt 17 = .ok (.irem, 1) := by decide +kernel
theorem dX11_wordAt_18 : decode cX11_wordAt 18 = .ok (.ifCond .eq 7, 3) := by decide +kernel
theorem dX11_wordAt_21 : decode cX11_wordAt 21 = .ok (.iconst 0, 1) := by decide +kernel
theorem dX11_wordAt_22 : decode cX11_wordAt 22 = .ok (.goto 8, 3) := by decide +kernel
theorem dX11_wordAt_25 : decode cX11_wordAt 25 = .ok (.aload_n 0, 1) := by decide +kernel
theorem dX11_wordAt_26 : decode cX11_wordAt 26 = .ok (.iload_n 1, 1) := by decide +kernel
theorem dX11_wordAt_27 : decode cX11_wordAt 27 = .ok (.invokevirtual 233, 3) := by decide +kernel
theorem dX11_wordAt_30 : decode cX11_wordAt 30 = .ok (.ireturn, 1) := by decide +kernel
theorem dX11_placeOf_0 : decode cX11_placeOf 0 = .ok (.aload_n 0, 1) := by decide +kernel
theorem dX11_placeOf_1 : decode cX11_placeOf 1 = .ok (.iconst 0, 1) := by decide +kernel
theorem dX11_placeOf_2 : decode cX11_placeOf 2 = .ok (.putfield 49, 3) := by decide +kernel
theorem dX11_placeOf_5 : decode cX11_placeOf 5 = .ok (.iload_n 1, 1) := by decide +kernel
theorem dX11_placeOf_6 : decode cX11_placeOf 6 = .ok (.ifCond .ne 10, 3) := by decide +kernel
theorem dX11_placeOf_9 : decode cX11_placeOf 9 = .ok (.aload_n 0, 1) := by decide +kernel
theorem dX11_placeOf_10 : decode cX11_placeOf 10 = .ok (.getfield 56, 3) := by decide +kernel
theorem dX11_placeOf_13 : decode cX11_placeOf 13 = .ok (.goto 28, 3) := by decide +kernel
theorem dX11_placeOf_16 : decode cX11_placeOf 16 = .ok (.iload_n 1, 1) := by decide +kernel
theorem dX11_placeOf_17 : decode cX11_placeOf 17 = .ok (.iconst 1, 1) := by decide +kernel
theorem dX11_placeOf_18 : decode cX11_placeOf 18 = .ok (.if_icmp .ne 10, 3) := by decide +kernel
theorem dX11_placeOf_21 : decode cX11_placeOf 21 = .ok (.aload_n 0, 1) := by decide +kernel
theorem dX11_placeOf_22 : decode cX11_placeOf 22 = .ok (.getfield 63, 3) := by decide +kernel
theorem dX11_placeOf_25 : decode cX11_placeOf 25 = .ok (.goto 16, 3) := by decide +kernel
theorem dX11_placeOf_28 : decode cX11_placeOf 28 = .ok (.iload_n 1, 1) := by decide +kernel
theorem dX11_placeOf_29 : decode cX11_placeOf 29 = .ok (.iconst 2, 1) := by decide +kernel
theorem dX11_placeOf_30 : decode cX11_placeOf 30 = .ok (.if_icmp .ne 10, 3) := by decide +kernel
theorem dX11_placeOf_33 : decode cX11_placeOf 33 = .ok (.aload_n 0, 1) := by decide +kernel
theorem dX11_placeOf_34 : decode cX11_placeOf 34 = .ok (.getfield 66, 3) := by decide +kernel
theorem dX11_placeOf_37 : decode cX11_placeOf 37 = .ok (.goto 4, 3) := by decide +kernel
theorem dX11_placeOf_40 : decode cX11_placeOf 40 = .ok (.iconst 0, 1) := by decide +kernel
theorem dX11_placeOf_41 : decode cX11_placeOf 41 = .ok (.ireturn, 1) := by decide +kernel
theorem dX11_isKept_0 : decode cX11_isKept 0 = .ok (.iload_n 1, 1) := by decide +kernel
theorem dX11_isKept_1 : decode cX11_isKept 1 = .ok (.ifCond .lt 27, 3) := by decide +kernel
theorem dX11_isKept_4 : decode cX11_isKept 4 = .ok (.iload_n 1, 1) := by decide +kernel
theorem dX11_isKept_5 : decode cX11_isKept 5 = .ok (.aload_n 0, 1) := by decide +kernel
theorem dX11_isKept_6 : decode cX11_isKept 6 = .ok (.getfield 78, 3) := by decide +kernel
theorem dX11_isKept_9 : decode cX11_isKept 9 = .ok (.if_icmp .ge 19, 3) := by decide +kernel
theorem dX11_isKept_12 : decode cX11_isKept 12 = .ok (.iload_n 1, 1) := by decide +kernel
theorem dX11_isKept_13 : decode cX11_isKept 13 = .ok (.aload_n 0, 1) := by decide +kernel
theorem dX11_isKept_14 : decode cX11_isKept 14 = .ok (.getfield 78, 3) := by decide +kernel
theorem dX11_isKept_17 : decode cX11_isKept 17 = .ok (.sipush 256, 3) := by decide +kernel
theorem dX11_isKept_20 : decode cX11_isKept 20 = .ok (.isub, 1) := by decide +kernel
theorem dX11_isKept_21 : decode cX11_isKept 21 = .ok (.if_icmp .lt 7, 3) := by decide +kernel
theorem dX11_isKept_24 : decode cX11_isKept 24 = .ok (.iconst 1, 1) := by decide +kernel
theorem dX11_isKept_25 : decode cX11_isKept 25 = .ok (.goto 4, 3) := by decide +kernel
theorem dX11_isKept_28 : decode cX11_isKept 28 = .ok (.iconst 0, 1) := by decide +kernel
theorem dX11_isKept_29 : decode cX11_isKept 29 = .ok (.ireturn, 1) := by decide +kernel
set_option maxRecDepth 1000000 in
theorem ggX11_eventOf_X11_isKept : GoodIn wsX11_eventOf wsX11_isKept := goodIn_r _ [7, 8, 9, 10, 11, 12, 13, 14, 15, 16, 17, 18, 19, 20, 21, 22, 23, 24, 25, 26, 27, 28, 29, 30, 31, 32, 33, 34, 35, 36, 37, 38, 39, 40, 41, 42, 43, 44, 45, 46, 47, 48, 49, 50, 51, 52, 53, 54, 55, 56, 57, 58, 59, 60, 61, 62, 63, 64, 65, 66, 67, 68] rfl (by decide +kernel)
set_option maxRecDepth 1000000 in
theorem gX11_eventOf_X11_isKept : GoodIn wsX11_eventOf (wsV RX11 377 RX11 yX11_isKept wsX11_isKept) := goodIn_app (goodIn_of _ (by decide +kernel)) ggX11_eventOf_X11_isKept
theorem dX11_eventOf_0 : decode cX11_eventOf 0 = .ok (.aload_n 0, 1) := by decide +kernel
theorem dX11_eventOf_1 : decode cX11_eventOf 1 = .ok (.iconst 0, 1) := by decide +kernel
theorem dX11_eventOf_2 : decode cX11_eventOf 2 = .ok (.putfield 49, 3) := by decide +kernel
theorem dX11_eventOf_5 : decode cX11_eventOf 5 = .ok (.aload_n 0, 1) := by decide +kernel
theorem dX11_eventOf_6 : decode cX11_eventOf 6 = .ok (.iload_n 1, 1) := by decide +kernel
theorem dX11_eventOf_7 : decode cX11_eventOf 7 = .ok (.invokevirtual 377, 3) := by decide +kernel
theorem dX11_eventOf_10 : decode cX11_eventOf 10 = .ok (.ifCond .eq 31, 3) := by decide +kernel
theorem dX11_eventOf_13 : decode cX11_eventOf 13 = .ok (.iload_n 2, 1) := by decide +kernel
theorem dX11_eventOf_14 : decode cX11_eventOf 14 = .ok (.ifCond .lt 27, 3) := by decide +kernel
theorem dX11_eventOf_17 : decode cX11_eventOf 17 = .ok (.iload_n 2, 1) := by decide +kernel
theorem dX11_eventOf_18 : decode cX11_eventOf 18 = .ok (.bipush 8, 2) := by decide +kernel
theorem dX11_eventOf_20 : decode cX11_eventOf 20 = .ok (.if_icmp .ge 21, 3) := by decide +kernel
theorem dX11_eventOf_23 : decode cX11_eventOf 23 = .ok (.aload_n 0, 1) := by decide +kernel
theorem dX11_eventOf_24 : decode cX11_eventOf 24 = .ok (.getfield 30, 3) := by decide +kernel
theorem dX11_eventOf_27 : decode cX11_eventOf 27 = .ok (.bipush 11, 2) := by decide +kernel
theorem dX11_eventOf_29 : decode cX11_eventOf 29 = .ok (.iload_n 1, 1) := by decide +kernel
theorem dX11_eventOf_30 : decode cX11_eventOf 30 = .ok (.sipush 256, 3) := by decide +kernel
theorem dX11_eventOf_33 : decode cX11_eventOf 33 = .ok (.irem, 1) := by decide +kernel
theorem dX11_eventOf_34 : decode cX11_eventOf 34 = .ok (.imul, 1) := by decide +kernel
theorem dX11_eventOf_35 : decode cX11_eventOf 35 = .ok (.iload_n 2, 1) := by decide +kernel
theorem dX11_eventOf_36 : decode cX11_eventOf 36 = .ok (.iadd, 1) := by decide +kernel
theorem dX11_eventOf_37 : decode cX11_eventOf 37 = .ok (.iaload, 1) := by decide +kernel
theorem dX11_eventOf_38 : decode cX11_eventOf 38 = .ok (.goto 4, 3) := by decide +kernel
theorem dX11_eventOf_41 : decode cX11_eventOf 41 = .ok (.iconst (-1), 1) := by decide +kernel
theorem dX11_eventOf_42 : decode cX11_eventOf 42 = .ok (.ireturn, 1) := by decide +kernel
set_option maxRecDepth 1000000 in
theorem ggX11_valueOf_X11_isKept : GoodIn wsX11_valueOf wsX11_isKept := goodIn_r _ [7, 8, 9, 10, 11, 12, 13, 14, 15, 16, 17, 18, 19, 20, 21, 22, 23, 24, 25, 26, 27, 28, 29, 30, 31, 32, 33, 34, 35, 36, 37, 38, 39, 40, 41, 42, 43, 44, 45, 46, 47, 48, 49, 50, 51, 52, 53, 54, 55, 56, 57, 58, 59, 60, 61, 62, 63, 64, 65, 66, 67, 68] rfl (by decide +kernel)
set_option maxRecDepth 1000000 in
theorem gX11_valueOf_X11_isKept : GoodIn wsX11_valueOf (wsV RX11 377 RX11 yX11_isKept wsX11_isKept) := goodIn_app (goodIn_of _ (by decide +kernel)) ggX11_valueOf_X11_isKept
theorem dX11_valueOf_0 : decode cX11_valueOf 0 = .ok (.aload_n 0, 1) := by decide +kernel
theorem dX11_valueOf_1 : decode cX11_valueOf 1 = .ok (.iconst 0, 1) := by decide +kernel
theorem dX11_valueOf_2 : decode cX11_valueOf 2 = .ok (.putfield 49, 3) := by decide +kernel
theorem dX11_valueOf_5 : decode cX11_valueOf 5 = .ok (.aload_n 0, 1) := by decide +kernel
theorem dX11_valueOf_6 : decode cX11_valueOf 6 = .ok (.iload_n 1, 1) := by decide +kernel
theorem dX11_valueOf_7 : decode cX11_valueOf 7 = .ok (.invokevirtual 377, 3) := by decide +kernel
theorem dX11_valueOf_10 : decode cX11_valueOf 10 = .ok (.ifCond .eq 33, 3) := by decide +kernel
theorem dX11_valueOf_13 : decode cX11_valueOf 13 = .ok (.iload_n 2, 1) := by decide +kernel
theorem dX11_valueOf_14 : decode cX11_valueOf 14 = .ok (.ifCond .lt 29, 3) := by decide +kernel
theorem dX11_valueOf_17 : decode cX11_valueOf 17 = .ok (.iload_n 2, 1) := by decide +kernel
theorem dX11_valueOf_18 : decode cX11_valueOf 18 = .ok (.iconst 3, 1) := by decide +kernel
theorem dX11_valueOf_19 : decode cX11_valueOf 19 = .ok (.if_icmp .ge 24, 3) := by decide +kernel
theorem dX11_valueOf_22 : decode cX11_valueOf 22 = .ok (.aload_n 0, 1) := by decide +kernel
theorem dX11_valueOf_23 : decode cX11_valueOf 23 = .ok (.getfield 30, 3) := by decide +kernel
theorem dX11_valueOf_26 : decode cX11_valueOf 26 = .ok (.bipush 11, 2) := by decide +kernel
theorem dX11_valueOf_28 : decode cX11_valueOf 28 = .ok (.iload_n 1, 1) := by decide +kernel
theorem dX11_valueOf_29 : decode cX11_valueOf 29 = .ok (.sipush 256, 3) := by decide +kernel
theorem dX11_valueOf_32 : decode cX11_valueOf 32 = .ok (.irem, 1) := by decide +kernel
theorem dX11_valueOf_33 : decode cX11_valueOf 33 = .ok (.imul, 1) := by decide +kernel
theorem dX11_valueOf_34 : decode cX11_valueOf 34 = .ok (.bipush 8, 2) := by decide +kernel
theorem dX11_valueOf_36 : decode cX11_valueOf 36 = .ok (.iadd, 1) := by decide +kernel
theorem dX11_valueOf_37 : decode cX11_valueOf 37 = .ok (.iload_n 2, 1) := by decide +kernel
theorem dX11_valueOf_38 : decode cX11_valueOf 38 = .ok (.iadd, 1) := by decide +kernel
theorem dX11_valueOf_39 : decode cX11_valueOf 39 = .ok (.iaload, 1) := by decide +kernel
theorem dX11_valueOf_40 : decode cX11_valueOf 40 = .ok (.goto 4, 3) := by decide +kernel
theorem dX11_valueOf_43 : decode cX11_valueOf 43 = .ok (.iconst 0, 1) := by decide +kernel
theorem dX11_valueOf_44 : decode cX11_valueOf 44 = .ok (.ireturn, 1) := by decide +kernel
theorem dX11_lookAt_0 : decode cX11_lookAt 0 = .ok (.aload_n 0, 1) := by decide +kernel
theorem dX11_lookAt_1 : decode cX11_lookAt 1 = .ok (.iconst 0, 1) := by decide +kernel
theorem dX11_lookAt_2 : decode cX11_lookAt 2 = .ok (.putfield 49, 3) := by decide +kernel
theorem dX11_lookAt_5 : decode cX11_lookAt 5 = .ok (.iload_n 1, 1) := by decide +kernel
theorem dX11_lookAt_6 : decode cX11_lookAt 6 = .ok (.tableswitch 127 0 8 #[50, 55, 60, 65, 70, 104, 109, 114, 119], 50) := by decide +kernel
theorem dX11_lookAt_56 : decode cX11_lookAt 56 = .ok (.aload_n 0, 1) := by decide +kernel
theorem dX11_lookAt_57 : decode cX11_lookAt 57 = .ok (.getfield 75, 3) := by decide +kernel
theorem dX11_lookAt_60 : decode cX11_lookAt 60 = .ok (.ireturn, 1) := by decide +kernel
theorem dX11_lookAt_61 : decode cX11_lookAt 61 = .ok (.aload_n 0, 1) := by decide +kernel
theorem dX11_lookAt_62 : decode cX11_lookAt 62 = .ok (.getfield 78, 3) := by decide +kernel
theorem dX11_lookAt_65 : decode cX11_lookAt 65 = .ok (.ireturn, 1) := by decide +kernel
theorem dX11_lookAt_66 : decode cX11_lookAt 66 = .ok (.aload_n 0, 1) := by decide +kernel
theorem dX11_lookAt_67 : decode cX11_lookAt 67 = .ok (.getfield 81, 3) := by decide +kernel
theorem dX11_lookAt_70 : decode cX11_lookAt 70 = .ok (.ireturn, 1) := by decide +kernel
theorem dX11_lookAt_71 : decode cX11_lookAt 71 = .ok (.aload_n 0, 1) := by decide +kernel
theorem dX11_lookAt_72 : decode cX11_lookAt 72 = .ok (.getfield 84, 3) := by decide +kernel
theorem dX11_lookAt_75 : decode cX11_lookAt 75 = .ok (.ireturn, 1) := by decide +kernel
theorem dX11_lookAt_76 : decode cX11_lookAt 76 = .ok (.aload_n 0, 1) := by decide +kernel
theorem dX11_lookAt_77 : decode cX11_lookAt 77 = .ok (.getfield 78, 3) := by decide +kernel
theorem dX11_lookAt_80 : decode cX11_lookAt 80 = .ok (.ifCond .ne 7, 3) := by decide +kernel
theorem dX11_lookAt_83 : decode cX11_lookAt 83 = .ok (.iconst (-1), 1) := by decide +kernel
theorem dX11_lookAt_84 : decode cX11_lookAt 84 = .ok (.goto 25, 3) := by decide +kernel
theorem dX11_lookAt_87 : decode cX11_lookAt 87 = .ok (.aload_n 0, 1) := by decide +kernel
theorem dX11_lookAt_88 : decode cX11_lookAt 88 = .ok (.getfield 78, 3) := by decide +kernel
theorem dX11_lookAt_91 : decode cX11_lookAt 91 = .ok (.sipush 256, 3) := by decide +kernel
theorem dX11_lookAt_94 : decode cX11_lookAt 94 = .ok (.if_icmp .le 14, 3) := by decide +kernel
theorem dX11_lookAt_97 : decode cX11_lookAt 97 = .ok (.aload_n 0, 1) := by decide +kernel
theorem dX11_lookAt_98 : decode cX11_lookAt 98 = .ok (.getfield 78, 3) := by decide +kernel
theorem dX11_lookAt_101 : decode cX11_lookAt 101 = .ok (.sipush 256, 3) := by decide +kernel
theorem dX11_lookAt_104 : decode cX11_lookAt 104 = .ok (.isub, 1) := by decide +kernel
theorem dX11_lookAt_105 : decode cX11_lookAt 105 = .ok (.goto 4, 3) := by decide +kernel
theorem dX11_lookAt_108 : decode cX11_lookAt 108 = .ok (.iconst 0, 1) := by decide +kernel
theorem dX11_lookAt_109 : decode cX11_lookAt 109 = .ok (.ireturn, 1) := by decide +kernel
theorem dX11_lookAt_110 : decode cX11_lookAt 110 = .ok (.aload_n 0, 1) := by decide +kernel
theorem dX11_lookAt_111 : decode cX11_lookAt 111 = .ok (.getfield 72, 3) := by decide +kernel
theorem dX11_lookAt_114 : decode cX11_lookAt 114 = .ok (.ireturn, 1) := by decide +kernel
theorem dX11_lookAt_115 : decode cX11_lookAt 115 = .ok (.aload_n 0, 1) := by decide +kernel
theorem dX11_lookAt_116 : decode cX11_lookAt 116 = .ok (.getfield 87, 3) := by decide +kernel
theorem dX11_lookAt_119 : decode cX11_lookAt 119 = .ok (.ireturn, 1) := by decide +kernel
theorem dX11_lookAt_120 : decode cX11_lookAt 120 = .ok (.aload_n 0, 1) := by decide +kernel
theorem dX11_lookAt_121 : decode cX11_lookAt 121 = .ok (.getfield 42, 3) := by decide +kernel
theorem dX11_lookAt_124 : decode cX11_lookAt 124 = .ok (.ireturn, 1) := by decide +kernel
theorem dX11_lookAt_125 : decode cX11_lookAt 125 = .ok (.aload_n 0, 1) := by decide +kernel
theorem dX11_lookAt_126 : decode cX11_lookAt 126 = .ok (.getfield 18, 3) := by decide +kernel
theorem dX11_lookAt_129 : decode cX11_lookAt 129 = .ok (.bipush 7, 2) := by decide +kernel
theorem dX11_lookAt_131 : decode cX11_lookAt 131 = .ok (.iaload, 1) := by decide +kernel
theorem dX11_lookAt_132 : decode cX11_lookAt 132 = .ok (.ireturn, 1) := by decide +kernel
theorem dX11_lookAt_133 : decode cX11_lookAt 133 = .ok (.iconst (-1), 1) := by decide +kernel
theorem dX11_lookAt_134 : decode cX11_lookAt 134 = .ok (.ireturn, 1) := by decide +kernel
