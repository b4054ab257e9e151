theorem dX7_init_0 : decode cX7_init 0 = .ok (.aload_n 0, 1) := by decide +kernel
theorem dX7_init_1 : decode cX7_init 1 = .ok (.invokespecial 3, 3) := by decide +kernel
theorem dX7_init_4 : decode cX7_init 4 = .ok (.aload_n 0, 1) := by decide +kernel
theorem dX7_init_5 : decode cX7_init 5 = .ok (.bipush 8, 2) := by decide +kernel
theorem dX7_init_7 : decode cX7_init 7 = .ok (.newarray .int, 2) := by decide +kernel
theorem dX7_init_9 : decode cX7_init 9 = .ok (.putfield 11, 3) := by decide +kernel
theorem dX7_init_12 : decode cX7_init 12 = .ok (.aload_n 0, 1) := by decide +kernel
theorem dX7_init_13 : decode cX7_init 13 = .ok (.bipush 36, 2) := by decide +kernel
theorem dX7_init_15 : decode cX7_init 15 = .ok (.newarray .int, 2) := by decide +kernel
theorem dX7_init_17 : decode cX7_init 17 = .ok (.putfield 15, 3) := by decide +kernel
theorem dX7_init_20 : decode cX7_init 20 = .ok (.return_, 1) := by decide +kernel
set_option maxRecDepth 1000000 in
theorem ggX7_reset_J7_fill_53178 : GoodIn wsX7_reset wsJ7_fill_53178 := goodIn_r _ [16] (by decide +kernel) (by decide +kernel)
set_option maxRecDepth 1000000 in
theorem gX7_reset_J7_fill_53178 : GoodIn wsX7_reset (va_wsS RX7 18 yJ7_fill_53178 wsJ7_fill_53178) := goodIn_app (goodIn_of _ (by decide +kernel)) ggX7_reset_J7_fill_53178
theorem dX7_reset_0 : decode cX7_reset 0 = .ok (.aload_n 0, 1) := by decide +kernel
theorem dX7_reset_1 : decode cX7_reset 1 = .ok (.getfield 11, 3) := by decide +kernel
theorem dX7_reset_4 : decode cX7_reset 4 = .ok (.iconst 0, 1) := by decide +kernel
theorem dX7_reset_5 : decode cX7_reset 5 = .ok (.invokestatic 18, 3) := by decide +kernel
theorem dX7_reset_8 : decode cX7_reset 8 = .ok (.aload_n 0, 1) := by decide +kernel
theorem dX7_reset_9 : decode cX7_reset 9 = .ok (.getfield 15, 3) := by decide +kernel
theorem dX7_reset_12 : decode cX7_reset 12 = .ok (.iconst 0, 1) := by decide +kernel
theorem dX7_reset_13 : decode cX7_reset 13 = .ok (.invokestatic 18, 3) := by decide +kernel
theorem dX7_reset_16 : decode cX7_reset 16 = .ok (.aload_n 0, 1) := by decide +kernel
theorem dX7_reset_17 : decode cX7_reset 17 = .ok (.iconst 0, 1) := by decide +kernel
theorem dX7_reset_18 : decode cX7_reset 18 = .ok (.putfield 24, 3) := by decide +kernel
theorem dX7_reset_21 : decode cX7_reset 21 = .ok (.aload_n 0, 1) := by decide +kernel
theorem dX7_reset_22 : decode cX7_reset 22 = .ok (.iconst 0, 1) := by decide +kernel
theorem dX7_reset_23 : decode cX7_reset 23 = .ok (.putfield 28, 3) := by decide +kernel
theorem dX7_reset_26 : decode cX7_reset 26 = .ok (.aload_n 0, 1) := by decide +kernel
theorem dX7_reset_27 : decode cX7_reset 27 = .ok (.iconst 0, 1) := by decide +kernel
theorem dX7_reset_28 : decode cX7_reset 28 = .ok (.putfield 31, 3) := by decide +kernel
theorem dX7_reset_31 : decode cX7_reset 31 = .ok (.aload_n 0, 1) := by decide +kernel
theorem dX7_reset_32 : decode cX7_reset 32 = .ok (.iconst 0, 1) := by decide +kernel
theorem dX7_reset_33 : decode cX7_reset 33 = .ok (.putfield 34, 3) := by decide +kernel
theorem dX7_reset_36 : decode cX7_reset 36 = .ok (.aload_n 0, 1) := by decide +kernel
theorem dX7_reset_37 : decode cX7_reset 37 = .ok (.iconst 0, 1) := by decide +kernel
theorem dX7_reset_38 : decode cX7_reset 38 = .ok (.putfield 37, 3) := by decide +kernel
theorem dX7_reset_41 : decode cX7_reset 41 = .ok (.aload_n 0, 1) := by decide +kernel
theorem dX7_reset_42 : decode cX7_reset 42 = .ok (.iconst 0, 1) := by decide +kernel
theorem dX7_reset_43 : decode cX7_reset 43 = .ok (.putfield 40, 3) := by decide +kernel
theorem dX7_reset_46 : decode cX7_reset 46 = .ok (.aload_n 0, 1) := by decide +kernel
theorem dX7_reset_47 : decode cX7_reset 47 = .ok (.iconst 0, 1) := by decide +kernel
theorem dX7_reset_48 : decode cX7_reset 48 = .ok (.putfield 43, 3) := by decide +kernel
theorem dX7_reset_51 : decode cX7_reset 51 = .ok (.aload_n 0, 1) := by decide +kernel
theorem dX7_reset_52 : decode cX7_reset 52 = .ok (.iconst 0, 1) := by decide +kernel
theorem dX7_reset_53 : decode cX7_reset 53 = .ok (.putfield 46, 3) := by decide +kernel
theorem dX7_reset_56 : decode cX7_reset 56 = .ok (.aload_n 0, 1) := by decide +kernel
theorem dX7_reset_57 : decode cX7_reset 57 = .ok (.iconst 0, 1) := by decide +kernel
theorem dX7_reset_58 : decode cX7_reset 58 = .ok (.putfield 50, 3) := by decide +kernel
theorem dX7_reset_61 : decode cX7_reset 61 = .ok (.aload_n 0, 1) := by decide +kernel
theorem dX7_reset_62 : decode cX7_reset 62 = .ok (.iconst 0, 1) := by decide +kernel
theorem dX7_reset_63 : decode cX7_reset 63 = .ok (.putfield 53, 3) := by decide +kernel
theorem dX7_reset_66 : decode cX7_reset 66 = .ok (.return_, 1) := by decide +kernel
set_option maxRecDepth 1000000 in
theorem ggX7_take_X2_retires : GoodIn wsX7_take wsX2_retires := goodIn_r _ [11, 12, 13, 92, 93, 94, 95, 124, 125, 126, 127, 128, 129, 130, 131, 132, 133, 134] (by decide +kernel) (by decide +kernel)
set_option maxRecDepth 1000000 in
theorem gX7_take_X2_retires : GoodIn wsX7_take (wsV RX7 62 RX2 yX2_retires wsX2_retires) := goodIn_app (goodIn_of _ (by decide +kernel)) ggX7_take_X2_retires
set_option maxRecDepth 1000000 in
theorem ggX7_take_X7_fetch : GoodIn wsX7_take wsX7_fetch := goodIn_r _ [18, 19, 20, 21, 22, 6, 23, 24, 25, 26, 27, 28, 29, 30, 17, 31, 32, 110, 111, 112, 113, 114, 115, 116, 117, 118, 119, 120, 121, 122, 123] (by decide +kernel) (by decide +kernel)
set_option maxRecDepth 1000000 in
theorem gX7_take_X7_fetch : GoodIn wsX7_take (wsV RX7 73 RX7 yX7_fetch wsX7_fetch) := goodIn_app (goodIn_of _ (by decide +kernel)) ggX7_take_X7_fetch
set_option maxRecDepth 1000000 in
theorem ggX7_take_X7_issue : GoodIn wsX7_take wsX7_issue := goodIn_r _ [36, 22, 37, 23, 24, 25, 26, 38, 39, 32, 6, 40, 41, 42, 17, 43, 5, 44, 45, 46, 47, 48, 49, 28, 29, 30, 31, 50, 51, 52, 53, 54, 55, 56, 57, 110, 111, 112, 113, 114, 115, 116, 117, 118, 119, 120, 121, 122, 123, 102, 103, 104, 105, 106, 107, 108, 109] rfl (by decide +kernel)
set_option maxRecDepth 1000000 in
theorem gX7_take_X7_issue : GoodIn wsX7_take (wsV RX7 77 RX7 yX7_issue wsX7_issue) := goodIn_app (goodIn_of _ (by decide +kernel)) ggX7_take_X7_issue
set_option maxRecDepth 1000000 in
theorem ggX7_take_X7_end : GoodIn wsX7_take wsX7_end := goodIn_r _ [61, 37, 38, 23, 24, 25, 26, 62, 44, 45, 46, 47, 48, 49, 110, 111, 112, 113, 114, 115, 116, 117, 118, 119, 120, 121, 122, 123, 102, 103, 104, 105, 106, 107, 108, 109] rfl (by decide +kernel)
set_option maxRecDepth 1000000 in
theorem gX7_take_X7_end : GoodIn wsX7_take (wsV RX7 81 RX7 yX7_end wsX7_end) := goodIn_app (goodIn_of _ (by decide +kernel)) ggX7_take_X7_end
set_option maxRecDepth 1000000 in
theorem ggX7_take_X7_noteWrites : GoodIn wsX7_take wsX7_noteWrites := goodIn_r _ [66, 37, 39, 67, 68, 69, 17, 70, 44, 45, 46, 47, 48, 49, 71, 72, 73, 74, 75, 76, 110, 111, 112, 113, 114, 115, 116, 117, 118, 119, 120, 121, 122, 123, 102, 103, 104, 105, 106, 107, 108, 109] rfl (by decide +kernel)
set_option maxRecDepth 1000000 in
theorem gX7_take_X7_noteWrites : GoodIn wsX7_take (wsV RX7 85 RX7 yX7_noteWrites wsX7_noteWrites) := goodIn_app (goodIn_of _ (by decide +kernel)) ggX7_take_X7_noteWrites
set_option maxRecDepth 1000000 in
theorem ggX7_take_X7_noteWayOn : GoodIn wsX7_take wsX7_noteWayOn := goodIn_r _ [80, 2, 81, 82, 83, 20, 6, 27, 38, 84, 85, 28, 29, 30, 17, 31, 32, 44, 45, 46, 47, 48, 49, 7, 8, 9, 10, 11, 12, 13, 86, 87, 88, 89, 90, 91, 92, 93, 94, 95, 96, 97, 98, 99, 100, 101, 110, 111, 112, 113, 114, 115, 116, 117, 118, 119, 120, 121, 122, 123, 124, 125, 126, 127, 128, 129, 130, 131, 132, 133, 134, 102, 103, 104, 105, 106, 107, 108, 109] rfl (by decide +kernel)
set_option maxRecDepth 1000000 in
theorem gX7_take_X7_noteWayOn : GoodIn wsX7_take (wsV RX7 88 RX7 yX7_noteWayOn wsX7_noteWayOn) := goodIn_app (goodIn_of _ (by decide +kernel)) ggX7_take_X7_noteWayOn
theorem dX7_take_0 : decode cX7_take 0 = .ok (.aload_n 1, 1) := by decide +kernel
theorem dX7_take_1 : decode cX7_take 1 = .ok (.getfield 56, 3) := by decide +kernel
theorem dX7_take_4 : decode cX7_take 4 = .ok (.astore_n 2, 1) := by decide +kernel
theorem dX7_take_5 : decode cX7_take 5 = .ok (.aload_n 1, 1) := by decide +kernel
theorem dX7_take_6 : decode cX7_take 6 = .ok (.invokevirtual 62, 3) := by decide +kernel
theorem dX7_take_9 : decode cX7_take 9 = .ok (.istore_n 3, 1) := by decide +kernel
theorem dX7_take_10 : decode cX7_take 10 = .ok (.aload_n 0, 1) := by decide +kernel
theorem dX7_take_11 : decode cX7_take 11 = .ok (.aload_n 1, 1) := by decide +kernel
theorem dX7_take_12 : decode cX7_take 12 = .ok (.getfield 66, 3) := by decide +kernel
theorem dX7_take_15 : decode cX7_take 15 = .ok (.getfield 70, 3) := by decide +kernel
theorem dX7_take_18 : decode cX7_take 18 = .ok (.invokevirtual 73, 3) := by decide +kernel
theorem dX7_take_21 : decode cX7_take 21 = .ok (.aload_n 0, 1) := by decide +kernel
theorem dX7_take_22 : decode cX7_take 22 = .ok (.aload_n 2, 1) := by decide +kernel
theorem dX7_take_23 : decode cX7_take 23 = .ok (.invokevirtual 77, 3) := by decide +kernel
theorem dX7_take_26 : decode cX7_take 26 = .ok (.aload_n 0, 1) := by decide +kernel
theorem dX7_take_27 : decode cX7_take 27 = .ok (.aload_n 2, 1) := by decide +kernel
theorem dX7_take_28 : decode cX7_take 28 = .ok (.iload_n 3, 1) := by decide +kernel
theorem dX7_take_29 : decode cX7_take 29 = .ok (.invokevirtual 81, 3) := by decide +kernel
theorem dX7_take_32 : decode cX7_take 32 = .ok (.iload_n 3, 1) := by decide +kernel
theorem dX7_take_33 : decode cX7_take 33 = .ok (.ifCond .eq 8, 3) := by decide +kernel
theorem dX7_take_36 : decode cX7_take 36 = .ok (.aload_n 0, 1) := by decide +kernel
theorem dX7_take_37 : decode cX7_take 37 = .ok (.aload_n 2, 1) := by decide +kernel
theorem dX7_take_38 : decode cX7_take 38 = .ok (.invokevirtual 85, 3) := by decide +kernel
theorem dX7_take_41 : decode cX7_take 41 = .ok (.aload_n 0, 1) := by decide +kernel
theorem dX7_take_42 : decode cX7_take 42 = .ok (.aload_n 2, 1) := by decide +kernel
theorem dX7_take_43 : decode cX7_take 43 = .ok (.aload_n 1, 1) := by decide +kernel
theorem dX7_take_44 : decode cX7_take 44 = .ok (.invokevirtual 88, 3) := by decide +kernel
theorem dX7_take_47 : decode cX7_take 47 = .ok (.aload_n 0, 1) := by decide +kernel
theorem dX7_take_48 : decode cX7_take 48 = .ok (.aload_n 2, 1) := by decide +kernel
theorem dX7_take_49 : decode cX7_take 49 = .ok (.getfield 92, 3) := by decide +kernel
theorem dX7_take_52 : decode cX7_take 52 = .ok (.putfield 40, 3) := by decide +kernel
theorem dX7_take_55 : decode cX7_take 55 = .ok (.aload_n 0, 1) := by decide +kernel
theorem dX7_take_56 : decode cX7_take 56 = .ok (.dup, 1) := by decide +kernel
theorem dX7_take_57 : decode cX7_take 57 = .ok (.getfield 34, 3) := by decide +kernel
theorem dX7_take_60 : decode cX7_take 60 = .ok (.iconst 1, 1) := by decide +kernel
theorem dX7_take_61 : decode cX7_take 61 = .ok (.iadd, 1) := by decide +kernel
theorem dX7_take_62 : decode cX7_take 62 = .ok (.putfield 34, 3) := by decide +kernel
theorem dX7_take_65 : decode cX7_take 65 = .ok (.return_, 1) := by decide +kernel
set_option maxRecDepth 1000000 in
theorem ggX7_fetch_X7_issueOf : GoodIn wsX7_fetch wsX7_issueOf := goodIn_r _ [15, 16, 17, 18, 19, 20, 21, 22, 23, 24, 25, 26, 27, 28, 29, 30] (by decide +kernel) (by decide +kernel)
set_option maxRecDepth 1000000 in
theorem gX7_fetch_X7_issueOf : GoodIn wsX7_fetch (wsV RX7 95 RX7 yX7_issueOf wsX7_issueOf) := goodIn_app (goodIn_of _ (by decide +kernel)) ggX7_fetch_X7_issueOf
theorem dX7_fetch_0 : decode cX7_fetch 0 = .ok (.aload_n 0, 1) := by decide +kernel
theorem dX7_fetch_1 : decode cX7_fetch 1 = .ok (.getfield 46, 3) := by decide +kernel
theorem dX7_fetch_4 : decode cX7_fetch 4 = .ok (.ifCond .eq 24, 3) := by decide +kernel
theorem dX7_fetch_7 : decode cX7_fetch 7 = .ok (.aload_n 0, 1) := by decide +kernel
theorem dX7_fetch_8 : decode cX7_fetch 8 = .ok (.getfield 50, 3) := by decide +kernel
theorem dX7_fetch_11 : decode cX7_fetch 11 = .ok (.ifCond .ne 17, 3) := by decide +kernel
theorem dX7_fetch_14 : decode cX7_fetch 14 = .ok (.iload_n 1, 1) := by decide +kernel
theorem dX7_fetch_15 : decode cX7_fetch 15 = .ok (.aload_n 0, 1) := by decide +kernel
theorem dX7_fetch_16 : decode cX7_fetch 16 = .ok (.getfield 43, 3) := by decide +kernel
theorem dX7_fetch_19 : decode cX7_fetch 19 = .ok (.iconst 4, 1) := by decide +kernel
theorem dX7_fetch_20 : decode cX7_fetch 20 = .ok (.iadd, 1) := by decide +kernel
theorem dX7_fetch_21 : decode cX7_fetch 21 = .ok (.if_icmp .ne 7, 3) := by decide +kernel
theorem dX7_fetch_24 : decode cX7_fetch 24 = .ok (.iconst 1, 1) := by decide +kernel
theorem dX7_fetch_25 : decode cX7_fetch 25 = .ok (.goto 4, 3) := by decide +kernel
theorem dX7_fetch_28 : decode cX7_fetch 28 = .ok (.iconst 0, 1) := by decide +kernel
theorem dX7_fetch_29 : decode cX7_fetch 29 = .ok (.istore_n 2, 1) := by decide +kernel
theorem dX7_fetch_30 : decode cX7_fetch 30 = .ok (.iload_n 2, 1) := by decide +kernel
theorem dX7_fetch_31 : decode cX7_fetch 31 = .ok (.ifCond .ne 35, 3) := by decide +kernel
theorem dX7_fetch_34 : decode cX7_fetch 34 = .ok (.aload_n 0, 1) := by decide +kernel
theorem dX7_fetch_35 : decode cX7_fetch 35 = .ok (.getfield 24, 3) := by decide +kernel
theorem dX7_fetch_38 : decode cX7_fetch 38 = .ok (.aload_n 0, 1) := by decide +kernel
theorem dX7_fetch_39 : decode cX7_fetch 39 = .ok (.aload_n 0, 1) := by decide +kernel
theorem dX7_fetch_40 : decode cX7_fetch 40 = .ok (.getfield 34, 3) := by decide +kernel
theorem dX7_fetch_43 : decode cX7_fetch 43 = .ok (.iconst 5, 1) := by decide +kernel
theorem dX7_fetch_44 : decode cX7_fetch 44 = .ok (.isub, 1) := by decide +kernel
theorem dX7_fetch_45 : decode cX7_fetch 45 = .ok (.invokevirtual 95, 3) := by decide +kernel
theorem dX7_fetch_48 : decode cX7_fetch 48 = .ok (.invokestatic 99, 3) := by decide +kernel
theorem dX7_fetch_51 : decode cX7_fetch 51 = .ok (.istore_n 3, 1) := by decide +kernel
theorem dX7_fetch_52 : decode cX7_fetch 52 = .ok (.aload_n 0, 1) := by decide +kernel
theorem dX7_fetch_53 : decode cX7_fetch 53 = .ok (.iload_n 3, 1) := by decide +kernel
theorem dX7_fetch_54 : decode cX7_fetch 54 = .ok (.iconst 1, 1) := by decide +kernel
theorem dX7_fetch_55 : decode cX7_fetch 55 = .ok (.iadd, 1) := by decide +kernel
theorem dX7_fetch_56 : decode cX7_fetch 56 = .ok (.aload_n 0, 1) := by decide +kernel
theorem dX7_fetch_57 : decode cX7_fetch 57 = .ok (.getfield 53, 3) := by decide +kernel
theorem dX7_fetch_60 : decode cX7_fetch 60 = .ok (.invokestatic 99, 3) := by decide +kernel
theorem dX7_fetch_63 : decode cX7_fetch 63 = .ok (.putfield 24, 3) := by decide +kernel
theorem dX7_fetch_66 : decode cX7_fetch 66 = .ok (.aload_n 0, 1) := by decide +kernel
theorem dX7_fetch_67 : decode cX7_fetch 67 = .ok (.iload_n 2, 1) := by decide +kernel
theorem dX7_fetch_68 : decode cX7_fetch 68 = .ok (.ifCond .ne 7, 3) := by decide +kernel
theorem dX7_fetch_71 : decode cX7_fetch 71 = .ok (.iconst 1, 1) := by decide +kernel
theorem dX7_fetch_72 : decode cX7_fetch 72 = .ok (.goto 4, 3) := by decide +kernel
theorem dX7_fetch_75 : decode cX7_fetch 75 = .ok (.iconst 0, 1) := by decide +kernel
theorem dX7_fetch_76 : decode cX7_fetch 76 = .ok (.putfield 46, 3) := by decide +kernel
theorem dX7_fetch_79 : decode cX7_fetch 79 = .ok (.aload_n 0, 1) := by decide +kernel
theorem dX7_fetch_80 : decode cX7_fetch 80 = .ok (.iload_n 1, 1) := by decide +kernel
theorem dX7_fetch_81 : decode cX7_fetch 81 = .ok (.putfield 43, 3) := by decide +kernel
theorem dX7_fetch_84 : decode cX7_fetch 84 = .ok (.return_, 1) := by decide +kernel
set_option maxRecDepth 1000000 in
theorem ggX7_issue_X7_mayPairWith : GoodIn wsX7_issue wsX7_mayPairWith := goodIn_r _ [15, 16, 10, 2, 17, 18, 19, 20, 21, 22, 23, 24, 25, 14, 26, 9, 35, 36, 37, 38, 39, 40, 41, 42, 43, 44, 45, 46, 47, 48, 49, 50, 51, 52, 53, 54, 55, 56] rfl (by decide +kernel)
set_option maxRecDepth 1000000 in
theorem gX7_issue_X7_mayPairWith : GoodIn wsX7_issue (wsV RX7 105 RX7 yX7_mayPairWith wsX7_mayPairWith) := goodIn_app (goodIn_of _ (by decide +kernel)) ggX7_issue_X7_mayPairWith
set_option maxRecDepth 1000000 in
theorem ggX7_issue_X3_is : GoodIn wsX7_issue wsX3_is := goodIn_r _ [21, 22, 49, 50, 51, 52, 53, 54, 55, 56] (by decide +kernel) (by decide +kernel)
set_option maxRecDepth 1000000 in
theorem gX7_issue_X3_is : GoodIn wsX7_issue (wsV RX7 109 RX3 yX3_is wsX3_is) := goodIn_app (goodIn_of _ (by decide +kernel)) ggX7_issue_X3_is
set_option maxRecDepth 1000000 in
theorem ggX7_issue_X7_readyToRead : GoodIn wsX7_issue wsX7_readyToRead := goodIn_r _ [30, 8, 31, 32, 3, 4, 5, 6, 33, 34, 17, 18, 19, 20, 21, 22, 35, 36, 37, 38, 39, 40, 41, 42, 43, 44, 45, 46, 47, 48, 49, 50, 51, 52, 53, 54, 55, 56] rfl (by decide +kernel)
set_option maxRecDepth 1000000 in
theorem gX7_issue_X7_readyToRead : GoodIn wsX7_issue (wsV RX7 113 RX7 yX7_readyToRead wsX7_readyToRead) := goodIn_app (goodIn_of _ (by decide +kernel)) ggX7_issue_X7_readyToRead
theorem dX7_issue_0 : decode cX7_issue 0 = .ok (.aload_n 0, 1) := by decide +kernel
theorem dX7_issue_1 : decode cX7_issue 1 = .ok (.getfield 24, 3) := by decide +kernel
theorem dX7_issue_4 : decode cX7_issue 4 = .ok (.iconst 2, 1) := by decide +kernel
theorem dX7_issue_5 : decode cX7_issue 5 = .ok (.iadd, 1) := by decide +kernel
theorem dX7_issue_6 : decode cX7_issue 6 = .ok (.aload_n 0, 1) := by decide +kernel
theorem dX7_issue_7 : decode cX7_issue 7 = .ok (.aload_n 1, 1) := by decide +kernel
theorem dX7_issue_8 : decode cX7_issue 8 = .ok (.invokevirtual 105, 3) := by decide +kernel
theorem dX7_issue_11 : decode cX7_issue 11 = .ok (.ifCond .eq 10, 3) := by decide +kernel
theorem dX7_issue_14 : decode cX7_issue 14 = .ok (.aload_n 0, 1) := by decide +kernel
theorem dX7_issue_15 : decode cX7_issue 15 = .ok (.getfield 28, 3) := by decide +kernel
theorem dX7_issue_18 : decode cX7_issue 18 = .ok (.goto 9, 3) := by decide +kernel
theorem dX7_issue_21 : decode cX7_issue 21 = .ok (.aload_n 0, 1) := by decide +kernel
theorem dX7_issue_22 : decode cX7_issue 22 = .ok (.getfield 28, 3) := by decide +kernel
theorem dX7_issue_25 : decode cX7_issue 25 = .ok (.iconst 1, 1) := by decide +kernel
theorem dX7_issue_26 : decode cX7_issue 26 = .ok (.iadd, 1) := by decide +kernel
theorem dX7_issue_27 : decode cX7_issue 27 = .ok (.invokestatic 99, 3) := by decide +kernel
theorem dX7_issue_30 : decode cX7_issue 30 = .ok (.istore_n 2, 1) := by decide +kernel
theorem dX7_issue_31 : decode cX7_issue 31 = .ok (.aload_n 1, 1) := by decide +kernel
theorem dX7_issue_32 : decode cX7_issue 32 = .ok (.sipush 16384, 3) := by decide +kernel
theorem dX7_issue_35 : decode cX7_issue 35 = .ok (.invokevirtual 109, 3) := by decide +kernel
theorem dX7_issue_38 : decode cX7_issue 38 = .ok (.ifCond .eq 14, 3) := by decide +kernel
theorem dX7_issue_41 : decode cX7_issue 41 = .ok (.iload_n 2, 1) := by decide +kernel
theorem dX7_issue_42 : decode cX7_issue 42 = .ok (.aload_n 0, 1) := by decide +kernel
theorem dX7_issue_43 : decode cX7_issue 43 = .ok (.getfield 31, 3) := by decide +kernel
theorem dX7_issue_46 : decode cX7_issue 46 = .ok (.iconst 1, 1) := by decide +kernel
theorem dX7_issue_47 : decode cX7_issue 47 = .ok (.iadd, 1) := by decide +kernel
theorem dX7_issue_48 : decode cX7_issue 48 = .ok (.invokestatic 99, 3) := by decide +kernel
theorem dX7_issue_51 : decode cX7_issue 51 = .ok (.istore_n 2, 1) := by decide +kernel
theorem dX7_issue_52 : decode cX7_issue 52 = .ok (.aload_n 1, 1) := by decide +kernel
theorem dX7_issue_53 : decode cX7_issue 53 = .ok (.sipush 4096, 3) := by decide +kernel
theorem dX7_issue_56 : decode cX7_issue 56 = .ok (.invokevirtual 109, 3) := by decide +kernel
theorem dX7_issue_59 : decode cX7_issue 59 = .ok (.ifCond .eq 15, 3) := by decide +kernel
theorem dX7_issue_62 : decode cX7_issue 62 = .ok (.iload_n 2, 1) := by decide +kernel
theorem dX7_issue_63 : decode cX7_issue 63 = .ok (.aload_n 0, 1) := by decide +kernel
theorem dX7_issue_64 : decode cX7_issue 64 = .ok (.getfield 15, 3) := by decide +kernel
theorem dX7_issue_67 : decode cX7_issue 67 = .ok (.bipush 35, 2) := by decide +kernel
theorem dX7_issue_69 : decode cX7_issue 69 = .ok (.iaload, 1) := by decide +kernel
theorem dX7_issue_70 : decode cX7_issue 70 = .ok (.invokestatic 99, 3) := by decide +kernel
theorem dX7_issue_73 : decode cX7_issue 73 = .ok (.istore_n 2, 1) := by decide +kernel
theorem dX7_issue_74 : decode cX7_issue 74 = .ok (.aload_n 0, 1) := by decide +kernel
theorem dX7_issue_75 : decode cX7_issue 75 = .ok (.iload_n 2, 1) := by decide +kernel
theorem dX7_issue_76 : decode cX7_issue 76 = .ok (.aload_n 0, 1) := by decide +kernel
theorem dX7_issue_77 : decode cX7_issue 77 = .ok (.aload_n 1, 1) := by decide +kernel
theorem dX7_issue_78 : decode cX7_issue 78 = .ok (.invokevirtual 113, 3) := by decide +kernel
theorem dX7_issue_81 : decode cX7_issue 81 = .ok (.invokestatic 99, 3) := by decide +kernel
theorem dX7_issue_84 : decode cX7_issue 84 = .ok (.putfield 28, 3) := by decide +kernel
theorem dX7_issue_87 : decode cX7_issue 87 = .ok (.aload_n 0, 1) := by decide +kernel
theorem dX7_issue_88 : decode cX7_issue 88 = .ok (.getfield 11, 3) := by decide +kernel
theorem dX7_issue_91 : decode cX7_issue 91 = .ok (.aload_n 0, 1) := by decide +kernel
theorem dX7_issue_92 : decode cX7_issue 92 = .ok (.getfield 34, 3) := by decide +kernel
theorem dX7_issue_95 : decode cX7_issue 95 = .ok (.bipush 7, 2) := by decide +kernel
theorem dX7_issue_97 : decode cX7_issue 97 = .ok (.iand, 1) := by decide +kernel
theorem dX7_issue_98 : decode cX7_issue 98 = .ok (.aload_n 0, 1) := by decide +kernel
theorem dX7_issue_99 : decode cX7_issue 99 = .ok (.getfield 28, 3) := by decide +kernel
theorem dX7_issue_102 : decode cX7_issue 102 = .ok (.iastore, 1) := by decide +kernel
theorem dX7_issue_103 : decode cX7_issue 103 = .ok (.return_, 1) := by decide +kernel
set_option maxRecDepth 1000000 in
theorem ggX7_mayPairWith_X3_is : GoodIn wsX7_mayPairWith wsX3_is := goodIn_r _ [8, 9, 30, 31, 32, 33, 34, 35, 36, 37] (by decide +kernel) (by decide +kernel)
set_option maxRecDepth 1000000 in
theorem gX7_mayPairWith_X3_is : GoodIn wsX7_mayPairWith (wsV RX7 109 RX3 yX3_is wsX3_is) := goodIn_app (goodIn_of _ (by decide +kernel)) ggX7_mayPairWith_X3_is
set_option maxRecDepth 1000000 in
theorem ggX7_mayPairWith_X7_issueOf : GoodIn wsX7_mayPairWith wsX7_issueOf := goodIn_r _ [14, 15, 16, 17, 18, 19, 20, 21, 22, 23, 24, 25, 26, 27, 28, 29] (by decide +kernel) (by decide +kernel)
set_option maxRecDepth 1000000 in
theorem gX7_mayPairWith_X7_issueOf : GoodIn wsX7_mayPairWith (wsV RX7 95 RX7 yX7_issueOf wsX7_issueOf) := goodIn_app (goodIn_of _ (by decide +kernel)) ggX7_mayPairWith_X7_issueOf
theorem dX7_mayPairWith_0 : decode cX7_mayPairWith 0 = .ok (.aload_n 0, 1) := by decide +kernel
theorem dX7_mayPairWith_1 : decode cX7_mayPairWith 1 = .ok (.getfield 40, 3) := by decide +kernel
theorem dX7_mayPairWith_4 : decode cX7_mayPairWith 4 = .ok (.sipush 24576, 3) := by decide +kernel
theorem dX7_mayPairWith_7 : decode cX7_mayPairWith 7 = .ok (.iand, 1) := by decide +kernel
theorem dX7_mayPairWith_8 : decode cX7_mayPairWith 8 = .ok (.ifCond .ne 13, 3) := by decide +kernel
theorem dX7_mayPairWith_11 : decode cX7_mayPairWith 11 = .ok (.aload_n 1, 1) := by decide +kernel
theorem dX7_mayPairWith_12 : decode cX7_mayPairWith 12 = .ok (.sipush 16384, 3) := by decide +kernel
theorem dX7_mayPairWith_15 : decode cX7_mayPairWith 15 = .ok (.invokevirtual 109, 3) := by decide +kernel
theorem dX7_mayPairWith_18 : decode cX7_mayPairWith 18 = .ok (.ifCond .eq 5, 3) := by decide +kernel
theorem dX7_mayPairWith_21 : decode cX7_mayPairWith 21 = .ok (.iconst 0, 1) := by decide +kernel
theorem dX7_mayPairWith_22 : decode cX7_mayPairWith 22 = .ok (.ireturn, 1) := by decide +kernel
theorem dX7_mayPairWith_23 : decode cX7_mayPairWith 23 = .ok (.aload_n 0, 1) := by decide +kernel
theorem dX7_mayPairWith_24 : decode cX7_mayPairWith 24 = .ok (.getfield 40, 3) := by decide +kernel
theorem dX7_mayPairWith_27 : decode cX7_mayPairWith 27 = .ok (.sipush 1536, 3) := by decide +kernel
theorem dX7_mayPairWith_30 : decode cX7_mayPairWith 30 = .ok (.iand, 1) := by decide +kernel
theorem dX7_mayPairWith_31 : decode cX7_mayPairWith 31 = .ok (.ifCond .eq 15, 3) := by decide +kernel
theorem dX7_mayPairWith_34 : decode cX7_mayPairWith 34 = .ok (.aload_n 1, 1) := by decide +kernel
theorem dX7_mayPairWith_35 : decode cX7_mayPairWith 35 = .ok (.sipush 1536, 3) := by decide +kernel
theorem dX7_mayPairWith_38 : decode cX7_mayPairWith 38 = .ok (.invokevirtual 109, 3) := by decide +kernel
theorem dX7_mayPairWith_41 : decode cX7_mayPairWith 41 = .ok (.ifCond .eq 5, 3) := by decide +kernel
theorem dX7_mayPairWith_44 : decode cX7_mayPairWith 44 = .ok (.iconst 0, 1) := by decide +kernel
theorem dX7_mayPairWith_45 : decode cX7_mayPairWith 45 = .ok (.ireturn, 1) := by decide +kernel
theorem dX7_mayPairWith_46 : decode cX7_mayPairWith 46 = .ok (.aload_n 0, 1) := by decide +kernel
theorem dX7_mayPairWith_47 : decode cX7_mayPairWith 47 = .ok (.getfield 40, 3) := by decide +kernel
theorem dX7_mayPairWith_50 : decode cX7_mayPairWith 50 = .ok (.sipush 6144, 3) := by decide +kernel
theorem dX7_mayPairWith_53 : decode cX7_mayPairWith 53 = .ok (.iand, 1) := by decide +kernel
theorem dX7_mayPairWith_54 : decode cX7_mayPairWith 54 = .ok (.ifCond .eq 15, 3) := by decide +kernel
theorem dX7_mayPairWith_57 : decode cX7_mayPairWith 57 = .ok (.aload_n 1, 1) := by decide +kernel
theorem dX7_mayPairWith_58 : decode cX7_mayPairWith 58 = .ok (.sipush 6144, 3) := by decide +kernel
theorem dX7_mayPairWith_61 : decode cX7_mayPairWith 61 = .ok (.invokevirtual 109, 3) := by decide +kernel
theorem dX7_mayPairWith_64 : decode cX7_mayPairWith 64 = .ok (.ifCond .eq 5, 3) := by decide +kernel
theorem dX7_mayPairWith_67 : decode cX7_mayPairWith 67 = .ok (.iconst 0, 1) := by decide +kernel
theorem dX7_mayPairWith_68 : decode cX7_mayPairWith 68 = .ok (.ireturn, 1) := by decide +kernel
theorem dX7_mayPairWith_69 : decode cX7_mayPairWith 69 = .ok (.aload_n 0, 1) := by decide +kernel
theorem dX7_mayPairWith_70 : decode cX7_mayPairWith 70 = .ok (.aload_n 0, 1) := by decide +kernel
theorem dX7_mayPairWith_71 : decode cX7_mayPairWith 71 = .ok (.getfield 34, 3) := by decide +kernel
theorem dX7_mayPairWith_74 : decode cX7_mayPairWith 74 = .ok (.iconst 2, 1) := by decide +kernel
theorem dX7_mayPairWith_75 : decode cX7_mayPairWith 75 = .ok (.isub, 1) := by decide +kernel
theorem dX7_mayPairWith_76 : decode cX7_mayPairWith 76 = .ok (.invokevirtual 95, 3) := by decide +kernel
theorem dX7_mayPairWith_79 : decode cX7_mayPairWith 79 = .ok (.aload_n 0, 1) := by decide +kernel
theorem dX7_mayPairWith_80 : decode cX7_mayPairWith 80 = .ok (.getfield 28, 3) := by decide +kernel
theorem dX7_mayPairWith_83 : decode cX7_mayPairWith 83 = .ok (.if_icmp .ge 7, 3) := by decide +kernel
theorem dX7_mayPairWith_86 : decode cX7_mayPairWith 86 = .ok (.iconst 1, 1) := by decide +kernel
theorem dX7_mayPairWith_87 : decode cX7_mayPairWith 87 = .ok (.goto 4, 3) := by decide +kernel
theorem dX7_mayPairWith_90 : decode cX7_mayPairWith 90 = .ok (.iconst 0, 1) := by decide +kernel
theorem dX7_mayPairWith_91 : decode cX7_mayPairWith 91 = .ok (.ireturn, 1) := by decide +kernel
set_option maxRecDepth 1000000 in
theorem ggX7_readyToRead_X3_is : GoodIn wsX7_readyToRead wsX3_is := goodIn_r _ [14, 15, 30, 31, 32, 33, 34, 35, 36, 37] (by decide +kernel) (by decide +kernel)
set_option maxRecDepth 1000000 in
theorem gX7_readyToRead_X3_is : GoodIn wsX7_readyToRead (wsV RX7 109 RX3 yX3_is wsX3_is) := goodIn_app (goodIn_of _ (by decide +kernel)) ggX7_readyToRead_X3_is
theorem dX7_readyToRead_0 : decode cX7_readyToRead 0 = .ok (.aload_n 1, 1) := by decide +kernel
theorem dX7_readyToRead_1 : decode cX7_readyToRead 1 = .ok (.iconst 1, 1) := by decide +kernel
theorem dX7_readyToRead_2 : decode cX7_readyToRead 2 = .ok (.invokevirtual 109, 3) := by decide +kernel
theorem dX7_readyToRead_5 : decode cX7_readyToRead 5 = .ok (.ifCond .eq 15, 3) := by decide +kernel
theorem dX7_readyToRead_8 : decode cX7_readyToRead 8 = .ok (.aload_n 0, 1) := by decide +kernel
theorem dX7_readyToRead_9 : decode cX7_readyToRead 9 = .ok (.getfield 15, 3) := by decide +kernel
theorem dX7_readyToRead_12 : decode cX7_readyToRead 12 = .ok (.aload_n 1, 1) := by decide +kernel
theorem dX7_readyToRead_13 : decode cX7_readyToRead 13 = .ok (.getfield 117, 3) := by decide +kernel
theorem dX7_readyToRead_16 : decode cX7_readyToRead 16 = .ok (.iaload, 1) := by decide +kernel
theorem dX7_readyToRead_17 : decode cX7_readyToRead 17 = .ok (.goto 4, 3) := by decide +kernel
theorem dX7_readyToRead_20 : decode cX7_readyToRead 20 = .ok (.iconst 0, 1) := by decide +kernel
theorem dX7_readyToRead_21 : decode cX7_readyToRead 21 = .ok (.istore_n 2, 1) := by decide +kernel
theorem dX7_readyToRead_22 : decode cX7_readyToRead 22 = .ok (.aload_n 1, 1) := by decide +kernel
theorem dX7_readyToRead_23 : decode cX7_readyToRead 23 = .ok (.iconst 2, 1) := by decide +kernel
theorem dX7_readyToRead_24 : decode cX7_readyToRead 24 = .ok (.invokevirtual 109, 3) := by decide +kernel
theorem dX7_readyToRead_27 : decode cX7_readyToRead 27 = .ok (.ifCond .eq 17, 3) := by decide +kernel
theorem dX7_readyToRead_30 : decode cX7_readyToRead 30 = .ok (.iload_n 2, 1) := by decide +kernel
theorem dX7_readyToRead_31 : decode cX7_readyToRead 31 = .ok (.aload_n 0, 1) := by decide +kernel
theorem dX7_readyToRead_32 : decode cX7_readyToRead 32 = .ok (.getfield 15, 3) := by decide +kernel
theorem dX7_readyToRead_35 : decode cX7_readyToRead 35 = .ok (.aload_n 1, 1) := by decide +kernel
theorem dX7_readyToRead_36 : decode cX7_readyToRead 36 = .ok (.getfield 120, 3) := by decide +kernel
theorem dX7_readyToRead_39 : decode cX7_readyToRead 39 = .ok (.iaload, 1) := by decide +kernel
theorem dX7_readyToRead_40 : decode cX7_readyToRead 40 = .ok (.invokestatic 99, 3) := by decide +kernel
theorem dX7_readyToRead_43 : decode cX7_readyToRead 43 = .ok (.istore_n 2, 1) := by decide +kernel
theorem dX7_readyToRead_44 : decode cX7_readyToRead 44 = .ok (.aload_n 1, 1) := by decide +kernel
theorem dX7_readyToRead_45 : decode cX7_readyToRead 45 = .ok (.iconst 4, 1) := by decide +kernel
theorem dX7_readyToRead_46 : decode cX7_readyToRead 46 = .ok (.invokevirtual 109, 3) := by decide +kernel
theorem dX7_readyToRead_49 : decode cX7_readyToRead 49 = .ok (.ifCond .eq 17, 3) := by decide +kernel
theorem dX7_readyToRead_52 : decode cX7_readyToRead 52 = .ok (.iload_n 2, 1) := by decide +kernel
theorem dX7_readyToRead_53 : decode cX7_readyToRead 53 = .ok (.aload_n 0, 1) := by decide +kernel
theorem dX7_readyToRead_54 : decode cX7_readyToRead 54 = .ok (.getfield 15, 3) := by decide +kernel
theorem dX7_readyToRead_57 : decode cX7_readyToRead 57 = .ok (.aload_n 1, 1) := by decide +kernel
theorem dX7_readyToRead_58 : decode cX7_readyToRead 58 = .ok (.getfield 123, 3) := by decide +kernel
theorem dX7_readyToRead_61 : decode cX7_readyToRead 61 = .ok (.iaload, 1) := by decide +kernel
theorem dX7_readyToRead_62 : decode cX7_readyToRead 62 = .ok (.invokestatic 99, 3) := by decide +kernel
theorem dX7_readyToRead_65 : decode cX7_readyToRead 65 = .ok (.istore_n 2, 1) := by decide +kernel
theorem dX7_readyToRead_66 : decode cX7_readyToRead 66 = .ok (.aload_n 1, 1) := by decide +kernel
theorem dX7_readyToRead_67 : decode cX7_readyToRead 67 = .ok (.bipush 8, 2) := by decide +kernel
theorem dX7_readyToRead_69 : decode cX7_readyToRead 69 = .ok (.invokevirtual 109, 3) := by decide +kernel
theorem dX7_readyToRead_72 : decode cX7_readyToRead 72 = .ok (.ifCond .eq 15, 3) := by decide +kernel
theorem dX7_readyToRead_75 : decode cX7_readyToRead 75 = .ok (.iload_n 2, 1) := by decide +kernel
theorem dX7_readyToRead_76 : decode cX7_readyToRead 76 = .ok (.aload_n 0, 1) := by decide +kernel
theorem dX7_readyToRead_77 : decode cX7_readyToRead 77 = .ok (.getfield 15, 3) := by decide +kernel
theorem dX7_readyToRead_80 : decode cX7_readyToRead 80 = .ok (.bipush 32, 2) := by decide +kernel
theorem dX7_readyToRead_82 : decode cX7_readyToRead 82 = .ok (.iaload, 1) := by decide +kernel
theorem dX7_readyToRead_83 : decode cX7_readyToRead 83 = .ok (.invokestatic 99, 3) := by decide +kernel
theorem dX7_readyToRead_86 : decode cX7_readyToRead 86 = .ok (.istore_n 2, 1) := by decide +kernel
theorem dX7_readyToRead_87 : decode cX7_readyToRead 87 = .ok (.aload_n 1, 1) := by decide +kernel
theorem dX7_readyToRead_88 : decode cX7_readyToRead 88 = .ok (.bipush 16, 2) := by decide +kernel
theorem dX7_readyToRead_90 : decode cX7_readyToRead 90 = .ok (.invokevirtual 109, 3) := by decide +kernel
theorem dX7_readyToRead_93 : decode cX7_readyToRead 93 = .ok (.ifCond .eq 15, 3) := by decide +kernel
theorem dX7_readyToRead_96 : decode cX7_readyToRead 96 = .ok (.iload_n 2, 1) := by decide +kernel
theorem dX7_readyToRead_97 : decode cX7_readyToRead 97 = .ok (.aload_n 0, 1) := by decide +kernel
theorem dX7_readyToRead_98 : decode cX7_readyToRead 98 = .ok (.getfield 15, 3) := by decide +kernel
theorem dX7_readyToRead_101 : decode cX7_readyToRead 101 = .ok (.bipush 33, 2) := by decide +kernel
theorem dX7_readyToRead_103 : decode cX7_readyToRead 103 = .ok (.iaload, 1) := by decide +kernel
theorem dX7_readyToRead_104 : decode cX7_readyToRead 104 = .ok (.invokestatic 99, 3) := by decide +kernel
theorem dX7_readyToRead_107 : decode cX7_readyToRead 107 = .ok (.istore_n 2, 1) := by decide +kernel
theorem dX7_readyToRead_108 : decode cX7_readyToRead 108 = .ok (.aload_n 1, 1) := by decide +kernel
theorem dX7_readyToRead_109 : decode cX7_readyToRead 109 = .ok (.ldc 126, 2) := by decide +kernel
theorem dX7_readyToRead_111 : decode cX7_readyToRead 111 = .ok (.invokevirtual 109, 3) := by decide +kernel
theorem dX7_readyToRead_114 : decode cX7_readyToRead 114 = .ok (.ifCond .eq 15, 3) := by decide +kernel
theorem dX7_readyToRead_117 : decode cX7_readyToRead 117 = .ok (.iload_n 2, 1) := by decide +kernel
theorem dX7_readyToRead_118 : decode cX7_readyToRead 118 = .ok (.aload_n 0, 1) := by decide +kernel
theorem dX7_readyToRead_119 : decode cX7_readyToRead 119 = .ok (.getfield 15, 3) := by decide +kernel
theorem dX7_readyToRead_122 : decode cX7_readyToRead 122 = .ok (.bipush 34, 2) := by decide +kernel
theorem dX7_readyToRead_124 : decode cX7_readyToRead 124 = .ok (.iaload, 1) := by decide +kernel
theorem dX7_readyToRead_125 : decode cX7_readyToRead 125 = .ok (.invokestatic 99, 3) := by decide +kernel
theorem dX7_readyToRead_128 : decode cX7_readyToRead 128 = .ok (.istore_n 2, 1) := by decide +kernel
theorem dX7_readyToRead_129 : decode cX7_readyToRead 129 = .ok (.iload_n 2, 1) := by decide +kernel
theorem dX7_readyToRead_130 : decode cX7_readyToRead 130 = .ok (.ireturn, 1) := by decide +kernel
set_option maxRecDepth 1000000 in
theorem ggX7_end_X3_is : GoodIn wsX7_end wsX3_is := goodIn_r _ [12, 13, 28, 29, 30, 31, 32, 33, 34, 35] (by decide +kernel) (by decide +kernel)
set_option maxRecDepth 1000000 in
theorem gX7_end_X3_is : GoodIn wsX7_end (wsV RX7 109 RX3 yX3_is wsX3_is) := goodIn_app (goodIn_of _ (by decide +kernel)) ggX7_end_X3_is
theorem dX7_end_0 : decode cX7_end 0 = .ok (.aload_n 0, 1) := by decide +kernel
theorem dX7_end_1 : decode cX7_end 1 = .ok (.getfield 28, 3) := by decide +kernel
theorem dX7_end_4 : decode cX7_end 4 = .ok (.iconst 3, 1) := by decide +kernel
theorem dX7_end_5 : decode cX7_end 5 = .ok (.iadd, 1) := by decide +kernel
theorem dX7_end_6 : decode cX7_end 6 = .ok (.istore_n 3, 1) := by decide +kernel
theorem dX7_end_7 : decode cX7_end 7 = .ok (.aload_n 1, 1) := by decide +kernel
theorem dX7_end_8 : decode cX7_end 8 = .ok (.sipush 2048, 3) := by decide +kernel
theorem dX7_end_11 : decode cX7_end 11 = .ok (.invokevirtual 109, 3) := by decide +kernel
theorem dX7_end_14 : decode cX7_end 14 = .ok (.ifCond .eq 10, 3) := by decide +kernel
theorem dX7_end_17 : decode cX7_end 17 = .ok (.aload_n 0, 1) := by decide +kernel
theorem dX7_end_18 : decode cX7_end 18 = .ok (.getfield 28, 3) := by decide +kernel
theorem dX7_end_21 : decode cX7_end 21 = .ok (.iconst 5, 1) := by decide +kernel
theorem dX7_end_22 : decode cX7_end 22 = .ok (.iadd, 1) := by decide +kernel
theorem dX7_end_23 : decode cX7_end 23 = .ok (.istore_n 3, 1) := by decide +kernel
theorem dX7_end_24 : decode cX7_end 24 = .ok (.aload_n 1, 1) := by decide +kernel
theorem dX7_end_25 : decode cX7_end 25 = .ok (.sipush 4096, 3) := by decide +kernel
theorem dX7_end_28 : decode cX7_end 28 = .ok (.invokevirtual 109, 3) := by decide +kernel
theorem dX7_end_31 : decode cX7_end 31 = .ok (.ifCond .eq 11, 3) := by decide +kernel
theorem dX7_end_34 : decode cX7_end 34 = .ok (.aload_n 0, 1) := by decide +kernel
theorem dX7_end_35 : decode cX7_end 35 = .ok (.getfield 28, 3) := by decide +kernel
theorem dX7_end_38 : decode cX7_end 38 = .ok (.bipush 20, 2) := by decide +kernel
theorem dX7_end_40 : decode cX7_end 40 = .ok (.iadd, 1) := by decide +kernel
theorem dX7_end_41 : decode cX7_end 41 = .ok (.istore_n 3, 1) := by decide +kernel
theorem dX7_end_42 : decode cX7_end 42 = .ok (.iload_n 3, 1) := by decide +kernel
theorem dX7_end_43 : decode cX7_end 43 = .ok (.iload_n 2, 1) := by decide +kernel
theorem dX7_end_44 : decode cX7_end 44 = .ok (.ifCond .eq 10, 3) := by decide +kernel
theorem dX7_end_47 : decode cX7_end 47 = .ok (.aload_n 0, 1) := by decide +kernel
theorem dX7_end_48 : decode cX7_end 48 = .ok (.getfield 31, 3) := by decide +kernel
theorem dX7_end_51 : decode cX7_end 51 = .ok (.goto 9, 3) := by decide +kernel
theorem dX7_end_54 : decode cX7_end 54 = .ok (.aload_n 0, 1) := by decide +kernel
theorem dX7_end_55 : decode cX7_end 55 = .ok (.getfield 31, 3) := by decide +kernel
theorem dX7_end_58 : decode cX7_end 58 = .ok (.iconst 1, 1) := by decide +kernel
theorem dX7_end_59 : decode cX7_end 59 = .ok (.iadd, 1) := by decide +kernel
theorem dX7_end_60 : decode cX7_end 60 = .ok (.invokestatic 99, 3) := by decide +kernel
theorem dX7_end_63 : decode cX7_end 63 = .ok (.istore_n 3, 1) := by decide +kernel
theorem dX7_end_64 : decode cX7_end 64 = .ok (.iload_n 3, 1) := by decide +kernel
theorem dX7_end_65 : decode cX7_end 65 = .ok (.aload_n 0, 1) := by decide +kernel
theorem dX7_end_66 : decode cX7_end 66 = .ok (.getfield 37, 3) := by decide +kernel
theorem dX7_end_69 : decode cX7_end 69 = .ok (.iconst 1, 1) := by decide +kernel
theorem dX7_end_70 : decode cX7_end 70 = .ok (.iadd, 1) := by decide +kernel
theorem dX7_end_71 : decode cX7_end 71 = .ok (.invokestatic 99, 3) := by decide +kernel
theorem dX7_end_74 : decode cX7_end 74 = .ok (.istore_n 3, 1) := by decide +kernel
theorem dX7_end_75 : decode cX7_end 75 = .ok (.aload_n 0, 1) := by decide +kernel
theorem dX7_end_76 : decode cX7_end 76 = .ok (.aload_n 0, 1) := by decide +kernel
theorem dX7_end_77 : decode cX7_end 77 = .ok (.getfield 31, 3) := by decide +kernel
theorem dX7_end_80 : decode cX7_end 80 = .ok (.putfield 37, 3) := by decide +kernel
theorem dX7_end_83 : decode cX7_end 83 = .ok (.aload_n 0, 1) := by decide +kernel
theorem dX7_end_84 : decode cX7_end 84 = .ok (.iload_n 3, 1) := by decide +kernel
theorem dX7_end_85 : decode cX7_end 85 = .ok (.putfield 31, 3) := by decide +kernel
theorem dX7_end_88 : decode cX7_end 88 = .ok (.return_, 1) := by decide +kernel
set_option maxRecDepth 1000000 in
theorem ggX7_noteWrites_X7_delayOf : GoodIn wsX7_noteWrites wsX7_delayOf := goodIn_r _ [7, 8, 9, 10, 11, 12, 13, 34, 35, 36, 37, 38, 39, 40, 41] (by decide +kernel) (by decide +kernel)
set_option maxRecDepth 1000000 in
theorem gX7_noteWrites_X7_delayOf : GoodIn wsX7_noteWrites (va_wsS RX7 127 yX7_delayOf wsX7_delayOf) := goodIn_app (goodIn_of _ (by decide +kernel)) ggX7_noteWrites_X7_delayOf
set_option maxRecDepth 1000000 in
theorem ggX7_noteWrites_X3_writtenRegister : GoodIn wsX7_noteWrites wsX3_writtenRegister := goodIn_r _ [17, 18, 19, 9, 10, 11, 12, 13, 34, 35, 36, 37, 38, 39, 40, 41] (by decide +kernel) (by decide +kernel)
set_option maxRecDepth 1000000 in
theorem gX7_noteWrites_X3_writtenRegister : GoodIn wsX7_noteWrites (wsV RX7 130 RX3 yX3_writtenRegister wsX3_writtenRegister) := goodIn_app (goodIn_of _ (by decide +kernel)) ggX7_noteWrites_X3_writtenRegister
set_option maxRecDepth 1000000 in
theorem ggX7_noteWrites_X3_is : GoodIn wsX7_noteWrites wsX3_is := goodIn_r _ [12, 13, 34, 35, 36, 37, 38, 39, 40, 41] (by decide +kernel) (by decide +kernel)
set_option maxRecDepth 1000000 in
theorem gX7_noteWrites_X3_is : GoodIn wsX7_noteWrites (wsV RX7 109 RX3 yX3_is wsX3_is) := goodIn_app (goodIn_of _ (by decide +kernel)) ggX7_noteWrites_X3_is
theorem dX7_noteWrites_0 : decode cX7_noteWrites 0 = .ok (.aload_n 0, 1) := by decide +kernel
theorem dX7_noteWrites_1 : decode cX7_noteWrites 1 = .ok (.getfield 28, 3) := by decide +kernel
theorem dX7_noteWrites_4 : decode cX7_noteWrites 4 = .ok (.aload_n 1, 1) := by decide +kernel
theorem dX7_noteWrites_5 : decode cX7_noteWrites 5 = .ok (.invokestatic 127, 3) := by decide +kernel
theorem dX7_noteWrites_8 : decode cX7_noteWrites 8 = .ok (.iadd, 1) := by decide +kernel
theorem dX7_noteWrites_9 : decode cX7_noteWrites 9 = .ok (.istore_n 2, 1) := by decide +kernel
theorem dX7_noteWrites_10 : decode cX7_noteWrites 10 = .ok (.aload_n 1, 1) := by decide +kernel
theorem dX7_noteWrites_11 : decode cX7_noteWrites 11 = .ok (.invokevirtual 130, 3) := by decide +kernel
theorem dX7_noteWrites_14 : decode cX7_noteWrites 14 = .ok (.istore_n 3, 1) := by decide +kernel
theorem dX7_noteWrites_15 : decode cX7_noteWrites 15 = .ok (.iload_n 3, 1) := by decide +kernel
theorem dX7_noteWrites_16 : decode cX7_noteWrites 16 = .ok (.ifCond .eq 10, 3) := by decide +kernel
theorem dX7_noteWrites_19 : decode cX7_noteWrites 19 = .ok (.aload_n 0, 1) := by decide +kernel
theorem dX7_noteWrites_20 : decode cX7_noteWrites 20 = .ok (.getfield 15, 3) := by decide +kernel
theorem dX7_noteWrites_23 : decode cX7_noteWrites 23 = .ok (.iload_n 3, 1) := by decide +kernel
theorem dX7_noteWrites_24 : decode cX7_noteWrites 24 = .ok (.iload_n 2, 1) := by decide +kernel
theorem dX7_noteWrites_25 : decode cX7_noteWrites 25 = .ok (.iastore, 1) := by decide +kernel
theorem dX7_noteWrites_26 : decode cX7_noteWrites 26 = .ok (.aload_n 1, 1) := by decide +kernel
theorem dX7_noteWrites_27 : decode cX7_noteWrites 27 = .ok (.sipush 128, 3) := by decide +kernel
theorem dX7_noteWrites_30 : decode cX7_noteWrites 30 = .ok (.invokevirtual 109, 3) := by decide +kernel
theorem dX7_noteWrites_33 : decode cX7_noteWrites 33 = .ok (.ifCond .eq 11, 3) := by decide +kernel
theorem dX7_noteWrites_36 : decode cX7_noteWrites 36 = .ok (.aload_n 0, 1) := by decide +kernel
theorem dX7_noteWrites_37 : decode cX7_noteWrites 37 = .ok (.getfield 15, 3) := by decide +kernel
theorem dX7_noteWrites_40 : decode cX7_noteWrites 40 = .ok (.bipush 32, 2) := by decide +kernel
theorem dX7_noteWrites_42 : decode cX7_noteWrites 42 = .ok (.iload_n 2, 1) := by decide +kernel
theorem dX7_noteWrites_43 : decode cX7_noteWrites 43 = .ok (.iastore, 1) := by decide +kernel
theorem dX7_noteWrites_44 : decode cX7_noteWrites 44 = .ok (.aload_n 1, 1) := by decide +kernel
theorem dX7_noteWrites_45 : decode cX7_noteWrites 45 = .ok (.sipush 256, 3) := by decide +kernel
theorem dX7_noteWrites_48 : decode cX7_noteWrites 48 = .ok (.invokevirtual 109, 3) := by decide +kernel
theorem dX7_noteWrites_51 : decode cX7_noteWrites 51 = .ok (.ifCond .eq 11, 3) := by decide +kernel
theorem dX7_noteWrites_54 : decode cX7_noteWrites 54 = .ok (.aload_n 0, 1) := by decide +kernel
theorem dX7_noteWrites_55 : decode cX7_noteWrites 55 = .ok (.getfield 15, 3) := by decide +kernel
theorem dX7_noteWrites_58 : decode cX7_noteWrites 58 = .ok (.bipush 33, 2) := by decide +kernel
theorem dX7_noteWrites_60 : decode cX7_noteWrites 60 = .ok (.iload_n 2, 1) := by decide +kernel
theorem dX7_noteWrites_61 : decode cX7_noteWrites 61 = .ok (.iastore, 1) := by decide +kernel
theorem dX7_noteWrites_62 : decode cX7_noteWrites 62 = .ok (.aload_n 1, 1) := by decide +kernel
theorem dX7_noteWrites_63 : decode cX7_noteWrites 63 = .ok (.ldc 134, 2) := by decide +kernel
theorem dX7_noteWrites_65 : decode cX7_noteWrites 65 = .ok (.invokevirtual 109, 3) := by decide +kernel
theorem dX7_noteWrites_68 : decode cX7_noteWrites 68 = .ok (.ifCond .eq 11, 3) := by decide +kernel
theorem dX7_noteWrites_71 : decode cX7_noteWrites 71 = .ok (.aload_n 0, 1) := by decide +kernel
theorem dX7_noteWrites_72 : decode cX7_noteWrites 72 = .ok (.getfield 15, 3) := by decide +kernel
theorem dX7_noteWrites_75 : decode cX7_noteWrites 75 = .ok (.bipush 34, 2) := by decide +kernel
theorem dX7_noteWrites_77 : decode cX7_noteWrites 77 = .ok (.iload_n 2, 1) := by decide +kernel
theorem dX7_noteWrites_78 : decode cX7_noteWrites 78 = .ok (.iastore, 1) := by decide +kernel
theorem dX7_noteWrites_79 : decode cX7_noteWrites 79 = .ok (.aload_n 1, 1) := by decide +kernel
theorem dX7_noteWrites_80 : decode cX7_noteWrites 80 = .ok (.sipush 4096, 3) := by decide +kernel
theorem dX7_noteWrites_83 : decode cX7_noteWrites 83 = .ok (.invokevirtual 109, 3) := by decide +kernel
theorem dX7_noteWrites_86 : decode cX7_noteWrites 86 = .ok (.ifCond .eq 11, 3) := by decide +kernel
theorem dX7_noteWrites_89 : decode cX7_noteWrites 89 = .ok (.aload_n 0, 1) := by decide +kernel
theorem dX7_noteWrites_90 : decode cX7_noteWrites 90 = .ok (.getfield 15, 3) := by decide +kernel
theorem dX7_noteWrites_93 : decode cX7_noteWrites 93 = .ok (.bipush 35, 2) := by decide +kernel
theorem dX7_noteWrites_95 : decode cX7_noteWrites 95 = .ok (.iload_n 2, 1) := by decide +kernel
theorem dX7_noteWrites_96 : decode cX7_noteWrites 96 = .ok (.iastore, 1) := by decide +kernel
theorem dX7_noteWrites_97 : decode cX7_noteWrites 97 = .ok (.return_, 1) := by decide +kernel
set_option maxRecDepth 1000000 in
theorem ggX7_delayOf_X3_is : GoodIn wsX7_delayOf wsX3_is := goodIn_r _ [5, 6, 7, 8, 9, 10, 11, 12, 13, 14] (by decide +kernel) (by decide +kernel)
set_option maxRecDepth 1000000 in
theorem gX7_delayOf_X3_is : GoodIn wsX7_delayOf (wsV RX7 109 RX3 yX3_is wsX3_is) := goodIn_app (goodIn_of _ (by decide +kernel)) ggX7_delayOf_X3_is
theorem dX7_delayOf_0 : decode cX7_delayOf 0 = .ok (.aload_n 0, 1) := by decide +kernel
theorem dX7_delayOf_1 : decode cX7_delayOf 1 = .ok (.sipush 4096, 3) := by decide +kernel
theorem dX7_delayOf_4 : decode cX7_delayOf 4 = .ok (.invokevirtual 109, 3) := by decide +kernel
theorem dX7_delayOf_7 : decode cX7_delayOf 7 = .ok (.ifCond .eq 6, 3) := by decide +kernel
theorem dX7_delayOf_10 : decode cX7_delayOf 10 = .ok (.bipush 18, 2) := by decide +kernel
theorem dX7_delayOf_12 : decode cX7_delayOf 12 = .ok (.ireturn, 1) := by decide +kernel
theorem dX7_delayOf_13 : decode cX7_delayOf 13 = .ok (.aload_n 0, 1) := by decide +kernel
theorem dX7_delayOf_14 : decode cX7_delayOf 14 = .ok (.sipush 2048, 3) := by decide +kernel
theorem dX7_delayOf_17 : decode cX7_delayOf 17 = .ok (.invokevirtual 109, 3) := by decide +kernel
theorem dX7_delayOf_20 : decode cX7_delayOf 20 = .ok (.ifCond .eq 5, 3) := by decide +kernel
theorem dX7_delayOf_23 : decode cX7_delayOf 23 = .ok (.iconst 3, 1) := by decide +kernel
theorem dX7_delayOf_24 : decode cX7_delayOf 24 = .ok (.ireturn, 1) := by decide +kernel
theorem dX7_delayOf_25 : decode cX7_delayOf 25 = .ok (.aload_n 0, 1) := by decide +kernel
theorem dX7_delayOf_26 : decode cX7_delayOf 26 = .ok (.sipush 512, 3) := by decide +kernel
theorem dX7_delayOf_29 : decode cX7_delayOf 29 = .ok (.invokevirtual 109, 3) := by decide +kernel
theorem dX7_delayOf_32 : decode cX7_delayOf 32 = .ok (.ifCond .eq 7, 3) := by decide +kernel
theorem dX7_delayOf_35 : decode cX7_delayOf 35 = .ok (.iconst 2, 1) := by decide +kernel
theorem dX7_delayOf_36 : decode cX7_delayOf 36 = .ok (.goto 4, 3) := by decide +kernel
theorem dX7_delayOf_39 : decode cX7_delayOf 39 = .ok (.iconst 1, 1) := by decide +kernel
theorem dX7_delayOf_40 : decode cX7_delayOf 40 = .ok (.ireturn, 1) := by decide +kernel
set_option maxRecDepth 1000000 in
theorem ggX7_noteWayOn_X7_issueOf : GoodIn wsX7_noteWayOn wsX7_issueOf := goodIn_r _ [15, 16, 46, 47, 48, 49, 50, 51, 52, 53, 54, 55, 56, 57, 58, 59] (by decide +kernel) (by decide +kernel)
set_option maxRecDepth 1000000 in
theorem gX7_noteWayOn_X7_issueOf : GoodIn wsX7_noteWayOn (wsV RX7 95 RX7 yX7_issueOf wsX7_issueOf) := goodIn_app (goodIn_of _ (by decide +kernel)) ggX7_noteWayOn_X7_issueOf
set_option maxRecDepth 1000000 in
theorem ggX7_noteWayOn_X3_is : GoodIn wsX7_noteWayOn wsX3_is := goodIn_r _ [21, 22, 71, 72, 73, 74, 75, 76, 77, 78] (by decide +kernel) (by decide +kernel)
set_option maxRecDepth 1000000 in
theorem gX7_noteWayOn_X3_is : GoodIn wsX7_noteWayOn (wsV RX7 109 RX3 yX3_is wsX3_is) := goodIn_app (goodIn_of _ (by decide +kernel)) ggX7_noteWayOn_X3_is
set_option maxRecDepth 1000000 in
theorem ggX7_noteWayOn_X2_retires : GoodIn wsX7_noteWayOn wsX2_retires := goodIn_r _ [27, 28, 29, 36, 37, 38, 39, 60, 61, 62, 63, 64, 65, 66, 67, 68, 69, 70] (by decide +kernel) (by decide +kernel)
set_option maxRecDepth 1000000 in
theorem gX7_noteWayOn_X2_retires : GoodIn wsX7_noteWayOn (wsV RX7 62 RX2 yX2_retires wsX2_retires) := goodIn_app (goodIn_of _ (by decide +kernel)) ggX7_noteWayOn_X2_retires
set_option maxRecDepth 1000000 in
theorem ggX7_noteWayOn_X3_isForeseenToGo : GoodIn wsX7_noteWayOn wsX3_isForeseenToGo := goodIn_r _ [33, 34, 35, 71, 72, 73, 74, 75, 76, 77, 78] (by decide +kernel) (by decide +kernel)
set_option maxRecDepth 1000000 in
theorem gX7_noteWayOn_X3_isForeseenToGo : GoodIn wsX7_noteWayOn (wsV RX7 144 RX3 yX3_isForeseenToGo wsX3_isForeseenToGo) := goodIn_app (goodIn_of _ (by decide +kernel)) ggX7_noteWayOn_X3_isForeseenToGo
theorem dX7_noteWayOn_0 : decode cX7_noteWayOn 0 = .ok (.aload_n 2, 1) := by decide +kernel
theorem dX7_noteWayOn_1 : decode cX7_noteWayOn 1 = .ok (.getfield 66, 3) := by decide +kernel
theorem dX7_noteWayOn_4 : decode cX7_noteWayOn 4 = .ok (.getfield 135, 3) := by decide +kernel
theorem dX7_noteWayOn_7 : decode cX7_noteWayOn 7 = .ok (.istore_n 3, 1) := by decide +kernel
theorem dX7_noteWayOn_8 : decode cX7_noteWayOn 8 = .ok (.aload_n 0, 1) := by decide +kernel
theorem dX7_noteWayOn_9 : decode cX7_noteWayOn 9 = .ok (.iload_n 3, 1) := by decide +kernel
theorem dX7_noteWayOn_10 : decode cX7_noteWayOn 10 = .ok (.ifCond .eq 21, 3) := by decide +kernel
theorem dX7_noteWayOn_13 : decode cX7_noteWayOn 13 = .ok (.aload_n 0, 1) := by decide +kernel
theorem dX7_noteWayOn_14 : decode cX7_noteWayOn 14 = .ok (.getfield 138, 3) := by decide +kernel
theorem dX7_noteWayOn_17 : decode cX7_noteWayOn 17 = .ok (.ifCond .ne 10, 3) := by decide +kernel
theorem dX7_noteWayOn_20 : decode cX7_noteWayOn 20 = .ok (.aload_n 0, 1) := by decide +kernel
theorem dX7_noteWayOn_21 : decode cX7_noteWayOn 21 = .ok (.getfield 141, 3) := by decide +kernel
theorem dX7_noteWayOn_24 : decode cX7_noteWayOn 24 = .ok (.ifCond .eq 7, 3) := by decide +kernel
theorem dX7_noteWayOn_27 : decode cX7_noteWayOn 27 = .ok (.iconst 1, 1) := by decide +kernel
theorem dX7_noteWayOn_28 : decode cX7_noteWayOn 28 = .ok (.goto 4, 3) := by decide +kernel
theorem dX7_noteWayOn_31 : decode cX7_noteWayOn 31 = .ok (.iconst 0, 1) := by decide +kernel
theorem dX7_noteWayOn_32 : decode cX7_noteWayOn 32 = .ok (.putfield 50, 3) := by decide +kernel
theorem dX7_noteWayOn_35 : decode cX7_noteWayOn 35 = .ok (.aload_n 0, 1) := by decide +kernel
theorem dX7_noteWayOn_36 : decode cX7_noteWayOn 36 = .ok (.iload_n 3, 1) := by decide +kernel
theorem dX7_noteWayOn_37 : decode cX7_noteWayOn 37 = .ok (.ifCond .eq 25, 3) := by decide +kernel
theorem dX7_noteWayOn_40 : decode cX7_noteWayOn 40 = .ok (.aload_n 0, 1) := by decide +kernel
theorem dX7_noteWayOn_41 : decode cX7_noteWayOn 41 = .ok (.getfield 141, 3) := by decide +kernel
theorem dX7_noteWayOn_44 : decode cX7_noteWayOn 44 = .ok (.ifCond .eq 18, 3) := by decide +kernel
theorem dX7_noteWayOn_47 : decode cX7_noteWayOn 47 = .ok (.aload_n 0, 1) := by decide +kernel
theorem dX7_noteWayOn_48 : decode cX7_noteWayOn 48 = .ok (.aload_n 0, 1) := by decide +kernel
theorem dX7_noteWayOn_49 : decode cX7_noteWayOn 49 = .ok (.getfield 34, 3) := by decide +kernel
theorem dX7_noteWayOn_52 : decode cX7_noteWayOn 52 = .ok (.iconst 1, 1) := by decide +kernel
theorem dX7_noteWayOn_53 : decode cX7_noteWayOn 53 = .ok (.isub, 1) := by decide +kernel
theorem dX7_noteWayOn_54 : decode cX7_noteWayOn 54 = .ok (.invokevirtual 95, 3) := by decide +kernel
theorem dX7_noteWayOn_57 : decode cX7_noteWayOn 57 = .ok (.iconst 2, 1) := by decide +kernel
theorem dX7_noteWayOn_58 : decode cX7_noteWayOn 58 = .ok (.iadd, 1) := by decide +kernel
theorem dX7_noteWayOn_59 : decode cX7_noteWayOn 59 = .ok (.goto 4, 3) := by decide +kernel
theorem dX7_noteWayOn_62 : decode cX7_noteWayOn 62 = .ok (.iconst 0, 1) := by decide +kernel
theorem dX7_noteWayOn_63 : decode cX7_noteWayOn 63 = .ok (.putfield 53, 3) := by decide +kernel
theorem dX7_noteWayOn_66 : decode cX7_noteWayOn 66 = .ok (.aload_n 1, 1) := by decide +kernel
theorem dX7_noteWayOn_67 : decode cX7_noteWayOn 67 = .ok (.sipush 16384, 3) := by decide +kernel
theorem dX7_noteWayOn_70 : decode cX7_noteWayOn 70 = .ok (.invokevirtual 109, 3) := by decide +kernel
theorem dX7_noteWayOn_73 : decode cX7_noteWayOn 73 = .ok (.ifCond .ne 10, 3) := by decide +kernel
theorem dX7_noteWayOn_76 : decode cX7_noteWayOn 76 = .ok (.aload_n 2, 1) := by decide +kernel
theorem dX7_noteWayOn_77 : decode cX7_noteWayOn 77 = .ok (.invokevirtual 62, 3) := by decide +kernel
theorem dX7_noteWayOn_80 : decode cX7_noteWayOn 80 = .ok (.ifCond .ne 18, 3) := by decide +kernel
theorem dX7_noteWayOn_83 : decode cX7_noteWayOn 83 = .ok (.aload_n 0, 1) := by decide +kernel
theorem dX7_noteWayOn_84 : decode cX7_noteWayOn 84 = .ok (.iconst 1, 1) := by decide +kernel
theorem dX7_noteWayOn_85 : decode cX7_noteWayOn 85 = .ok (.putfield 50, 3) := by decide +kernel
theorem dX7_noteWayOn_88 : decode cX7_noteWayOn 88 = .ok (.aload_n 0, 1) := by decide +kernel
theorem dX7_noteWayOn_89 : decode cX7_noteWayOn 89 = .ok (.aload_n 0, 1) := by decide +kernel
theorem dX7_noteWayOn_90 : decode cX7_noteWayOn 90 = .ok (.getfield 31, 3) := by decide +kernel
theorem dX7_noteWayOn_93 : decode cX7_noteWayOn 93 = .ok (.iconst 1, 1) := by decide +kernel
theorem dX7_noteWayOn_94 : decode cX7_noteWayOn 94 = .ok (.iadd, 1) := by decide +kernel
theorem dX7_noteWayOn_95 : decode cX7_noteWayOn 95 = .ok (.putfield 53, 3) := by decide +kernel
theorem dX7_noteWayOn_98 : decode cX7_noteWayOn 98 = .ok (.aload_n 1, 1) := by decide +kernel
theorem dX7_noteWayOn_99 : decode cX7_noteWayOn 99 = .ok (.sipush 8192, 3) := by decide +kernel
theorem dX7_noteWayOn_102 : decode cX7_noteWayOn 102 = .ok (.invokevirtual 109, 3) := by decide +kernel
theorem dX7_noteWayOn_105 : decode cX7_noteWayOn 105 = .ok (.ifCond .eq 34, 3) := by decide +kernel
theorem dX7_noteWayOn_108 : decode cX7_noteWayOn 108 = .ok (.aload_n 0, 1) := by decide +kernel
theorem dX7_noteWayOn_109 : decode cX7_noteWayOn 109 = .ok (.aload_n 1, 1) := by decide +kernel
theorem dX7_noteWayOn_110 : decode cX7_noteWayOn 110 = .ok (.invokevirtual 144, 3) := by decide +kernel
theorem dX7_noteWayOn_113 : decode cX7_noteWayOn 113 = .ok (.putfield 138, 3) := by decide +kernel
theorem dX7_noteWayOn_116 : decode cX7_noteWayOn 116 = .ok (.aload_n 0, 1) := by decide +kernel
theorem dX7_noteWayOn_117 : decode cX7_noteWayOn 117 = .ok (.aload_n 0, 1) := by decide +kernel
theorem dX7_noteWayOn_118 : decode cX7_noteWayOn 118 = .ok (.getfield 138, 3) := by decide +kernel
theorem dX7_noteWayOn_121 : decode cX7_noteWayOn 121 = .ok (.aload_n 2, 1) := by decide +kernel
theorem dX7_noteWayOn_122 : decode cX7_noteWayOn 122 = .ok (.getfield 147, 3) := by decide +kernel
theorem dX7_noteWayOn_125 : decode cX7_noteWayOn 125 = .ok (.getfield 151, 3) := by decide +kernel
theorem dX7_noteWayOn_128 : decode cX7_noteWayOn 128 = .ok (.if_icmp .eq 7, 3) := by decide +kernel
theorem dX7_noteWayOn_131 : decode cX7_noteWayOn 131 = .ok (.iconst 1, 1) := by decide +kernel
theorem dX7_noteWayOn_132 : decode cX7_noteWayOn 132 = .ok (.goto 4, 3) := by decide +kernel
theorem dX7_noteWayOn_135 : decode cX7_noteWayOn 135 = .ok (.iconst 0, 1) := by decide +kernel
theorem dX7_noteWayOn_136 : decode cX7_noteWayOn 136 = .ok (.putfield 141, 3) := by decide +kernel
theorem dX7_noteWayOn_139 : decode cX7_noteWayOn 139 = .ok (.return_, 1) := by decide +kernel
theorem dX7_issueOf_0 : decode cX7_issueOf 0 = .ok (.aload_n 0, 1) := by decide +kernel
theorem dX7_issueOf_1 : decode cX7_issueOf 1 = .ok (.getfield 11, 3) := by decide +kernel
theorem dX7_issueOf_4 : decode cX7_issueOf 4 = .ok (.iload_n 1, 1) := by decide +kernel
theorem dX7_issueOf_5 : decode cX7_issueOf 5 = .ok (.bipush 7, 2) := by decide +kernel
theorem dX7_issueOf_7 : decode cX7_issueOf 7 = .ok (.iand, 1) := by decide +kernel
theorem dX7_issueOf_8 : decode cX7_issueOf 8 = .ok (.iaload, 1) := by decide +kernel
theorem dX7_issueOf_9 : decode cX7_issueOf 9 = .ok (.ireturn, 1) := by decide +kernel
