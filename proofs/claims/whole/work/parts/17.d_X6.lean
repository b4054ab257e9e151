theorem dX6_init_0 : decode cX6_init 0 = .ok (.aload_n 0, 1) := by decide +kernel
theorem dX6_init_1 : decode cX6_init 1 = .ok (.invokespecial 1, 3) := by decide +kernel
theorem dX6_init_4 : decode cX6_init 4 = .ok (.aload_n 0, 1) := by decide +kernel
theorem dX6_init_5 : decode cX6_init 5 = .ok (.bipush 64, 2) := by decide +kernel
theorem dX6_init_7 : decode cX6_init 7 = .ok (.anewarray 9, 3) := by decide +kernel
theorem dX6_init_10 : decode cX6_init 10 = .ok (.putfield 11, 3) := by decide +kernel
theorem dX6_init_13 : decode cX6_init 13 = .ok (.return_, 1) := by decide +kernel
set_option maxRecDepth 1000000 in
theorem ggX6_get_X6_pageOf : GoodIn wsX6_get wsX6_pageOf := goodIn_r _ [5] (by decide +kernel) (by decide +kernel)
set_option maxRecDepth 1000000 in
theorem gX6_get_X6_pageOf : GoodIn wsX6_get (va_wsS RX6 15 yX6_pageOf wsX6_pageOf) := goodIn_app (goodIn_of _ (by decide +kernel)) ggX6_get_X6_pageOf
set_option maxRecDepth 1000000 in
theorem ggX6_get_X6_wordOf : GoodIn wsX6_get wsX6_wordOf := goodIn_r _ [8] (by decide +kernel) (by decide +kernel)
set_option maxRecDepth 1000000 in
theorem gX6_get_X6_wordOf : GoodIn wsX6_get (va_wsS RX6 19 yX6_wordOf wsX6_wordOf) := goodIn_app (goodIn_of _ (by decide +kernel)) ggX6_get_X6_wordOf
theorem dX6_get_0 : decode cX6_get 0 = .ok (.aload_n 0, 1) := by decide +kernel
theorem dX6_get_1 : decode cX6_get 1 = .ok (.getfield 11, 3) := by decide +kernel
theorem dX6_get_4 : decode cX6_get 4 = .ok (.iload_n 1, 1) := by decide +kernel
theorem dX6_get_5 : decode cX6_get 5 = .ok (.invokestatic 15, 3) := by decide +kernel
theorem dX6_get_8 : decode cX6_get 8 = .ok (.aaload, 1) := by decide +kernel
theorem dX6_get_9 : decode cX6_get 9 = .ok (.astore_n 2, 1) := by decide +kernel
theorem dX6_get_10 : decode cX6_get 10 = .ok (.aload_n 2, 1) := by decide +kernel
theorem dX6_get_11 : decode cX6_get 11 = .ok (.ifnonnull 7, 3) := by decide +kernel
theorem dX6_get_14 : decode cX6_get 14 = .ok (.iconst 0, 1) := by decide +kernel
theorem dX6_get_15 : decode cX6_get 15 = .ok (.goto 9, 3) := by decide +kernel
theorem dX6_get_18 : decode cX6_get 18 = .ok (.aload_n 2, 1) := by decide +kernel
theorem dX6_get_19 : decode cX6_get 19 = .ok (.iload_n 1, 1) := by decide +kernel
theorem dX6_get_20 : decode cX6_get 20 = .ok (.invokestatic 19, 3) := by decide +kernel
theorem dX6_get_23 : decode cX6_get 23 = .ok (.iaload, 1) := by decide +kernel
theorem dX6_get_24 : decode cX6_get 24 = .ok (.ireturn, 1) := by decide +kernel
set_option maxRecDepth 1000000 in
theorem ggX6_put_X6_pageOf : GoodIn wsX6_put wsX6_pageOf := goodIn_r _ [6] (by decide +kernel) (by decide +kernel)
set_option maxRecDepth 1000000 in
theorem gX6_put_X6_pageOf : GoodIn wsX6_put (va_wsS RX6 15 yX6_pageOf wsX6_pageOf) := goodIn_app (goodIn_of _ (by decide +kernel)) ggX6_put_X6_pageOf
set_option maxRecDepth 1000000 in
theorem ggX6_put_X6_wordOf : GoodIn wsX6_put wsX6_wordOf := goodIn_r _ [9] (by decide +kernel) (by decide +kernel)
set_option maxRecDepth 1000000 in
theorem gX6_put_X6_wordOf : GoodIn wsX6_put (va_wsS RX6 19 yX6_wordOf wsX6_wordOf) := goodIn_app (goodIn_of _ (by decide +kernel)) ggX6_put_X6_wordOf
theorem dX6_put_0 : decode cX6_put 0 = .ok (.iload_n 1, 1) := by decide +kernel
theorem dX6_put_1 : decode cX6_put 1 = .ok (.invokestatic 15, 3) := by decide +kernel
theorem dX6_put_4 : decode cX6_put 4 = .ok (.istore_n 3, 1) := by decide +kernel
theorem dX6_put_5 : decode cX6_put 5 = .ok (.aload_n 0, 1) := by decide +kernel
theorem dX6_put_6 : decode cX6_put 6 = .ok (.getfield 11, 3) := by decide +kernel
theorem dX6_put_9 : decode cX6_put 9 = .ok (.iload_n 3, 1) := by decide +kernel
theorem dX6_put_10 : decode cX6_put 10 = .ok (.aaload, 1) := by decide +kernel
theorem dX6_put_11 : decode cX6_put 11 = .ok (.ifnonnull 19, 3) := by decide +kernel
theorem dX6_put_14 : decode cX6_put 14 = .ok (.iload_n 2, 1) := by decide +kernel
theorem dX6_put_15 : decode cX6_put 15 = .ok (.ifCond .ne 4, 3) := by decide +kernel
theorem dX6_put_18 : decode cX6_put 18 = .ok (.return_, 1) := by decide +kernel
theorem dX6_put_19 : decode cX6_put 19 = .ok (.aload_n 0, 1) := by decide +kernel
theorem dX6_put_20 : decode cX6_put 20 = .ok (.getfield 11, 3) := by decide +kernel
theorem dX6_put_23 : decode cX6_put 23 = .ok (.iload_n 3, 1) := by decide +kernel
theorem dX6_put_24 : decode cX6_put 24 = .ok (.sipush 256, 3) := by decide +kernel
theorem dX6_put_27 : decode cX6_put 27 = .ok (.newarray .int, 2) := by decide +kernel
theorem dX6_put_29 : decode cX6_put 29 = .ok (.aastore, 1) := by decide +kernel
theorem dX6_put_30 : decode cX6_put 30 = .ok (.aload_n 0, 1) := by decide +kernel
theorem dX6_put_31 : decode cX6_put 31 = .ok (.getfield 11, 3) := by decide +kernel
theorem dX6_put_34 : decode cX6_put 34 = .ok (.iload_n 3, 1) := by decide +kernel
theorem dX6_put_35 : decode cX6_put 35 = .ok (.aaload, 1) := by decide +kernel
theorem dX6_put_36 : decode cX6_put 36 = .ok (.iload_n 1, 1) := by decide +kernel
theorem dX6_put_37 : decode cX6_put 37 = .ok (.invokestatic 19, 3) := by decide +kernel
theorem dX6_put_40 : decode cX6_put 40 = .ok (.iload_n 2, 1) := by decide +kernel
theorem dX6_put_41 : decode cX6_put 41 = .ok (.iastore, 1) := by decide +kernel
theorem dX6_put_42 : decode cX6_put 42 = .ok (.return_, 1) := by decide +kernel
set_option maxRecDepth 1000000 in
theorem ggX6_load_X6_get : GoodIn wsX6_load wsX6_get := goodIn_r _ [5, 6, 7, 8, 4, 9, 10, 11, 12, 19] (by decide +kernel) (by decide +kernel)
set_option maxRecDepth 1000000 in
theorem gX6_load_X6_get : GoodIn wsX6_load (wsV RX6 22 RX6 yX6_get wsX6_get) := goodIn_app (goodIn_of _ (by decide +kernel)) ggX6_load_X6_get
set_option maxRecDepth 1000000 in
theorem ggX6_load_X6_shiftOf : GoodIn wsX6_load wsX6_shiftOf := goodIn_r _ [15] (by decide +kernel) (by decide +kernel)
set_option maxRecDepth 1000000 in
theorem gX6_load_X6_shiftOf : GoodIn wsX6_load (va_wsS RX6 25 yX6_shiftOf wsX6_shiftOf) := goodIn_app (goodIn_of _ (by decide +kernel)) ggX6_load_X6_shiftOf
set_option maxRecDepth 1000000 in
theorem ggX6_load_X6_maskOf : GoodIn wsX6_load wsX6_maskOf := goodIn_r _ [18] (by decide +kernel) (by decide +kernel)
set_option maxRecDepth 1000000 in
theorem gX6_load_X6_maskOf : GoodIn wsX6_load (va_wsS RX6 29 yX6_maskOf wsX6_maskOf) := goodIn_app (goodIn_of _ (by decide +kernel)) ggX6_load_X6_maskOf
theorem dX6_load_0 : decode cX6_load 0 = .ok (.aload_n 0, 1) := by decide +kernel
theorem dX6_load_1 : decode cX6_load 1 = .ok (.iload_n 1, 1) := by decide +kernel
theorem dX6_load_2 : decode cX6_load 2 = .ok (.invokevirtual 22, 3) := by decide +kernel
theorem dX6_load_5 : decode cX6_load 5 = .ok (.iload_n 1, 1) := by decide +kernel
theorem dX6_load_6 : decode cX6_load 6 = .ok (.iload_n 2, 1) := by decide +kernel
theorem dX6_load_7 : decode cX6_load 7 = .ok (.invokestatic 25, 3) := by decide +kernel
theorem dX6_load_10 : decode cX6_load 10 = .ok (.iushr, 1) := by decide +kernel
theorem dX6_load_11 : decode cX6_load 11 = .ok (.iload_n 2, 1) := by decide +kernel
theorem dX6_load_12 : decode cX6_load 12 = .ok (.invokestatic 29, 3) := by decide +kernel
theorem dX6_load_15 : decode cX6_load 15 = .ok (.iand, 1) := by decide +kernel
theorem dX6_load_16 : decode cX6_load 16 = .ok (.ireturn, 1) := by decide +kernel
set_option maxRecDepth 1000000 in
theorem ggX6_store_X6_shiftOf : GoodIn wsX6_store wsX6_shiftOf := goodIn_r _ [4] (by decide +kernel) (by decide +kernel)
set_option maxRecDepth 1000000 in
theorem gX6_store_X6_shiftOf : GoodIn wsX6_store (va_wsS RX6 25 yX6_shiftOf wsX6_shiftOf) := goodIn_app (goodIn_of _ (by decide +kernel)) ggX6_store_X6_shiftOf
set_option maxRecDepth 1000000 in
theorem ggX6_store_X6_maskOf : GoodIn wsX6_store wsX6_maskOf := goodIn_r _ [7] (by decide +kernel) (by decide +kernel)
set_option maxRecDepth 1000000 in
theorem gX6_store_X6_maskOf : GoodIn wsX6_store (va_wsS RX6 29 yX6_maskOf wsX6_maskOf) := goodIn_app (goodIn_of _ (by decide +kernel)) ggX6_store_X6_maskOf
set_option maxRecDepth 1000000 in
theorem ggX6_store_X6_get : GoodIn wsX6_store wsX6_get := goodIn_r _ [11, 12, 13, 14, 3, 15, 16, 17, 18, 24] (by decide +kernel) (by decide +kernel)
set_option maxRecDepth 1000000 in
theorem gX6_store_X6_get : GoodIn wsX6_store (wsV RX6 22 RX6 yX6_get wsX6_get) := goodIn_app (goodIn_of _ (by decide +kernel)) ggX6_store_X6_get
set_option maxRecDepth 1000000 in
theorem ggX6_store_X6_put : GoodIn wsX6_store wsX6_put := goodIn_r _ [22, 12, 23, 13, 14, 3, 15, 16, 17, 18, 24] (by decide +kernel) (by decide +kernel)
set_option maxRecDepth 1000000 in
theorem gX6_store_X6_put : GoodIn wsX6_store (wsV RX6 32 RX6 yX6_put wsX6_put) := goodIn_app (goodIn_of _ (by decide +kernel)) ggX6_store_X6_put
theorem dX6_store_0 : decode cX6_store 0 = .ok (.iload_n 1, 1) := by decide +kernel
theorem dX6_store_1 : decode cX6_store 1 = .ok (.iload_n 2, 1) := by decide +kernel
theorem dX6_store_2 : decode cX6_store 2 = .ok (.invokestatic 25, 3) := by decide +kernel
theorem dX6_store_5 : decode cX6_store 5 = .ok (.istore 4, 2) := by decide +kernel
theorem dX6_store_7 : decode cX6_store 7 = .ok (.iload_n 2, 1) := by decide +kernel
theorem dX6_store_8 : decode cX6_store 8 = .ok (.invokestatic 29, 3) := by decide +kernel
theorem dX6_store_11 : decode cX6_store 11 = .ok (.iload 4, 2) := by decide +kernel
theorem dX6_store_13 : decode cX6_store 13 = .ok (.ishl, 1) := by decide +kernel
theorem dX6_store_14 : decode cX6_store 14 = .ok (.istore 5, 2) := by decide +kernel
theorem dX6_store_16 : decode cX6_store 16 = .ok (.aload_n 0, 1) := by decide +kernel
theorem dX6_store_17 : decode cX6_store 17 = .ok (.iload_n 1, 1) := by decide +kernel
theorem dX6_store_18 : decode cX6_store 18 = .ok (.aload_n 0, 1) := by decide +kernel
theorem dX6_store_19 : decode cX6_store 19 = .ok (.iload_n 1, 1) := by decide +kernel
theorem dX6_store_20 : decode cX6_store 20 = .ok (.invokevirtual 22, 3) := by decide +kernel
theorem dX6_store_23 : decode cX6_store 23 = .ok (.iload 5, 2) := by decide +kernel
theorem dX6_store_25 : decode cX6_store 25 = .ok (.iconst (-1), 1) := by decide +kernel
theorem dX6_store_26 : decode cX6_store 26 = .ok (.ixor, 1) := by decide +kernel
theorem dX6_store_27 : decode cX6_store 27 = .ok (.iand, 1) := by decide +kernel
theorem dX6_store_28 : decode cX6_store 28 = .ok (.iload_n 3, 1) := by decide +kernel
theorem dX6_store_29 : decode cX6_store 29 = .ok (.iload 4, 2) := by decide +kernel
theorem dX6_store_31 : decode cX6_store 31 = .ok (.ishl, 1) := by decide +kernel
theorem dX6_store_32 : decode cX6_store 32 = .ok (.iload 5, 2) := by decide +kernel
theorem dX6_store_34 : decode cX6_store 34 = .ok (.iand, 1) := by decide +kernel
theorem dX6_store_35 : decode cX6_store 35 = .ok (.ior, 1) := by decide +kernel
theorem dX6_store_36 : decode cX6_store 36 = .ok (.invokevirtual 32, 3) := by decide +kernel
theorem dX6_store_39 : decode cX6_store 39 = .ok (.return_, 1) := by decide +kernel
theorem dX6_maskOf_0 : decode cX6_maskOf 0 = .ok (.iload_n 0, 1) := by decide +kernel
theorem dX6_maskOf_1 : decode cX6_maskOf 1 = .ok (.iconst 4, 1) := by decide +kernel
theorem dX6_maskOf_2 : decode cX6_maskOf 2 = .ok (.if_icmp .ne 7, 3) := by decide +kernel
theorem dX6_maskOf_5 : decode cX6_maskOf 5 = .ok (.iconst (-1), 1) := by decide +kernel
theorem dX6_maskOf_6 : decode cX6_maskOf 6 = .ok (.goto 11, 3) := by decide +kernel
theorem dX6_maskOf_9 : decode cX6_maskOf 9 = .ok (.iconst 1, 1) := by decide +kernel
theorem dX6_maskOf_10 : decode cX6_maskOf 10 = .ok (.bipush 8, 2) := by decide +kernel
theorem dX6_maskOf_12 : decode cX6_maskOf 12 = .ok (.iload_n 0, 1) := by decide +kernel
theorem dX6_maskOf_13 : decode cX6_maskOf 13 = .ok (.imul, 1) := by decide +kernel
theorem dX6_maskOf_14 : decode cX6_maskOf 14 = .ok (.ishl, 1) := by decide +kernel
theorem dX6_maskOf_15 : decode cX6_maskOf 15 = .ok (.iconst 1, 1) := by decide +kernel
theorem dX6_maskOf_16 : decode cX6_maskOf 16 = .ok (.isub, 1) := by decide +kernel
theorem dX6_maskOf_17 : decode cX6_maskOf 17 = .ok (.ireturn, 1) := by decide +kernel
theorem dX6_shiftOf_0 : decode cX6_shiftOf 0 = .ok (.bipush 8, 2) := by decide +kernel
theorem dX6_shiftOf_2 : decode cX6_shiftOf 2 = .ok (.iconst 4, 1) := by decide +kernel
theorem dX6_shiftOf_3 : decode cX6_shiftOf 3 = .ok (.iload_n 1, 1) := by decide +kernel
theorem dX6_shiftOf_4 : decode cX6_shiftOf 4 = .ok (.isub, 1) := by decide +kernel
theorem dX6_shiftOf_5 : decode cX6_shiftOf 5 = .ok (.iload_n 0, 1) := by decide +kernel
theorem dX6_shiftOf_6 : decode cX6_shiftOf 6 = .ok (.iconst 3, 1) := by decide +kernel
theorem dX6_shiftOf_7 : decode cX6_shiftOf 7 = .ok (.iand, 1) := by decide +kernel
theorem dX6_shiftOf_8 : decode cX6_shiftOf 8 = .ok (.isub, 1) := by decide +kernel
theorem dX6_shiftOf_9 : decode cX6_shiftOf 9 = .ok (.imul, 1) := by decide +kernel
theorem dX6_shiftOf_10 : decode cX6_shiftOf 10 = .ok (.ireturn, 1) := by decide +kernel
theorem dX6_pageOf_0 : decode cX6_pageOf 0 = .ok (.iload_n 0, 1) := by decide +kernel
theorem dX6_pageOf_1 : decode cX6_pageOf 1 = .ok (.bipush 10, 2) := by decide +kernel
theorem dX6_pageOf_3 : decode cX6_pageOf 3 = .ok (.iushr, 1) := by decide +kernel
theorem dX6_pageOf_4 : decode cX6_pageOf 4 = .ok (.bipush 63, 2) := by decide +kernel
theorem dX6_pageOf_6 : decode cX6_pageOf 6 = .ok (.iand, 1) := by decide +kernel
theorem dX6_pageOf_7 : decode cX6_pageOf 7 = .ok (.ireturn, 1) := by decide +kernel
theorem dX6_wordOf_0 : decode cX6_wordOf 0 = .ok (.iload_n 0, 1) := by decide +kernel
theorem dX6_wordOf_1 : decode cX6_wordOf 1 = .ok (.iconst 2, 1) := by decide +kernel
theorem dX6_wordOf_2 : decode cX6_wordOf 2 = .ok (.iushr, 1) := by decide +kernel
theorem dX6_wordOf_3 : decode cX6_wordOf 3 = .ok (.sipush 255, 3) := by decide +kernel
theorem dX6_wordOf_6 : decode cX6_wordOf 6 = .ok (.iand, 1) := by decide +kernel
theorem dX6_wordOf_7 : decode cX6_wordOf 7 = .ok (.ireturn, 1) := by decide +kernel
