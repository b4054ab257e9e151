set_option maxRecDepth 1000000 in
theorem ggX9_init_X8_init : GoodIn wsX9_init wsX8_init := goodIn_r _ [13, 14, 2, 3, 15, 16, 17, 18, 19, 20, 21, 22, 23, 24, 25, 26, 4, 27, 28, 29, 30, 31, 32, 33, 34, 54, 55, 56, 57, 41, 42, 43, 44, 45, 46, 47, 48, 49, 50, 51, 52, 53, 58, 59] rfl (by decide +kernel)
set_option maxRecDepth 1000000 in
theorem gX9_init_X8_init : GoodIn wsX9_init (wsX8_init) := ggX9_init_X8_init
theorem dX9_init_0 : decode cX9_init 0 = .ok (.aload_n 0, 1) := by decide +kernel
theorem dX9_init_1 : decode cX9_init 1 = .ok (.invokespecial 3, 3) := by decide +kernel
theorem dX9_init_4 : decode cX9_init 4 = .ok (.aload_n 0, 1) := by decide +kernel
theorem dX9_init_5 : decode cX9_init 5 = .ok (.bipush 32, 2) := by decide +kernel
theorem dX9_init_7 : decode cX9_init 7 = .ok (.newarray .int, 2) := by decide +kernel
theorem dX9_init_9 : decode cX9_init 9 = .ok (.putfield 9, 3) := by decide +kernel
theorem dX9_init_12 : decode cX9_init 12 = .ok (.aload_n 0, 1) := by decide +kernel
theorem dX9_init_13 : decode cX9_init 13 = .ok (.sipush 256, 3) := by decide +kernel
theorem dX9_init_16 : decode cX9_init 16 = .ok (.putfield 15, 3) := by decide +kernel
theorem dX9_init_19 : decode cX9_init 19 = .ok (.aload_n 0, 1) := by decide +kernel
theorem dX9_init_20 : decode cX9_init 20 = .ok (.new 19, 3) := by decide +kernel
theorem dX9_init_23 : decode cX9_init 23 = .ok (.dup, 1) := by decide +kernel
theorem dX9_init_24 : decode cX9_init 24 = .ok (.iload_n 1, 1) := by decide +kernel
theorem dX9_init_25 : decode cX9_init 25 = .ok (.invokespecial 21, 3) := by decide +kernel
theorem dX9_init_28 : decode cX9_init 28 = .ok (.putfield 24, 3) := by decide +kernel
theorem dX9_init_31 : decode cX9_init 31 = .ok (.return_, 1) := by decide +kernel
set_option maxRecDepth 1000000 in
theorem ggX9_reset_J7_fill_53178 : GoodIn wsX9_reset wsJ7_fill_53178 := goodIn_r _ [8] (by decide +kernel) (by decide +kernel)
set_option maxRecDepth 1000000 in
theorem gX9_reset_J7_fill_53178 : GoodIn wsX9_reset (va_wsS RX9 28 yJ7_fill_53178 wsJ7_fill_53178) := goodIn_app (goodIn_of _ (by decide +kernel)) ggX9_reset_J7_fill_53178
set_option maxRecDepth 1000000 in
theorem ggX9_reset_X8_reset : GoodIn wsX9_reset wsX8_reset := goodIn_r _ [13, 14, 15, 16, 17, 18, 19, 20, 21, 22, 23, 24, 25, 26, 27, 28, 29, 30, 31, 32, 33, 6, 7, 8, 34, 35, 36, 37, 38, 39, 40, 47, 48, 49, 50, 51, 52, 53, 54, 55, 56, 57, 58, 59, 60, 61, 62, 63, 64, 65] rfl (by decide +kernel)
set_option maxRecDepth 1000000 in
theorem gX9_reset_X8_reset : GoodIn wsX9_reset (wsV RX9 34 RX8 yX8_reset wsX8_reset) := goodIn_app (goodIn_of _ (by decide +kernel)) ggX9_reset_X8_reset
theorem dX9_reset_0 : decode cX9_reset 0 = .ok (.aload_n 0, 1) := by decide +kernel
theorem dX9_reset_1 : decode cX9_reset 1 = .ok (.getfield 9, 3) := by decide +kernel
theorem dX9_reset_4 : decode cX9_reset 4 = .ok (.iconst 0, 1) := by decide +kernel
theorem dX9_reset_5 : decode cX9_reset 5 = .ok (.invokestatic 28, 3) := by decide +kernel
theorem dX9_reset_8 : decode cX9_reset 8 = .ok (.aload_n 0, 1) := by decide +kernel
theorem dX9_reset_9 : decode cX9_reset 9 = .ok (.getfield 24, 3) := by decide +kernel
theorem dX9_reset_12 : decode cX9_reset 12 = .ok (.invokevirtual 34, 3) := by decide +kernel
theorem dX9_reset_15 : decode cX9_reset 15 = .ok (.aload_n 0, 1) := by decide +kernel
theorem dX9_reset_16 : decode cX9_reset 16 = .ok (.sipush 256, 3) := by decide +kernel
theorem dX9_reset_19 : decode cX9_reset 19 = .ok (.putfield 15, 3) := by decide +kernel
theorem dX9_reset_22 : decode cX9_reset 22 = .ok (.aload_n 0, 1) := by decide +kernel
theorem dX9_reset_23 : decode cX9_reset 23 = .ok (.iconst 0, 1) := by decide +kernel
theorem dX9_reset_24 : decode cX9_reset 24 = .ok (.putfield 37, 3) := by decide +kernel
theorem dX9_reset_27 : decode cX9_reset 27 = .ok (.return_, 1) := by decide +kernel
theorem dX9_goOn_0 : decode cX9_goOn 0 = .ok (.aload_n 0, 1) := by decide +kernel
theorem dX9_goOn_1 : decode cX9_goOn 1 = .ok (.aload_n 0, 1) := by decide +kernel
theorem dX9_goOn_2 : decode cX9_goOn 2 = .ok (.getfield 37, 3) := by decide +kernel
theorem dX9_goOn_5 : decode cX9_goOn 5 = .ok (.ifCond .eq 10, 3) := by decide +kernel
theorem dX9_goOn_8 : decode cX9_goOn 8 = .ok (.aload_n 0, 1) := by decide +kernel
theorem dX9_goOn_9 : decode cX9_goOn 9 = .ok (.getfield 41, 3) := by decide +kernel
theorem dX9_goOn_12 : decode cX9_goOn 12 = .ok (.goto 9, 3) := by decide +kernel
theorem dX9_goOn_15 : decode cX9_goOn 15 = .ok (.aload_n 0, 1) := by decide +kernel
theorem dX9_goOn_16 : decode cX9_goOn 16 = .ok (.getfield 15, 3) := by decide +kernel
theorem dX9_goOn_19 : decode cX9_goOn 19 = .ok (.iconst 4, 1) := by decide +kernel
theorem dX9_goOn_20 : decode cX9_goOn 20 = .ok (.iadd, 1) := by decide +kernel
theorem dX9_goOn_21 : decode cX9_goOn 21 = .ok (.putfield 15, 3) := by decide +kernel
theorem dX9_goOn_24 : decode cX9_goOn 24 = .ok (.aload_n 0, 1) := by decide +kernel
theorem dX9_goOn_25 : decode cX9_goOn 25 = .ok (.iconst 0, 1) := by decide +kernel
theorem dX9_goOn_26 : decode cX9_goOn 26 = .ok (.putfield 37, 3) := by decide +kernel
theorem dX9_goOn_29 : decode cX9_goOn 29 = .ok (.return_, 1) := by decide +kernel
theorem dX9_goToSlot_0 : decode cX9_goToSlot 0 = .ok (.aload_n 0, 1) := by decide +kernel
theorem dX9_goToSlot_1 : decode cX9_goToSlot 1 = .ok (.aload_n 0, 1) := by decide +kernel
theorem dX9_goToSlot_2 : decode cX9_goToSlot 2 = .ok (.getfield 15, 3) := by decide +kernel
theorem dX9_goToSlot_5 : decode cX9_goToSlot 5 = .ok (.putfield 44, 3) := by decide +kernel
theorem dX9_goToSlot_8 : decode cX9_goToSlot 8 = .ok (.aload_n 0, 1) := by decide +kernel
theorem dX9_goToSlot_9 : decode cX9_goToSlot 9 = .ok (.iload_n 1, 1) := by decide +kernel
theorem dX9_goToSlot_10 : decode cX9_goToSlot 10 = .ok (.putfield 41, 3) := by decide +kernel
theorem dX9_goToSlot_13 : decode cX9_goToSlot 13 = .ok (.aload_n 0, 1) := by decide +kernel
theorem dX9_goToSlot_14 : decode cX9_goToSlot 14 = .ok (.iconst 1, 1) := by decide +kernel
theorem dX9_goToSlot_15 : decode cX9_goToSlot 15 = .ok (.putfield 37, 3) := by decide +kernel
theorem dX9_goToSlot_18 : decode cX9_goToSlot 18 = .ok (.aload_n 0, 1) := by decide +kernel
theorem dX9_goToSlot_19 : decode cX9_goToSlot 19 = .ok (.dup, 1) := by decide +kernel
theorem dX9_goToSlot_20 : decode cX9_goToSlot 20 = .ok (.getfield 15, 3) := by decide +kernel
theorem dX9_goToSlot_23 : decode cX9_goToSlot 23 = .ok (.iconst 4, 1) := by decide +kernel
theorem dX9_goToSlot_24 : decode cX9_goToSlot 24 = .ok (.iadd, 1) := by decide +kernel
theorem dX9_goToSlot_25 : decode cX9_goToSlot 25 = .ok (.putfield 15, 3) := by decide +kernel
theorem dX9_goToSlot_28 : decode cX9_goToSlot 28 = .ok (.return_, 1) := by decide +kernel
theorem dX9_goTo_0 : decode cX9_goTo 0 = .ok (.aload_n 0, 1) := by decide +kernel
theorem dX9_goTo_1 : decode cX9_goTo 1 = .ok (.iload_n 1, 1) := by decide +kernel
theorem dX9_goTo_2 : decode cX9_goTo 2 = .ok (.putfield 15, 3) := by decide +kernel
theorem dX9_goTo_5 : decode cX9_goTo 5 = .ok (.aload_n 0, 1) := by decide +kernel
theorem dX9_goTo_6 : decode cX9_goTo 6 = .ok (.iconst 0, 1) := by decide +kernel
theorem dX9_goTo_7 : decode cX9_goTo 7 = .ok (.putfield 37, 3) := by decide +kernel
theorem dX9_goTo_10 : decode cX9_goTo 10 = .ok (.return_, 1) := by decide +kernel
