theorem dX0_init_0 : decode cX0_init 0 = .ok (.aload_n 0, 1) := by decide +kernel
theorem dX0_init_1 : decode cX0_init 1 = .ok (.invokespecial 3, 3) := by decide +kernel
theorem dX0_init_4 : decode cX0_init 4 = .ok (.return_, 1) := by decide +kernel
theorem dX0_begin_0 : decode cX0_begin 0 = .ok (.aload_n 0, 1) := by decide +kernel
theorem dX0_begin_1 : decode cX0_begin 1 = .ok (.iconst 0, 1) := by decide +kernel
theorem dX0_begin_2 : decode cX0_begin 2 = .ok (.putfield 9, 3) := by decide +kernel
theorem dX0_begin_5 : decode cX0_begin 5 = .ok (.aload_n 0, 1) := by decide +kernel
theorem dX0_begin_6 : decode cX0_begin 6 = .ok (.iconst 0, 1) := by decide +kernel
theorem dX0_begin_7 : decode cX0_begin 7 = .ok (.putfield 15, 3) := by decide +kernel
theorem dX0_begin_10 : decode cX0_begin 10 = .ok (.aload_n 0, 1) := by decide +kernel
theorem dX0_begin_11 : decode cX0_begin 11 = .ok (.iconst 0, 1) := by decide +kernel
theorem dX0_begin_12 : decode cX0_begin 12 = .ok (.putfield 19, 3) := by decide +kernel
theorem dX0_begin_15 : decode cX0_begin 15 = .ok (.aload_n 0, 1) := by decide +kernel
theorem dX0_begin_16 : decode cX0_begin 16 = .ok (.iconst 0, 1) := by decide +kernel
theorem dX0_begin_17 : decode cX0_begin 17 = .ok (.putfield 22, 3) := by decide +kernel
theorem dX0_begin_20 : decode cX0_begin 20 = .ok (.aload_n 0, 1) := by decide +kernel
theorem dX0_begin_21 : decode cX0_begin 21 = .ok (.iload_n 1, 1) := by decide +kernel
theorem dX0_begin_22 : decode cX0_begin 22 = .ok (.putfield 25, 3) := by decide +kernel
theorem dX0_begin_25 : decode cX0_begin 25 = .ok (.aload_n 0, 1) := by decide +kernel
theorem dX0_begin_26 : decode cX0_begin 26 = .ok (.lload_n 2, 1) := by decide +kernel
theorem dX0_begin_27 : decode cX0_begin 27 = .ok (.putfield 28, 3) := by decide +kernel
theorem dX0_begin_30 : decode cX0_begin 30 = .ok (.aload_n 0, 1) := by decide +kernel
theorem dX0_begin_31 : decode cX0_begin 31 = .ok (.iconst 0, 1) := by decide +kernel
theorem dX0_begin_32 : decode cX0_begin 32 = .ok (.putfield 32, 3) := by decide +kernel
theorem dX0_begin_35 : decode cX0_begin 35 = .ok (.return_, 1) := by decide +kernel
theorem dX0_failAt_0 : decode cX0_failAt 0 = .ok (.aload_n 0, 1) := by decide +kernel
theorem dX0_failAt_1 : decode cX0_failAt 1 = .ok (.iload_n 1, 1) := by decide +kernel
theorem dX0_failAt_2 : decode cX0_failAt 2 = .ok (.putfield 9, 3) := by decide +kernel
theorem dX0_failAt_5 : decode cX0_failAt 5 = .ok (.aload_n 0, 1) := by decide +kernel
theorem dX0_failAt_6 : decode cX0_failAt 6 = .ok (.iconst 1, 1) := by decide +kernel
theorem dX0_failAt_7 : decode cX0_failAt 7 = .ok (.putfield 15, 3) := by decide +kernel
theorem dX0_failAt_10 : decode cX0_failAt 10 = .ok (.aload_n 0, 1) := by decide +kernel
theorem dX0_failAt_11 : decode cX0_failAt 11 = .ok (.iload_n 2, 1) := by decide +kernel
theorem dX0_failAt_12 : decode cX0_failAt 12 = .ok (.putfield 35, 3) := by decide +kernel
theorem dX0_failAt_15 : decode cX0_failAt 15 = .ok (.return_, 1) := by decide +kernel
theorem dX0_setBit_0 : decode cX0_setBit 0 = .ok (.aload_n 0, 1) := by decide +kernel
theorem dX0_setBit_1 : decode cX0_setBit 1 = .ok (.iload_n 2, 1) := by decide +kernel
theorem dX0_setBit_2 : decode cX0_setBit 2 = .ok (.ifCond .eq 12, 3) := by decide +kernel
theorem dX0_setBit_5 : decode cX0_setBit 5 = .ok (.aload_n 0, 1) := by decide +kernel
theorem dX0_setBit_6 : decode cX0_setBit 6 = .ok (.getfield 25, 3) := by decide +kernel
theorem dX0_setBit_9 : decode cX0_setBit 9 = .ok (.iload_n 1, 1) := by decide +kernel
theorem dX0_setBit_10 : decode cX0_setBit 10 = .ok (.ior, 1) := by decide +kernel
theorem dX0_setBit_11 : decode cX0_setBit 11 = .ok (.goto 11, 3) := by decide +kernel
theorem dX0_setBit_14 : decode cX0_setBit 14 = .ok (.aload_n 0, 1) := by decide +kernel
theorem dX0_setBit_15 : decode cX0_setBit 15 = .ok (.getfield 25, 3) := by decide +kernel
theorem dX0_setBit_18 : decode cX0_setBit 18 = .ok (.iload_n 1, 1) := by decide +kernel
theorem dX0_setBit_19 : decode cX0_setBit 19 = .ok (.iconst (-1), 1) := by decide +kernel
theorem dX0_setBit_20 : decode cX0_setBit 20 = .ok (.ixor, 1) := by decide +kernel
theorem dX0_setBit_21 : decode cX0_setBit 21 = .ok (.iand, 1) := by decide +kernel
theorem dX0_setBit_22 : decode cX0_setBit 22 = .ok (.putfield 25, 3) := by decide +kernel
theorem dX0_setBit_25 : decode cX0_setBit 25 = .ok (.return_, 1) := by decide +kernel
set_option maxRecDepth 1000000 in
theorem ggX0_setOverflow_X0_setBit : GoodIn wsX0_setOverflow wsX0_setBit := goodIn_r _ [7, 1, 8, 9, 10, 11, 12, 13, 14, 15, 16, 17, 18] (by decide +kernel) (by decide +kernel)
set_option maxRecDepth 1000000 in
theorem gX0_setOverflow_X0_setBit : GoodIn wsX0_setOverflow (wsV RX0 38 RX0 yX0_setBit wsX0_setBit) := goodIn_app (goodIn_of _ (by decide +kernel)) ggX0_setOverflow_X0_setBit
theorem dX0_setOverflow_0 : decode cX0_setOverflow 0 = .ok (.aload_n 0, 1) := by decide +kernel
theorem dX0_setOverflow_1 : decode cX0_setOverflow 1 = .ok (.sipush 256, 3) := by decide +kernel
theorem dX0_setOverflow_4 : decode cX0_setOverflow 4 = .ok (.iload_n 1, 1) := by decide +kernel
theorem dX0_setOverflow_5 : decode cX0_setOverflow 5 = .ok (.invokevirtual 38, 3) := by decide +kernel
theorem dX0_setOverflow_8 : decode cX0_setOverflow 8 = .ok (.iload_n 1, 1) := by decide +kernel
theorem dX0_setOverflow_9 : decode cX0_setOverflow 9 = .ok (.ifCond .eq 20, 3) := by decide +kernel
theorem dX0_setOverflow_12 : decode cX0_setOverflow 12 = .ok (.aload_n 0, 1) := by decide +kernel
theorem dX0_setOverflow_13 : decode cX0_setOverflow 13 = .ok (.getfield 25, 3) := by decide +kernel
theorem dX0_setOverflow_16 : decode cX0_setOverflow 16 = .ok (.sipush 512, 3) := by decide +kernel
theorem dX0_setOverflow_19 : decode cX0_setOverflow 19 = .ok (.iand, 1) := by decide +kernel
theorem dX0_setOverflow_20 : decode cX0_setOverflow 20 = .ok (.ifCond .eq 9, 3) := by decide +kernel
theorem dX0_setOverflow_23 : decode cX0_setOverflow 23 = .ok (.aload_n 0, 1) := by decide +kernel
theorem dX0_setOverflow_24 : decode cX0_setOverflow 24 = .ok (.bipush 11, 2) := by decide +kernel
theorem dX0_setOverflow_26 : decode cX0_setOverflow 26 = .ok (.putfield 9, 3) := by decide +kernel
theorem dX0_setOverflow_29 : decode cX0_setOverflow 29 = .ok (.return_, 1) := by decide +kernel
