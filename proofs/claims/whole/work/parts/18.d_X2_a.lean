set_option maxRecDepth 1000000 in
theorem ggX2_init_X6_init : GoodIn wsX2_init wsX6_init := goodIn_r _ [21, 22, 2, 3, 23, 24, 66] (by decide +kernel) (by decide +kernel)
set_option maxRecDepth 1000000 in
theorem gX2_init_X6_init_n11 : GoodIn wsX2_init (wsX6_init) := ggX2_init_X6_init
set_option maxRecDepth 1000000 in
theorem ggX2_init_X3_init : GoodIn wsX2_init wsX3_init := goodIn_r _ [26, 27, 2, 3] (by decide +kernel) (by decide +kernel)
set_option maxRecDepth 1000000 in
theorem gX2_init_X3_init_n20 : GoodIn wsX2_init (wsX3_init) := ggX2_init_X3_init
set_option maxRecDepth 1000000 in
theorem ggX2_init_X0_init : GoodIn wsX2_init wsX0_init := goodIn_r _ [29, 30, 2, 3] (by decide +kernel) (by decide +kernel)
set_option maxRecDepth 1000000 in
theorem gX2_init_X0_init_n27 : GoodIn wsX2_init (wsX0_init) := ggX2_init_X0_init
set_option maxRecDepth 1000000 in
theorem ggX2_init_X9_init : GoodIn wsX2_init wsX9_init := goodIn_r _ [33, 34, 2, 3, 35, 36, 37, 38, 39, 40, 41, 42, 43, 44, 45, 46, 47, 48, 49, 50, 51, 52, 53, 54, 55, 56, 57, 58, 59, 60, 61, 62, 63, 64, 65, 90, 91, 92, 93, 94, 95, 96, 97, 98, 99, 100, 101, 102, 103, 104, 105, 106, 107, 108, 109, 110, 111, 112, 113, 114] rfl (by decide +kernel)
set_option maxRecDepth 1000000 in
theorem gX2_init_X9_init : GoodIn wsX2_init (wsX9_init) := ggX2_init_X9_init
theorem dX2_init_0 : decode cX2_init 0 = .ok (.aload_n 0, 1) := by decide +kernel
theorem dX2_init_1 : decode cX2_init 1 = .ok (.invokespecial 3, 3) := by decide +kernel
theorem dX2_init_4 : decode cX2_init 4 = .ok (.aload_n 0, 1) := by decide +kernel
theorem dX2_init_5 : decode cX2_init 5 = .ok (.new 9, 3) := by decide +kernel
theorem dX2_init_8 : decode cX2_init 8 = .ok (.dup, 1) := by decide +kernel
theorem dX2_init_9 : decode cX2_init 9 = .ok (.invokespecial 11, 3) := by decide +kernel
theorem dX2_init_12 : decode cX2_init 12 = .ok (.putfield 12, 3) := by decide +kernel
theorem dX2_init_15 : decode cX2_init 15 = .ok (.aload_n 0, 1) := by decide +kernel
theorem dX2_init_16 : decode cX2_init 16 = .ok (.new 18, 3) := by decide +kernel
theorem dX2_init_19 : decode cX2_init 19 = .ok (.dup, 1) := by decide +kernel
theorem dX2_init_20 : decode cX2_init 20 = .ok (.invokespecial 20, 3) := by decide +kernel
theorem dX2_init_23 : decode cX2_init 23 = .ok (.putfield 21, 3) := by decide +kernel
theorem dX2_init_26 : decode cX2_init 26 = .ok (.aload_n 0, 1) := by decide +kernel
theorem dX2_init_27 : decode cX2_init 27 = .ok (.new 25, 3) := by decide +kernel
theorem dX2_init_30 : decode cX2_init 30 = .ok (.dup, 1) := by decide +kernel
theorem dX2_init_31 : decode cX2_init 31 = .ok (.invokespecial 27, 3) := by decide +kernel
theorem dX2_init_34 : decode cX2_init 34 = .ok (.putfield 28, 3) := by decide +kernel
theorem dX2_init_37 : decode cX2_init 37 = .ok (.aload_n 0, 1) := by decide +kernel
theorem dX2_init_38 : decode cX2_init 38 = .ok (.new 32, 3) := by decide +kernel
theorem dX2_init_41 : decode cX2_init 41 = .ok (.dup, 1) := by decide +kernel
theorem dX2_init_42 : decode cX2_init 42 = .ok (.iload_n 1, 1) := by decide +kernel
theorem dX2_init_43 : decode cX2_init 43 = .ok (.invokespecial 34, 3) := by decide +kernel
theorem dX2_init_46 : decode cX2_init 46 = .ok (.putfield 37, 3) := by decide +kernel
theorem dX2_init_49 : decode cX2_init 49 = .ok (.return_, 1) := by decide +kernel
set_option maxRecDepth 1000000 in
theorem ggX2_comeTo_X0_begin : GoodIn wsX2_comeTo wsX0_begin := goodIn_r _ [15, 16, 17, 18, 19, 20, 21, 22, 291, 292, 293, 294, 295, 296, 297, 298, 299, 300, 301] (by decide +kernel) (by decide +kernel)
set_option maxRecDepth 1000000 in
theorem gX2_comeTo_X0_begin : GoodIn wsX2_comeTo (wsV RX2 55 RX0 yX0_begin wsX0_begin) := goodIn_app (goodIn_of _ (by decide +kernel)) ggX2_comeTo_X0_begin
set_option maxRecDepth 1000000 in
theorem ggX2_comeTo_X5_codePlace : GoodIn wsX2_comeTo wsX5_codePlace := goodIn_r _ [27, 28, 29, 30, 31, 32, 26, 33, 34, 35, 36, 37, 38, 39, 40, 302, 303] (by decide +kernel) (by decide +kernel)
set_option maxRecDepth 1000000 in
theorem gX2_comeTo_X5_codePlace : GoodIn wsX2_comeTo (wsV RX2 66 RX5 yX5_codePlace wsX5_codePlace) := goodIn_app (goodIn_of _ (by decide +kernel)) ggX2_comeTo_X5_codePlace
set_option maxRecDepth 1000000 in
theorem ggX2_comeTo_X3_setUnreadable : GoodIn wsX2_comeTo wsX3_setUnreadable := goodIn_r _ [45, 46, 304, 305, 306, 307, 308, 309, 310, 311] (by decide +kernel) (by decide +kernel)
set_option maxRecDepth 1000000 in
theorem gX2_comeTo_X3_setUnreadable : GoodIn wsX2_comeTo (wsV RX2 72 RX3 yX3_setUnreadable wsX3_setUnreadable) := goodIn_app (goodIn_of _ (by decide +kernel)) ggX2_comeTo_X3_setUnreadable
set_option maxRecDepth 1000000 in
theorem ggX2_comeTo_X6_get : GoodIn wsX2_comeTo wsX6_get := goodIn_r _ [51, 52, 53, 54, 50, 55, 56, 57, 58, 312] (by decide +kernel) (by decide +kernel)
set_option maxRecDepth 1000000 in
theorem gX2_comeTo_X6_get : GoodIn wsX2_comeTo (wsV RX2 75 RX6 yX6_get wsX6_get) := goodIn_app (goodIn_of _ (by decide +kernel)) ggX2_comeTo_X6_get
set_option maxRecDepth 1000000 in
theorem ggX2_comeTo_X3_decode : GoodIn wsX2_comeTo wsX3_decode := goodIn_r _ [62, 63, 64, 65, 66, 67, 68, 69, 70, 46, 71, 72, 73, 74, 44, 75, 304, 305, 306, 307, 308, 309, 310, 311] (by decide +kernel) (by decide +kernel)
set_option maxRecDepth 1000000 in
theorem gX2_comeTo_X3_decode : GoodIn wsX2_comeTo (wsV RX2 79 RX3 yX3_decode wsX3_decode) := goodIn_app (goodIn_of _ (by decide +kernel)) ggX2_comeTo_X3_decode
set_option maxRecDepth 1000000 in
theorem ggX2_comeTo_X8_timerIsDue : GoodIn wsX2_comeTo wsX8_timerIsDue := goodIn_r _ [80, 81, 82, 83, 278, 279, 280, 281, 282, 283, 284, 285, 286, 287, 288, 289, 290] (by decide +kernel) (by decide +kernel)
set_option maxRecDepth 1000000 in
theorem gX2_comeTo_X8_timerIsDue : GoodIn wsX2_comeTo (wsV RX2 82 RX8 yX8_timerIsDue wsX8_timerIsDue) := goodIn_app (goodIn_of _ (by decide +kernel)) ggX2_comeTo_X8_timerIsDue
set_option maxRecDepth 1000000 in
theorem ggX2_comeTo_X8_lineIsDue : GoodIn wsX2_comeTo wsX8_lineIsDue := goodIn_r _ [87, 81, 88, 89, 90, 91, 79, 92, 93, 94, 95, 96, 97, 98, 99, 100, 101, 102, 103, 104, 105, 278, 279, 280, 281, 282, 283, 284, 285, 286, 287, 288, 289, 290, 313, 314, 315, 316] rfl (by decide +kernel)
set_option maxRecDepth 1000000 in
theorem gX2_comeTo_X8_lineIsDue : GoodIn wsX2_comeTo (wsV RX2 89 RX8 yX8_lineIsDue wsX8_lineIsDue) := goodIn_app (goodIn_of _ (by decide +kernel)) ggX2_comeTo_X8_lineIsDue
set_option maxRecDepth 1000000 in
theorem ggX2_comeTo_X0_failAt : GoodIn wsX2_comeTo wsX0_failAt := goodIn_r _ [109, 16, 17, 110, 291, 292, 293, 294, 295, 296, 297, 298, 299, 300, 301] (by decide +kernel) (by decide +kernel)
set_option maxRecDepth 1000000 in
theorem gX2_comeTo_X0_failAt : GoodIn wsX2_comeTo (wsV RX2 92 RX0 yX0_failAt wsX0_failAt) := goodIn_app (goodIn_of _ (by decide +kernel)) ggX2_comeTo_X0_failAt
set_option maxRecDepth 1000000 in
theorem ggX2_comeTo_X2_workOut : GoodIn wsX2_comeTo wsX2_workOut := goodIn_r _ [115, 3, 10, 8, 1, 116, 117, 118, 119, 120, 121, 114, 122, 123, 124, 125, 126, 127, 128, 73, 74, 44, 75, 46, 129, 130, 131, 132, 133, 7, 134, 135, 136, 137, 138, 139, 140, 141, 2, 6, 142, 143, 144, 145, 9, 146, 147, 148, 106, 107, 108, 14, 109, 16, 17, 110, 149, 150, 151, 26, 152, 28, 29, 153, 30, 31, 32, 33, 34, 35, 36, 37, 38, 39, 40, 154, 155, 50, 156, 157, 158, 159, 160, 161, 48, 49, 51, 52, 53, 54, 55, 56, 57, 58, 162, 163, 164, 165, 166, 167, 168, 169, 170, 171, 172, 173, 174, 175, 176, 177, 79, 178, 81, 179, 180, 181, 182, 82, 88, 94, 95, 183, 184, 89, 90, 91, 92, 93, 96, 97, 98, 99, 100, 101, 102, 103, 104, 105, 185, 186, 187, 188, 189, 190, 191, 192, 193, 194, 195, 196, 197, 198, 199, 200, 201, 202, 203, 204, 205, 206, 207, 208, 209, 210, 211, 212, 20, 213, 214, 215, 216, 217, 218, 219, 220, 221, 222, 223, 224, 225, 226, 227, 228, 229, 230, 231, 232, 233, 234, 235, 236, 237, 238, 239, 240, 241, 242, 243, 244, 245, 246, 247, 248, 249, 250, 251, 252, 253, 254, 255, 256, 257, 258, 259, 260, 261, 262, 263, 264, 265, 266, 267, 268, 269, 270, 271, 291, 292, 293, 294, 295, 296, 297, 298, 299, 300, 301, 272, 273, 274, 275, 276, 277, 304, 305, 306, 307, 308, 309, 310, 311, 278, 279, 280, 281, 282, 283, 284, 285, 286, 287, 288, 289, 290, 302, 303, 312, 313, 314, 315, 316] rfl (by decide +kernel)
set_option maxRecDepth 1000000 in
theorem gX2_comeTo_X2_workOut : GoodIn wsX2_comeTo (wsV RX2 96 RX2 yX2_workOut wsX2_workOut) := goodIn_app (goodIn_of _ (by decide +kernel)) ggX2_comeTo_X2_workOut
theorem dX2_comeTo_0 : decode cX2_comeTo 0 = .ok (.aload_n 0, 1) := by decide +kernel
theorem dX2_comeTo_1 : decode cX2_comeTo 1 = .ok (.getfield 37, 3) := by decide +kernel
theorem dX2_comeTo_4 : decode cX2_comeTo 4 = .ok (.getfield 41, 3) := by decide +kernel
theorem dX2_comeTo_7 : decode cX2_comeTo 7 = .ok (.astore_n 1, 1) := by decide +kernel
theorem dX2_comeTo_8 : decode cX2_comeTo 8 = .ok (.aload_n 0, 1) := by decide +kernel
theorem dX2_comeTo_9 : decode cX2_comeTo 9 = .ok (.getfield 28, 3) := by decide +kernel
theorem dX2_comeTo_12 : decode cX2_comeTo 12 = .ok (.aload_n 1, 1) := by decide +kernel
theorem dX2_comeTo_13 : decode cX2_comeTo 13 = .ok (.getfield 45, 3) := by decide +kernel
theorem dX2_comeTo_16 : decode cX2_comeTo 16 = .ok (.aload_n 1, 1) := by decide +kernel
theorem dX2_comeTo_17 : decode cX2_comeTo 17 = .ok (.getfield 51, 3) := by decide +kernel
theorem dX2_comeTo_20 : decode cX2_comeTo 20 = .ok (.invokevirtual 55, 3) := by decide +kernel
theorem dX2_comeTo_23 : decode cX2_comeTo 23 = .ok (.aload_n 1, 1) := by decide +kernel
theorem dX2_comeTo_24 : decode cX2_comeTo 24 = .ok (.getfield 59, 3) := by decide +kernel
theorem dX2_comeTo_27 : decode cX2_comeTo 27 = .ok (.aload_n 0, 1) := by decide +kernel
theorem dX2_comeTo_28 : decode cX2_comeTo 28 = .ok (.getfield 37, 3) := by decide +kernel
theorem dX2_comeTo_31 : decode cX2_comeTo 31 = .ok (.getfield 63, 3) := by decide +kernel
theorem dX2_comeTo_34 : decode cX2_comeTo 34 = .ok (.aload_n 1, 1) := by decide +kernel
theorem dX2_comeTo_35 : decode cX2_comeTo 35 = .ok (.getfield 45, 3) := by decide +kernel
theorem dX2_comeTo_38 : decode cX2_comeTo 38 = .ok (.invokevirtual 66, 3) := by decide +kernel
theorem dX2_comeTo_41 : decode cX2_comeTo 41 = .ok (.istore_n 2, 1) := by decide +kernel
theorem dX2_comeTo_42 : decode cX2_comeTo 42 = .ok (.iload_n 2, 1) := by decide +kernel
theorem dX2_comeTo_43 : decode cX2_comeTo 43 = .ok (.ifCond .ge 13, 3) := by decide +kernel
theorem dX2_comeTo_46 : decode cX2_comeTo 46 = .ok (.aload_n 0, 1) := by decide +kernel
theorem dX2_comeTo_47 : decode cX2_comeTo 47 = .ok (.getfield 21, 3) := by decide +kernel
theorem dX2_comeTo_50 : decode cX2_comeTo 50 = .ok (.invokevirtual 72, 3) := by decide +kernel
theorem dX2_comeTo_53 : decode cX2_comeTo 53 = .ok (.goto 18, 3) := by decide +kernel
theorem dX2_comeTo_56 : decode cX2_comeTo 56 = .ok (.aload_n 0, 1) := by decide +kernel
theorem dX2_comeTo_57 : decode cX2_comeTo 57 = .ok (.getfield 21, 3) := by decide +kernel
theorem dX2_comeTo_60 : decode cX2_comeTo 60 = .ok (.aload_n 0, 1) := by decide +kernel
theorem dX2_comeTo_61 : decode cX2_comeTo 61 = .ok (.getfield 12, 3) := by decide +kernel
theorem dX2_comeTo_64 : decode cX2_comeTo 64 = .ok (.iload_n 2, 1) := by decide +kernel
theorem dX2_comeTo_65 : decode cX2_comeTo 65 = .ok (.invokevirtual 75, 3) := by decide +kernel
theorem dX2_comeTo_68 : decode cX2_comeTo 68 = .ok (.invokevirtual 79, 3) := by decide +kernel
theorem dX2_comeTo_71 : decode cX2_comeTo 71 = .ok (.aload_n 1, 1) := by decide +kernel
theorem dX2_comeTo_72 : decode cX2_comeTo 72 = .ok (.invokevirtual 82, 3) := by decide +kernel
theorem dX2_comeTo_75 : decode cX2_comeTo 75 = .ok (.ifCond .eq 14, 3) := by decide +kernel
theorem dX2_comeTo_78 : decode cX2_comeTo 78 = .ok (.aload_n 0, 1) := by decide +kernel
theorem dX2_comeTo_79 : decode cX2_comeTo 79 = .ok (.getfield 28, 3) := by decide +kernel
theorem dX2_comeTo_82 : decode cX2_comeTo 82 = .ok (.iconst 5, 1) := by decide +kernel
theorem dX2_comeTo_83 : decode cX2_comeTo 83 = .ok (.putfield 86, 3) := by decide +kernel
theorem dX2_comeTo_86 : decode cX2_comeTo 86 = .ok (.goto 49, 3) := by decide +kernel
theorem dX2_comeTo_89 : decode cX2_comeTo 89 = .ok (.aload_n 1, 1) := by decide +kernel
theorem dX2_comeTo_90 : decode cX2_comeTo 90 = .ok (.invokevirtual 89, 3) := by decide +kernel
theorem dX2_comeTo_93 : decode cX2_comeTo 93 = .ok (.ifCond .eq 15, 3) := by decide +kernel
theorem dX2_comeTo_96 : decode cX2_comeTo 96 = .ok (.aload_n 0, 1) := by decide +kernel
theorem dX2_comeTo_97 : decode cX2_comeTo 97 = .ok (.getfield 28, 3) := by decide +kernel
theorem dX2_comeTo_100 : decode cX2_comeTo 100 = .ok (.bipush 8, 2) := by decide +kernel
theorem dX2_comeTo_102 : decode cX2_comeTo 102 = .ok (.putfield 86, 3) := by decide +kernel
theorem dX2_comeTo_105 : decode cX2_comeTo 105 = .ok (.goto 30, 3) := by decide +kernel
theorem dX2_comeTo_108 : decode cX2_comeTo 108 = .ok (.iload_n 2, 1) := by decide +kernel
theorem dX2_comeTo_109 : decode cX2_comeTo 109 = .ok (.ifCond .ge 22, 3) := by decide +kernel
theorem dX2_comeTo_112 : decode cX2_comeTo 112 = .ok (.aload_n 0, 1) := by decide +kernel
theorem dX2_comeTo_113 : decode cX2_comeTo 113 = .ok (.getfield 28, 3) := by decide +kernel
theorem dX2_comeTo_116 : decode cX2_comeTo 116 = .ok (.iload_n 2, 1) := by decide +kernel
theorem dX2_comeTo_117 : decode cX2_comeTo 117 = .ok (.ineg, 1) := by decide +kernel
theorem dX2_comeTo_118 : decode cX2_comeTo 118 = .ok (.aload_n 0, 1) := by decide +kernel
theorem dX2_comeTo_119 : decode cX2_comeTo 119 = .ok (.getfield 37, 3) := by decide +kernel
theorem dX2_comeTo_122 : decode cX2_comeTo 122 = .ok (.getfield 63, 3) := by decide +kernel
theorem dX2_comeTo_125 : decode cX2_comeTo 125 = .ok (.invokevirtual 92, 3) := by decide +kernel
theorem dX2_comeTo_128 : decode cX2_comeTo 128 = .ok (.goto 7, 3) := by decide +kernel
theorem dX2_comeTo_131 : decode cX2_comeTo 131 = .ok (.aload_n 0, 1) := by decide +kernel
theorem dX2_comeTo_132 : decode cX2_comeTo 132 = .ok (.invokevirtual 96, 3) := by decide +kernel
theorem dX2_comeTo_135 : decode cX2_comeTo 135 = .ok (.return_, 1) := by decide +kernel
set_option maxRecDepth 1000000 in
theorem ggX2_finish_X2_retire : GoodIn wsX2_finish wsX2_retire := goodIn_r _ [7, 8, 9, 10, 11, 1, 12, 13, 14, 15, 16, 17, 18, 19, 20, 21, 22, 23, 24, 25, 26, 27, 28, 29, 30, 31, 32, 33, 34, 35, 36, 37, 38, 39, 40, 41, 42, 43, 44, 45, 46, 47, 48, 49, 50, 51, 52, 53, 54, 55, 56, 57, 58, 59, 60, 61, 62, 63, 64, 65, 66, 67, 68, 69, 70, 71, 72, 73, 74, 75, 76, 77, 78, 79, 80, 81, 82, 83, 84, 85, 86, 87, 88, 89, 90, 91, 92, 93, 94, 95, 96, 97, 98, 99, 100, 101, 102, 103, 104, 105, 106, 107, 108, 109, 110, 111, 112, 113, 114, 115, 116, 117, 118, 119, 120, 121, 122, 123, 124, 125, 126, 127, 128, 129, 130, 131, 132, 133, 134, 145, 146, 147, 148, 160, 161, 162, 163, 164, 165, 149, 150, 151, 152, 153, 154, 155, 156, 157, 158, 159, 166, 167, 168, 169, 170, 171, 172, 173, 174, 175, 176, 177, 178, 179, 180, 181, 182, 183, 184, 185, 186, 187, 188, 189, 190, 191, 192, 193] rfl (by decide +kernel)
set_option maxRecDepth 1000000 in
theorem gX2_finish_X2_retire : GoodIn wsX2_finish (wsV RX2 99 RX2 yX2_retire wsX2_retire) := goodIn_app (goodIn_of _ (by decide +kernel)) ggX2_finish_X2_retire
set_option maxRecDepth 1000000 in
theorem ggX2_finish_X2_except : GoodIn wsX2_finish wsX2_except := goodIn_r _ [138, 8, 9, 18, 24, 139, 140, 25, 1, 2, 141, 142, 143, 144, 96, 97, 98, 99, 100, 101, 102, 145, 146, 147, 148, 160, 161, 162, 163, 164, 165, 166, 167, 168, 169, 170, 171, 172, 173, 174, 175, 176, 177, 178, 149, 150, 151, 152, 153, 154, 155, 156, 157, 158, 159] rfl (by decide +kernel)
set_option maxRecDepth 1000000 in
theorem gX2_finish_X2_except : GoodIn wsX2_finish (wsV RX2 102 RX2 yX2_except wsX2_except) := goodIn_app (goodIn_of _ (by decide +kernel)) ggX2_finish_X2_except
theorem dX2_finish_0 : decode cX2_finish 0 = .ok (.aload_n 0, 1) := by decide +kernel
theorem dX2_finish_1 : decode cX2_finish 1 = .ok (.getfield 28, 3) := by decide +kernel
theorem dX2_finish_4 : decode cX2_finish 4 = .ok (.getfield 86, 3) := by decide +kernel
theorem dX2_finish_7 : decode cX2_finish 7 = .ok (.ifCond .ne 10, 3) := by decide +kernel
theorem dX2_finish_10 : decode cX2_finish 10 = .ok (.aload_n 0, 1) := by decide +kernel
theorem dX2_finish_11 : decode cX2_finish 11 = .ok (.invokevirtual 99, 3) := by decide +kernel
theorem dX2_finish_14 : decode cX2_finish 14 = .ok (.goto 7, 3) := by decide +kernel
theorem dX2_finish_17 : decode cX2_finish 17 = .ok (.aload_n 0, 1) := by decide +kernel
theorem dX2_finish_18 : decode cX2_finish 18 = .ok (.invokevirtual 102, 3) := by decide +kernel
theorem dX2_finish_21 : decode cX2_finish 21 = .ok (.return_, 1) := by decide +kernel
theorem dX2_retires_0 : decode cX2_retires 0 = .ok (.aload_n 0, 1) := by decide +kernel
theorem dX2_retires_1 : decode cX2_retires 1 = .ok (.getfield 28, 3) := by decide +kernel
theorem dX2_retires_4 : decode cX2_retires 4 = .ok (.getfield 86, 3) := by decide +kernel
theorem dX2_retires_7 : decode cX2_retires 7 = .ok (.ifCond .ne 7, 3) := by decide +kernel
theorem dX2_retires_10 : decode cX2_retires 10 = .ok (.iconst 1, 1) := by decide +kernel
theorem dX2_retires_11 : decode cX2_retires 11 = .ok (.goto 4, 3) := by decide +kernel
theorem dX2_retires_14 : decode cX2_retires 14 = .ok (.iconst 0, 1) := by decide +kernel
theorem dX2_retires_15 : decode cX2_retires 15 = .ok (.ireturn, 1) := by decide +kernel
set_option maxRecDepth 1000000 in
theorem ggX2_workOut_X2_isIllegal : GoodIn wsX2_workOut wsX2_isIllegal := goodIn_r _ [12, 3, 13, 14, 1, 15, 4, 16, 17, 18, 19, 20, 21, 22, 23, 222, 223, 224, 225, 226, 227, 228, 229, 230, 231, 232, 233, 234, 235, 236, 237, 238, 239, 240, 241, 242, 243, 244, 245, 246, 247, 248, 249, 250] rfl (by decide +kernel)
set_option maxRecDepth 1000000 in
theorem gX2_workOut_X2_isIllegal : GoodIn wsX2_workOut (wsV RX2 105 RX2 yX2_isIllegal wsX2_isIllegal) := goodIn_app (goodIn_of _ (by decide +kernel)) ggX2_workOut_X2_isIllegal
set_option maxRecDepth 1000000 in
theorem ggX2_workOut_X3_is : GoodIn wsX2_workOut wsX3_is := goodIn_r _ [22, 23, 243, 244, 245, 246, 247, 248, 249, 250] (by decide +kernel) (by decide +kernel)
set_option maxRecDepth 1000000 in
theorem gX2_workOut_X3_is : GoodIn wsX2_workOut (wsV RX2 108 RX3 yX3_is wsX3_is) := goodIn_app (goodIn_of _ (by decide +kernel)) ggX2_workOut_X3_is
set_option maxRecDepth 1000000 in
theorem ggX2_workOut_X2_branch : GoodIn wsX2_workOut wsX2_branch := goodIn_r _ [27, 1, 15, 3, 17, 28, 4, 29, 30, 31, 5, 7, 32, 222, 223, 224, 225, 226, 227, 228, 229, 230, 231, 232, 233, 234, 235, 236, 243, 244, 245, 246, 247, 248, 249, 250, 237, 238, 239, 240, 241, 242] rfl (by decide +kernel)
set_option maxRecDepth 1000000 in
theorem gX2_workOut_X2_branch : GoodIn wsX2_workOut (wsV RX2 112 RX2 yX2_branch wsX2_branch) := goodIn_app (goodIn_of _ (by decide +kernel)) ggX2_workOut_X2_branch
set_option maxRecDepth 1000000 in
theorem ggX2_workOut_X2_access : GoodIn wsX2_workOut wsX2_access := goodIn_r _ [36, 4, 5, 3, 6, 37, 17, 1, 38, 39, 15, 40, 41, 42, 43, 44, 30, 45, 46, 11, 47, 48, 49, 50, 51, 52, 53, 54, 55, 18, 19, 20, 21, 22, 23, 56, 57, 58, 59, 60, 61, 62, 63, 64, 65, 66, 67, 68, 69, 70, 71, 72, 73, 74, 75, 76, 77, 78, 79, 80, 81, 82, 83, 84, 85, 86, 87, 88, 89, 90, 91, 92, 93, 94, 95, 96, 97, 98, 99, 100, 101, 222, 223, 224, 225, 237, 238, 239, 240, 241, 242, 243, 244, 245, 246, 247, 248, 249, 250, 251, 252, 253, 254, 255, 256, 257, 258, 259, 260, 261, 262, 263, 226, 227, 228, 229, 230, 231, 232, 233, 234, 235, 236, 264, 265, 266] rfl (by decide +kernel)
set_option maxRecDepth 1000000 in
theorem gX2_workOut_X2_access : GoodIn wsX2_workOut (wsV RX2 115 RX2 yX2_access wsX2_access) := goodIn_app (goodIn_of _ (by decide +kernel)) ggX2_workOut_X2_access
set_option maxRecDepth 1000000 in
theorem ggX2_workOut_X2_single : GoodIn wsX2_workOut wsX2_single := goodIn_r _ [105, 3, 17, 1, 4, 38, 106, 30, 2, 107, 108, 109, 110, 111, 112, 113, 114, 115, 116, 117, 118, 119, 120, 121, 122, 123, 124, 125, 126, 127, 128, 129, 130, 131, 132, 133, 134, 135, 136, 137, 138, 139, 140, 59, 141, 61, 142, 143, 144, 145, 68, 222, 223, 224, 225, 243, 244, 245, 246, 247, 248, 249, 250, 237, 238, 239, 240, 241, 242, 226, 227, 228, 229, 230, 231, 232, 233, 234, 235, 236, 251, 252, 253, 254, 255, 256, 257, 258, 259, 260, 261, 262, 263, 267, 268, 269, 270, 264, 265] rfl (by decide +kernel)
set_option maxRecDepth 1000000 in
theorem gX2_workOut_X2_single : GoodIn wsX2_workOut (wsV RX2 118 RX2 yX2_single wsX2_single) := goodIn_app (goodIn_of _ (by decide +kernel)) ggX2_workOut_X2_single
set_option maxRecDepth 1000000 in
theorem ggX2_workOut_X2_compare : GoodIn wsX2_workOut wsX2_compare := goodIn_r _ [149, 4, 5, 3, 6, 7, 37, 42, 1, 18, 19, 20, 21, 22, 23, 150, 151, 152, 153, 154, 155, 156, 157, 158, 159, 160, 11, 161, 162, 163, 164, 51, 165, 166, 222, 223, 224, 225, 237, 238, 239, 240, 241, 242, 243, 244, 245, 246, 247, 248, 249, 250, 226, 227, 228, 229, 230, 231, 232, 233, 234, 235, 236] rfl (by decide +kernel)
set_option maxRecDepth 1000000 in
theorem gX2_workOut_X2_compare : GoodIn wsX2_workOut (wsV RX2 121 RX2 yX2_compare wsX2_compare) := goodIn_app (goodIn_of _ (by decide +kernel)) ggX2_workOut_X2_compare
set_option maxRecDepth 1000000 in
theorem ggX2_workOut_X2_calculate : GoodIn wsX2_workOut wsX2_calculate := goodIn_r _ [170, 1, 15, 3, 37, 17, 171, 30, 106, 172, 173, 174, 11, 175, 176, 162, 163, 164, 51, 165, 166, 177, 178, 179, 180, 53, 181, 182, 183, 184, 185, 150, 151, 152, 153, 154, 155, 156, 157, 186, 187, 188, 189, 190, 191, 192, 193, 194, 195, 196, 197, 198, 199, 200, 201, 202, 203, 204, 205, 206, 207, 208, 209, 210, 211, 212, 213, 214, 215, 216, 217, 218, 219, 220, 221, 222, 223, 224, 225, 226, 227, 228, 229, 230, 231, 232, 233, 234, 235, 236, 243, 244, 245, 246, 247, 248, 249, 250] rfl (by decide +kernel)
set_option maxRecDepth 1000000 in
theorem gX2_workOut_X2_calculate : GoodIn wsX2_workOut (wsV RX2 134 RX2 yX2_calculate wsX2_calculate) := goodIn_app (goodIn_of _ (by decide +kernel)) ggX2_workOut_X2_calculate
theorem dX2_workOut_0 : decode cX2_workOut 0 = .ok (.aload_n 0, 1) := by decide +kernel
theorem dX2_workOut_1 : decode cX2_workOut 1 = .ok (.invokevirtual 105, 3) := by decide +kernel
theorem dX2_workOut_4 : decode cX2_workOut 4 = .ok (.ifCond .eq 15, 3) := by decide +kernel
theorem dX2_workOut_7 : decode cX2_workOut 7 = .ok (.aload_n 0, 1) := by decide +kernel
theorem dX2_workOut_8 : decode cX2_workOut 8 = .ok (.getfield 28, 3) := by decide +kernel
theorem dX2_workOut_11 : decode cX2_workOut 11 = .ok (.bipush 7, 2) := by decide +kernel
theorem dX2_workOut_13 : decode cX2_workOut 13 = .ok (.putfield 86, 3) := by decide +kernel
theorem dX2_workOut_16 : decode cX2_workOut 16 = .ok (.goto 117, 3) := by decide +kernel
theorem dX2_workOut_19 : decode cX2_workOut 19 = .ok (.aload_n 0, 1) := by decide +kernel
theorem dX2_workOut_20 : decode cX2_workOut 20 = .ok (.getfield 21, 3) := by decide +kernel
theorem dX2_workOut_23 : decode cX2_workOut 23 = .ok (.sipush 8192, 3) := by decide +kernel
theorem dX2_workOut_26 : decode cX2_workOut 26 = .ok (.invokevirtual 108, 3) := by decide +kernel
theorem dX2_workOut_29 : decode cX2_workOut 29 = .ok (.ifCond .eq 10, 3) := by decide +kernel
theorem dX2_workOut_32 : decode cX2_workOut 32 = .ok (.aload_n 0, 1) := by decide +kernel
theorem dX2_workOut_33 : decode cX2_workOut 33 = .ok (.invokevirtual 112, 3) := by decide +kernel
theorem dX2_workOut_36 : decode cX2_workOut 36 = .ok (.goto 97, 3) := by decide +kernel
theorem dX2_workOut_39 : decode cX2_workOut 39 = .ok (.aload_n 0, 1) := by decide +kernel
theorem dX2_workOut_40 : decode cX2_workOut 40 = .ok (.getfield 21, 3) := by decide +kernel
theorem dX2_workOut_43 : decode cX2_workOut 43 = .ok (.sipush 1536, 3) := by decide +kernel
theorem dX2_workOut_46 : decode cX2_workOut 46 = .ok (.invokevirtual 108, 3) := by decide +kernel
theorem dX2_workOut_49 : decode cX2_workOut 49 = .ok (.ifCond .eq 10, 3) := by decide +kernel
theorem dX2_workOut_52 : decode cX2_workOut 52 = .ok (.aload_n 0, 1) := by decide +kernel
theorem dX2_workOut_53 : decode cX2_workOut 53 = .ok (.invokevirtual 115, 3) := by decide +kernel
theorem dX2_workOut_56 : decode cX2_workOut 56 = .ok (.goto 77, 3) := by decide +kernel
theorem dX2_workOut_59 : decode cX2_workOut 59 = .ok (.aload_n 0, 1) := by decide +kernel
theorem dX2_workOut_60 : decode cX2_workOut 60 = .ok (.getfield 21, 3) := by decide +kernel
theorem dX2_workOut_63 : decode cX2_workOut 63 = .ok (.sipush 16384, 3) := by decide +kernel
theorem dX2_workOut_66 : decode cX2_workOut 66 = .ok (.invokevirtual 108, 3) := by decide +kernel
theorem dX2_workOut_69 : decode cX2_workOut 69 = .ok (.ifCond .eq 10, 3) := by decide +kernel
theorem dX2_workOut_72 : decode cX2_workOut 72 = .ok (.aload_n 0, 1) := by decide +kernel
theorem dX2_workOut_73 : decode cX2_workOut 73 = .ok (.invokevirtual 118, 3) := by decide +kernel
theorem dX2_workOut_76 : decode cX2_workOut 76 = .ok (.goto 57, 3) := by decide +kernel
theorem dX2_workOut_79 : decode cX2_workOut 79 = .ok (.aload_n 0, 1) := by decide +kernel
theorem dX2_workOut_80 : decode cX2_workOut 80 = .ok (.getfield 21, 3) := by decide +kernel
theorem dX2_workOut_83 : decode cX2_workOut 83 = .ok (.sipush 128, 3) := by decide +kernel
theorem dX2_workOut_86 : decode cX2_workOut 86 = .ok (.invokevirtual 108, 3) := by decide +kernel
theorem dX2_workOut_89 : decode cX2_workOut 89 = .ok (.ifCond .eq 10, 3) := by decide +kernel
theorem dX2_workOut_92 : decode cX2_workOut 92 = .ok (.aload_n 0, 1) := by decide +kernel
theorem dX2_workOut_93 : decode cX2_workOut 93 = .ok (.invokevirtual 121, 3) := by decide +kernel
theorem dX2_workOut_96 : decode cX2_workOut 96 = .ok (.goto 37, 3) := by decide +kernel
theorem dX2_workOut_99 : decode cX2_workOut 99 = .ok (.aload_n 0, 1) := by decide +kernel
theorem dX2_workOut_100 : decode cX2_workOut 100 = .ok (.aload_n 0, 1) := by decide +kernel
theorem dX2_workOut_101 : decode cX2_workOut 101 = .ok (.getfield 37, 3) := by decide +kernel
theorem dX2_workOut_104 : decode cX2_workOut 104 = .ok (.getfield 124, 3) := by decide +kernel
theorem dX2_workOut_107 : decode cX2_workOut 107 = .ok (.aload_n 0, 1) := by decide +kernel
theorem dX2_workOut_108 : decode cX2_workOut 108 = .ok (.getfield 21, 3) := by decide +kernel
theorem dX2_workOut_111 : decode cX2_workOut 111 = .ok (.getfield 128, 3) := by decide +kernel
theorem dX2_workOut_114 : decode cX2_workOut 114 = .ok (.iaload, 1) := by decide +kernel
theorem dX2_workOut_115 : decode cX2_workOut 115 = .ok (.aload_n 0, 1) := by decide +kernel
theorem dX2_workOut_116 : decode cX2_workOut 116 = .ok (.getfield 37, 3) := by decide +kernel
theorem dX2_workOut_119 : decode cX2_workOut 119 = .ok (.getfield 124, 3) := by decide +kernel
theorem dX2_workOut_122 : decode cX2_workOut 122 = .ok (.aload_n 0, 1) := by decide +kernel
theorem dX2_workOut_123 : decode cX2_workOut 123 = .ok (.getfield 21, 3) := by decide +kernel
theorem dX2_workOut_126 : decode cX2_workOut 126 = .ok (.getfield 131, 3) := by decide +kernel
theorem dX2_workOut_129 : decode cX2_workOut 129 = .ok (.iaload, 1) := by decide +kernel
theorem dX2_workOut_130 : decode cX2_workOut 130 = .ok (.invokevirtual 134, 3) := by decide +kernel
theorem dX2_workOut_133 : decode cX2_workOut 133 = .ok (.return_, 1) := by decide +kernel
set_option maxRecDepth 1000000 in
theorem ggX2_isIllegal_X3_is : GoodIn wsX2_isIllegal wsX3_is := goodIn_r _ [13, 14, 36, 37, 38, 39, 40, 41, 42, 43] (by decide +kernel) (by decide +kernel)
set_option maxRecDepth 1000000 in
theorem gX2_isIllegal_X3_is : GoodIn wsX2_isIllegal (wsV RX2 108 RX3 yX3_is wsX3_is) := goodIn_app (goodIn_of _ (by decide +kernel)) ggX2_isIllegal_X3_is
theorem dX2_isIllegal_0 : decode cX2_isIllegal 0 = .ok (.aload_n 0, 1) := by decide +kernel
theorem dX2_isIllegal_1 : decode cX2_isIllegal 1 = .ok (.getfield 21, 3) := by decide +kernel
theorem dX2_isIllegal_4 : decode cX2_isIllegal 4 = .ok (.ldc 137, 2) := by decide +kernel
theorem dX2_isIllegal_6 : decode cX2_isIllegal 6 = .ok (.invokevirtual 108, 3) := by decide +kernel
theorem dX2_isIllegal_9 : decode cX2_isIllegal 9 = .ok (.ifCond .eq 5, 3) := by decide +kernel
theorem dX2_isIllegal_12 : decode cX2_isIllegal 12 = .ok (.iconst 1, 1) := by decide +kernel
theorem dX2_isIllegal_13 : decode cX2_isIllegal 13 = .ok (.ireturn, 1) := by decide +kernel
theorem dX2_isIllegal_14 : decode cX2_isIllegal 14 = .ok (.aload_n 0, 1) := by decide +kernel
theorem dX2_isIllegal_15 : decode cX2_isIllegal 15 = .ok (.getfield 21, 3) := by decide +kernel
theorem dX2_isIllegal_18 : decode cX2_isIllegal 18 = .ok (.ldc 138, 2) := by decide +kernel
theorem dX2_isIllegal_20 : decode cX2_isIllegal 20 = .ok (.invokevirtual 108, 3) := by decide +kernel
theorem dX2_isIllegal_23 : decode cX2_isIllegal 23 = .ok (.ifCond .eq 17, 3) := by decide +kernel
theorem dX2_isIllegal_26 : decode cX2_isIllegal 26 = .ok (.aload_n 0, 1) := by decide +kernel
theorem dX2_isIllegal_27 : decode cX2_isIllegal 27 = .ok (.getfield 28, 3) := by decide +kernel
theorem dX2_isIllegal_30 : decode cX2_isIllegal 30 = .ok (.getfield 139, 3) := by decide +kernel
theorem dX2_isIllegal_33 : decode cX2_isIllegal 33 = .ok (.iconst 1, 1) := by decide +kernel
theorem dX2_isIllegal_34 : decode cX2_isIllegal 34 = .ok (.iand, 1) := by decide +kernel
theorem dX2_isIllegal_35 : decode cX2_isIllegal 35 = .ok (.ifCond .ne 5, 3) := by decide +kernel
theorem dX2_isIllegal_38 : decode cX2_isIllegal 38 = .ok (.iconst 1, 1) := by decide +kernel
theorem dX2_isIllegal_39 : decode cX2_isIllegal 39 = .ok (.ireturn, 1) := by decide +kernel
theorem dX2_isIllegal_40 : decode cX2_isIllegal 40 = .ok (.aload_n 0, 1) := by decide +kernel
theorem dX2_isIllegal_41 : decode cX2_isIllegal 41 = .ok (.getfield 37, 3) := by decide +kernel
theorem dX2_isIllegal_44 : decode cX2_isIllegal 44 = .ok (.getfield 140, 3) := by decide +kernel
theorem dX2_isIllegal_47 : decode cX2_isIllegal 47 = .ok (.ifCond .eq 32, 3) := by decide +kernel
theorem dX2_isIllegal_50 : decode cX2_isIllegal 50 = .ok (.aload_n 0, 1) := by decide +kernel
theorem dX2_isIllegal_51 : decode cX2_isIllegal 51 = .ok (.getfield 21, 3) := by decide +kernel
theorem dX2_isIllegal_54 : decode cX2_isIllegal 54 = .ok (.sipush 8192, 3) := by decide +kernel
theorem dX2_isIllegal_57 : decode cX2_isIllegal 57 = .ok (.invokevirtual 108, 3) := by decide +kernel
theorem dX2_isIllegal_60 : decode cX2_isIllegal 60 = .ok (.ifCond .ne 15, 3) := by decide +kernel
theorem dX2_isIllegal_63 : decode cX2_isIllegal 63 = .ok (.aload_n 0, 1) := by decide +kernel
theorem dX2_isIllegal_64 : decode cX2_isIllegal 64 = .ok (.getfield 21, 3) := by decide +kernel
theorem dX2_isIllegal_67 : decode cX2_isIllegal 67 = .ok (.getfield 144, 3) := by decide +kernel
theorem dX2_isIllegal_70 : decode cX2_isIllegal 70 = .ok (.bipush 33, 2) := by decide +kernel
theorem dX2_isIllegal_72 : decode cX2_isIllegal 72 = .ok (.if_icmp .ne 7, 3) := by decide +kernel
theorem dX2_isIllegal_75 : decode cX2_isIllegal 75 = .ok (.iconst 1, 1) := by decide +kernel
theorem dX2_isIllegal_76 : decode cX2_isIllegal 76 = .ok (.goto 4, 3) := by decide +kernel
theorem dX2_isIllegal_79 : decode cX2_isIllegal 79 = .ok (.iconst 0, 1) := by decide +kernel
theorem dX2_isIllegal_80 : decode cX2_isIllegal 80 = .ok (.ireturn, 1) := by decide +kernel
theorem dX2_branch_0 : decode cX2_branch 0 = .ok (.aload_n 0, 1) := by decide +kernel
theorem dX2_branch_1 : decode cX2_branch 1 = .ok (.getfield 28, 3) := by decide +kernel
theorem dX2_branch_4 : decode cX2_branch 4 = .ok (.getfield 139, 3) := by decide +kernel
theorem dX2_branch_7 : decode cX2_branch 7 = .ok (.bipush 32, 2) := by decide +kernel
theorem dX2_branch_9 : decode cX2_branch 9 = .ok (.iand, 1) := by decide +kernel
theorem dX2_branch_10 : decode cX2_branch 10 = .ok (.ifCond .eq 7, 3) := by decide +kernel
theorem dX2_branch_13 : decode cX2_branch 13 = .ok (.iconst 1, 1) := by decide +kernel
theorem dX2_branch_14 : decode cX2_branch 14 = .ok (.goto 4, 3) := by decide +kernel
theorem dX2_branch_17 : decode cX2_branch 17 = .ok (.iconst 0, 1) := by decide +kernel
theorem dX2_branch_18 : decode cX2_branch 18 = .ok (.istore_n 1, 1) := by decide +kernel
theorem dX2_branch_19 : decode cX2_branch 19 = .ok (.aload_n 0, 1) := by decide +kernel
theorem dX2_branch_20 : decode cX2_branch 20 = .ok (.getfield 21, 3) := by decide +kernel
theorem dX2_branch_23 : decode cX2_branch 23 = .ok (.getfield 144, 3) := by decide +kernel
theorem dX2_branch_26 : decode cX2_branch 26 = .ok (.istore_n 2, 1) := by decide +kernel
theorem dX2_branch_27 : decode cX2_branch 27 = .ok (.aload_n 0, 1) := by decide +kernel
theorem dX2_branch_28 : decode cX2_branch 28 = .ok (.getfield 28, 3) := by decide +kernel
theorem dX2_branch_31 : decode cX2_branch 31 = .ok (.iload_n 2, 1) := by decide +kernel
theorem dX2_branch_32 : decode cX2_branch 32 = .ok (.bipush 22, 2) := by decide +kernel
theorem dX2_branch_34 : decode cX2_branch 34 = .ok (.if_icmp .ne 7, 3) := by decide +kernel
theorem dX2_branch_37 : decode cX2_branch 37 = .ok (.iload_n 1, 1) := by decide +kernel
theorem dX2_branch_38 : decode cX2_branch 38 = .ok (.goto 18, 3) := by decide +kernel
theorem dX2_branch_41 : decode cX2_branch 41 = .ok (.iload_n 2, 1) := by decide +kernel
theorem dX2_branch_42 : decode cX2_branch 42 = .ok (.bipush 23, 2) := by decide +kernel
theorem dX2_branch_44 : decode cX2_branch 44 = .ok (.if_icmp .ne 7, 3) := by decide +kernel
theorem dX2_branch_47 : decode cX2_branch 47 = .ok (.iload_n 1, 1) := by decide +kernel
theorem dX2_branch_48 : decode cX2_branch 48 = .ok (.ifCond .ne 7, 3) := by decide +kernel
theorem dX2_branch_51 : decode cX2_branch 51 = .ok (.iconst 1, 1) := by decide +kernel
theorem dX2_branch_52 : decode cX2_branch 52 = .ok (.goto 4, 3) := by decide +kernel
theorem dX2_branch_55 : decode cX2_branch 55 = .ok (.iconst 0, 1) := by decide +kernel
theorem dX2_branch_56 : decode cX2_branch 56 = .ok (.putfield 147, 3) := by decide +kernel
theorem dX2_branch_59 : decode cX2_branch 59 = .ok (.aload_n 0, 1) := by decide +kernel
theorem dX2_branch_60 : decode cX2_branch 60 = .ok (.getfield 28, 3) := by decide +kernel
theorem dX2_branch_63 : decode cX2_branch 63 = .ok (.aload_n 0, 1) := by decide +kernel
theorem dX2_branch_64 : decode cX2_branch 64 = .ok (.getfield 37, 3) := by decide +kernel
theorem dX2_branch_67 : decode cX2_branch 67 = .ok (.getfield 63, 3) := by decide +kernel
theorem dX2_branch_70 : decode cX2_branch 70 = .ok (.bipush 8, 2) := by decide +kernel
theorem dX2_branch_72 : decode cX2_branch 72 = .ok (.iadd, 1) := by decide +kernel
theorem dX2_branch_73 : decode cX2_branch 73 = .ok (.putfield 150, 3) := by decide +kernel
theorem dX2_branch_76 : decode cX2_branch 76 = .ok (.aload_n 0, 1) := by decide +kernel
theorem dX2_branch_77 : decode cX2_branch 77 = .ok (.getfield 28, 3) := by decide +kernel
theorem dX2_branch_80 : decode cX2_branch 80 = .ok (.getfield 147, 3) := by decide +kernel
theorem dX2_branch_83 : decode cX2_branch 83 = .ok (.ifCond .ne 23, 3) := by decide +kernel
theorem dX2_branch_86 : decode cX2_branch 86 = .ok (.aload_n 0, 1) := by decide +kernel
theorem dX2_branch_87 : decode cX2_branch 87 = .ok (.getfield 28, 3) := by decide +kernel
theorem dX2_branch_90 : decode cX2_branch 90 = .ok (.aload_n 0, 1) := by decide +kernel
theorem dX2_branch_91 : decode cX2_branch 91 = .ok (.getfield 37, 3) := by decide +kernel
theorem dX2_branch_94 : decode cX2_branch 94 = .ok (.getfield 63, 3) := by decide +kernel
theorem dX2_branch_97 : decode cX2_branch 97 = .ok (.bipush 8, 2) := by decide +kernel
theorem dX2_branch_99 : decode cX2_branch 99 = .ok (.iadd, 1) := by decide +kernel
theorem dX2_branch_100 : decode cX2_branch 100 = .ok (.putfield 153, 3) := by decide +kernel
theorem dX2_branch_103 : decode cX2_branch 103 = .ok (.goto 58, 3) := by decide +kernel
theorem dX2_branch_106 : decode cX2_branch 106 = .ok (.iload_n 2, 1) := by decide +kernel
theorem dX2_branch_107 : decode cX2_branch 107 = .ok (.bipush 24, 2) := by decide +kernel
theorem dX2_branch_109 : decode cX2_branch 109 = .ok (.if_icmp .lt 28, 3) := by decide +kernel
theorem dX2_branch_112 : decode cX2_branch 112 = .ok (.aload_n 0, 1) := by decide +kernel
theorem dX2_branch_113 : decode cX2_branch 113 = .ok (.getfield 28, 3) := by decide +kernel
theorem dX2_branch_116 : decode cX2_branch 116 = .ok (.aload_n 0, 1) := by decide +kernel
theorem dX2_branch_117 : decode cX2_branch 117 = .ok (.getfield 37, 3) := by decide +kernel
theorem dX2_branch_120 : decode cX2_branch 120 = .ok (.getfield 124, 3) := by decide +kernel
theorem dX2_branch_123 : decode cX2_branch 123 = .ok (.aload_n 0, 1) := by decide +kernel
theorem dX2_branch_124 : decode cX2_branch 124 = .ok (.getfield 21, 3) := by decide +kernel
theorem dX2_branch_127 : decode cX2_branch 127 = .ok (.getfield 131, 3) := by decide +kernel
theorem dX2_branch_130 : decode cX2_branch 130 = .ok (.iaload, 1) := by decide +kernel
theorem dX2_branch_131 : decode cX2_branch 131 = .ok (.putfield 153, 3) := by decide +kernel
theorem dX2_branch_134 : decode cX2_branch 134 = .ok (.goto 27, 3) := by decide +kernel
theorem dX2_branch_137 : decode cX2_branch 137 = .ok (.aload_n 0, 1) := by decide +kernel
theorem dX2_branch_138 : decode cX2_branch 138 = .ok (.getfield 28, 3) := by decide +kernel
theorem dX2_branch_141 : decode cX2_branch 141 = .ok (.aload_n 0, 1) := by decide +kernel
theorem dX2_branch_142 : decode cX2_branch 142 = .ok (.getfield 37, 3) := by decide +kernel
theorem dX2_branch_145 : decode cX2_branch 145 = .ok (.getfield 63, 3) := by decide +kernel
theorem dX2_branch_148 : decode cX2_branch 148 = .ok (.iconst 4, 1) := by decide +kernel
theorem dX2_branch_149 : decode cX2_branch 149 = .ok (.aload_n 0, 1) := by decide +kernel
theorem dX2_branch_150 : decode cX2_branch 150 = .ok (.getfield 21, 3) := by decide +kernel
theorem dX2_branch_153 : decode cX2_branch 153 = .ok (.getfield 156, 3) := by decide +kernel
theorem dX2_branch_156 : decode cX2_branch 156 = .ok (.imul, 1) := by decide +kernel
theorem dX2_branch_157 : decode cX2_branch 157 = .ok (.iadd, 1) := by decide +kernel
theorem dX2_branch_158 : decode cX2_branch 158 = .ok (.putfield 153, 3) := by decide +kernel
theorem dX2_branch_161 : decode cX2_branch 161 = .ok (.return_, 1) := by decide +kernel
set_option maxRecDepth 1000000 in
theorem ggX2_access_X2_sizeOf : GoodIn wsX2_access wsX2_sizeOf := goodIn_r _ [20] (by decide +kernel) (by decide +kernel)
set_option maxRecDepth 1000000 in
theorem gX2_access_X2_sizeOf : GoodIn wsX2_access (va_wsS RX2 162 yX2_sizeOf wsX2_sizeOf) := goodIn_app (goodIn_of _ (by decide +kernel)) ggX2_access_X2_sizeOf
set_option maxRecDepth 1000000 in
theorem ggX2_access_X0_failAt : GoodIn wsX2_access wsX0_failAt := goodIn_r _ [25, 26, 27, 28, 112, 113, 114, 115, 116, 117, 118, 119, 120, 121, 122] (by decide +kernel) (by decide +kernel)
set_option maxRecDepth 1000000 in
theorem gX2_access_X0_failAt : GoodIn wsX2_access (wsV RX2 92 RX0 yX0_failAt wsX0_failAt) := goodIn_app (goodIn_of _ (by decide +kernel)) ggX2_access_X0_failAt
set_option maxRecDepth 1000000 in
theorem ggX2_access_X3_is : GoodIn wsX2_access wsX3_is := goodIn_r _ [33, 34, 91, 92, 93, 94, 95, 96, 97, 98] (by decide +kernel) (by decide +kernel)
set_option maxRecDepth 1000000 in
theorem gX2_access_X3_is : GoodIn wsX2_access (wsV RX2 108 RX3 yX3_is wsX3_is) := goodIn_app (goodIn_of _ (by decide +kernel)) ggX2_access_X3_is
set_option maxRecDepth 1000000 in
theorem ggX2_access_X5_dataPlace : GoodIn wsX2_access wsX5_dataPlace := goodIn_r _ [39, 40, 41, 42, 43, 44, 45, 38, 46, 47, 48, 49, 50, 51, 52, 53, 123, 124] (by decide +kernel) (by decide +kernel)
set_option maxRecDepth 1000000 in
theorem gX2_access_X5_dataPlace : GoodIn wsX2_access (wsV RX2 165 RX5 yX5_dataPlace wsX5_dataPlace) := goodIn_app (goodIn_of _ (by decide +kernel)) ggX2_access_X5_dataPlace
set_option maxRecDepth 1000000 in
theorem ggX2_access_X6_maskOf : GoodIn wsX2_access wsX6_maskOf := goodIn_r _ [57] (by decide +kernel) (by decide +kernel)
set_option maxRecDepth 1000000 in
theorem gX2_access_X6_maskOf : GoodIn wsX2_access (va_wsS RX2 178 yX6_maskOf wsX6_maskOf) := goodIn_app (goodIn_of _ (by decide +kernel)) ggX2_access_X6_maskOf
set_option maxRecDepth 1000000 in
theorem ggX2_access_X6_load : GoodIn wsX2_access wsX6_load := goodIn_r _ [61, 62, 63, 64, 56, 65, 66, 67, 68, 69, 70, 71, 72, 73, 74, 75, 76, 55, 57, 125] (by decide +kernel) (by decide +kernel)
set_option maxRecDepth 1000000 in
theorem gX2_access_X6_load : GoodIn wsX2_access (wsV RX2 184 RX6 yX6_load wsX6_load) := goodIn_app (goodIn_of _ (by decide +kernel)) ggX2_access_X6_load
set_option maxRecDepth 1000000 in
theorem ggX2_access_X2_extend : GoodIn wsX2_access wsX2_extend := goodIn_r _ [80, 3, 6, 81, 82, 83, 84, 91, 92, 93, 94, 95, 96, 97, 98] (by decide +kernel) (by decide +kernel)
set_option maxRecDepth 1000000 in
theorem gX2_access_X2_extend : GoodIn wsX2_access (wsV RX2 187 RX2 yX2_extend wsX2_extend) := goodIn_app (goodIn_of _ (by decide +kernel)) ggX2_access_X2_extend
theorem dX2_access_0 : decode cX2_access 0 = .ok (.aload_n 0, 1) := by decide +kernel
theorem dX2_access_1 : decode cX2_access 1 = .ok (.getfield 37, 3) := by decide +kernel
theorem dX2_access_4 : decode cX2_access 4 = .ok (.getfield 124, 3) := by decide +kernel
theorem dX2_access_7 : decode cX2_access 7 = .ok (.aload_n 0, 1) := by decide +kernel
theorem dX2_access_8 : decode cX2_access 8 = .ok (.getfield 21, 3) := by decide +kernel
theorem dX2_access_11 : decode cX2_access 11 = .ok (.getfield 128, 3) := by decide +kernel
theorem dX2_access_14 : decode cX2_access 14 = .ok (.iaload, 1) := by decide +kernel
theorem dX2_access_15 : decode cX2_access 15 = .ok (.aload_n 0, 1) := by decide +kernel
theorem dX2_access_16 : decode cX2_access 16 = .ok (.getfield 21, 3) := by decide +kernel
theorem dX2_access_19 : decode cX2_access 19 = .ok (.getfield 159, 3) := by decide +kernel
theorem dX2_access_22 : decode cX2_access 22 = .ok (.iadd, 1) := by decide +kernel
theorem dX2_access_23 : decode cX2_access 23 = .ok (.istore_n 1, 1) := by decide +kernel
theorem dX2_access_24 : decode cX2_access 24 = .ok (.aload_n 0, 1) := by decide +kernel
theorem dX2_access_25 : decode cX2_access 25 = .ok (.getfield 21, 3) := by decide +kernel
theorem dX2_access_28 : decode cX2_access 28 = .ok (.getfield 144, 3) := by decide +kernel
theorem dX2_access_31 : decode cX2_access 31 = .ok (.invokestatic 162, 3) := by decide +kernel
theorem dX2_access_34 : decode cX2_access 34 = .ok (.istore_n 2, 1) := by decide +kernel
theorem dX2_access_35 : decode cX2_access 35 = .ok (.iload_n 1, 1) := by decide +kernel
theorem dX2_access_36 : decode cX2_access 36 = .ok (.iload_n 2, 1) := by decide +kernel
theorem dX2_access_37 : decode cX2_access 37 = .ok (.iconst 1, 1) := by decide +kernel
theorem dX2_access_38 : decode cX2_access 38 = .ok (.isub, 1) := by decide +kernel
theorem dX2_access_39 : decode cX2_access 39 = .ok (.iand, 1) := by decide +kernel
theorem dX2_access_40 : decode cX2_access 40 = .ok (.ifCond .eq 14, 3) := by decide +kernel
theorem dX2_access_43 : decode cX2_access 43 = .ok (.aload_n 0, 1) := by decide +kernel
theorem dX2_access_44 : decode cX2_access 44 = .ok (.getfield 28, 3) := by decide +kernel
theorem dX2_access_47 : decode cX2_access 47 = .ok (.bipush 6, 2) := by decide +kernel
theorem dX2_access_49 : decode cX2_access 49 = .ok (.iload_n 1, 1) := by decide +kernel
theorem dX2_access_50 : decode cX2_access 50 = .ok (.invokevirtual 92, 3) := by decide +kernel
theorem dX2_access_53 : decode cX2_access 53 = .ok (.return_, 1) := by decide +kernel
theorem dX2_access_54 : decode cX2_access 54 = .ok (.aload_n 0, 1) := by decide +kernel
theorem dX2_access_55 : decode cX2_access 55 = .ok (.getfield 21, 3) := by decide +kernel
theorem dX2_access_58 : decode cX2_access 58 = .ok (.sipush 1024, 3) := by decide +kernel
theorem dX2_access_61 : decode cX2_access 61 = .ok (.invokevirtual 108, 3) := by decide +kernel
theorem dX2_access_64 : decode cX2_access 64 = .ok (.istore_n 3, 1) := by decide +kernel
theorem dX2_access_65 : decode cX2_access 65 = .ok (.aload_n 0, 1) := by decide +kernel
theorem dX2_access_66 : decode cX2_access 66 = .ok (.getfield 37, 3) := by decide +kernel
theorem dX2_access_69 : decode cX2_access 69 = .ok (.getfield 41, 3) := by decide +kernel
theorem dX2_access_72 : decode cX2_access 72 = .ok (.getfield 59, 3) := by decide +kernel
theorem dX2_access_75 : decode cX2_access 75 = .ok (.iload_n 1, 1) := by decide +kernel
theorem dX2_access_76 : decode cX2_access 76 = .ok (.aload_n 0, 1) := by decide +kernel
theorem dX2_access_77 : decode cX2_access 77 = .ok (.getfield 28, 3) := by decide +kernel
theorem dX2_access_80 : decode cX2_access 80 = .ok (.getfield 139, 3) := by decide +kernel
theorem dX2_access_83 : decode cX2_access 83 = .ok (.iload_n 3, 1) := by decide +kernel
theorem dX2_access_84 : decode cX2_access 84 = .ok (.invokevirtual 165, 3) := by decide +kernel
theorem dX2_access_87 : decode cX2_access 87 = .ok (.istore 4, 2) := by decide +kernel
theorem dX2_access_89 : decode cX2_access 89 = .ok (.iload 4, 2) := by decide +kernel
theorem dX2_access_91 : decode cX2_access 91 = .ok (.ifCond .ge 17, 3) := by decide +kernel
theorem dX2_access_94 : decode cX2_access 94 = .ok (.aload_n 0, 1) := by decide +kernel
theorem dX2_access_95 : decode cX2_access 95 = .ok (.getfield 28, 3) := by decide +kernel
theorem dX2_access_98 : decode cX2_access 98 = .ok (.iload 4, 2) := by decide +kernel
theorem dX2_access_100 : decode cX2_access 100 = .ok (.ineg, 1) := by decide +kernel
theorem dX2_access_101 : decode cX2_access 101 = .ok (.iload_n 1, 1) := by decide +kernel
theorem dX2_access_102 : decode cX2_access 102 = .ok (.invokevirtual 92, 3) := by decide +kernel
theorem dX2_access_105 : decode cX2_access 105 = .ok (.goto 75, 3) := by decide +kernel
theorem dX2_access_108 : decode cX2_access 108 = .ok (.iload_n 3, 1) := by decide +kernel
theorem dX2_access_109 : decode cX2_access 109 = .ok (.ifCond .eq 50, 3) := by decide +kernel
theorem dX2_access_112 : decode cX2_access 112 = .ok (.aload_n 0, 1) := by decide +kernel
theorem dX2_access_113 : decode cX2_access 113 = .ok (.getfield 28, 3) := by decide +kernel
theorem dX2_access_116 : decode cX2_access 116 = .ok (.iload_n 2, 1) := by decide +kernel
theorem dX2_access_117 : decode cX2_access 117 = .ok (.putfield 169, 3) := by decide +kernel
theorem dX2_access_120 : decode cX2_access 120 = .ok (.aload_n 0, 1) := by decide +kernel
theorem dX2_access_121 : decode cX2_access 121 = .ok (.getfield 28, 3) := by decide +kernel
theorem dX2_access_124 : decode cX2_access 124 = .ok (.iload 4, 2) := by decide +kernel
theorem dX2_access_126 : decode cX2_access 126 = .ok (.putfield 172, 3) := by decide +kernel
theorem dX2_access_129 : decode cX2_access 129 = .ok (.aload_n 0, 1) := by decide +kernel
theorem dX2_access_130 : decode cX2_access 130 = .ok (.getfield 28, 3) := by decide +kernel
theorem dX2_access_133 : decode cX2_access 133 = .ok (.aload_n 0, 1) := by decide +kernel
theorem dX2_access_134 : decode cX2_access 134 = .ok (.getfield 37, 3) := by decide +kernel
theorem dX2_access_137 : decode cX2_access 137 = .ok (.getfield 124, 3) := by decide +kernel
theorem dX2_access_140 : decode cX2_access 140 = .ok (.aload_n 0, 1) := by decide +kernel
theorem dX2_access_141 : decode cX2_access 141 = .ok (.getfield 21, 3) := by decide +kernel
theorem dX2_access_144 : decode cX2_access 144 = .ok (.getfield 175, 3) := by decide +kernel
theorem dX2_access_147 : decode cX2_access 147 = .ok (.iaload, 1) := by decide +kernel
theorem dX2_access_148 : decode cX2_access 148 = .ok (.iload_n 2, 1) := by decide +kernel
theorem dX2_access_149 : decode cX2_access 149 = .ok (.invokestatic 178, 3) := by decide +kernel
theorem dX2_access_152 : decode cX2_access 152 = .ok (.iand, 1) := by decide +kernel
theorem dX2_access_153 : decode cX2_access 153 = .ok (.putfield 181, 3) := by decide +kernel
theorem dX2_access_156 : decode cX2_access 156 = .ok (.goto 24, 3) := by decide +kernel
theorem dX2_access_159 : decode cX2_access 159 = .ok (.aload_n 0, 1) := by decide +kernel
theorem dX2_access_160 : decode cX2_access 160 = .ok (.getfield 28, 3) := by decide +kernel
theorem dX2_access_163 : decode cX2_access 163 = .ok (.aload_n 0, 1) := by decide +kernel
theorem dX2_access_164 : decode cX2_access 164 = .ok (.aload_n 0, 1) := by decide +kernel
theorem dX2_access_165 : decode cX2_access 165 = .ok (.getfield 12, 3) := by decide +kernel
theorem dX2_access_168 : decode cX2_access 168 = .ok (.iload 4, 2) := by decide +kernel
theorem dX2_access_170 : decode cX2_access 170 = .ok (.iload_n 2, 1) := by decide +kernel
theorem dX2_access_171 : decode cX2_access 171 = .ok (.invokevirtual 184, 3) := by decide +kernel
theorem dX2_access_174 : decode cX2_access 174 = .ok (.invokevirtual 187, 3) := by decide +kernel
theorem dX2_access_177 : decode cX2_access 177 = .ok (.putfield 150, 3) := by decide +kernel
theorem dX2_access_180 : decode cX2_access 180 = .ok (.return_, 1) := by decide +kernel
theorem dX2_extend_0 : decode cX2_extend 0 = .ok (.aload_n 0, 1) := by decide +kernel
theorem dX2_extend_1 : decode cX2_extend 1 = .ok (.getfield 21, 3) := by decide +kernel
theorem dX2_extend_4 : decode cX2_extend 4 = .ok (.getfield 144, 3) := by decide +kernel
theorem dX2_extend_7 : decode cX2_extend 7 = .ok (.lookupswitch 31 #[(51, 25), (53, 28)], 25) := by decide +kernel
theorem dX2_extend_32 : decode cX2_extend 32 = .ok (.iload_n 1, 1) := by decide +kernel
theorem dX2_extend_33 : decode cX2_extend 33 = .ok (.i2b, 1) := by decide +kernel
theorem dX2_extend_34 : decode cX2_extend 34 = .ok (.ireturn, 1) := by decide +kernel
theorem dX2_extend_35 : decode cX2_extend 35 = .ok (.iload_n 1, 1) := by decide +kernel
theorem dX2_extend_36 : decode cX2_extend 36 = .ok (.i2s, 1) := by decide +kernel
theorem dX2_extend_37 : decode cX2_extend 37 = .ok (.ireturn, 1) := by decide +kernel
theorem dX2_extend_38 : decode cX2_extend 38 = .ok (.iload_n 1, 1) := by decide +kernel
theorem dX2_extend_39 : decode cX2_extend 39 = .ok (.ireturn, 1) := by decide +kernel
theorem dX2_sizeOf_0 : decode cX2_sizeOf 0 = .ok (.iload_n 0, 1) := by decide +kernel
theorem dX2_sizeOf_1 : decode cX2_sizeOf 1 = .ok (.lookupswitch 63 #[(27, 59), (29, 59), (51, 59), (52, 61), (53, 61), (54, 61)], 59) := by decide +kernel
theorem dX2_sizeOf_60 : decode cX2_sizeOf 60 = .ok (.iconst 1, 1) := by decide +kernel
theorem dX2_sizeOf_61 : decode cX2_sizeOf 61 = .ok (.ireturn, 1) := by decide +kernel
theorem dX2_sizeOf_62 : decode cX2_sizeOf 62 = .ok (.iconst 2, 1) := by decide +kernel
theorem dX2_sizeOf_63 : decode cX2_sizeOf 63 = .ok (.ireturn, 1) := by decide +kernel
theorem dX2_sizeOf_64 : decode cX2_sizeOf 64 = .ok (.iconst 4, 1) := by decide +kernel
theorem dX2_sizeOf_65 : decode cX2_sizeOf 65 = .ok (.ireturn, 1) := by decide +kernel
set_option maxRecDepth 1000000 in
theorem ggX2_single_X8_read : GoodIn wsX2_single wsX8_read := goodIn_r _ [13, 14, 15, 16, 17, 18, 19, 20, 21, 22, 23, 24, 25, 26, 27, 12, 28, 29, 30, 31, 32, 33, 34, 35, 36, 37, 38, 39, 40, 41, 42, 43, 44, 45, 46, 47, 48, 49, 50, 80, 81, 82, 83, 84, 85, 86, 87, 88, 89, 90, 91, 92, 93, 94, 95, 96, 97, 98] rfl (by decide +kernel)
set_option maxRecDepth 1000000 in
theorem gX2_single_X8_read : GoodIn wsX2_single (wsV RX2 193 RX8 yX8_read wsX8_read) := goodIn_app (goodIn_of _ (by decide +kernel)) ggX2_single_X8_read
theorem dX2_single_0 : decode cX2_single 0 = .ok (.aload_n 0, 1) := by decide +kernel
theorem dX2_single_1 : decode cX2_single 1 = .ok (.getfield 21, 3) := by decide +kernel
theorem dX2_single_4 : decode cX2_single 4 = .ok (.getfield 144, 3) := by decide +kernel
theorem dX2_single_7 : decode cX2_single 7 = .ok (.lookupswitch 84 #[(30, 33), (32, 60), (56, 72)], 33) := by decide +kernel
theorem dX2_single_40 : decode cX2_single 40 = .ok (.aload_n 0, 1) := by decide +kernel
theorem dX2_single_41 : decode cX2_single 41 = .ok (.getfield 28, 3) := by decide +kernel
theorem dX2_single_44 : decode cX2_single 44 = .ok (.aload_n 0, 1) := by decide +kernel
theorem dX2_single_45 : decode cX2_single 45 = .ok (.getfield 37, 3) := by decide +kernel
theorem dX2_single_48 : decode cX2_single 48 = .ok (.getfield 41, 3) := by decide +kernel
theorem dX2_single_51 : decode cX2_single 51 = .ok (.aload_n 0, 1) := by decide +kernel
theorem dX2_single_52 : decode cX2_single 52 = .ok (.getfield 21, 3) := by decide +kernel
theorem dX2_single_55 : decode cX2_single 55 = .ok (.getfield 190, 3) := by decide +kernel
theorem dX2_single_58 : decode cX2_single 58 = .ok (.invokevirtual 193, 3) := by decide +kernel
theorem dX2_single_61 : decode cX2_single 61 = .ok (.putfield 150, 3) := by decide +kernel
theorem dX2_single_64 : decode cX2_single 64 = .ok (.goto 27, 3) := by decide +kernel
theorem dX2_single_67 : decode cX2_single 67 = .ok (.aload_n 0, 1) := by decide +kernel
theorem dX2_single_68 : decode cX2_single 68 = .ok (.getfield 28, 3) := by decide +kernel
theorem dX2_single_71 : decode cX2_single 71 = .ok (.bipush 12, 2) := by decide +kernel
theorem dX2_single_73 : decode cX2_single 73 = .ok (.putfield 86, 3) := by decide +kernel
theorem dX2_single_76 : decode cX2_single 76 = .ok (.goto 15, 3) := by decide +kernel
theorem dX2_single_79 : decode cX2_single 79 = .ok (.aload_n 0, 1) := by decide +kernel
theorem dX2_single_80 : decode cX2_single 80 = .ok (.getfield 28, 3) := by decide +kernel
theorem dX2_single_83 : decode cX2_single 83 = .ok (.bipush 14, 2) := by decide +kernel
theorem dX2_single_85 : decode cX2_single 85 = .ok (.putfield 86, 3) := by decide +kernel
theorem dX2_single_88 : decode cX2_single 88 = .ok (.goto 3, 3) := by decide +kernel
theorem dX2_single_91 : decode cX2_single 91 = .ok (.return_, 1) := by decide +kernel
set_option maxRecDepth 1000000 in
theorem ggX2_compare_X3_is : GoodIn wsX2_compare wsX3_is := goodIn_r _ [13, 14, 44, 45, 46, 47, 48, 49, 50, 51] (by decide +kernel) (by decide +kernel)
set_option maxRecDepth 1000000 in
theorem gX2_compare_X3_is : GoodIn wsX2_compare (wsV RX2 108 RX3 yX3_is wsX3_is) := goodIn_app (goodIn_of _ (by decide +kernel)) ggX2_compare_X3_is
set_option maxRecDepth 1000000 in
theorem ggX2_compare_J6_compareUnsigned_7cf53 : GoodIn wsX2_compare wsJ6_compareUnsigned_7cf53 := goodIn_r _ [18, 19, 20, 21, 17, 22] (by decide +kernel) (by decide +kernel)
set_option maxRecDepth 1000000 in
theorem gX2_compare_J6_compareUnsigned_7cf53 : GoodIn wsX2_compare (va_wsS RX2 196 yJ6_compareUnsigned_7cf53 wsJ6_compareUnsigned_7cf53) := goodIn_app (goodIn_of _ (by decide +kernel)) ggX2_compare_J6_compareUnsigned_7cf53
set_option maxRecDepth 1000000 in
theorem ggX2_compare_J6_compare_7cf53 : GoodIn wsX2_compare wsJ6_compare_7cf53 := goodIn_r _ [22] (by decide +kernel) (by decide +kernel)
set_option maxRecDepth 1000000 in
theorem gX2_compare_J6_compare_7cf53 : GoodIn wsX2_compare (va_wsS RX2 201 yJ6_compare_7cf53 wsJ6_compare_7cf53) := goodIn_app (goodIn_of _ (by decide +kernel)) ggX2_compare_J6_compare_7cf53
set_option maxRecDepth 1000000 in
theorem ggX2_compare_X2_holds : GoodIn wsX2_compare wsX2_holds := goodIn_r _ [27] (by decide +kernel) (by decide +kernel)
set_option maxRecDepth 1000000 in
theorem gX2_compare_X2_holds : GoodIn wsX2_compare (va_wsS RX2 203 yX2_holds wsX2_holds) := goodIn_app (goodIn_of _ (by decide +kernel)) ggX2_compare_X2_holds
set_option maxRecDepth 1000000 in
theorem ggX2_compare_X0_setBit : GoodIn wsX2_compare wsX0_setBit := goodIn_r _ [32, 33, 52, 53, 54, 55, 56, 57, 58, 59, 60, 61, 62] (by decide +kernel) (by decide +kernel)
set_option maxRecDepth 1000000 in
theorem gX2_compare_X0_setBit : GoodIn wsX2_compare (wsV RX2 207 RX0 yX0_setBit wsX0_setBit) := goodIn_app (goodIn_of _ (by decide +kernel)) ggX2_compare_X0_setBit
theorem dX2_compare_0 : decode cX2_compare 0 = .ok (.aload_n 0, 1) := by decide +kernel
theorem dX2_compare_1 : decode cX2_compare 1 = .ok (.getfield 37, 3) := by decide +kernel
theorem dX2_compare_4 : decode cX2_compare 4 = .ok (.getfield 124, 3) := by decide +kernel
theorem dX2_compare_7 : decode cX2_compare 7 = .ok (.aload_n 0, 1) := by decide +kernel
theorem dX2_compare_8 : decode cX2_compare 8 = .ok (.getfield 21, 3) := by decide +kernel
theorem dX2_compare_11 : decode cX2_compare 11 = .ok (.getfield 128, 3) := by decide +kernel
theorem dX2_compare_14 : decode cX2_compare 14 = .ok (.iaload, 1) := by decide +kernel
theorem dX2_compare_15 : decode cX2_compare 15 = .ok (.istore_n 1, 1) := by decide +kernel
theorem dX2_compare_16 : decode cX2_compare 16 = .ok (.aload_n 0, 1) := by decide +kernel
theorem dX2_compare_17 : decode cX2_compare 17 = .ok (.getfield 21, 3) := by decide +kernel
theorem dX2_compare_20 : decode cX2_compare 20 = .ok (.iconst 2, 1) := by decide +kernel
theorem dX2_compare_21 : decode cX2_compare 21 = .ok (.invokevirtual 108, 3) := by decide +kernel
theorem dX2_compare_24 : decode cX2_compare 24 = .ok (.ifCond .eq 21, 3) := by decide +kernel
theorem dX2_compare_27 : decode cX2_compare 27 = .ok (.aload_n 0, 1) := by decide +kernel
theorem dX2_compare_28 : decode cX2_compare 28 = .ok (.getfield 37, 3) := by decide +kernel
theorem dX2_compare_31 : decode cX2_compare 31 = .ok (.getfield 124, 3) := by decide +kernel
theorem dX2_compare_34 : decode cX2_compare 34 = .ok (.aload_n 0, 1) := by decide +kernel
theorem dX2_compare_35 : decode cX2_compare 35 = .ok (.getfield 21, 3) := by decide +kernel
theorem dX2_compare_38 : decode cX2_compare 38 = .ok (.getfield 131, 3) := by decide +kernel
theorem dX2_compare_41 : decode cX2_compare 41 = .ok (.iaload, 1) := by decide +kernel
theorem dX2_compare_42 : decode cX2_compare 42 = .ok (.goto 10, 3) := by decide +kernel
theorem dX2_compare_45 : decode cX2_compare 45 = .ok (.aload_n 0, 1) := by decide +kernel
theorem dX2_compare_46 : decode cX2_compare 46 = .ok (.getfield 21, 3) := by decide +kernel
theorem dX2_compare_49 : decode cX2_compare 49 = .ok (.getfield 159, 3) := by decide +kernel
theorem dX2_compare_52 : decode cX2_compare 52 = .ok (.istore_n 2, 1) := by decide +kernel
theorem dX2_compare_53 : decode cX2_compare 53 = .ok (.aload_n 0, 1) := by decide +kernel
theorem dX2_compare_54 : decode cX2_compare 54 = .ok (.getfield 21, 3) := by decide +kernel
theorem dX2_compare_57 : decode cX2_compare 57 = .ok (.getfield 175, 3) := by decide +kernel
theorem dX2_compare_60 : decode cX2_compare 60 = .ok (.istore_n 3, 1) := by decide +kernel
theorem dX2_compare_61 : decode cX2_compare 61 = .ok (.iload_n 3, 1) := by decide +kernel
theorem dX2_compare_62 : decode cX2_compare 62 = .ok (.iconst 5, 1) := by decide +kernel
theorem dX2_compare_63 : decode cX2_compare 63 = .ok (.if_icmp .gt 11, 3) := by decide +kernel
theorem dX2_compare_66 : decode cX2_compare 66 = .ok (.iload_n 1, 1) := by decide +kernel
theorem dX2_compare_67 : decode cX2_compare 67 = .ok (.iload_n 2, 1) := by decide +kernel
theorem dX2_compare_68 : decode cX2_compare 68 = .ok (.invokestatic 196, 3) := by decide +kernel
theorem dX2_compare_71 : decode cX2_compare 71 = .ok (.goto 8, 3) := by decide +kernel
theorem dX2_compare_74 : decode cX2_compare 74 = .ok (.iload_n 1, 1) := by decide +kernel
theorem dX2_compare_75 : decode cX2_compare 75 = .ok (.iload_n 2, 1) := by decide +kernel
theorem dX2_compare_76 : decode cX2_compare 76 = .ok (.invokestatic 201, 3) := by decide +kernel
theorem dX2_compare_79 : decode cX2_compare 79 = .ok (.istore 4, 2) := by decide +kernel
theorem dX2_compare_81 : decode cX2_compare 81 = .ok (.aload_n 0, 1) := by decide +kernel
theorem dX2_compare_82 : decode cX2_compare 82 = .ok (.getfield 28, 3) := by decide +kernel
theorem dX2_compare_85 : decode cX2_compare 85 = .ok (.bipush 32, 2) := by decide +kernel
theorem dX2_compare_87 : decode cX2_compare 87 = .ok (.iload_n 3, 1) := by decide +kernel
theorem dX2_compare_88 : decode cX2_compare 88 = .ok (.iconst 5, 1) := by decide +kernel
theorem dX2_compare_89 : decode cX2_compare 89 = .ok (.if_icmp .gt 7, 3) := by decide +kernel
theorem dX2_compare_92 : decode cX2_compare 92 = .ok (.iload_n 3, 1) := by decide +kernel
theorem dX2_compare_93 : decode cX2_compare 93 = .ok (.goto 6, 3) := by decide +kernel
theorem dX2_compare_96 : decode cX2_compare 96 = .ok (.iload_n 3, 1) := by decide +kernel
theorem dX2_compare_97 : decode cX2_compare 97 = .ok (.iconst 4, 1) := by decide +kernel
theorem dX2_compare_98 : decode cX2_compare 98 = .ok (.isub, 1) := by decide +kernel
theorem dX2_compare_99 : decode cX2_compare 99 = .ok (.iload 4, 2) := by decide +kernel
theorem dX2_compare_101 : decode cX2_compare 101 = .ok (.invokestatic 203, 3) := by decide +kernel
theorem dX2_compare_104 : decode cX2_compare 104 = .ok (.invokevirtual 207, 3) := by decide +kernel
theorem dX2_compare_107 : decode cX2_compare 107 = .ok (.return_, 1) := by decide +kernel
theorem dX2_holds_0 : decode cX2_holds 0 = .ok (.iload_n 0, 1) := by decide +kernel
theorem dX2_holds_1 : decode cX2_holds 1 = .ok (.tableswitch 85 0 4 #[35, 45, 55, 65, 75], 35) := by decide +kernel
theorem dX2_holds_36 : decode cX2_holds 36 = .ok (.iload_n 1, 1) := by decide +kernel
theorem dX2_holds_37 : decode cX2_holds 37 = .ok (.ifCond .ne 7, 3) := by decide +kernel
theorem dX2_holds_40 : decode cX2_holds 40 = .ok (.iconst 1, 1) := by decide +kernel
theorem dX2_holds_41 : decode cX2_holds 41 = .ok (.goto 4, 3) := by decide +kernel
theorem dX2_holds_44 : decode cX2_holds 44 = .ok (.iconst 0, 1) := by decide +kernel
theorem dX2_holds_45 : decode cX2_holds 45 = .ok (.ireturn, 1) := by decide +kernel
theorem dX2_holds_46 : decode cX2_holds 46 = .ok (.iload_n 1, 1) := by decide +kernel
theorem dX2_holds_47 : decode cX2_holds 47 = .ok (.ifCond .eq 7, 3) := by decide +kernel
theorem dX2_holds_50 : decode cX2_holds 50 = .ok (.iconst 1, 1) := by decide +kernel
theorem dX2_holds_51 : decode cX2_holds 51 = .ok (.goto 4, 3) := by decide +kernel
theorem dX2_holds_54 : decode cX2_holds 54 = .ok (.iconst 0, 1) := by decide +kernel
theorem dX2_holds_55 : decode cX2_holds 55 = .ok (.ireturn, 1) := by decide +kernel
theorem dX2_holds_56 : decode cX2_holds 56 = .ok (.iload_n 1, 1) := by decide +kernel
theorem dX2_holds_57 : decode cX2_holds 57 = .ok (.ifCond .le 7, 3) := by decide +kernel
theorem dX2_holds_60 : decode cX2_holds 60 = .ok (.iconst 1, 1) := by decide +kernel
theorem dX2_holds_61 : decode cX2_holds 61 = .ok (.goto 4, 3) := by decide +kernel
theorem dX2_holds_64 : decode cX2_holds 64 = .ok (.iconst 0, 1) := by decide +kernel
theorem dX2_holds_65 : decode cX2_holds 65 = .ok (.ireturn, 1) := by decide +kernel
theorem dX2_holds_66 : decode cX2_holds 66 = .ok (.iload_n 1, 1) := by decide +kernel
theorem dX2_holds_67 : decode cX2_holds 67 = .ok (.ifCond .lt 7, 3) := by decide +kernel
theorem dX2_holds_70 : decode cX2_holds 70 = .ok (.iconst 1, 1) := by decide +kernel
theorem dX2_holds_71 : decode cX2_holds 71 = .ok (.goto 4, 3) := by decide +kernel
theorem dX2_holds_74 : decode cX2_holds 74 = .ok (.iconst 0, 1) := by decide +kernel
theorem dX2_holds_75 : decode cX2_holds 75 = .ok (.ireturn, 1) := by decide +kernel
theorem dX2_holds_76 : decode cX2_holds 76 = .ok (.iload_n 1, 1) := by decide +kernel
theorem dX2_holds_77 : decode cX2_holds 77 = .ok (.ifCond .ge 7, 3) := by decide +kernel
theorem dX2_holds_80 : decode cX2_holds 80 = .ok (.iconst 1, 1) := by decide +kernel
theorem dX2_holds_81 : decode cX2_holds 81 = .ok (.goto 4, 3) := by decide +kernel
theorem dX2_holds_84 : decode cX2_holds 84 = .ok (.iconst 0, 1) := by decide +kernel
theorem dX2_holds_85 : decode cX2_holds 85 = .ok (.ireturn, 1) := by decide +kernel
theorem dX2_holds_86 : decode cX2_holds 86 = .ok (.iload_n 1, 1) := by decide +kernel
theorem dX2_holds_87 : decode cX2_holds 87 = .ok (.ifCond .gt 7, 3) := by decide +kernel
theorem dX2_holds_90 : decode cX2_holds 90 = .ok (.iconst 1, 1) := by decide +kernel
theorem dX2_holds_91 : decode cX2_holds 91 = .ok (.goto 4, 3) := by decide +kernel
theorem dX2_holds_94 : decode cX2_holds 94 = .ok (.iconst 0, 1) := by decide +kernel
theorem dX2_holds_95 : decode cX2_holds 95 = .ok (.ireturn, 1) := by decide +kernel
set_option maxRecDepth 1000000 in
theorem ggX2_calculate_X2_add : GoodIn wsX2_calculate wsX2_add := goodIn_r _ [13, 1, 7, 14, 15, 16, 17, 18, 19, 20, 21, 22, 23, 24, 25, 26, 75, 76, 77, 78, 79, 80, 81, 82, 83, 84, 85, 86, 87, 88, 89] (by decide +kernel) (by decide +kernel)
set_option maxRecDepth 1000000 in
theorem gX2_calculate_X2_add : GoodIn wsX2_calculate (wsV RX2 211 RX2 yX2_add wsX2_add) := goodIn_app (goodIn_of _ (by decide +kernel)) ggX2_calculate_X2_add
set_option maxRecDepth 1000000 in
theorem ggX2_calculate_X2_subtract : GoodIn wsX2_calculate wsX2_subtract := goodIn_r _ [30, 1, 7, 31, 32, 33, 34, 35, 36, 37, 38, 15, 16, 17, 18, 19, 20, 21, 22, 23, 24, 25, 26, 75, 76, 77, 78, 79, 80, 81, 82, 83, 84, 85, 86, 87, 88, 89] rfl (by decide +kernel)
set_option maxRecDepth 1000000 in
theorem gX2_calculate_X2_subtract : GoodIn wsX2_calculate (wsV RX2 215 RX2 yX2_subtract wsX2_subtract) := goodIn_app (goodIn_of _ (by decide +kernel)) ggX2_calculate_X2_subtract
set_option maxRecDepth 1000000 in
theorem ggX2_calculate_X2_multiply : GoodIn wsX2_calculate wsX2_multiply := goodIn_r _ [42, 1, 7, 21, 22, 23, 18, 24, 20, 25, 26, 16, 17, 19, 75, 76, 77, 78, 79, 80, 81, 82, 83, 84, 85, 86, 87, 88, 89] (by decide +kernel) (by decide +kernel)
set_option maxRecDepth 1000000 in
theorem gX2_calculate_X2_multiply : GoodIn wsX2_calculate (wsV RX2 218 RX2 yX2_multiply wsX2_multiply) := goodIn_app (goodIn_of _ (by decide +kernel)) ggX2_calculate_X2_multiply
set_option maxRecDepth 1000000 in
theorem ggX2_calculate_X2_multiplyUnsigned : GoodIn wsX2_calculate wsX2_multiplyUnsigned := goodIn_r _ [46, 14, 1, 7, 15, 16, 17, 18, 19, 20, 75, 76, 77, 78, 79, 80, 81, 82, 83, 84, 85, 86, 87, 88, 89] (by decide +kernel) (by decide +kernel)
set_option maxRecDepth 1000000 in
theorem gX2_calculate_X2_multiplyUnsigned : GoodIn wsX2_calculate (wsV RX2 221 RX2 yX2_multiplyUnsigned wsX2_multiplyUnsigned) := goodIn_app (goodIn_of _ (by decide +kernel)) ggX2_calculate_X2_multiplyUnsigned
set_option maxRecDepth 1000000 in
theorem ggX2_calculate_X2_divide : GoodIn wsX2_calculate wsX2_divide := goodIn_r _ [50, 1, 7, 51, 21, 22, 23, 18, 24, 20, 25, 26, 16, 17, 19, 75, 76, 77, 78, 79, 80, 81, 82, 83, 84, 85, 86, 87, 88, 89] (by decide +kernel) (by decide +kernel)
set_option maxRecDepth 1000000 in
theorem gX2_calculate_X2_divide : GoodIn wsX2_calculate (wsV RX2 224 RX2 yX2_divide wsX2_divide) := goodIn_app (goodIn_of _ (by decide +kernel)) ggX2_calculate_X2_divide
set_option maxRecDepth 1000000 in
theorem ggX2_calculate_X2_divideUnsigned : GoodIn wsX2_calculate wsX2_divideUnsigned := goodIn_r _ [55, 1, 14, 7, 15, 16, 17, 18, 19, 20, 75, 76, 77, 78, 79, 80, 81, 82, 83, 84, 85, 86, 87, 88, 89] (by decide +kernel) (by decide +kernel)
set_option maxRecDepth 1000000 in
theorem gX2_calculate_X2_divideUnsigned : GoodIn wsX2_calculate (wsV RX2 227 RX2 yX2_divideUnsigned wsX2_divideUnsigned) := goodIn_app (goodIn_of _ (by decide +kernel)) ggX2_calculate_X2_divideUnsigned
set_option maxRecDepth 1000000 in
theorem ggX2_calculate_X2_plainResult : GoodIn wsX2_calculate wsX2_plainResult := goodIn_r _ [59, 3, 5, 60, 61, 62, 12, 63, 64, 1, 2, 65, 66, 33, 67, 68, 69, 70, 71, 72, 73, 74, 75, 76, 77, 78, 90, 91, 92, 93, 94, 95, 96, 97, 79, 80, 81, 82, 83, 84, 85, 86, 87, 88, 89] rfl (by decide +kernel)
set_option maxRecDepth 1000000 in
theorem gX2_calculate_X2_plainResult : GoodIn wsX2_calculate (wsV RX2 231 RX2 yX2_plainResult wsX2_plainResult) := goodIn_app (goodIn_of _ (by decide +kernel)) ggX2_calculate_X2_plainResult
theorem dX2_calculate_0 : decode cX2_calculate 0 = .ok (.aload_n 0, 1) := by decide +kernel
theorem dX2_calculate_1 : decode cX2_calculate 1 = .ok (.getfield 28, 3) := by decide +kernel
theorem dX2_calculate_4 : decode cX2_calculate 4 = .ok (.getfield 139, 3) := by decide +kernel
theorem dX2_calculate_7 : decode cX2_calculate 7 = .ok (.sipush 128, 3) := by decide +kernel
theorem dX2_calculate_10 : decode cX2_calculate 10 = .ok (.iand, 1) := by decide +kernel
theorem dX2_calculate_11 : decode cX2_calculate 11 = .ok (.ifCond .eq 7, 3) := by decide +kernel
theorem dX2_calculate_14 : decode cX2_calculate 14 = .ok (.iconst 1, 1) := by decide +kernel
theorem dX2_calculate_15 : decode cX2_calculate 15 = .ok (.goto 4, 3) := by decide +kernel
theorem dX2_calculate_18 : decode cX2_calculate 18 = .ok (.iconst 0, 1) := by decide +kernel
theorem dX2_calculate_19 : decode cX2_calculate 19 = .ok (.istore_n 3, 1) := by decide +kernel
theorem dX2_calculate_20 : decode cX2_calculate 20 = .ok (.aload_n 0, 1) := by decide +kernel
theorem dX2_calculate_21 : decode cX2_calculate 21 = .ok (.getfield 21, 3) := by decide +kernel
theorem dX2_calculate_24 : decode cX2_calculate 24 = .ok (.getfield 159, 3) := by decide +kernel
theorem dX2_calculate_27 : decode cX2_calculate 27 = .ok (.istore 4, 2) := by decide +kernel
theorem dX2_calculate_29 : decode cX2_calculate 29 = .ok (.aload_n 0, 1) := by decide +kernel
theorem dX2_calculate_30 : decode cX2_calculate 30 = .ok (.getfield 21, 3) := by decide +kernel
theorem dX2_calculate_33 : decode cX2_calculate 33 = .ok (.getfield 144, 3) := by decide +kernel
theorem dX2_calculate_36 : decode cX2_calculate 36 = .ok (.tableswitch 432 0 57 #[248, 290, 432, 432, 432, 432, 432, 432, 299, 327, 258, 432, 432, 432, 432, 432, 432, 432, 432, 432, 432, 432, 432, 432, 432, 432, 432, 432, 432, 432, 432, 432, 432, 432, 269, 279, 318, 336, 345, 365, 386, 406, 432, 432, 432, 432, 432, 432, 432, 432, 432, 432, 432, 432, 432, 432, 432, 308], 248) := by decide +kernel
theorem dX2_calculate_284 : decode cX2_calculate 284 = .ok (.aload_n 0, 1) := by decide +kernel
theorem dX2_calculate_285 : decode cX2_calculate 285 = .ok (.iload_n 1, 1) := by decide +kernel
theorem dX2_calculate_286 : decode cX2_calculate 286 = .ok (.iload_n 2, 1) := by decide +kernel
theorem dX2_calculate_287 : decode cX2_calculate 287 = .ok (.iconst 0, 1) := by decide +kernel
theorem dX2_calculate_288 : decode cX2_calculate 288 = .ok (.invokevirtual 211, 3) := by decide +kernel
theorem dX2_calculate_291 : decode cX2_calculate 291 = .ok (.goto 197, 3) := by decide +kernel
theorem dX2_calculate_294 : decode cX2_calculate 294 = .ok (.aload_n 0, 1) := by decide +kernel
theorem dX2_calculate_295 : decode cX2_calculate 295 = .ok (.iload_n 1, 1) := by decide +kernel
theorem dX2_calculate_296 : decode cX2_calculate 296 = .ok (.iload 4, 2) := by decide +kernel
theorem dX2_calculate_298 : decode cX2_calculate 298 = .ok (.iconst 0, 1) := by decide +kernel
theorem dX2_calculate_299 : decode cX2_calculate 299 = .ok (.invokevirtual 211, 3) := by decide +kernel
theorem dX2_calculate_302 : decode cX2_calculate 302 = .ok (.goto 186, 3) := by decide +kernel
theorem dX2_calculate_305 : decode cX2_calculate 305 = .ok (.aload_n 0, 1) := by decide +kernel
theorem dX2_calculate_306 : decode cX2_calculate 306 = .ok (.iload_n 1, 1) := by decide +kernel
theorem dX2_calculate_307 : decode cX2_calculate 307 = .ok (.iload_n 2, 1) := by decide +kernel
theorem dX2_calculate_308 : decode cX2_calculate 308 = .ok (.iload_n 3, 1) := by decide +kernel
theorem dX2_calculate_309 : decode cX2_calculate 309 = .ok (.invokevirtual 211, 3) := by decide +kernel
theorem dX2_calculate_312 : decode cX2_calculate 312 = .ok (.goto 176, 3) := by decide +kernel
theorem dX2_calculate_315 : decode cX2_calculate 315 = .ok (.aload_n 0, 1) := by decide +kernel
theorem dX2_calculate_316 : decode cX2_calculate 316 = .ok (.iload_n 1, 1) := by decide +kernel
theorem dX2_calculate_317 : decode cX2_calculate 317 = .ok (.iload 4, 2) := by decide +kernel
theorem dX2_calculate_319 : decode cX2_calculate 319 = .ok (.iload_n 3, 1) := by decide +kernel
theorem dX2_calculate_320 : decode cX2_calculate 320 = .ok (.invokevirtual 211, 3) := by decide +kernel
theorem dX2_calculate_323 : decode cX2_calculate 323 = .ok (.goto 165, 3) := by decide +kernel
theorem dX2_calculate_326 : decode cX2_calculate 326 = .ok (.aload_n 0, 1) := by decide +kernel
theorem dX2_calculate_327 : decode cX2_calculate 327 = .ok (.iload_n 1, 1) := by decide +kernel
theorem dX2_calculate_328 : decode cX2_calculate 328 = .ok (.iload_n 2, 1) := by decide +kernel
theorem dX2_calculate_329 : decode cX2_calculate 329 = .ok (.invokevirtual 215, 3) := by decide +kernel
theorem dX2_calculate_332 : decode cX2_calculate 332 = .ok (.goto 156, 3) := by decide +kernel
theorem dX2_calculate_335 : decode cX2_calculate 335 = .ok (.aload_n 0, 1) := by decide +kernel
theorem dX2_calculate_336 : decode cX2_calculate 336 = .ok (.iload_n 1, 1) := by decide +kernel
theorem dX2_calculate_337 : decode cX2_calculate 337 = .ok (.iload_n 2, 1) := by decide +kernel
theorem dX2_calculate_338 : decode cX2_calculate 338 = .ok (.invokevirtual 218, 3) := by decide +kernel
theorem dX2_calculate_341 : decode cX2_calculate 341 = .ok (.goto 147, 3) := by decide +kernel
theorem dX2_calculate_344 : decode cX2_calculate 344 = .ok (.aload_n 0, 1) := by decide +kernel
theorem dX2_calculate_345 : decode cX2_calculate 345 = .ok (.iload_n 1, 1) := by decide +kernel
theorem dX2_calculate_346 : decode cX2_calculate 346 = .ok (.iload 4, 2) := by decide +kernel
theorem dX2_calculate_348 : decode cX2_calculate 348 = .ok (.invokevirtual 218, 3) := by decide +kernel
theorem dX2_calculate_351 : decode cX2_calculate 351 = .ok (.goto 137, 3) := by decide +kernel
theorem dX2_calculate_354 : decode cX2_calculate 354 = .ok (.aload_n 0, 1) := by decide +kernel
theorem dX2_calculate_355 : decode cX2_calculate 355 = .ok (.iload_n 1, 1) := by decide +kernel
theorem dX2_calculate_356 : decode cX2_calculate 356 = .ok (.iload_n 2, 1) := by decide +kernel
theorem dX2_calculate_357 : decode cX2_calculate 357 = .ok (.invokevirtual 221, 3) := by decide +kernel
theorem dX2_calculate_360 : decode cX2_calculate 360 = .ok (.goto 128, 3) := by decide +kernel
theorem dX2_calculate_363 : decode cX2_calculate 363 = .ok (.aload_n 0, 1) := by decide +kernel
theorem dX2_calculate_364 : decode cX2_calculate 364 = .ok (.iload_n 1, 1) := by decide +kernel
theorem dX2_calculate_365 : decode cX2_calculate 365 = .ok (.iload_n 2, 1) := by decide +kernel
theorem dX2_calculate_366 : decode cX2_calculate 366 = .ok (.invokevirtual 224, 3) := by decide +kernel
theorem dX2_calculate_369 : decode cX2_calculate 369 = .ok (.goto 119, 3) := by decide +kernel
theorem dX2_calculate_372 : decode cX2_calculate 372 = .ok (.aload_n 0, 1) := by decide +kernel
theorem dX2_calculate_373 : decode cX2_calculate 373 = .ok (.iload_n 1, 1) := by decide +kernel
theorem dX2_calculate_374 : decode cX2_calculate 374 = .ok (.iload_n 2, 1) := by decide +kernel
theorem dX2_calculate_375 : decode cX2_calculate 375 = .ok (.invokevirtual 227, 3) := by decide +kernel
theorem dX2_calculate_378 : decode cX2_calculate 378 = .ok (.goto 110, 3) := by decide +kernel
theorem dX2_calculate_381 : decode cX2_calculate 381 = .ok (.aload_n 0, 1) := by decide +kernel
theorem dX2_calculate_382 : decode cX2_calculate 382 = .ok (.getfield 28, 3) := by decide +kernel
theorem dX2_calculate_385 : decode cX2_calculate 385 = .ok (.dup, 1) := by decide +kernel
theorem dX2_calculate_386 : decode cX2_calculate 386 = .ok (.getfield 230, 3) := by decide +kernel
theorem dX2_calculate_389 : decode cX2_calculate 389 = .ok (.iload_n 1, 1) := by decide +kernel
theorem dX2_calculate_390 : decode cX2_calculate 390 = .ok (.i2l, 1) := by decide +kernel
theorem dX2_calculate_391 : decode cX2_calculate 391 = .ok (.iload_n 2, 1) := by decide +kernel
theorem dX2_calculate_392 : decode cX2_calculate 392 = .ok (.i2l, 1) := by decide +kernel
theorem dX2_calculate_393 : decode cX2_calculate 393 = .ok (.lmul, 1) := by decide +kernel
theorem dX2_calculate_394 : decode cX2_calculate 394 = .ok (.ladd, 1) := by decide +kernel
theorem dX2_calculate_395 : decode cX2_calculate 395 = .ok (.putfield 230, 3) := by decide +kernel
theorem dX2_calculate_398 : decode cX2_calculate 398 = .ok (.goto 90, 3) := by decide +kernel
theorem dX2_calculate_401 : decode cX2_calculate 401 = .ok (.aload_n 0, 1) := by decide +kernel
theorem dX2_calculate_402 : decode cX2_calculate 402 = .ok (.getfield 28, 3) := by decide +kernel
theorem dX2_calculate_405 : decode cX2_calculate 405 = .ok (.dup, 1) := by decide +kernel
theorem dX2_calculate_406 : decode cX2_calculate 406 = .ok (.getfield 230, 3) := by decide +kernel
theorem dX2_calculate_409 : decode cX2_calculate 409 = .ok (.iload_n 1, 1) := by decide +kernel
theorem dX2_calculate_410 : decode cX2_calculate 410 = .ok (.i2l, 1) := by decide +kernel
theorem dX2_calculate_411 : decode cX2_calculate 411 = .ok (.iload 4, 2) := by decide +kernel
theorem dX2_calculate_413 : decode cX2_calculate 413 = .ok (.i2l, 1) := by decide +kernel
theorem dX2_calculate_414 : decode cX2_calculate 414 = .ok (.lmul, 1) := by decide +kernel
theorem dX2_calculate_415 : decode cX2_calculate 415 = .ok (.ladd, 1) := by decide +kernel
theorem dX2_calculate_416 : decode cX2_calculate 416 = .ok (.putfield 230, 3) := by decide +kernel
theorem dX2_calculate_419 : decode cX2_calculate 419 = .ok (.goto 69, 3) := by decide +kernel
theorem dX2_calculate_422 : decode cX2_calculate 422 = .ok (.aload_n 0, 1) := by decide +kernel
theorem dX2_calculate_423 : decode cX2_calculate 423 = .ok (.getfield 28, 3) := by decide +kernel
theorem dX2_calculate_426 : decode cX2_calculate 426 = .ok (.dup, 1) := by decide +kernel
theorem dX2_calculate_427 : decode cX2_calculate 427 = .ok (.getfield 230, 3) := by decide +kernel
theorem dX2_calculate_430 : decode cX2_calculate 430 = .ok (.iload_n 1, 1) := by decide +kernel
theorem dX2_calculate_431 : decode cX2_calculate 431 = .ok (.i2l, 1) := by decide +kernel
theorem dX2_calculate_432 : decode cX2_calculate 432 = .ok (.iload_n 2, 1) := by decide +kernel
theorem dX2_calculate_433 : decode cX2_calculate 433 = .ok (.i2l, 1) := by decide +kernel
theorem dX2_calculate_434 : decode cX2_calculate 434 = .ok (.lmul, 1) := by decide +kernel
theorem dX2_calculate_435 : decode cX2_calculate 435 = .ok (.lsub, 1) := by decide +kernel
theorem dX2_calculate_436 : decode cX2_calculate 436 = .ok (.putfield 230, 3) := by decide +kernel
theorem dX2_calculate_439 : decode cX2_calculate 439 = .ok (.goto 49, 3) := by decide +kernel
theorem dX2_calculate_442 : decode cX2_calculate 442 = .ok (.aload_n 0, 1) := by decide +kernel
theorem dX2_calculate_443 : decode cX2_calculate 443 = .ok (.getfield 28, 3) := by decide +kernel
theorem dX2_calculate_446 : decode cX2_calculate 446 = .ok (.aload_n 0, 1) := by decide +kernel
theorem dX2_calculate_447 : decode cX2_calculate 447 = .ok (.getfield 28, 3) := by decide +kernel
theorem dX2_calculate_450 : decode cX2_calculate 450 = .ok (.getfield 230, 3) := by decide +kernel
theorem dX2_calculate_453 : decode cX2_calculate 453 = .ok (.l2i, 1) := by decide +kernel
theorem dX2_calculate_454 : decode cX2_calculate 454 = .ok (.putfield 150, 3) := by decide +kernel
theorem dX2_calculate_457 : decode cX2_calculate 457 = .ok (.aload_n 0, 1) := by decide +kernel
theorem dX2_calculate_458 : decode cX2_calculate 458 = .ok (.getfield 28, 3) := by decide +kernel
theorem dX2_calculate_461 : decode cX2_calculate 461 = .ok (.lconst 0, 1) := by decide +kernel
theorem dX2_calculate_462 : decode cX2_calculate 462 = .ok (.putfield 230, 3) := by decide +kernel
theorem dX2_calculate_465 : decode cX2_calculate 465 = .ok (.goto 23, 3) := by decide +kernel
theorem dX2_calculate_468 : decode cX2_calculate 468 = .ok (.aload_n 0, 1) := by decide +kernel
theorem dX2_calculate_469 : decode cX2_calculate 469 = .ok (.getfield 28, 3) := by decide +kernel
theorem dX2_calculate_472 : decode cX2_calculate 472 = .ok (.aload_n 0, 1) := by decide +kernel
theorem dX2_calculate_473 : decode cX2_calculate 473 = .ok (.iload_n 1, 1) := by decide +kernel
theorem dX2_calculate_474 : decode cX2_calculate 474 = .ok (.iload_n 2, 1) := by decide +kernel
theorem dX2_calculate_475 : decode cX2_calculate 475 = .ok (.aload_n 0, 1) := by decide +kernel
theorem dX2_calculate_476 : decode cX2_calculate 476 = .ok (.getfield 21, 3) := by decide +kernel
theorem dX2_calculate_479 : decode cX2_calculate 479 = .ok (.getfield 190, 3) := by decide +kernel
theorem dX2_calculate_482 : decode cX2_calculate 482 = .ok (.invokevirtual 231, 3) := by decide +kernel
theorem dX2_calculate_485 : decode cX2_calculate 485 = .ok (.putfield 150, 3) := by decide +kernel
theorem dX2_calculate_488 : decode cX2_calculate 488 = .ok (.return_, 1) := by decide +kernel
set_option maxRecDepth 1000000 in
theorem ggX2_add_X0_setBit : GoodIn wsX2_add wsX0_setBit := goodIn_r _ [8, 9, 20, 21, 22, 23, 24, 25, 26, 27, 28, 29, 30] (by decide +kernel) (by decide +kernel)
set_option maxRecDepth 1000000 in
theorem gX2_add_X0_setBit : GoodIn wsX2_add (wsV RX2 207 RX0 yX0_setBit wsX0_setBit) := goodIn_app (goodIn_of _ (by decide +kernel)) ggX2_add_X0_setBit
set_option maxRecDepth 1000000 in
theorem ggX2_add_X0_setOverflow : GoodIn wsX2_add wsX0_setOverflow := goodIn_r _ [13, 9, 14, 15, 5, 6, 7, 8, 20, 21, 22, 23, 24, 25, 26, 27, 28, 29, 30] (by decide +kernel) (by decide +kernel)
set_option maxRecDepth 1000000 in
theorem gX2_add_X0_setOverflow : GoodIn wsX2_add (wsV RX2 237 RX0 yX0_setOverflow wsX0_setOverflow) := goodIn_app (goodIn_of _ (by decide +kernel)) ggX2_add_X0_setOverflow
theorem dX2_add_0 : decode cX2_add 0 = .ok (.aload_n 0, 1) := by decide +kernel
theorem dX2_add_1 : decode cX2_add 1 = .ok (.getfield 28, 3) := by decide +kernel
theorem dX2_add_4 : decode cX2_add 4 = .ok (.iload_n 1, 1) := by decide +kernel
theorem dX2_add_5 : decode cX2_add 5 = .ok (.iload_n 2, 1) := by decide +kernel
theorem dX2_add_6 : decode cX2_add 6 = .ok (.iadd, 1) := by decide +kernel
theorem dX2_add_7 : decode cX2_add 7 = .ok (.iload_n 3, 1) := by decide +kernel
theorem dX2_add_8 : decode cX2_add 8 = .ok (.iadd, 1) := by decide +kernel
theorem dX2_add_9 : decode cX2_add 9 = .ok (.putfield 150, 3) := by decide +kernel
theorem dX2_add_12 : decode cX2_add 12 = .ok (.aload_n 0, 1) := by decide +kernel
theorem dX2_add_13 : decode cX2_add 13 = .ok (.getfield 28, 3) := by decide +kernel
theorem dX2_add_16 : decode cX2_add 16 = .ok (.sipush 128, 3) := by decide +kernel
theorem dX2_add_19 : decode cX2_add 19 = .ok (.iload_n 1, 1) := by decide +kernel
theorem dX2_add_20 : decode cX2_add 20 = .ok (.i2l, 1) := by decide +kernel
theorem dX2_add_21 : decode cX2_add 21 = .ok (.ldc2_w 235, 3) := by decide +kernel
theorem dX2_add_24 : decode cX2_add 24 = .ok (.land, 1) := by decide +kernel
theorem dX2_add_25 : decode cX2_add 25 = .ok (.iload_n 2, 1) := by decide +kernel
theorem dX2_add_26 : decode cX2_add 26 = .ok (.i2l, 1) := by decide +kernel
theorem dX2_add_27 : decode cX2_add 27 = .ok (.ldc2_w 235, 3) := by decide +kernel
theorem dX2_add_30 : decode cX2_add 30 = .ok (.land, 1) := by decide +kernel
theorem dX2_add_31 : decode cX2_add 31 = .ok (.ladd, 1) := by decide +kernel
theorem dX2_add_32 : decode cX2_add 32 = .ok (.iload_n 3, 1) := by decide +kernel
theorem dX2_add_33 : decode cX2_add 33 = .ok (.i2l, 1) := by decide +kernel
theorem dX2_add_34 : decode cX2_add 34 = .ok (.ladd, 1) := by decide +kernel
theorem dX2_add_35 : decode cX2_add 35 = .ok (.ldc2_w 235, 3) := by decide +kernel
theorem dX2_add_38 : decode cX2_add 38 = .ok (.lcmp, 1) := by decide +kernel
theorem dX2_add_39 : decode cX2_add 39 = .ok (.ifCond .le 7, 3) := by decide +kernel
theorem dX2_add_42 : decode cX2_add 42 = .ok (.iconst 1, 1) := by decide +kernel
theorem dX2_add_43 : decode cX2_add 43 = .ok (.goto 4, 3) := by decide +kernel
theorem dX2_add_46 : decode cX2_add 46 = .ok (.iconst 0, 1) := by decide +kernel
theorem dX2_add_47 : decode cX2_add 47 = .ok (.invokevirtual 207, 3) := by decide +kernel
theorem dX2_add_50 : decode cX2_add 50 = .ok (.aload_n 0, 1) := by decide +kernel
theorem dX2_add_51 : decode cX2_add 51 = .ok (.getfield 28, 3) := by decide +kernel
theorem dX2_add_54 : decode cX2_add 54 = .ok (.iload_n 1, 1) := by decide +kernel
theorem dX2_add_55 : decode cX2_add 55 = .ok (.i2l, 1) := by decide +kernel
theorem dX2_add_56 : decode cX2_add 56 = .ok (.iload_n 2, 1) := by decide +kernel
theorem dX2_add_57 : decode cX2_add 57 = .ok (.i2l, 1) := by decide +kernel
theorem dX2_add_58 : decode cX2_add 58 = .ok (.ladd, 1) := by decide +kernel
theorem dX2_add_59 : decode cX2_add 59 = .ok (.iload_n 3, 1) := by decide +kernel
theorem dX2_add_60 : decode cX2_add 60 = .ok (.i2l, 1) := by decide +kernel
theorem dX2_add_61 : decode cX2_add 61 = .ok (.ladd, 1) := by decide +kernel
theorem dX2_add_62 : decode cX2_add 62 = .ok (.aload_n 0, 1) := by decide +kernel
theorem dX2_add_63 : decode cX2_add 63 = .ok (.getfield 28, 3) := by decide +kernel
theorem dX2_add_66 : decode cX2_add 66 = .ok (.getfield 150, 3) := by decide +kernel
theorem dX2_add_69 : decode cX2_add 69 = .ok (.i2l, 1) := by decide +kernel
theorem dX2_add_70 : decode cX2_add 70 = .ok (.lcmp, 1) := by decide +kernel
theorem dX2_add_71 : decode cX2_add 71 = .ok (.ifCond .eq 7, 3) := by decide +kernel
theorem dX2_add_74 : decode cX2_add 74 = .ok (.iconst 1, 1) := by decide +kernel
theorem dX2_add_75 : decode cX2_add 75 = .ok (.goto 4, 3) := by decide +kernel
theorem dX2_add_78 : decode cX2_add 78 = .ok (.iconst 0, 1) := by decide +kernel
theorem dX2_add_79 : decode cX2_add 79 = .ok (.invokevirtual 237, 3) := by decide +kernel
theorem dX2_add_82 : decode cX2_add 82 = .ok (.return_, 1) := by decide +kernel
set_option maxRecDepth 1000000 in
theorem ggX2_subtract_J6_compareUnsigned_7cf53 : GoodIn wsX2_subtract wsJ6_compareUnsigned_7cf53 := goodIn_r _ [6, 7, 8, 9, 5, 10] (by decide +kernel) (by decide +kernel)
set_option maxRecDepth 1000000 in
theorem gX2_subtract_J6_compareUnsigned_7cf53 : GoodIn wsX2_subtract (va_wsS RX2 196 yJ6_compareUnsigned_7cf53 wsJ6_compareUnsigned_7cf53) := goodIn_app (goodIn_of _ (by decide +kernel)) ggX2_subtract_J6_compareUnsigned_7cf53
set_option maxRecDepth 1000000 in
theorem ggX2_subtract_X0_setBit : GoodIn wsX2_subtract wsX0_setBit := goodIn_r _ [15, 16, 27, 28, 29, 30, 31, 32, 33, 34, 35, 36, 37] (by decide +kernel) (by decide +kernel)
set_option maxRecDepth 1000000 in
theorem gX2_subtract_X0_setBit : GoodIn wsX2_subtract (wsV RX2 207 RX0 yX0_setBit wsX0_setBit) := goodIn_app (goodIn_of _ (by decide +kernel)) ggX2_subtract_X0_setBit
set_option maxRecDepth 1000000 in
theorem ggX2_subtract_X0_setOverflow : GoodIn wsX2_subtract wsX0_setOverflow := goodIn_r _ [20, 16, 21, 22, 12, 13, 14, 15, 27, 28, 29, 30, 31, 32, 33, 34, 35, 36, 37] (by decide +kernel) (by decide +kernel)
set_option maxRecDepth 1000000 in
theorem gX2_subtract_X0_setOverflow : GoodIn wsX2_subtract (wsV RX2 237 RX0 yX0_setOverflow wsX0_setOverflow) := goodIn_app (goodIn_of _ (by decide +kernel)) ggX2_subtract_X0_setOverflow
theorem dX2_subtract_0 : decode cX2_subtract 0 = .ok (.aload_n 0, 1) := by decide +kernel
theorem dX2_subtract_1 : decode cX2_subtract 1 = .ok (.getfield 28, 3) := by decide +kernel
theorem dX2_subtract_4 : decode cX2_subtract 4 = .ok (.iload_n 1, 1) := by decide +kernel
theorem dX2_subtract_5 : decode cX2_subtract 5 = .ok (.iload_n 2, 1) := by decide +kernel
theorem dX2_subtract_6 : decode cX2_subtract 6 = .ok (.isub, 1) := by decide +kernel
theorem dX2_subtract_7 : decode cX2_subtract 7 = .ok (.putfield 150, 3) := by decide +kernel
theorem dX2_subtract_10 : decode cX2_subtract 10 = .ok (.aload_n 0, 1) := by decide +kernel
theorem dX2_subtract_11 : decode cX2_subtract 11 = .ok (.getfield 28, 3) := by decide +kernel
theorem dX2_subtract_14 : decode cX2_subtract 14 = .ok (.sipush 128, 3) := by decide +kernel
theorem dX2_subtract_17 : decode cX2_subtract 17 = .ok (.iload_n 1, 1) := by decide +kernel
theorem dX2_subtract_18 : decode cX2_subtract 18 = .ok (.iload_n 2, 1) := by decide +kernel
theorem dX2_subtract_19 : decode cX2_subtract 19 = .ok (.invokestatic 196, 3) := by decide +kernel
theorem dX2_subtract_22 : decode cX2_subtract 22 = .ok (.ifCond .ge 7, 3) := by decide +kernel
theorem dX2_subtract_25 : decode cX2_subtract 25 = .ok (.iconst 1, 1) := by decide +kernel
theorem dX2_subtract_26 : decode cX2_subtract 26 = .ok (.goto 4, 3) := by decide +kernel
theorem dX2_subtract_29 : decode cX2_subtract 29 = .ok (.iconst 0, 1) := by decide +kernel
theorem dX2_subtract_30 : decode cX2_subtract 30 = .ok (.invokevirtual 207, 3) := by decide +kernel
theorem dX2_subtract_33 : decode cX2_subtract 33 = .ok (.aload_n 0, 1) := by decide +kernel
theorem dX2_subtract_34 : decode cX2_subtract 34 = .ok (.getfield 28, 3) := by decide +kernel
theorem dX2_subtract_37 : decode cX2_subtract 37 = .ok (.iload_n 1, 1) := by decide +kernel
theorem dX2_subtract_38 : decode cX2_subtract 38 = .ok (.i2l, 1) := by decide +kernel
theorem dX2_subtract_39 : decode cX2_subtract 39 = .ok (.iload_n 2, 1) := by decide +kernel
theorem dX2_subtract_40 : decode cX2_subtract 40 = .ok (.i2l, 1) := by decide +kernel
theorem dX2_subtract_41 : decode cX2_subtract 41 = .ok (.lsub, 1) := by decide +kernel
theorem dX2_subtract_42 : decode cX2_subtract 42 = .ok (.aload_n 0, 1) := by decide +kernel
theorem dX2_subtract_43 : decode cX2_subtract 43 = .ok (.getfield 28, 3) := by decide +kernel
theorem dX2_subtract_46 : decode cX2_subtract 46 = .ok (.getfield 150, 3) := by decide +kernel
theorem dX2_subtract_49 : decode cX2_subtract 49 = .ok (.i2l, 1) := by decide +kernel
theorem dX2_subtract_50 : decode cX2_subtract 50 = .ok (.lcmp, 1) := by decide +kernel
theorem dX2_subtract_51 : decode cX2_subtract 51 = .ok (.ifCond .eq 7, 3) := by decide +kernel
theorem dX2_subtract_54 : decode cX2_subtract 54 = .ok (.iconst 1, 1) := by decide +kernel
theorem dX2_subtract_55 : decode cX2_subtract 55 = .ok (.goto 4, 3) := by decide +kernel
theorem dX2_subtract_58 : decode cX2_subtract 58 = .ok (.iconst 0, 1) := by decide +kernel
theorem dX2_subtract_59 : decode cX2_subtract 59 = .ok (.invokevirtual 237, 3) := by decide +kernel
theorem dX2_subtract_62 : decode cX2_subtract 62 = .ok (.return_, 1) := by decide +kernel
set_option maxRecDepth 1000000 in
theorem ggX2_multiply_X0_setOverflow : GoodIn wsX2_multiply wsX0_setOverflow := goodIn_r _ [7, 8, 9, 10, 11, 12, 6, 13, 18, 19, 20, 21, 22, 23, 24, 25, 26, 27, 28] (by decide +kernel) (by decide +kernel)
set_option maxRecDepth 1000000 in
theorem gX2_multiply_X0_setOverflow : GoodIn wsX2_multiply (wsV RX2 237 RX0 yX0_setOverflow wsX0_setOverflow) := goodIn_app (goodIn_of _ (by decide +kernel)) ggX2_multiply_X0_setOverflow
theorem dX2_multiply_0 : decode cX2_multiply 0 = .ok (.aload_n 0, 1) := by decide +kernel
theorem dX2_multiply_1 : decode cX2_multiply 1 = .ok (.getfield 28, 3) := by decide +kernel
theorem dX2_multiply_4 : decode cX2_multiply 4 = .ok (.iload_n 1, 1) := by decide +kernel
theorem dX2_multiply_5 : decode cX2_multiply 5 = .ok (.iload_n 2, 1) := by decide +kernel
theorem dX2_multiply_6 : decode cX2_multiply 6 = .ok (.imul, 1) := by decide +kernel
theorem dX2_multiply_7 : decode cX2_multiply 7 = .ok (.putfield 150, 3) := by decide +kernel
theorem dX2_multiply_10 : decode cX2_multiply 10 = .ok (.aload_n 0, 1) := by decide +kernel
theorem dX2_multiply_11 : decode cX2_multiply 11 = .ok (.getfield 28, 3) := by decide +kernel
theorem dX2_multiply_14 : decode cX2_multiply 14 = .ok (.iload_n 1, 1) := by decide +kernel
theorem dX2_multiply_15 : decode cX2_multiply 15 = .ok (.i2l, 1) := by decide +kernel
theorem dX2_multiply_16 : decode cX2_multiply 16 = .ok (.iload_n 2, 1) := by decide +kernel
theorem dX2_multiply_17 : decode cX2_multiply 17 = .ok (.i2l, 1) := by decide +kernel
theorem dX2_multiply_18 : decode cX2_multiply 18 = .ok (.lmul, 1) := by decide +kernel
theorem dX2_multiply_19 : decode cX2_multiply 19 = .ok (.aload_n 0, 1) := by decide +kernel
theorem dX2_multiply_20 : decode cX2_multiply 20 = .ok (.getfield 28, 3) := by decide +kernel
theorem dX2_multiply_23 : decode cX2_multiply 23 = .ok (.getfield 150, 3) := by decide +kernel
theorem dX2_multiply_26 : decode cX2_multiply 26 = .ok (.i2l, 1) := by decide +kernel
theorem dX2_multiply_27 : decode cX2_multiply 27 = .ok (.lcmp, 1) := by decide +kernel
theorem dX2_multiply_28 : decode cX2_multiply 28 = .ok (.ifCond .eq 7, 3) := by decide +kernel
theorem dX2_multiply_31 : decode cX2_multiply 31 = .ok (.iconst 1, 1) := by decide +kernel
theorem dX2_multiply_32 : decode cX2_multiply 32 = .ok (.goto 4, 3) := by decide +kernel
theorem dX2_multiply_35 : decode cX2_multiply 35 = .ok (.iconst 0, 1) := by decide +kernel
theorem dX2_multiply_36 : decode cX2_multiply 36 = .ok (.invokevirtual 237, 3) := by decide +kernel
theorem dX2_multiply_39 : decode cX2_multiply 39 = .ok (.return_, 1) := by decide +kernel
set_option maxRecDepth 1000000 in
theorem ggX2_multiplyUnsigned_X0_setBit : GoodIn wsX2_multiplyUnsigned wsX0_setBit := goodIn_r _ [8, 9, 14, 15, 16, 17, 18, 19, 20, 21, 22, 23, 24] (by decide +kernel) (by decide +kernel)
set_option maxRecDepth 1000000 in
theorem gX2_multiplyUnsigned_X0_setBit : GoodIn wsX2_multiplyUnsigned (wsV RX2 207 RX0 yX0_setBit wsX0_setBit) := goodIn_app (goodIn_of _ (by decide +kernel)) ggX2_multiplyUnsigned_X0_setBit
theorem dX2_multiplyUnsigned_0 : decode cX2_multiplyUnsigned 0 = .ok (.iload_n 1, 1) := by decide +kernel
theorem dX2_multiplyUnsigned_1 : decode cX2_multiplyUnsigned 1 = .ok (.i2l, 1) := by decide +kernel
theorem dX2_multiplyUnsigned_2 : decode cX2_multiplyUnsigned 2 = .ok (.ldc2_w 235, 3) := by decide +kernel
theorem dX2_multiplyUnsigned_5 : decode cX2_multiplyUnsigned 5 = .ok (.land, 1) := by decide +kernel
theorem dX2_multiplyUnsigned_6 : decode cX2_multiplyUnsigned 6 = .ok (.iload_n 2, 1) := by decide +kernel
theorem dX2_multiplyUnsigned_7 : decode cX2_multiplyUnsigned 7 = .ok (.i2l, 1) := by decide +kernel
theorem dX2_multiplyUnsigned_8 : decode cX2_multiplyUnsigned 8 = .ok (.ldc2_w 235, 3) := by decide +kernel
theorem dX2_multiplyUnsigned_11 : decode cX2_multiplyUnsigned 11 = .ok (.land, 1) := by decide +kernel
theorem dX2_multiplyUnsigned_12 : decode cX2_multiplyUnsigned 12 = .ok (.lmul, 1) := by decide +kernel
theorem dX2_multiplyUnsigned_13 : decode cX2_multiplyUnsigned 13 = .ok (.lstore_n 3, 1) := by decide +kernel
theorem dX2_multiplyUnsigned_14 : decode cX2_multiplyUnsigned 14 = .ok (.aload_n 0, 1) := by decide +kernel
theorem dX2_multiplyUnsigned_15 : decode cX2_multiplyUnsigned 15 = .ok (.getfield 28, 3) := by decide +kernel
theorem dX2_multiplyUnsigned_18 : decode cX2_multiplyUnsigned 18 = .ok (.lload_n 3, 1) := by decide +kernel
theorem dX2_multiplyUnsigned_19 : decode cX2_multiplyUnsigned 19 = .ok (.l2i, 1) := by decide +kernel
theorem dX2_multiplyUnsigned_20 : decode cX2_multiplyUnsigned 20 = .ok (.putfield 150, 3) := by decide +kernel
theorem dX2_multiplyUnsigned_23 : decode cX2_multiplyUnsigned 23 = .ok (.aload_n 0, 1) := by decide +kernel
theorem dX2_multiplyUnsigned_24 : decode cX2_multiplyUnsigned 24 = .ok (.getfield 28, 3) := by decide +kernel
theorem dX2_multiplyUnsigned_27 : decode cX2_multiplyUnsigned 27 = .ok (.sipush 128, 3) := by decide +kernel
theorem dX2_multiplyUnsigned_30 : decode cX2_multiplyUnsigned 30 = .ok (.lload_n 3, 1) := by decide +kernel
theorem dX2_multiplyUnsigned_31 : decode cX2_multiplyUnsigned 31 = .ok (.bipush 32, 2) := by decide +kernel
theorem dX2_multiplyUnsigned_33 : decode cX2_multiplyUnsigned 33 = .ok (.lushr, 1) := by decide +kernel
theorem dX2_multiplyUnsigned_34 : decode cX2_multiplyUnsigned 34 = .ok (.lconst 0, 1) := by decide +kernel
theorem dX2_multiplyUnsigned_35 : decode cX2_multiplyUnsigned 35 = .ok (.lcmp, 1) := by decide +kernel
theorem dX2_multiplyUnsigned_36 : decode cX2_multiplyUnsigned 36 = .ok (.ifCond .eq 7, 3) := by decide +kernel
theorem dX2_multiplyUnsigned_39 : decode cX2_multiplyUnsigned 39 = .ok (.iconst 1, 1) := by decide +kernel
theorem dX2_multiplyUnsigned_40 : decode cX2_multiplyUnsigned 40 = .ok (.goto 4, 3) := by decide +kernel
theorem dX2_multiplyUnsigned_43 : decode cX2_multiplyUnsigned 43 = .ok (.iconst 0, 1) := by decide +kernel
theorem dX2_multiplyUnsigned_44 : decode cX2_multiplyUnsigned 44 = .ok (.invokevirtual 207, 3) := by decide +kernel
theorem dX2_multiplyUnsigned_47 : decode cX2_multiplyUnsigned 47 = .ok (.return_, 1) := by decide +kernel
set_option maxRecDepth 1000000 in
theorem ggX2_divide_X0_setOverflow : GoodIn wsX2_divide wsX0_setOverflow := goodIn_r _ [8, 9, 10, 11, 12, 13, 7, 14, 19, 20, 21, 22, 23, 24, 25, 26, 27, 28, 29] (by decide +kernel) (by decide +kernel)
set_option maxRecDepth 1000000 in
theorem gX2_divide_X0_setOverflow : GoodIn wsX2_divide (wsV RX2 237 RX0 yX0_setOverflow wsX0_setOverflow) := goodIn_app (goodIn_of _ (by decide +kernel)) ggX2_divide_X0_setOverflow
theorem dX2_divide_0 : decode cX2_divide 0 = .ok (.aload_n 0, 1) := by decide +kernel
theorem dX2_divide_1 : decode cX2_divide 1 = .ok (.getfield 28, 3) := by decide +kernel
theorem dX2_divide_4 : decode cX2_divide 4 = .ok (.iload_n 2, 1) := by decide +kernel
theorem dX2_divide_5 : decode cX2_divide 5 = .ok (.ifCond .ne 7, 3) := by decide +kernel
theorem dX2_divide_8 : decode cX2_divide 8 = .ok (.iconst 0, 1) := by decide +kernel
theorem dX2_divide_9 : decode cX2_divide 9 = .ok (.goto 6, 3) := by decide +kernel
theorem dX2_divide_12 : decode cX2_divide 12 = .ok (.iload_n 1, 1) := by decide +kernel
theorem dX2_divide_13 : decode cX2_divide 13 = .ok (.iload_n 2, 1) := by decide +kernel
theorem dX2_divide_14 : decode cX2_divide 14 = .ok (.idiv, 1) := by decide +kernel
theorem dX2_divide_15 : decode cX2_divide 15 = .ok (.putfield 150, 3) := by decide +kernel
theorem dX2_divide_18 : decode cX2_divide 18 = .ok (.aload_n 0, 1) := by decide +kernel
theorem dX2_divide_19 : decode cX2_divide 19 = .ok (.getfield 28, 3) := by decide +kernel
theorem dX2_divide_22 : decode cX2_divide 22 = .ok (.iload_n 2, 1) := by decide +kernel
theorem dX2_divide_23 : decode cX2_divide 23 = .ok (.ifCond .eq 14, 3) := by decide +kernel
theorem dX2_divide_26 : decode cX2_divide 26 = .ok (.iload_n 1, 1) := by decide +kernel
theorem dX2_divide_27 : decode cX2_divide 27 = .ok (.ldc 241, 2) := by decide +kernel
theorem dX2_divide_29 : decode cX2_divide 29 = .ok (.if_icmp .ne 12, 3) := by decide +kernel
theorem dX2_divide_32 : decode cX2_divide 32 = .ok (.iload_n 2, 1) := by decide +kernel
theorem dX2_divide_33 : decode cX2_divide 33 = .ok (.iconst (-1), 1) := by decide +kernel
theorem dX2_divide_34 : decode cX2_divide 34 = .ok (.if_icmp .ne 7, 3) := by decide +kernel
theorem dX2_divide_37 : decode cX2_divide 37 = .ok (.iconst 1, 1) := by decide +kernel
theorem dX2_divide_38 : decode cX2_divide 38 = .ok (.goto 4, 3) := by decide +kernel
