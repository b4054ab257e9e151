set_option maxRecDepth 1000000 in
theorem ggX10_init_X7_init : GoodIn wsX10_init wsX7_init := goodIn_r _ [17, 18, 2, 3, 19, 20, 21, 95, 96, 97, 98, 99, 100, 101, 102, 103, 104, 105, 106, 107, 108] (by decide +kernel) (by decide +kernel)
set_option maxRecDepth 1000000 in
theorem gX10_init_X7_init_n11 : GoodIn wsX10_init (wsX7_init) := ggX10_init_X7_init
set_option maxRecDepth 1000000 in
theorem ggX10_init_X1_init : GoodIn wsX10_init wsX1_init := goodIn_r _ [23, 24, 2, 3, 19, 25, 114, 115, 116, 117, 118, 119] (by decide +kernel) (by decide +kernel)
set_option maxRecDepth 1000000 in
theorem gX10_init_X1_init_n18 : GoodIn wsX10_init (wsX1_init) := ggX10_init_X1_init
set_option maxRecDepth 1000000 in
theorem ggX10_init_X10_setsFor : GoodIn wsX10_init wsX10_setsFor := goodIn_r _ [29] (by decide +kernel) (by decide +kernel)
set_option maxRecDepth 1000000 in
theorem gX10_init_X10_setsFor : GoodIn wsX10_init (va_wsS RX10 25 yX10_setsFor wsX10_setsFor) := goodIn_app (goodIn_of _ (by decide +kernel)) ggX10_init_X10_setsFor
set_option maxRecDepth 1000000 in
theorem ggX10_init_X2_init : GoodIn wsX10_init wsX2_init := goodIn_r _ [32, 33, 2, 3, 34, 35, 36, 37, 38, 39, 40, 41, 42, 43, 44, 45, 46, 47, 48, 49, 50, 51, 52, 53, 54, 55, 56, 57, 58, 59, 60, 61, 62, 63, 64, 19, 65, 66, 67, 68, 69, 70, 71, 72, 73, 74, 75, 76, 77, 78, 79, 80, 81, 82, 83, 84, 85, 86, 87, 88, 89, 90, 91, 92, 93, 94, 124, 120, 121, 122, 123, 125, 126, 127, 128, 129, 130, 131, 132, 133, 134, 135, 136, 137, 138, 139, 140, 141, 142, 143, 144, 145, 146, 147, 148, 149, 150, 151, 152, 153, 154, 155, 156, 157, 158, 159, 160, 161, 162, 163, 164, 165, 166, 167, 168] rfl (by decide +kernel)
set_option maxRecDepth 1000000 in
theorem gX10_init_X2_init : GoodIn wsX10_init (wsX2_init) := ggX10_init_X2_init
theorem dX10_init_0 : decode cX10_init 0 = .ok (.aload_n 0, 1) := by decide +kernel
theorem dX10_init_1 : decode cX10_init 1 = .ok (.invokespecial 3, 3) := by decide +kernel
theorem dX10_init_4 : decode cX10_init 4 = .ok (.aload_n 0, 1) := by decide +kernel
theorem dX10_init_5 : decode cX10_init 5 = .ok (.new 9, 3) := by decide +kernel
theorem dX10_init_8 : decode cX10_init 8 = .ok (.dup, 1) := by decide +kernel
theorem dX10_init_9 : decode cX10_init 9 = .ok (.invokespecial 11, 3) := by decide +kernel
theorem dX10_init_12 : decode cX10_init 12 = .ok (.putfield 12, 3) := by decide +kernel
theorem dX10_init_15 : decode cX10_init 15 = .ok (.aload_n 0, 1) := by decide +kernel
theorem dX10_init_16 : decode cX10_init 16 = .ok (.new 16, 3) := by decide +kernel
theorem dX10_init_19 : decode cX10_init 19 = .ok (.dup, 1) := by decide +kernel
theorem dX10_init_20 : decode cX10_init 20 = .ok (.invokespecial 18, 3) := by decide +kernel
theorem dX10_init_23 : decode cX10_init 23 = .ok (.putfield 19, 3) := by decide +kernel
theorem dX10_init_26 : decode cX10_init 26 = .ok (.aload_n 0, 1) := by decide +kernel
theorem dX10_init_27 : decode cX10_init 27 = .ok (.new 23, 3) := by decide +kernel
theorem dX10_init_30 : decode cX10_init 30 = .ok (.dup, 1) := by decide +kernel
theorem dX10_init_31 : decode cX10_init 31 = .ok (.iload_n 1, 1) := by decide +kernel
theorem dX10_init_32 : decode cX10_init 32 = .ok (.invokestatic 25, 3) := by decide +kernel
theorem dX10_init_35 : decode cX10_init 35 = .ok (.invokespecial 29, 3) := by decide +kernel
theorem dX10_init_38 : decode cX10_init 38 = .ok (.putfield 32, 3) := by decide +kernel
theorem dX10_init_41 : decode cX10_init 41 = .ok (.return_, 1) := by decide +kernel
set_option maxRecDepth 1000000 in
theorem ggX10_giveWord_X10_isWordAddress : GoodIn wsX10_giveWord wsX10_isWordAddress := goodIn_r _ [7, 8] (by decide +kernel) (by decide +kernel)
set_option maxRecDepth 1000000 in
theorem gX10_giveWord_X10_isWordAddress : GoodIn wsX10_giveWord (va_wsS RX10 40 yX10_isWordAddress wsX10_isWordAddress) := goodIn_app (goodIn_of _ (by decide +kernel)) ggX10_giveWord_X10_isWordAddress
set_option maxRecDepth 1000000 in
theorem ggX10_giveWord_X6_put : GoodIn wsX10_giveWord wsX6_put := goodIn_r _ [13, 14, 15, 16, 17, 12, 18, 19, 20, 21, 31] (by decide +kernel) (by decide +kernel)
set_option maxRecDepth 1000000 in
theorem gX10_giveWord_X6_put : GoodIn wsX10_giveWord (wsV RX10 48 RX6 yX6_put wsX6_put) := goodIn_app (goodIn_of _ (by decide +kernel)) ggX10_giveWord_X6_put
theorem dX10_giveWord_0 : decode cX10_giveWord 0 = .ok (.aload_n 0, 1) := by decide +kernel
theorem dX10_giveWord_1 : decode cX10_giveWord 1 = .ok (.getfield 36, 3) := by decide +kernel
theorem dX10_giveWord_4 : decode cX10_giveWord 4 = .ok (.ifCond .gt 10, 3) := by decide +kernel
theorem dX10_giveWord_7 : decode cX10_giveWord 7 = .ok (.iload_n 1, 1) := by decide +kernel
theorem dX10_giveWord_8 : decode cX10_giveWord 8 = .ok (.invokestatic 40, 3) := by decide +kernel
theorem dX10_giveWord_11 : decode cX10_giveWord 11 = .ok (.ifCond .ne 5, 3) := by decide +kernel
theorem dX10_giveWord_14 : decode cX10_giveWord 14 = .ok (.iconst 0, 1) := by decide +kernel
theorem dX10_giveWord_15 : decode cX10_giveWord 15 = .ok (.ireturn, 1) := by decide +kernel
theorem dX10_giveWord_16 : decode cX10_giveWord 16 = .ok (.aload_n 0, 1) := by decide +kernel
theorem dX10_giveWord_17 : decode cX10_giveWord 17 = .ok (.getfield 32, 3) := by decide +kernel
theorem dX10_giveWord_20 : decode cX10_giveWord 20 = .ok (.getfield 44, 3) := by decide +kernel
theorem dX10_giveWord_23 : decode cX10_giveWord 23 = .ok (.iload_n 1, 1) := by decide +kernel
theorem dX10_giveWord_24 : decode cX10_giveWord 24 = .ok (.iload_n 2, 1) := by decide +kernel
theorem dX10_giveWord_25 : decode cX10_giveWord 25 = .ok (.invokevirtual 48, 3) := by decide +kernel
theorem dX10_giveWord_28 : decode cX10_giveWord 28 = .ok (.iconst 1, 1) := by decide +kernel
theorem dX10_giveWord_29 : decode cX10_giveWord 29 = .ok (.ireturn, 1) := by decide +kernel
theorem dX10_setRegister_0 : decode cX10_setRegister 0 = .ok (.aload_n 0, 1) := by decide +kernel
theorem dX10_setRegister_1 : decode cX10_setRegister 1 = .ok (.getfield 36, 3) := by decide +kernel
theorem dX10_setRegister_4 : decode cX10_setRegister 4 = .ok (.ifCond .gt 14, 3) := by decide +kernel
theorem dX10_setRegister_7 : decode cX10_setRegister 7 = .ok (.iload_n 1, 1) := by decide +kernel
theorem dX10_setRegister_8 : decode cX10_setRegister 8 = .ok (.iconst 1, 1) := by decide +kernel
theorem dX10_setRegister_9 : decode cX10_setRegister 9 = .ok (.if_icmp .lt 9, 3) := by decide +kernel
theorem dX10_setRegister_12 : decode cX10_setRegister 12 = .ok (.iload_n 1, 1) := by decide +kernel
theorem dX10_setRegister_13 : decode cX10_setRegister 13 = .ok (.bipush 32, 2) := by decide +kernel
theorem dX10_setRegister_15 : decode cX10_setRegister 15 = .ok (.if_icmp .lt 5, 3) := by decide +kernel
theorem dX10_setRegister_18 : decode cX10_setRegister 18 = .ok (.iconst 0, 1) := by decide +kernel
theorem dX10_setRegister_19 : decode cX10_setRegister 19 = .ok (.ireturn, 1) := by decide +kernel
theorem dX10_setRegister_20 : decode cX10_setRegister 20 = .ok (.aload_n 0, 1) := by decide +kernel
theorem dX10_setRegister_21 : decode cX10_setRegister 21 = .ok (.getfield 32, 3) := by decide +kernel
theorem dX10_setRegister_24 : decode cX10_setRegister 24 = .ok (.getfield 54, 3) := by decide +kernel
theorem dX10_setRegister_27 : decode cX10_setRegister 27 = .ok (.getfield 58, 3) := by decide +kernel
theorem dX10_setRegister_30 : decode cX10_setRegister 30 = .ok (.iload_n 1, 1) := by decide +kernel
theorem dX10_setRegister_31 : decode cX10_setRegister 31 = .ok (.iload_n 2, 1) := by decide +kernel
theorem dX10_setRegister_32 : decode cX10_setRegister 32 = .ok (.iastore, 1) := by decide +kernel
theorem dX10_setRegister_33 : decode cX10_setRegister 33 = .ok (.iconst 1, 1) := by decide +kernel
theorem dX10_setRegister_34 : decode cX10_setRegister 34 = .ok (.ireturn, 1) := by decide +kernel
set_option maxRecDepth 1000000 in
theorem ggX10_linesFrom_X4_add : GoodIn wsX10_linesFrom wsX4_add := goodIn_r _ [10, 11, 12, 13, 42, 43, 44, 45] (by decide +kernel) (by decide +kernel)
set_option maxRecDepth 1000000 in
theorem gX10_linesFrom_X4_add : GoodIn wsX10_linesFrom (wsV RX10 74 RX4 yX4_add wsX4_add) := goodIn_app (goodIn_of _ (by decide +kernel)) ggX10_linesFrom_X4_add
theorem dX10_linesFrom_0 : decode cX10_linesFrom 0 = .ok (.aload_n 0, 1) := by decide +kernel
theorem dX10_linesFrom_1 : decode cX10_linesFrom 1 = .ok (.getfield 36, 3) := by decide +kernel
theorem dX10_linesFrom_4 : decode cX10_linesFrom 4 = .ok (.ifCond .ne 28, 3) := by decide +kernel
theorem dX10_linesFrom_7 : decode cX10_linesFrom 7 = .ok (.aload_n 0, 1) := by decide +kernel
theorem dX10_linesFrom_8 : decode cX10_linesFrom 8 = .ok (.getfield 32, 3) := by decide +kernel
theorem dX10_linesFrom_11 : decode cX10_linesFrom 11 = .ok (.getfield 54, 3) := by decide +kernel
theorem dX10_linesFrom_14 : decode cX10_linesFrom 14 = .ok (.getfield 64, 3) := by decide +kernel
theorem dX10_linesFrom_17 : decode cX10_linesFrom 17 = .ok (.getfield 68, 3) := by decide +kernel
theorem dX10_linesFrom_20 : decode cX10_linesFrom 20 = .ok (.iload_n 1, 1) := by decide +kernel
theorem dX10_linesFrom_21 : decode cX10_linesFrom 21 = .ok (.iload_n 2, 1) := by decide +kernel
theorem dX10_linesFrom_22 : decode cX10_linesFrom 22 = .ok (.invokevirtual 74, 3) := by decide +kernel
theorem dX10_linesFrom_25 : decode cX10_linesFrom 25 = .ok (.ifCond .eq 7, 3) := by decide +kernel
theorem dX10_linesFrom_28 : decode cX10_linesFrom 28 = .ok (.iconst 1, 1) := by decide +kernel
theorem dX10_linesFrom_29 : decode cX10_linesFrom 29 = .ok (.goto 4, 3) := by decide +kernel
theorem dX10_linesFrom_32 : decode cX10_linesFrom 32 = .ok (.iconst 0, 1) := by decide +kernel
theorem dX10_linesFrom_33 : decode cX10_linesFrom 33 = .ok (.ireturn, 1) := by decide +kernel
set_option maxRecDepth 1000000 in
theorem ggX10_restart_X9_reset : GoodIn wsX10_restart wsX9_reset := goodIn_r _ [11, 12, 13, 14, 15, 16, 17, 18, 19, 20, 21, 22, 23, 24, 25, 26, 27, 28, 29, 30, 31, 32, 33, 34, 35, 36, 37, 38, 39, 40, 41, 42, 43, 44, 45, 46, 47, 48, 49, 50, 51, 89, 90, 91, 92, 93, 94, 95, 96, 97, 98, 99, 100, 101, 102, 103, 104, 105, 106, 107, 108, 109, 110, 111, 112, 113] rfl (by decide +kernel)
set_option maxRecDepth 1000000 in
theorem gX10_restart_X9_reset : GoodIn wsX10_restart (wsV RX10 80 RX9 yX9_reset wsX9_reset) := goodIn_app (goodIn_of _ (by decide +kernel)) ggX10_restart_X9_reset
set_option maxRecDepth 1000000 in
theorem ggX10_restart_X7_reset : GoodIn wsX10_restart wsX7_reset := goodIn_r _ [56, 57, 58, 59, 60, 61, 62, 63, 64, 65, 66, 67, 68, 69, 17, 18, 19, 114, 115, 116, 117, 118, 119, 120, 121, 122, 123, 124, 125, 126, 127] rfl (by decide +kernel)
set_option maxRecDepth 1000000 in
theorem gX10_restart_X7_reset : GoodIn wsX10_restart (wsV RX10 83 RX7 yX7_reset wsX7_reset) := goodIn_app (goodIn_of _ (by decide +kernel)) ggX10_restart_X7_reset
set_option maxRecDepth 1000000 in
theorem ggX10_restart_X1_reset : GoodIn wsX10_restart wsX1_reset := goodIn_r _ [74, 75, 76, 77, 78, 79, 128, 129, 130, 131, 132, 133] (by decide +kernel) (by decide +kernel)
set_option maxRecDepth 1000000 in
theorem gX10_restart_X1_reset : GoodIn wsX10_restart (wsV RX10 84 RX1 yX1_reset wsX1_reset) := goodIn_app (goodIn_of _ (by decide +kernel)) ggX10_restart_X1_reset
theorem dX10_restart_0 : decode cX10_restart 0 = .ok (.aload_n 0, 1) := by decide +kernel
theorem dX10_restart_1 : decode cX10_restart 1 = .ok (.getfield 32, 3) := by decide +kernel
theorem dX10_restart_4 : decode cX10_restart 4 = .ok (.getfield 54, 3) := by decide +kernel
theorem dX10_restart_7 : decode cX10_restart 7 = .ok (.invokevirtual 80, 3) := by decide +kernel
theorem dX10_restart_10 : decode cX10_restart 10 = .ok (.aload_n 0, 1) := by decide +kernel
theorem dX10_restart_11 : decode cX10_restart 11 = .ok (.getfield 12, 3) := by decide +kernel
theorem dX10_restart_14 : decode cX10_restart 14 = .ok (.invokevirtual 83, 3) := by decide +kernel
theorem dX10_restart_17 : decode cX10_restart 17 = .ok (.aload_n 0, 1) := by decide +kernel
theorem dX10_restart_18 : decode cX10_restart 18 = .ok (.getfield 19, 3) := by decide +kernel
theorem dX10_restart_21 : decode cX10_restart 21 = .ok (.invokevirtual 84, 3) := by decide +kernel
theorem dX10_restart_24 : decode cX10_restart 24 = .ok (.aload_n 0, 1) := by decide +kernel
theorem dX10_restart_25 : decode cX10_restart 25 = .ok (.iconst 0, 1) := by decide +kernel
theorem dX10_restart_26 : decode cX10_restart 26 = .ok (.putfield 36, 3) := by decide +kernel
theorem dX10_restart_29 : decode cX10_restart 29 = .ok (.aload_n 0, 1) := by decide +kernel
theorem dX10_restart_30 : decode cX10_restart 30 = .ok (.iconst 0, 1) := by decide +kernel
theorem dX10_restart_31 : decode cX10_restart 31 = .ok (.putfield 85, 3) := by decide +kernel
theorem dX10_restart_34 : decode cX10_restart 34 = .ok (.return_, 1) := by decide +kernel
set_option maxRecDepth 1000000 in
theorem ggX10_runCycles_X2_comeTo : GoodIn wsX10_runCycles wsX2_comeTo := goodIn_r _ [13, 14, 15, 16, 17, 18, 19, 20, 21, 22, 23, 24, 25, 26, 27, 28, 29, 30, 31, 32, 33, 34, 35, 36, 37, 38, 39, 40, 41, 42, 43, 44, 45, 46, 47, 48, 49, 50, 51, 52, 53, 54, 55, 56, 57, 58, 59, 60, 61, 62, 63, 64, 65, 66, 67, 68, 69, 70, 71, 72, 73, 74, 75, 76, 77, 78, 79, 80, 81, 82, 83, 84, 85, 86, 87, 88, 89, 90, 91, 92, 93, 94, 95, 96, 97, 98, 99, 100, 101, 102, 103, 104, 105, 106, 107, 108, 109, 110, 111, 112, 113, 114, 115, 116, 117, 118, 119, 120, 121, 122, 123, 124, 125, 126, 12, 127, 128, 129, 130, 131, 132, 133, 134, 135, 136, 137, 138, 139, 140, 141, 142, 143, 144, 145, 146, 147, 148, 149, 150, 151, 152, 153, 154, 155, 156, 157, 158, 159, 160, 161, 162, 163, 164, 165, 166, 167, 168, 169, 170, 171, 172, 173, 174, 175, 176, 177, 178, 179, 180, 181, 182, 183, 184, 185, 186, 187, 188, 189, 190, 191, 192, 193, 194, 195, 196, 197, 198, 199, 200, 201, 202, 203, 204, 205, 206, 207, 208, 209, 210, 211, 212, 213, 214, 215, 216, 217, 218, 219, 220, 221, 222, 223, 224, 225, 226, 227, 228, 229, 230, 231, 232, 233, 234, 235, 236, 237, 238, 239, 240, 241, 242, 243, 244, 245, 246, 247, 248, 249, 250, 251, 252, 253, 254, 255, 256, 257, 258, 259, 260, 261, 262, 263, 264, 265, 266, 267, 268, 269, 270, 271, 272, 273, 274, 275, 276, 277, 278, 279, 490, 491, 492, 493, 494, 495, 496, 497, 498, 499, 500, 501, 502, 503, 504, 505, 506, 507, 508, 509, 510, 511, 512, 513, 514, 515, 516, 517, 518, 519, 520, 521, 522, 523, 524, 525, 526, 527, 528, 529, 530, 531, 532, 533, 534, 535, 536, 537, 538] rfl (by decide +kernel)
set_option maxRecDepth 1000000 in
theorem gX10_runCycles_X2_comeTo : GoodIn wsX10_runCycles (wsV RX10 93 RX2 yX2_comeTo wsX2_comeTo) := goodIn_app (goodIn_of _ (by decide +kernel)) ggX10_runCycles_X2_comeTo
set_option maxRecDepth 1000000 in
theorem ggX10_runCycles_X7_take : GoodIn wsX10_runCycles wsX7_take := goodIn_r _ [284, 285, 286, 287, 288, 289, 290, 291, 292, 293, 12, 294, 16, 23, 295, 296, 297, 283, 298, 299, 300, 301, 302, 303, 304, 305, 306, 307, 308, 309, 310, 311, 312, 313, 314, 315, 316, 317, 318, 319, 320, 321, 322, 323, 324, 86, 87, 57, 88, 59, 325, 326, 327, 328, 329, 330, 331, 332, 333, 334, 335, 336, 337, 338, 339, 340, 341, 342, 343, 344, 345, 346, 347, 348, 349, 77, 85, 350, 351, 352, 353, 354, 355, 356, 357, 358, 359, 360, 361, 362, 76, 83, 490, 491, 492, 493, 494, 495, 496, 497, 498, 499, 526, 527, 528, 529, 530, 531, 532, 533, 476, 477, 478, 479, 480, 481, 482, 483, 484, 485, 486, 487, 488, 489, 513, 514, 515, 516, 517, 518, 519, 520, 521, 522, 523] rfl (by decide +kernel)
set_option maxRecDepth 1000000 in
theorem gX10_runCycles_X7_take : GoodIn wsX10_runCycles (wsV RX10 96 RX7 yX7_take wsX7_take) := goodIn_app (goodIn_of _ (by decide +kernel)) ggX10_runCycles_X7_take
set_option maxRecDepth 1000000 in
theorem ggX10_runCycles_X1_add : GoodIn wsX10_runCycles wsX1_add := goodIn_r _ [367, 368, 369, 370, 371, 372, 373, 374, 375, 376, 377, 378, 379, 380, 381, 366, 382, 383, 384, 385, 386, 304, 305, 306, 387, 292, 293, 12, 294, 16, 23, 388, 389, 390, 391, 392, 393, 394, 395, 396, 397, 347, 348, 57, 349, 77, 85, 86, 87, 88, 59, 398, 476, 477, 478, 479, 480, 481, 482, 483, 484, 485, 486, 487, 488, 489, 470, 471, 472, 473, 474, 475, 490, 491, 492, 493, 513, 514, 515, 516, 517, 518, 519, 520, 521, 522, 523, 494, 495, 496, 497, 498, 499, 526, 527, 528, 529, 530, 531, 532, 533] rfl (by decide +kernel)
set_option maxRecDepth 1000000 in
theorem gX10_runCycles_X1_add : GoodIn wsX10_runCycles (wsV RX10 103 RX1 yX1_add wsX1_add) := goodIn_app (goodIn_of _ (by decide +kernel)) ggX10_runCycles_X1_add
set_option maxRecDepth 1000000 in
theorem ggX10_runCycles_X2_finish : GoodIn wsX10_runCycles wsX2_finish := goodIn_r _ [402, 16, 23, 403, 404, 405, 12, 406, 14, 15, 21, 128, 146, 154, 22, 155, 157, 137, 17, 229, 18, 139, 186, 129, 407, 408, 147, 409, 347, 348, 57, 349, 77, 85, 86, 87, 88, 59, 410, 411, 412, 63, 413, 174, 175, 176, 177, 167, 168, 173, 61, 62, 64, 65, 66, 67, 68, 69, 70, 71, 414, 415, 416, 417, 418, 419, 420, 421, 92, 422, 94, 191, 192, 193, 423, 194, 424, 95, 101, 109, 108, 195, 425, 426, 196, 427, 428, 429, 39, 430, 41, 201, 202, 203, 204, 47, 431, 432, 433, 434, 435, 436, 437, 140, 438, 439, 440, 441, 442, 443, 444, 445, 446, 447, 448, 449, 450, 451, 107, 106, 452, 453, 454, 455, 96, 456, 110, 111, 112, 113, 114, 115, 116, 117, 118, 457, 458, 459, 460, 138, 461, 20, 462, 463, 464, 490, 491, 492, 493, 513, 514, 515, 516, 517, 518, 519, 520, 521, 522, 523, 494, 495, 496, 497, 498, 499, 500, 501, 502, 503, 504, 505, 506, 507, 508, 509, 510, 511, 512, 526, 527, 528, 529, 530, 531, 532, 533, 534, 524, 525, 535, 536, 537, 538] rfl (by decide +kernel)
set_option maxRecDepth 1000000 in
theorem gX10_runCycles_X2_finish : GoodIn wsX10_runCycles (wsV RX10 106 RX2 yX2_finish wsX2_finish) := goodIn_app (goodIn_of _ (by decide +kernel)) ggX10_runCycles_X2_finish
theorem dX10_runCycles_0 : decode cX10_runCycles 0 = .ok (.iload_n 1, 1) := by decide +kernel
theorem dX10_runCycles_1 : decode cX10_runCycles 1 = .ok (.iconst 1, 1) := by decide +kernel
theorem dX10_runCycles_2 : decode cX10_runCycles 2 = .ok (.if_icmp .lt 21, 3) := by decide +kernel
theorem dX10_runCycles_5 : decode cX10_runCycles 5 = .ok (.iload_n 1, 1) := by decide +kernel
theorem dX10_runCycles_6 : decode cX10_runCycles 6 = .ok (.sipush 2000, 3) := by decide +kernel
theorem dX10_runCycles_9 : decode cX10_runCycles 9 = .ok (.if_icmp .gt 14, 3) := by decide +kernel
theorem dX10_runCycles_12 : decode cX10_runCycles 12 = .ok (.aload_n 0, 1) := by decide +kernel
theorem dX10_runCycles_13 : decode cX10_runCycles 13 = .ok (.getfield 36, 3) := by decide +kernel
theorem dX10_runCycles_16 : decode cX10_runCycles 16 = .ok (.iload_n 1, 1) := by decide +kernel
theorem dX10_runCycles_17 : decode cX10_runCycles 17 = .ok (.iadd, 1) := by decide +kernel
theorem dX10_runCycles_18 : decode cX10_runCycles 18 = .ok (.ldc 89, 2) := by decide +kernel
theorem dX10_runCycles_20 : decode cX10_runCycles 20 = .ok (.if_icmp .le 5, 3) := by decide +kernel
theorem dX10_runCycles_23 : decode cX10_runCycles 23 = .ok (.iconst (-1), 1) := by decide +kernel
theorem dX10_runCycles_24 : decode cX10_runCycles 24 = .ok (.ireturn, 1) := by decide +kernel
theorem dX10_runCycles_25 : decode cX10_runCycles 25 = .ok (.aload_n 0, 1) := by decide +kernel
theorem dX10_runCycles_26 : decode cX10_runCycles 26 = .ok (.dup, 1) := by decide +kernel
theorem dX10_runCycles_27 : decode cX10_runCycles 27 = .ok (.getfield 36, 3) := by decide +kernel
theorem dX10_runCycles_30 : decode cX10_runCycles 30 = .ok (.iload_n 1, 1) := by decide +kernel
theorem dX10_runCycles_31 : decode cX10_runCycles 31 = .ok (.iadd, 1) := by decide +kernel
theorem dX10_runCycles_32 : decode cX10_runCycles 32 = .ok (.putfield 36, 3) := by decide +kernel
theorem dX10_runCycles_35 : decode cX10_runCycles 35 = .ok (.aload_n 0, 1) := by decide +kernel
theorem dX10_runCycles_36 : decode cX10_runCycles 36 = .ok (.getfield 19, 3) := by decide +kernel
theorem dX10_runCycles_39 : decode cX10_runCycles 39 = .ok (.getfield 90, 3) := by decide +kernel
theorem dX10_runCycles_42 : decode cX10_runCycles 42 = .ok (.istore_n 2, 1) := by decide +kernel
theorem dX10_runCycles_43 : decode cX10_runCycles 43 = .ok (.iconst 0, 1) := by decide +kernel
theorem dX10_runCycles_44 : decode cX10_runCycles 44 = .ok (.istore_n 3, 1) := by decide +kernel
theorem dX10_runCycles_45 : decode cX10_runCycles 45 = .ok (.iload_n 3, 1) := by decide +kernel
theorem dX10_runCycles_46 : decode cX10_runCycles 46 = .ok (.iconst 2, 1) := by decide +kernel
theorem dX10_runCycles_47 : decode cX10_runCycles 47 = .ok (.iload_n 1, 1) := by decide +kernel
theorem dX10_runCycles_48 : decode cX10_runCycles 48 = .ok (.imul, 1) := by decide +kernel
theorem dX10_runCycles_49 : decode cX10_runCycles 49 = .ok (.if_icmp .gt 83, 3) := by decide +kernel
theorem dX10_runCycles_52 : decode cX10_runCycles 52 = .ok (.aload_n 0, 1) := by decide +kernel
theorem dX10_runCycles_53 : decode cX10_runCycles 53 = .ok (.getfield 85, 3) := by decide +kernel
theorem dX10_runCycles_56 : decode cX10_runCycles 56 = .ok (.ifCond .ne 26, 3) := by decide +kernel
theorem dX10_runCycles_59 : decode cX10_runCycles 59 = .ok (.aload_n 0, 1) := by decide +kernel
theorem dX10_runCycles_60 : decode cX10_runCycles 60 = .ok (.getfield 32, 3) := by decide +kernel
theorem dX10_runCycles_63 : decode cX10_runCycles 63 = .ok (.invokevirtual 93, 3) := by decide +kernel
theorem dX10_runCycles_66 : decode cX10_runCycles 66 = .ok (.aload_n 0, 1) := by decide +kernel
theorem dX10_runCycles_67 : decode cX10_runCycles 67 = .ok (.getfield 12, 3) := by decide +kernel
theorem dX10_runCycles_70 : decode cX10_runCycles 70 = .ok (.aload_n 0, 1) := by decide +kernel
theorem dX10_runCycles_71 : decode cX10_runCycles 71 = .ok (.getfield 32, 3) := by decide +kernel
theorem dX10_runCycles_74 : decode cX10_runCycles 74 = .ok (.invokevirtual 96, 3) := by decide +kernel
theorem dX10_runCycles_77 : decode cX10_runCycles 77 = .ok (.aload_n 0, 1) := by decide +kernel
theorem dX10_runCycles_78 : decode cX10_runCycles 78 = .ok (.iconst 1, 1) := by decide +kernel
theorem dX10_runCycles_79 : decode cX10_runCycles 79 = .ok (.putfield 85, 3) := by decide +kernel
theorem dX10_runCycles_82 : decode cX10_runCycles 82 = .ok (.aload_n 0, 1) := by decide +kernel
theorem dX10_runCycles_83 : decode cX10_runCycles 83 = .ok (.getfield 12, 3) := by decide +kernel
theorem dX10_runCycles_86 : decode cX10_runCycles 86 = .ok (.getfield 100, 3) := by decide +kernel
theorem dX10_runCycles_89 : decode cX10_runCycles 89 = .ok (.aload_n 0, 1) := by decide +kernel
theorem dX10_runCycles_90 : decode cX10_runCycles 90 = .ok (.getfield 36, 3) := by decide +kernel
theorem dX10_runCycles_93 : decode cX10_runCycles 93 = .ok (.if_icmp .le 6, 3) := by decide +kernel
theorem dX10_runCycles_96 : decode cX10_runCycles 96 = .ok (.goto 36, 3) := by decide +kernel
theorem dX10_runCycles_99 : decode cX10_runCycles 99 = .ok (.aload_n 0, 1) := by decide +kernel
theorem dX10_runCycles_100 : decode cX10_runCycles 100 = .ok (.getfield 19, 3) := by decide +kernel
theorem dX10_runCycles_103 : decode cX10_runCycles 103 = .ok (.aload_n 0, 1) := by decide +kernel
theorem dX10_runCycles_104 : decode cX10_runCycles 104 = .ok (.getfield 32, 3) := by decide +kernel
theorem dX10_runCycles_107 : decode cX10_runCycles 107 = .ok (.aload_n 0, 1) := by decide +kernel
theorem dX10_runCycles_108 : decode cX10_runCycles 108 = .ok (.getfield 12, 3) := by decide +kernel
theorem dX10_runCycles_111 : decode cX10_runCycles 111 = .ok (.invokevirtual 103, 3) := by decide +kernel
theorem dX10_runCycles_114 : decode cX10_runCycles 114 = .ok (.aload_n 0, 1) := by decide +kernel
theorem dX10_runCycles_115 : decode cX10_runCycles 115 = .ok (.getfield 32, 3) := by decide +kernel
theorem dX10_runCycles_118 : decode cX10_runCycles 118 = .ok (.invokevirtual 106, 3) := by decide +kernel
theorem dX10_runCycles_121 : decode cX10_runCycles 121 = .ok (.aload_n 0, 1) := by decide +kernel
theorem dX10_runCycles_122 : decode cX10_runCycles 122 = .ok (.iconst 0, 1) := by decide +kernel
theorem dX10_runCycles_123 : decode cX10_runCycles 123 = .ok (.putfield 85, 3) := by decide +kernel
theorem dX10_runCycles_126 : decode cX10_runCycles 126 = .ok (.iinc 3 1, 3) := by decide +kernel
theorem dX10_runCycles_129 : decode cX10_runCycles 129 = .ok (.goto (-84), 3) := by decide +kernel
theorem dX10_runCycles_132 : decode cX10_runCycles 132 = .ok (.aload_n 0, 1) := by decide +kernel
theorem dX10_runCycles_133 : decode cX10_runCycles 133 = .ok (.getfield 19, 3) := by decide +kernel
theorem dX10_runCycles_136 : decode cX10_runCycles 136 = .ok (.getfield 90, 3) := by decide +kernel
theorem dX10_runCycles_139 : decode cX10_runCycles 139 = .ok (.iload_n 2, 1) := by decide +kernel
theorem dX10_runCycles_140 : decode cX10_runCycles 140 = .ok (.isub, 1) := by decide +kernel
theorem dX10_runCycles_141 : decode cX10_runCycles 141 = .ok (.ireturn, 1) := by decide +kernel
theorem dX10_registerOf_0 : decode cX10_registerOf 0 = .ok (.iload_n 1, 1) := by decide +kernel
theorem dX10_registerOf_1 : decode cX10_registerOf 1 = .ok (.ifCond .lt 9, 3) := by decide +kernel
theorem dX10_registerOf_4 : decode cX10_registerOf 4 = .ok (.iload_n 1, 1) := by decide +kernel
theorem dX10_registerOf_5 : decode cX10_registerOf 5 = .ok (.bipush 32, 2) := by decide +kernel
theorem dX10_registerOf_7 : decode cX10_registerOf 7 = .ok (.if_icmp .lt 7, 3) := by decide +kernel
theorem dX10_registerOf_10 : decode cX10_registerOf 10 = .ok (.iconst 0, 1) := by decide +kernel
theorem dX10_registerOf_11 : decode cX10_registerOf 11 = .ok (.goto 15, 3) := by decide +kernel
theorem dX10_registerOf_14 : decode cX10_registerOf 14 = .ok (.aload_n 0, 1) := by decide +kernel
theorem dX10_registerOf_15 : decode cX10_registerOf 15 = .ok (.getfield 32, 3) := by decide +kernel
theorem dX10_registerOf_18 : decode cX10_registerOf 18 = .ok (.getfield 54, 3) := by decide +kernel
theorem dX10_registerOf_21 : decode cX10_registerOf 21 = .ok (.getfield 58, 3) := by decide +kernel
theorem dX10_registerOf_24 : decode cX10_registerOf 24 = .ok (.iload_n 1, 1) := by decide +kernel
theorem dX10_registerOf_25 : decode cX10_registerOf 25 = .ok (.iaload, 1) := by decide +kernel
theorem dX10_registerOf_26 : decode cX10_registerOf 26 = .ok (.ireturn, 1) := by decide +kernel
set_option maxRecDepth 1000000 in
theorem ggX10_specialOf_X8_read : GoodIn wsX10_specialOf wsX8_read := goodIn_r _ [8, 9, 10, 11, 12, 13, 14, 15, 16, 17, 18, 19, 20, 21, 22, 7, 23, 24, 25, 26, 27, 28, 29, 30, 31, 32, 33, 34, 35, 36, 37, 38, 39, 40, 41, 42, 43, 44, 45, 61, 62, 63, 64, 65, 66, 67, 68, 69, 70, 71, 72, 73, 74, 75, 76, 77, 78, 79] rfl (by decide +kernel)
set_option maxRecDepth 1000000 in
theorem gX10_specialOf_X8_read : GoodIn wsX10_specialOf (wsV RX10 109 RX8 yX8_read wsX8_read) := goodIn_app (goodIn_of _ (by decide +kernel)) ggX10_specialOf_X8_read
theorem dX10_specialOf_0 : decode cX10_specialOf 0 = .ok (.aload_n 0, 1) := by decide +kernel
theorem dX10_specialOf_1 : decode cX10_specialOf 1 = .ok (.getfield 32, 3) := by decide +kernel
theorem dX10_specialOf_4 : decode cX10_specialOf 4 = .ok (.getfield 54, 3) := by decide +kernel
theorem dX10_specialOf_7 : decode cX10_specialOf 7 = .ok (.getfield 64, 3) := by decide +kernel
theorem dX10_specialOf_10 : decode cX10_specialOf 10 = .ok (.iload_n 1, 1) := by decide +kernel
theorem dX10_specialOf_11 : decode cX10_specialOf 11 = .ok (.invokevirtual 109, 3) := by decide +kernel
theorem dX10_specialOf_14 : decode cX10_specialOf 14 = .ok (.ireturn, 1) := by decide +kernel
set_option maxRecDepth 1000000 in
theorem ggX10_wordAt_X10_isWordAddress : GoodIn wsX10_wordAt wsX10_isWordAddress := goodIn_r _ [6, 7] (by decide +kernel) (by decide +kernel)
set_option maxRecDepth 1000000 in
theorem gX10_wordAt_X10_isWordAddress : GoodIn wsX10_wordAt (va_wsS RX10 40 yX10_isWordAddress wsX10_isWordAddress) := goodIn_app (goodIn_of _ (by decide +kernel)) ggX10_wordAt_X10_isWordAddress
set_option maxRecDepth 1000000 in
theorem ggX10_wordAt_X6_get : GoodIn wsX10_wordAt wsX6_get := goodIn_r _ [12, 13, 14, 15, 11, 16, 17, 18, 19, 29] (by decide +kernel) (by decide +kernel)
set_option maxRecDepth 1000000 in
theorem gX10_wordAt_X6_get : GoodIn wsX10_wordAt (wsV RX10 112 RX6 yX6_get wsX6_get) := goodIn_app (goodIn_of _ (by decide +kernel)) ggX10_wordAt_X6_get
theorem dX10_wordAt_0 : decode cX10_wordAt 0 = .ok (.iload_n 1, 1) := by decide +kernel
theorem dX10_wordAt_1 : decode cX10_wordAt 1 = .ok (.invokestatic 40, 3) := by decide +kernel
theorem dX10_wordAt_4 : decode cX10_wordAt 4 = .ok (.ifCond .eq 17, 3) := by decide +kernel
theorem dX10_wordAt_7 : decode cX10_wordAt 7 = .ok (.aload_n 0, 1) := by decide +kernel
theorem dX10_wordAt_8 : decode cX10_wordAt 8 = .ok (.getfield 32, 3) := by decide +kernel
theorem dX10_wordAt_11 : decode cX10_wordAt 11 = .ok (.getfield 44, 3) := by decide +kernel
theorem dX10_wordAt_14 : decode cX10_wordAt 14 = .ok (.iload_n 1, 1) := by decide +kernel
theorem dX10_wordAt_15 : decode cX10_wordAt 15 = .ok (.invokevirtual 112, 3) := by decide +kernel
theorem dX10_wordAt_18 : decode cX10_wordAt 18 = .ok (.goto 4, 3) := by decide +kernel
theorem dX10_wordAt_21 : decode cX10_wordAt 21 = .ok (.iconst 0, 1) := by decide +kernel
theorem dX10_wordAt_22 : decode cX10_wordAt 22 = .ok (.ireturn, 1) := by decide +kernel
theorem dX10_placeOf_0 : decode cX10_placeOf 0 = .ok (.aload_n 0, 1) := by decide +kernel
theorem dX10_placeOf_1 : decode cX10_placeOf 1 = .ok (.getfield 32, 3) := by decide +kernel
theorem dX10_placeOf_4 : decode cX10_placeOf 4 = .ok (.getfield 54, 3) := by decide +kernel
theorem dX10_placeOf_7 : decode cX10_placeOf 7 = .ok (.astore_n 2, 1) := by decide +kernel
theorem dX10_placeOf_8 : decode cX10_placeOf 8 = .ok (.iload_n 1, 1) := by decide +kernel
theorem dX10_placeOf_9 : decode cX10_placeOf 9 = .ok (.tableswitch 64 0 2 #[27, 32, 48], 27) := by decide +kernel
theorem dX10_placeOf_36 : decode cX10_placeOf 36 = .ok (.aload_n 2, 1) := by decide +kernel
theorem dX10_placeOf_37 : decode cX10_placeOf 37 = .ok (.getfield 115, 3) := by decide +kernel
theorem dX10_placeOf_40 : decode cX10_placeOf 40 = .ok (.ireturn, 1) := by decide +kernel
theorem dX10_placeOf_41 : decode cX10_placeOf 41 = .ok (.aload_n 2, 1) := by decide +kernel
theorem dX10_placeOf_42 : decode cX10_placeOf 42 = .ok (.getfield 118, 3) := by decide +kernel
theorem dX10_placeOf_45 : decode cX10_placeOf 45 = .ok (.ifCond .eq 10, 3) := by decide +kernel
theorem dX10_placeOf_48 : decode cX10_placeOf 48 = .ok (.aload_n 2, 1) := by decide +kernel
theorem dX10_placeOf_49 : decode cX10_placeOf 49 = .ok (.getfield 121, 3) := by decide +kernel
theorem dX10_placeOf_52 : decode cX10_placeOf 52 = .ok (.goto 4, 3) := by decide +kernel
theorem dX10_placeOf_55 : decode cX10_placeOf 55 = .ok (.iconst 0, 1) := by decide +kernel
theorem dX10_placeOf_56 : decode cX10_placeOf 56 = .ok (.ireturn, 1) := by decide +kernel
theorem dX10_placeOf_57 : decode cX10_placeOf 57 = .ok (.aload_n 2, 1) := by decide +kernel
theorem dX10_placeOf_58 : decode cX10_placeOf 58 = .ok (.getfield 118, 3) := by decide +kernel
theorem dX10_placeOf_61 : decode cX10_placeOf 61 = .ok (.ifCond .eq 10, 3) := by decide +kernel
theorem dX10_placeOf_64 : decode cX10_placeOf 64 = .ok (.aload_n 2, 1) := by decide +kernel
theorem dX10_placeOf_65 : decode cX10_placeOf 65 = .ok (.getfield 124, 3) := by decide +kernel
theorem dX10_placeOf_68 : decode cX10_placeOf 68 = .ok (.goto 4, 3) := by decide +kernel
theorem dX10_placeOf_71 : decode cX10_placeOf 71 = .ok (.iconst 0, 1) := by decide +kernel
theorem dX10_placeOf_72 : decode cX10_placeOf 72 = .ok (.ireturn, 1) := by decide +kernel
theorem dX10_placeOf_73 : decode cX10_placeOf 73 = .ok (.iconst 0, 1) := by decide +kernel
theorem dX10_placeOf_74 : decode cX10_placeOf 74 = .ok (.ireturn, 1) := by decide +kernel
set_option maxRecDepth 1000000 in
theorem ggX10_eventOf_X1_keeps : GoodIn wsX10_eventOf wsX1_keeps := goodIn_r _ [6, 7, 18, 19, 20, 21, 22, 23] (by decide +kernel) (by decide +kernel)
set_option maxRecDepth 1000000 in
theorem gX10_eventOf_X1_keeps : GoodIn wsX10_eventOf (wsV RX10 127 RX1 yX1_keeps wsX1_keeps) := goodIn_app (goodIn_of _ (by decide +kernel)) ggX10_eventOf_X1_keeps
set_option maxRecDepth 1000000 in
theorem ggX10_eventOf_X1_field : GoodIn wsX10_eventOf wsX1_field := goodIn_r _ [11, 12, 18, 19, 20, 21, 22, 23] (by decide +kernel) (by decide +kernel)
set_option maxRecDepth 1000000 in
theorem gX10_eventOf_X1_field : GoodIn wsX10_eventOf (wsV RX10 130 RX1 yX1_field wsX1_field) := goodIn_app (goodIn_of _ (by decide +kernel)) ggX10_eventOf_X1_field
theorem dX10_eventOf_0 : decode cX10_eventOf 0 = .ok (.aload_n 0, 1) := by decide +kernel
theorem dX10_eventOf_1 : decode cX10_eventOf 1 = .ok (.getfield 19, 3) := by decide +kernel
theorem dX10_eventOf_4 : decode cX10_eventOf 4 = .ok (.iload_n 1, 1) := by decide +kernel
theorem dX10_eventOf_5 : decode cX10_eventOf 5 = .ok (.invokevirtual 127, 3) := by decide +kernel
theorem dX10_eventOf_8 : decode cX10_eventOf 8 = .ok (.ifCond .eq 25, 3) := by decide +kernel
theorem dX10_eventOf_11 : decode cX10_eventOf 11 = .ok (.iload_n 2, 1) := by decide +kernel
theorem dX10_eventOf_12 : decode cX10_eventOf 12 = .ok (.ifCond .lt 21, 3) := by decide +kernel
theorem dX10_eventOf_15 : decode cX10_eventOf 15 = .ok (.iload_n 2, 1) := by decide +kernel
theorem dX10_eventOf_16 : decode cX10_eventOf 16 = .ok (.bipush 7, 2) := by decide +kernel
theorem dX10_eventOf_18 : decode cX10_eventOf 18 = .ok (.if_icmp .gt 15, 3) := by decide +kernel
theorem dX10_eventOf_21 : decode cX10_eventOf 21 = .ok (.aload_n 0, 1) := by decide +kernel
theorem dX10_eventOf_22 : decode cX10_eventOf 22 = .ok (.getfield 19, 3) := by decide +kernel
theorem dX10_eventOf_25 : decode cX10_eventOf 25 = .ok (.iload_n 1, 1) := by decide +kernel
theorem dX10_eventOf_26 : decode cX10_eventOf 26 = .ok (.iload_n 2, 1) := by decide +kernel
theorem dX10_eventOf_27 : decode cX10_eventOf 27 = .ok (.invokevirtual 130, 3) := by decide +kernel
theorem dX10_eventOf_30 : decode cX10_eventOf 30 = .ok (.goto 4, 3) := by decide +kernel
theorem dX10_eventOf_33 : decode cX10_eventOf 33 = .ok (.iconst (-1), 1) := by decide +kernel
theorem dX10_eventOf_34 : decode cX10_eventOf 34 = .ok (.ireturn, 1) := by decide +kernel
set_option maxRecDepth 1000000 in
theorem ggX10_valueOf_X1_keeps : GoodIn wsX10_valueOf wsX1_keeps := goodIn_r _ [6, 7, 18, 19, 20, 21, 22, 23] (by decide +kernel) (by decide +kernel)
set_option maxRecDepth 1000000 in
theorem gX10_valueOf_X1_keeps : GoodIn wsX10_valueOf (wsV RX10 127 RX1 yX1_keeps wsX1_keeps) := goodIn_app (goodIn_of _ (by decide +kernel)) ggX10_valueOf_X1_keeps
set_option maxRecDepth 1000000 in
theorem ggX10_valueOf_X1_field : GoodIn wsX10_valueOf wsX1_field := goodIn_r _ [11, 12, 18, 19, 20, 21, 22, 23] (by decide +kernel) (by decide +kernel)
set_option maxRecDepth 1000000 in
theorem gX10_valueOf_X1_field : GoodIn wsX10_valueOf (wsV RX10 130 RX1 yX1_field wsX1_field) := goodIn_app (goodIn_of _ (by decide +kernel)) ggX10_valueOf_X1_field
theorem dX10_valueOf_0 : decode cX10_valueOf 0 = .ok (.aload_n 0, 1) := by decide +kernel
theorem dX10_valueOf_1 : decode cX10_valueOf 1 = .ok (.getfield 19, 3) := by decide +kernel
theorem dX10_valueOf_4 : decode cX10_valueOf 4 = .ok (.iload_n 1, 1) := by decide +kernel
theorem dX10_valueOf_5 : decode cX10_valueOf 5 = .ok (.invokevirtual 127, 3) := by decide +kernel
theorem dX10_valueOf_8 : decode cX10_valueOf 8 = .ok (.ifCond .eq 16, 3) := by decide +kernel
theorem dX10_valueOf_11 : decode cX10_valueOf 11 = .ok (.iload_n 2, 1) := by decide +kernel
theorem dX10_valueOf_12 : decode cX10_valueOf 12 = .ok (.ifCond .lt 12, 3) := by decide +kernel
theorem dX10_valueOf_15 : decode cX10_valueOf 15 = .ok (.iload_n 2, 1) := by decide +kernel
theorem dX10_valueOf_16 : decode cX10_valueOf 16 = .ok (.iconst 2, 1) := by decide +kernel
theorem dX10_valueOf_17 : decode cX10_valueOf 17 = .ok (.if_icmp .gt 7, 3) := by decide +kernel
theorem dX10_valueOf_20 : decode cX10_valueOf 20 = .ok (.iconst 1, 1) := by decide +kernel
theorem dX10_valueOf_21 : decode cX10_valueOf 21 = .ok (.goto 4, 3) := by decide +kernel
theorem dX10_valueOf_24 : decode cX10_valueOf 24 = .ok (.iconst 0, 1) := by decide +kernel
theorem dX10_valueOf_25 : decode cX10_valueOf 25 = .ok (.istore_n 3, 1) := by decide +kernel
theorem dX10_valueOf_26 : decode cX10_valueOf 26 = .ok (.iload_n 3, 1) := by decide +kernel
theorem dX10_valueOf_27 : decode cX10_valueOf 27 = .ok (.ifCond .eq 18, 3) := by decide +kernel
theorem dX10_valueOf_30 : decode cX10_valueOf 30 = .ok (.aload_n 0, 1) := by decide +kernel
theorem dX10_valueOf_31 : decode cX10_valueOf 31 = .ok (.getfield 19, 3) := by decide +kernel
theorem dX10_valueOf_34 : decode cX10_valueOf 34 = .ok (.iload_n 1, 1) := by decide +kernel
theorem dX10_valueOf_35 : decode cX10_valueOf 35 = .ok (.bipush 8, 2) := by decide +kernel
theorem dX10_valueOf_37 : decode cX10_valueOf 37 = .ok (.iload_n 2, 1) := by decide +kernel
theorem dX10_valueOf_38 : decode cX10_valueOf 38 = .ok (.iadd, 1) := by decide +kernel
theorem dX10_valueOf_39 : decode cX10_valueOf 39 = .ok (.invokevirtual 130, 3) := by decide +kernel
theorem dX10_valueOf_42 : decode cX10_valueOf 42 = .ok (.goto 4, 3) := by decide +kernel
theorem dX10_valueOf_45 : decode cX10_valueOf 45 = .ok (.iconst 0, 1) := by decide +kernel
theorem dX10_valueOf_46 : decode cX10_valueOf 46 = .ok (.ireturn, 1) := by decide +kernel
set_option maxRecDepth 1000000 in
theorem ggX10_lookAt_X1_firstKept : GoodIn wsX10_lookAt wsX1_firstKept := goodIn_r _ [19, 20, 21, 22, 23, 24, 30, 31, 32, 33, 34, 35] (by decide +kernel) (by decide +kernel)
set_option maxRecDepth 1000000 in
theorem gX10_lookAt_X1_firstKept : GoodIn wsX10_lookAt (wsV RX10 140 RX1 yX1_firstKept wsX1_firstKept) := goodIn_app (goodIn_of _ (by decide +kernel)) ggX10_lookAt_X1_firstKept
theorem dX10_lookAt_0 : decode cX10_lookAt 0 = .ok (.iload_n 1, 1) := by decide +kernel
theorem dX10_lookAt_1 : decode cX10_lookAt 1 = .ok (.tableswitch 144 0 8 #[51, 56, 64, 72, 80, 88, 105, 113, 130], 51) := by decide +kernel
theorem dX10_lookAt_52 : decode cX10_lookAt 52 = .ok (.aload_n 0, 1) := by decide +kernel
theorem dX10_lookAt_53 : decode cX10_lookAt 53 = .ok (.getfield 36, 3) := by decide +kernel
theorem dX10_lookAt_56 : decode cX10_lookAt 56 = .ok (.ireturn, 1) := by decide +kernel
theorem dX10_lookAt_57 : decode cX10_lookAt 57 = .ok (.aload_n 0, 1) := by decide +kernel
theorem dX10_lookAt_58 : decode cX10_lookAt 58 = .ok (.getfield 19, 3) := by decide +kernel
theorem dX10_lookAt_61 : decode cX10_lookAt 61 = .ok (.getfield 90, 3) := by decide +kernel
theorem dX10_lookAt_64 : decode cX10_lookAt 64 = .ok (.ireturn, 1) := by decide +kernel
theorem dX10_lookAt_65 : decode cX10_lookAt 65 = .ok (.aload_n 0, 1) := by decide +kernel
theorem dX10_lookAt_66 : decode cX10_lookAt 66 = .ok (.getfield 19, 3) := by decide +kernel
theorem dX10_lookAt_69 : decode cX10_lookAt 69 = .ok (.getfield 134, 3) := by decide +kernel
theorem dX10_lookAt_72 : decode cX10_lookAt 72 = .ok (.ireturn, 1) := by decide +kernel
theorem dX10_lookAt_73 : decode cX10_lookAt 73 = .ok (.aload_n 0, 1) := by decide +kernel
theorem dX10_lookAt_74 : decode cX10_lookAt 74 = .ok (.getfield 19, 3) := by decide +kernel
theorem dX10_lookAt_77 : decode cX10_lookAt 77 = .ok (.getfield 137, 3) := by decide +kernel
theorem dX10_lookAt_80 : decode cX10_lookAt 80 = .ok (.ireturn, 1) := by decide +kernel
theorem dX10_lookAt_81 : decode cX10_lookAt 81 = .ok (.aload_n 0, 1) := by decide +kernel
theorem dX10_lookAt_82 : decode cX10_lookAt 82 = .ok (.getfield 19, 3) := by decide +kernel
theorem dX10_lookAt_85 : decode cX10_lookAt 85 = .ok (.invokevirtual 140, 3) := by decide +kernel
theorem dX10_lookAt_88 : decode cX10_lookAt 88 = .ok (.ireturn, 1) := by decide +kernel
theorem dX10_lookAt_89 : decode cX10_lookAt 89 = .ok (.aload_n 0, 1) := by decide +kernel
theorem dX10_lookAt_90 : decode cX10_lookAt 90 = .ok (.getfield 32, 3) := by decide +kernel
theorem dX10_lookAt_93 : decode cX10_lookAt 93 = .ok (.getfield 54, 3) := by decide +kernel
theorem dX10_lookAt_96 : decode cX10_lookAt 96 = .ok (.getfield 64, 3) := by decide +kernel
theorem dX10_lookAt_99 : decode cX10_lookAt 99 = .ok (.getfield 68, 3) := by decide +kernel
theorem dX10_lookAt_102 : decode cX10_lookAt 102 = .ok (.getfield 144, 3) := by decide +kernel
theorem dX10_lookAt_105 : decode cX10_lookAt 105 = .ok (.ireturn, 1) := by decide +kernel
theorem dX10_lookAt_106 : decode cX10_lookAt 106 = .ok (.aload_n 0, 1) := by decide +kernel
theorem dX10_lookAt_107 : decode cX10_lookAt 107 = .ok (.getfield 19, 3) := by decide +kernel
theorem dX10_lookAt_110 : decode cX10_lookAt 110 = .ok (.getfield 147, 3) := by decide +kernel
theorem dX10_lookAt_113 : decode cX10_lookAt 113 = .ok (.ireturn, 1) := by decide +kernel
theorem dX10_lookAt_114 : decode cX10_lookAt 114 = .ok (.aload_n 0, 1) := by decide +kernel
theorem dX10_lookAt_115 : decode cX10_lookAt 115 = .ok (.getfield 32, 3) := by decide +kernel
theorem dX10_lookAt_118 : decode cX10_lookAt 118 = .ok (.getfield 54, 3) := by decide +kernel
theorem dX10_lookAt_121 : decode cX10_lookAt 121 = .ok (.getfield 64, 3) := by decide +kernel
theorem dX10_lookAt_124 : decode cX10_lookAt 124 = .ok (.getfield 150, 3) := by decide +kernel
theorem dX10_lookAt_127 : decode cX10_lookAt 127 = .ok (.getfield 154, 3) := by decide +kernel
theorem dX10_lookAt_130 : decode cX10_lookAt 130 = .ok (.ireturn, 1) := by decide +kernel
theorem dX10_lookAt_131 : decode cX10_lookAt 131 = .ok (.aload_n 0, 1) := by decide +kernel
theorem dX10_lookAt_132 : decode cX10_lookAt 132 = .ok (.getfield 32, 3) := by decide +kernel
theorem dX10_lookAt_135 : decode cX10_lookAt 135 = .ok (.getfield 54, 3) := by decide +kernel
theorem dX10_lookAt_138 : decode cX10_lookAt 138 = .ok (.getfield 64, 3) := by decide +kernel
theorem dX10_lookAt_141 : decode cX10_lookAt 141 = .ok (.getfield 159, 3) := by decide +kernel
theorem dX10_lookAt_144 : decode cX10_lookAt 144 = .ok (.ireturn, 1) := by decide +kernel
theorem dX10_lookAt_145 : decode cX10_lookAt 145 = .ok (.iconst (-1), 1) := by decide +kernel
theorem dX10_lookAt_146 : decode cX10_lookAt 146 = .ok (.ireturn, 1) := by decide +kernel
theorem dX10_isWordAddress_0 : decode cX10_isWordAddress 0 = .ok (.iload_n 0, 1) := by decide +kernel
theorem dX10_isWordAddress_1 : decode cX10_isWordAddress 1 = .ok (.ifCond .lt 19, 3) := by decide +kernel
theorem dX10_isWordAddress_4 : decode cX10_isWordAddress 4 = .ok (.iload_n 0, 1) := by decide +kernel
theorem dX10_isWordAddress_5 : decode cX10_isWordAddress 5 = .ok (.ldc 162, 2) := by decide +kernel
theorem dX10_isWordAddress_7 : decode cX10_isWordAddress 7 = .ok (.if_icmp .ge 13, 3) := by decide +kernel
theorem dX10_isWordAddress_10 : decode cX10_isWordAddress 10 = .ok (.iload_n 0, 1) := by decide +kernel
theorem dX10_isWordAddress_11 : decode cX10_isWordAddress 11 = .ok (.iconst 3, 1) := by decide +kernel
theorem dX10_isWordAddress_12 : decode cX10_isWordAddress 12 = .ok (.iand, 1) := by decide +kernel
theorem dX10_isWordAddress_13 : decode cX10_isWordAddress 13 = .ok (.ifCond .ne 7, 3) := by decide +kernel
theorem dX10_isWordAddress_16 : decode cX10_isWordAddress 16 = .ok (.iconst 1, 1) := by decide +kernel
theorem dX10_isWordAddress_17 : decode cX10_isWordAddress 17 = .ok (.goto 4, 3) := by decide +kernel
theorem dX10_isWordAddress_20 : decode cX10_isWordAddress 20 = .ok (.iconst 0, 1) := by decide +kernel
theorem dX10_isWordAddress_21 : decode cX10_isWordAddress 21 = .ok (.ireturn, 1) := by decide +kernel
theorem dX10_setsFor_0 : decode cX10_setsFor 0 = .ok (.iload_n 0, 1) := by decide +kernel
theorem dX10_setsFor_1 : decode cX10_setsFor 1 = .ok (.sipush 128, 3) := by decide +kernel
theorem dX10_setsFor_4 : decode cX10_setsFor 4 = .ok (.if_icmp .lt 7, 3) := by decide +kernel
theorem dX10_setsFor_7 : decode cX10_setsFor 7 = .ok (.sipush 128, 3) := by decide +kernel
theorem dX10_setsFor_10 : decode cX10_setsFor 10 = .ok (.ireturn, 1) := by decide +kernel
theorem dX10_setsFor_11 : decode cX10_setsFor 11 = .ok (.iload_n 0, 1) := by decide +kernel
theorem dX10_setsFor_12 : decode cX10_setsFor 12 = .ok (.bipush 64, 2) := by decide +kernel
theorem dX10_setsFor_14 : decode cX10_setsFor 14 = .ok (.if_icmp .lt 6, 3) := by decide +kernel
theorem dX10_setsFor_17 : decode cX10_setsFor 17 = .ok (.bipush 64, 2) := by decide +kernel
theorem dX10_setsFor_19 : decode cX10_setsFor 19 = .ok (.ireturn, 1) := by decide +kernel
theorem dX10_setsFor_20 : decode cX10_setsFor 20 = .ok (.iload_n 0, 1) := by decide +kernel
theorem dX10_setsFor_21 : decode cX10_setsFor 21 = .ok (.bipush 32, 2) := by decide +kernel
theorem dX10_setsFor_23 : decode cX10_setsFor 23 = .ok (.if_icmp .lt 8, 3) := by decide +kernel
theorem dX10_setsFor_26 : decode cX10_setsFor 26 = .ok (.bipush 32, 2) := by decide +kernel
theorem dX10_setsFor_28 : decode cX10_setsFor 28 = .ok (.goto 5, 3) := by decide +kernel
theorem dX10_setsFor_31 : decode cX10_setsFor 31 = .ok (.bipush 16, 2) := by decide +kernel
theorem dX10_setsFor_33 : decode cX10_setsFor 33 = .ok (.ireturn, 1) := by decide +kernel
