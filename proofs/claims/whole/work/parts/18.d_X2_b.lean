theorem dX2_divide_41 : decode cX2_divide 41 = .ok (.iconst 0, 1) := by decide +kernel
theorem dX2_divide_42 : decode cX2_divide 42 = .ok (.invokevirtual 237, 3) := by decide +kernel
theorem dX2_divide_45 : decode cX2_divide 45 = .ok (.return_, 1) := by decide +kernel
set_option maxRecDepth 1000000 in
theorem ggX2_divideUnsigned_X0_setBit : GoodIn wsX2_divideUnsigned wsX0_setBit := goodIn_r _ [8, 9, 14, 15, 16, 17, 18, 19, 20, 21, 22, 23, 24] (by decide +kernel) (by decide +kernel)
set_option maxRecDepth 1000000 in
theorem gX2_divideUnsigned_X0_setBit : GoodIn wsX2_divideUnsigned (wsV RX2 207 RX0 yX0_setBit wsX0_setBit) := goodIn_app (goodIn_of _ (by decide +kernel)) ggX2_divideUnsigned_X0_setBit
theorem dX2_divideUnsigned_0 : decode cX2_divideUnsigned 0 = .ok (.aload_n 0, 1) := by decide +kernel
theorem dX2_divideUnsigned_1 : decode cX2_divideUnsigned 1 = .ok (.getfield 28, 3) := by decide +kernel
theorem dX2_divideUnsigned_4 : decode cX2_divideUnsigned 4 = .ok (.iload_n 2, 1) := by decide +kernel
theorem dX2_divideUnsigned_5 : decode cX2_divideUnsigned 5 = .ok (.ifCond .ne 7, 3) := by decide +kernel
theorem dX2_divideUnsigned_8 : decode cX2_divideUnsigned 8 = .ok (.iconst 0, 1) := by decide +kernel
theorem dX2_divideUnsigned_9 : decode cX2_divideUnsigned 9 = .ok (.goto 17, 3) := by decide +kernel
theorem dX2_divideUnsigned_12 : decode cX2_divideUnsigned 12 = .ok (.iload_n 1, 1) := by decide +kernel
theorem dX2_divideUnsigned_13 : decode cX2_divideUnsigned 13 = .ok (.i2l, 1) := by decide +kernel
theorem dX2_divideUnsigned_14 : decode cX2_divideUnsigned 14 = .ok (.ldc2_w 235, 3) := by decide +kernel
theorem dX2_divideUnsigned_17 : decode cX2_divideUnsigned 17 = .ok (.land, 1) := by decide +kernel
theorem dX2_divideUnsigned_18 : decode cX2_divideUnsigned 18 = .ok (.iload_n 2, 1) := by decide +kernel
theorem dX2_divideUnsigned_19 : decode cX2_divideUnsigned 19 = .ok (.i2l, 1) := by decide +kernel
theorem dX2_divideUnsigned_20 : decode cX2_divideUnsigned 20 = .ok (.ldc2_w 235, 3) := by decide +kernel
theorem dX2_divideUnsigned_23 : decode cX2_divideUnsigned 23 = .ok (.land, 1) := by decide +kernel
theorem dX2_divideUnsigned_24 : decode cX2_divideUnsigned 24 = .ok (.ldiv, 1) := by decide +kernel
theorem dX2_divideUnsigned_25 : decode cX2_divideUnsigned 25 = .ok (.l2i, 1) := by decide +kernel
theorem dX2_divideUnsigned_26 : decode cX2_divideUnsigned 26 = .ok (.putfield 150, 3) := by decide +kernel
theorem dX2_divideUnsigned_29 : decode cX2_divideUnsigned 29 = .ok (.aload_n 0, 1) := by decide +kernel
theorem dX2_divideUnsigned_30 : decode cX2_divideUnsigned 30 = .ok (.getfield 28, 3) := by decide +kernel
theorem dX2_divideUnsigned_33 : decode cX2_divideUnsigned 33 = .ok (.sipush 128, 3) := by decide +kernel
theorem dX2_divideUnsigned_36 : decode cX2_divideUnsigned 36 = .ok (.iload_n 2, 1) := by decide +kernel
theorem dX2_divideUnsigned_37 : decode cX2_divideUnsigned 37 = .ok (.ifCond .ne 7, 3) := by decide +kernel
theorem dX2_divideUnsigned_40 : decode cX2_divideUnsigned 40 = .ok (.iconst 1, 1) := by decide +kernel
theorem dX2_divideUnsigned_41 : decode cX2_divideUnsigned 41 = .ok (.goto 4, 3) := by decide +kernel
theorem dX2_divideUnsigned_44 : decode cX2_divideUnsigned 44 = .ok (.iconst 0, 1) := by decide +kernel
theorem dX2_divideUnsigned_45 : decode cX2_divideUnsigned 45 = .ok (.invokevirtual 207, 3) := by decide +kernel
theorem dX2_divideUnsigned_48 : decode cX2_divideUnsigned 48 = .ok (.return_, 1) := by decide +kernel
set_option maxRecDepth 1000000 in
theorem ggX2_plainResult_X2_furtherResult : GoodIn wsX2_plainResult wsX2_furtherResult := goodIn_r _ [7, 1, 2, 8, 9, 10, 11, 12, 13, 14, 15, 16, 17, 18, 19, 20, 21, 22, 23, 24, 25, 26, 27, 28, 29, 30, 31, 32, 33, 34, 35, 36, 37, 38, 39, 40, 41, 42, 43, 44] rfl (by decide +kernel)
set_option maxRecDepth 1000000 in
theorem gX2_plainResult_X2_furtherResult : GoodIn wsX2_plainResult (wsV RX2 242 RX2 yX2_furtherResult wsX2_furtherResult) := goodIn_app (goodIn_of _ (by decide +kernel)) ggX2_plainResult_X2_furtherResult
theorem dX2_plainResult_0 : decode cX2_plainResult 0 = .ok (.aload_n 0, 1) := by decide +kernel
theorem dX2_plainResult_1 : decode cX2_plainResult 1 = .ok (.getfield 21, 3) := by decide +kernel
theorem dX2_plainResult_4 : decode cX2_plainResult 4 = .ok (.getfield 144, 3) := by decide +kernel
theorem dX2_plainResult_7 : decode cX2_plainResult 7 = .ok (.tableswitch 148 2 17 #[77, 81, 85, 89, 96, 103, 148, 148, 148, 110, 114, 118, 122, 127, 134, 141], 77) := by decide +kernel
theorem dX2_plainResult_84 : decode cX2_plainResult 84 = .ok (.iload_n 1, 1) := by decide +kernel
theorem dX2_plainResult_85 : decode cX2_plainResult 85 = .ok (.iload_n 2, 1) := by decide +kernel
theorem dX2_plainResult_86 : decode cX2_plainResult 86 = .ok (.iand, 1) := by decide +kernel
theorem dX2_plainResult_87 : decode cX2_plainResult 87 = .ok (.ireturn, 1) := by decide +kernel
theorem dX2_plainResult_88 : decode cX2_plainResult 88 = .ok (.iload_n 1, 1) := by decide +kernel
theorem dX2_plainResult_89 : decode cX2_plainResult 89 = .ok (.iload_n 2, 1) := by decide +kernel
theorem dX2_plainResult_90 : decode cX2_plainResult 90 = .ok (.ior, 1) := by decide +kernel
theorem dX2_plainResult_91 : decode cX2_plainResult 91 = .ok (.ireturn, 1) := by decide +kernel
theorem dX2_plainResult_92 : decode cX2_plainResult 92 = .ok (.iload_n 1, 1) := by decide +kernel
theorem dX2_plainResult_93 : decode cX2_plainResult 93 = .ok (.iload_n 2, 1) := by decide +kernel
theorem dX2_plainResult_94 : decode cX2_plainResult 94 = .ok (.ixor, 1) := by decide +kernel
theorem dX2_plainResult_95 : decode cX2_plainResult 95 = .ok (.ireturn, 1) := by decide +kernel
theorem dX2_plainResult_96 : decode cX2_plainResult 96 = .ok (.iload_n 1, 1) := by decide +kernel
theorem dX2_plainResult_97 : decode cX2_plainResult 97 = .ok (.iload_n 2, 1) := by decide +kernel
theorem dX2_plainResult_98 : decode cX2_plainResult 98 = .ok (.bipush 31, 2) := by decide +kernel
theorem dX2_plainResult_100 : decode cX2_plainResult 100 = .ok (.iand, 1) := by decide +kernel
theorem dX2_plainResult_101 : decode cX2_plainResult 101 = .ok (.ishl, 1) := by decide +kernel
theorem dX2_plainResult_102 : decode cX2_plainResult 102 = .ok (.ireturn, 1) := by decide +kernel
theorem dX2_plainResult_103 : decode cX2_plainResult 103 = .ok (.iload_n 1, 1) := by decide +kernel
theorem dX2_plainResult_104 : decode cX2_plainResult 104 = .ok (.iload_n 2, 1) := by decide +kernel
theorem dX2_plainResult_105 : decode cX2_plainResult 105 = .ok (.bipush 31, 2) := by decide +kernel
theorem dX2_plainResult_107 : decode cX2_plainResult 107 = .ok (.iand, 1) := by decide +kernel
theorem dX2_plainResult_108 : decode cX2_plainResult 108 = .ok (.iushr, 1) := by decide +kernel
theorem dX2_plainResult_109 : decode cX2_plainResult 109 = .ok (.ireturn, 1) := by decide +kernel
theorem dX2_plainResult_110 : decode cX2_plainResult 110 = .ok (.iload_n 1, 1) := by decide +kernel
theorem dX2_plainResult_111 : decode cX2_plainResult 111 = .ok (.iload_n 2, 1) := by decide +kernel
theorem dX2_plainResult_112 : decode cX2_plainResult 112 = .ok (.bipush 31, 2) := by decide +kernel
theorem dX2_plainResult_114 : decode cX2_plainResult 114 = .ok (.iand, 1) := by decide +kernel
theorem dX2_plainResult_115 : decode cX2_plainResult 115 = .ok (.ishr, 1) := by decide +kernel
theorem dX2_plainResult_116 : decode cX2_plainResult 116 = .ok (.ireturn, 1) := by decide +kernel
theorem dX2_plainResult_117 : decode cX2_plainResult 117 = .ok (.iload_n 1, 1) := by decide +kernel
theorem dX2_plainResult_118 : decode cX2_plainResult 118 = .ok (.iload_n 3, 1) := by decide +kernel
theorem dX2_plainResult_119 : decode cX2_plainResult 119 = .ok (.iand, 1) := by decide +kernel
theorem dX2_plainResult_120 : decode cX2_plainResult 120 = .ok (.ireturn, 1) := by decide +kernel
theorem dX2_plainResult_121 : decode cX2_plainResult 121 = .ok (.iload_n 1, 1) := by decide +kernel
theorem dX2_plainResult_122 : decode cX2_plainResult 122 = .ok (.iload_n 3, 1) := by decide +kernel
theorem dX2_plainResult_123 : decode cX2_plainResult 123 = .ok (.ior, 1) := by decide +kernel
theorem dX2_plainResult_124 : decode cX2_plainResult 124 = .ok (.ireturn, 1) := by decide +kernel
theorem dX2_plainResult_125 : decode cX2_plainResult 125 = .ok (.iload_n 1, 1) := by decide +kernel
theorem dX2_plainResult_126 : decode cX2_plainResult 126 = .ok (.iload_n 3, 1) := by decide +kernel
theorem dX2_plainResult_127 : decode cX2_plainResult 127 = .ok (.ixor, 1) := by decide +kernel
theorem dX2_plainResult_128 : decode cX2_plainResult 128 = .ok (.ireturn, 1) := by decide +kernel
theorem dX2_plainResult_129 : decode cX2_plainResult 129 = .ok (.iload_n 3, 1) := by decide +kernel
theorem dX2_plainResult_130 : decode cX2_plainResult 130 = .ok (.bipush 16, 2) := by decide +kernel
theorem dX2_plainResult_132 : decode cX2_plainResult 132 = .ok (.ishl, 1) := by decide +kernel
theorem dX2_plainResult_133 : decode cX2_plainResult 133 = .ok (.ireturn, 1) := by decide +kernel
theorem dX2_plainResult_134 : decode cX2_plainResult 134 = .ok (.iload_n 1, 1) := by decide +kernel
theorem dX2_plainResult_135 : decode cX2_plainResult 135 = .ok (.iload_n 3, 1) := by decide +kernel
theorem dX2_plainResult_136 : decode cX2_plainResult 136 = .ok (.bipush 31, 2) := by decide +kernel
theorem dX2_plainResult_138 : decode cX2_plainResult 138 = .ok (.iand, 1) := by decide +kernel
theorem dX2_plainResult_139 : decode cX2_plainResult 139 = .ok (.ishl, 1) := by decide +kernel
theorem dX2_plainResult_140 : decode cX2_plainResult 140 = .ok (.ireturn, 1) := by decide +kernel
theorem dX2_plainResult_141 : decode cX2_plainResult 141 = .ok (.iload_n 1, 1) := by decide +kernel
theorem dX2_plainResult_142 : decode cX2_plainResult 142 = .ok (.iload_n 3, 1) := by decide +kernel
theorem dX2_plainResult_143 : decode cX2_plainResult 143 = .ok (.bipush 31, 2) := by decide +kernel
theorem dX2_plainResult_145 : decode cX2_plainResult 145 = .ok (.iand, 1) := by decide +kernel
theorem dX2_plainResult_146 : decode cX2_plainResult 146 = .ok (.iushr, 1) := by decide +kernel
theorem dX2_plainResult_147 : decode cX2_plainResult 147 = .ok (.ireturn, 1) := by decide +kernel
theorem dX2_plainResult_148 : decode cX2_plainResult 148 = .ok (.iload_n 1, 1) := by decide +kernel
theorem dX2_plainResult_149 : decode cX2_plainResult 149 = .ok (.iload_n 3, 1) := by decide +kernel
theorem dX2_plainResult_150 : decode cX2_plainResult 150 = .ok (.bipush 31, 2) := by decide +kernel
theorem dX2_plainResult_152 : decode cX2_plainResult 152 = .ok (.iand, 1) := by decide +kernel
theorem dX2_plainResult_153 : decode cX2_plainResult 153 = .ok (.ishr, 1) := by decide +kernel
theorem dX2_plainResult_154 : decode cX2_plainResult 154 = .ok (.ireturn, 1) := by decide +kernel
theorem dX2_plainResult_155 : decode cX2_plainResult 155 = .ok (.aload_n 0, 1) := by decide +kernel
theorem dX2_plainResult_156 : decode cX2_plainResult 156 = .ok (.iload_n 1, 1) := by decide +kernel
theorem dX2_plainResult_157 : decode cX2_plainResult 157 = .ok (.iload_n 2, 1) := by decide +kernel
theorem dX2_plainResult_158 : decode cX2_plainResult 158 = .ok (.iload_n 3, 1) := by decide +kernel
theorem dX2_plainResult_159 : decode cX2_plainResult 159 = .ok (.invokevirtual 242, 3) := by decide +kernel
theorem dX2_plainResult_162 : decode cX2_plainResult 162 = .ok (.ireturn, 1) := by decide +kernel
set_option maxRecDepth 1000000 in
theorem ggX2_furtherResult_J6_numberOfTrailingZeros_0f7a4 : GoodIn wsX2_furtherResult wsJ6_numberOfTrailingZeros_0f7a4 := goodIn_r _ [9, 10] (by decide +kernel) (by decide +kernel)
set_option maxRecDepth 1000000 in
theorem gX2_furtherResult_J6_numberOfTrailingZeros_0f7a4 : GoodIn wsX2_furtherResult (va_wsS RX2 246 yJ6_numberOfTrailingZeros_0f7a4 wsJ6_numberOfTrailingZeros_0f7a4) := goodIn_app (goodIn_of _ (by decide +kernel)) ggX2_furtherResult_J6_numberOfTrailingZeros_0f7a4
set_option maxRecDepth 1000000 in
theorem ggX2_furtherResult_J6_numberOfLeadingZeros_0f7a4 : GoodIn wsX2_furtherResult wsJ6_numberOfLeadingZeros_0f7a4 := goodIn_r _ [13, 10] (by decide +kernel) (by decide +kernel)
set_option maxRecDepth 1000000 in
theorem gX2_furtherResult_J6_numberOfLeadingZeros_0f7a4 : GoodIn wsX2_furtherResult (va_wsS RX2 249 yJ6_numberOfLeadingZeros_0f7a4 wsJ6_numberOfLeadingZeros_0f7a4) := goodIn_app (goodIn_of _ (by decide +kernel)) ggX2_furtherResult_J6_numberOfLeadingZeros_0f7a4
set_option maxRecDepth 1000000 in
theorem ggX2_furtherResult_J6_rotateRight_7cf53 : GoodIn wsX2_furtherResult wsJ6_rotateRight_7cf53 := goodIn_r _ [16] (by decide +kernel) (by decide +kernel)
set_option maxRecDepth 1000000 in
theorem gX2_furtherResult_J6_rotateRight_7cf53 : GoodIn wsX2_furtherResult (va_wsS RX2 252 yJ6_rotateRight_7cf53 wsJ6_rotateRight_7cf53) := goodIn_app (goodIn_of _ (by decide +kernel)) ggX2_furtherResult_J6_rotateRight_7cf53
theorem dX2_furtherResult_0 : decode cX2_furtherResult 0 = .ok (.aload_n 0, 1) := by decide +kernel
theorem dX2_furtherResult_1 : decode cX2_furtherResult 1 = .ok (.getfield 21, 3) := by decide +kernel
theorem dX2_furtherResult_4 : decode cX2_furtherResult 4 = .ok (.getfield 144, 3) := by decide +kernel
theorem dX2_furtherResult_7 : decode cX2_furtherResult 7 = .ok (.tableswitch 126 42 50 #[49, 52, 55, 60, 66, 85, 100, 108, 117], 49) := by decide +kernel
theorem dX2_furtherResult_56 : decode cX2_furtherResult 56 = .ok (.iload_n 1, 1) := by decide +kernel
theorem dX2_furtherResult_57 : decode cX2_furtherResult 57 = .ok (.i2s, 1) := by decide +kernel
theorem dX2_furtherResult_58 : decode cX2_furtherResult 58 = .ok (.ireturn, 1) := by decide +kernel
theorem dX2_furtherResult_59 : decode cX2_furtherResult 59 = .ok (.iload_n 1, 1) := by decide +kernel
theorem dX2_furtherResult_60 : decode cX2_furtherResult 60 = .ok (.i2b, 1) := by decide +kernel
theorem dX2_furtherResult_61 : decode cX2_furtherResult 61 = .ok (.ireturn, 1) := by decide +kernel
theorem dX2_furtherResult_62 : decode cX2_furtherResult 62 = .ok (.iload_n 1, 1) := by decide +kernel
theorem dX2_furtherResult_63 : decode cX2_furtherResult 63 = .ok (.ldc 245, 2) := by decide +kernel
theorem dX2_furtherResult_65 : decode cX2_furtherResult 65 = .ok (.iand, 1) := by decide +kernel
theorem dX2_furtherResult_66 : decode cX2_furtherResult 66 = .ok (.ireturn, 1) := by decide +kernel
theorem dX2_furtherResult_67 : decode cX2_furtherResult 67 = .ok (.iload_n 1, 1) := by decide +kernel
theorem dX2_furtherResult_68 : decode cX2_furtherResult 68 = .ok (.sipush 255, 3) := by decide +kernel
theorem dX2_furtherResult_71 : decode cX2_furtherResult 71 = .ok (.iand, 1) := by decide +kernel
theorem dX2_furtherResult_72 : decode cX2_furtherResult 72 = .ok (.ireturn, 1) := by decide +kernel
theorem dX2_furtherResult_73 : decode cX2_furtherResult 73 = .ok (.aload_n 0, 1) := by decide +kernel
theorem dX2_furtherResult_74 : decode cX2_furtherResult 74 = .ok (.getfield 28, 3) := by decide +kernel
theorem dX2_furtherResult_77 : decode cX2_furtherResult 77 = .ok (.getfield 139, 3) := by decide +kernel
theorem dX2_furtherResult_80 : decode cX2_furtherResult 80 = .ok (.bipush 32, 2) := by decide +kernel
theorem dX2_furtherResult_82 : decode cX2_furtherResult 82 = .ok (.iand, 1) := by decide +kernel
theorem dX2_furtherResult_83 : decode cX2_furtherResult 83 = .ok (.ifCond .eq 7, 3) := by decide +kernel
theorem dX2_furtherResult_86 : decode cX2_furtherResult 86 = .ok (.iload_n 1, 1) := by decide +kernel
theorem dX2_furtherResult_87 : decode cX2_furtherResult 87 = .ok (.goto 4, 3) := by decide +kernel
theorem dX2_furtherResult_90 : decode cX2_furtherResult 90 = .ok (.iload_n 2, 1) := by decide +kernel
theorem dX2_furtherResult_91 : decode cX2_furtherResult 91 = .ok (.ireturn, 1) := by decide +kernel
theorem dX2_furtherResult_92 : decode cX2_furtherResult 92 = .ok (.iload_n 1, 1) := by decide +kernel
theorem dX2_furtherResult_93 : decode cX2_furtherResult 93 = .ok (.ifCond .ne 7, 3) := by decide +kernel
theorem dX2_furtherResult_96 : decode cX2_furtherResult 96 = .ok (.iconst 0, 1) := by decide +kernel
theorem dX2_furtherResult_97 : decode cX2_furtherResult 97 = .ok (.goto 9, 3) := by decide +kernel
theorem dX2_furtherResult_100 : decode cX2_furtherResult 100 = .ok (.iload_n 1, 1) := by decide +kernel
theorem dX2_furtherResult_101 : decode cX2_furtherResult 101 = .ok (.invokestatic 246, 3) := by decide +kernel
theorem dX2_furtherResult_104 : decode cX2_furtherResult 104 = .ok (.iconst 1, 1) := by decide +kernel
theorem dX2_furtherResult_105 : decode cX2_furtherResult 105 = .ok (.iadd, 1) := by decide +kernel
theorem dX2_furtherResult_106 : decode cX2_furtherResult 106 = .ok (.ireturn, 1) := by decide +kernel
theorem dX2_furtherResult_107 : decode cX2_furtherResult 107 = .ok (.bipush 32, 2) := by decide +kernel
theorem dX2_furtherResult_109 : decode cX2_furtherResult 109 = .ok (.iload_n 1, 1) := by decide +kernel
theorem dX2_furtherResult_110 : decode cX2_furtherResult 110 = .ok (.invokestatic 249, 3) := by decide +kernel
theorem dX2_furtherResult_113 : decode cX2_furtherResult 113 = .ok (.isub, 1) := by decide +kernel
theorem dX2_furtherResult_114 : decode cX2_furtherResult 114 = .ok (.ireturn, 1) := by decide +kernel
theorem dX2_furtherResult_115 : decode cX2_furtherResult 115 = .ok (.iload_n 1, 1) := by decide +kernel
theorem dX2_furtherResult_116 : decode cX2_furtherResult 116 = .ok (.iload_n 2, 1) := by decide +kernel
theorem dX2_furtherResult_117 : decode cX2_furtherResult 117 = .ok (.bipush 31, 2) := by decide +kernel
theorem dX2_furtherResult_119 : decode cX2_furtherResult 119 = .ok (.iand, 1) := by decide +kernel
theorem dX2_furtherResult_120 : decode cX2_furtherResult 120 = .ok (.invokestatic 252, 3) := by decide +kernel
theorem dX2_furtherResult_123 : decode cX2_furtherResult 123 = .ok (.ireturn, 1) := by decide +kernel
theorem dX2_furtherResult_124 : decode cX2_furtherResult 124 = .ok (.iload_n 1, 1) := by decide +kernel
theorem dX2_furtherResult_125 : decode cX2_furtherResult 125 = .ok (.iload_n 3, 1) := by decide +kernel
theorem dX2_furtherResult_126 : decode cX2_furtherResult 126 = .ok (.bipush 31, 2) := by decide +kernel
theorem dX2_furtherResult_128 : decode cX2_furtherResult 128 = .ok (.iand, 1) := by decide +kernel
theorem dX2_furtherResult_129 : decode cX2_furtherResult 129 = .ok (.invokestatic 252, 3) := by decide +kernel
theorem dX2_furtherResult_132 : decode cX2_furtherResult 132 = .ok (.ireturn, 1) := by decide +kernel
theorem dX2_furtherResult_133 : decode cX2_furtherResult 133 = .ok (.iconst 0, 1) := by decide +kernel
theorem dX2_furtherResult_134 : decode cX2_furtherResult 134 = .ok (.ireturn, 1) := by decide +kernel
set_option maxRecDepth 1000000 in
theorem ggX2_retire_X3_writtenRegister : GoodIn wsX2_retire wsX3_writtenRegister := goodIn_r _ [25, 26, 27, 28, 29, 24, 30, 31, 163, 164, 165, 166, 167, 168, 169, 170] (by decide +kernel) (by decide +kernel)
set_option maxRecDepth 1000000 in
theorem gX2_retire_X3_writtenRegister : GoodIn wsX2_retire (wsV RX2 255 RX3 yX3_writtenRegister wsX3_writtenRegister) := goodIn_app (goodIn_of _ (by decide +kernel)) ggX2_retire_X3_writtenRegister
set_option maxRecDepth 1000000 in
theorem ggX2_retire_X6_store : GoodIn wsX2_retire wsX6_store := goodIn_r _ [36, 37, 38, 35, 39, 40, 41, 42, 43, 44, 45, 46, 47, 48, 49, 50, 51, 52, 53, 54, 55, 56, 57, 58, 171] (by decide +kernel) (by decide +kernel)
set_option maxRecDepth 1000000 in
theorem gX2_retire_X6_store : GoodIn wsX2_retire (wsV RX2 259 RX6 yX6_store wsX6_store) := goodIn_app (goodIn_of _ (by decide +kernel)) ggX2_retire_X6_store
set_option maxRecDepth 1000000 in
theorem ggX2_retire_X8_write : GoodIn wsX2_retire wsX8_write := goodIn_r _ [63, 64, 65, 66, 67, 68, 69, 70, 71, 72, 73, 74, 75, 76, 77, 78, 79, 80, 81, 82, 83, 84, 85, 86, 87, 88, 89, 150, 151, 152, 153, 154, 155, 156, 157, 158, 159, 160, 161, 162, 172, 173] rfl (by decide +kernel)
set_option maxRecDepth 1000000 in
theorem gX2_retire_X8_write : GoodIn wsX2_retire (wsV RX2 262 RX8 yX8_write wsX8_write) := goodIn_app (goodIn_of _ (by decide +kernel)) ggX2_retire_X8_write
set_option maxRecDepth 1000000 in
theorem ggX2_retire_X9_goTo : GoodIn wsX2_retire wsX9_goTo := goodIn_r _ [94, 95, 96, 133, 134, 135, 136, 137, 138] (by decide +kernel) (by decide +kernel)
set_option maxRecDepth 1000000 in
theorem gX2_retire_X9_goTo : GoodIn wsX2_retire (wsV RX2 271 RX9 yX9_goTo wsX9_goTo) := goodIn_app (goodIn_of _ (by decide +kernel)) ggX2_retire_X9_goTo
set_option maxRecDepth 1000000 in
theorem ggX2_retire_X3_is : GoodIn wsX2_retire wsX3_is := goodIn_r _ [30, 31, 163, 164, 165, 166, 167, 168, 169, 170] (by decide +kernel) (by decide +kernel)
set_option maxRecDepth 1000000 in
theorem gX2_retire_X3_is : GoodIn wsX2_retire (wsV RX2 108 RX3 yX3_is wsX3_is) := goodIn_app (goodIn_of _ (by decide +kernel)) ggX2_retire_X3_is
set_option maxRecDepth 1000000 in
theorem ggX2_retire_X9_goToSlot : GoodIn wsX2_retire wsX9_goToSlot := goodIn_r _ [101, 95, 102, 103, 96, 133, 134, 135, 136, 137, 138] (by decide +kernel) (by decide +kernel)
set_option maxRecDepth 1000000 in
theorem gX2_retire_X9_goToSlot : GoodIn wsX2_retire (wsV RX2 274 RX9 yX9_goToSlot wsX9_goToSlot) := goodIn_app (goodIn_of _ (by decide +kernel)) ggX2_retire_X9_goToSlot
set_option maxRecDepth 1000000 in
theorem ggX2_retire_X9_goOn : GoodIn wsX2_retire wsX9_goOn := goodIn_r _ [107, 96, 103, 95, 133, 134, 135, 136, 137, 138] (by decide +kernel) (by decide +kernel)
set_option maxRecDepth 1000000 in
theorem gX2_retire_X9_goOn : GoodIn wsX2_retire (wsV RX2 277 RX9 yX9_goOn wsX9_goOn) := goodIn_app (goodIn_of _ (by decide +kernel)) ggX2_retire_X9_goOn
set_option maxRecDepth 1000000 in
theorem ggX2_retire_X8_retire : GoodIn wsX2_retire wsX8_retire := goodIn_r _ [111, 112, 73, 113, 74, 114, 115, 116, 62, 117, 71, 69, 68, 118, 119, 120, 121, 122, 123, 124, 125, 126, 127, 128, 150, 151, 152, 153, 154, 155, 156, 157, 158, 159, 160, 161, 162, 174, 175, 176, 177] rfl (by decide +kernel)
set_option maxRecDepth 1000000 in
theorem gX2_retire_X8_retire : GoodIn wsX2_retire (wsV RX2 280 RX8 yX8_retire wsX8_retire) := goodIn_app (goodIn_of _ (by decide +kernel)) ggX2_retire_X8_retire
theorem dX2_retire_0 : decode cX2_retire 0 = .ok (.aload_n 0, 1) := by decide +kernel
theorem dX2_retire_1 : decode cX2_retire 1 = .ok (.getfield 37, 3) := by decide +kernel
theorem dX2_retire_4 : decode cX2_retire 4 = .ok (.getfield 41, 3) := by decide +kernel
theorem dX2_retire_7 : decode cX2_retire 7 = .ok (.astore_n 1, 1) := by decide +kernel
theorem dX2_retire_8 : decode cX2_retire 8 = .ok (.aload_n 0, 1) := by decide +kernel
theorem dX2_retire_9 : decode cX2_retire 9 = .ok (.getfield 21, 3) := by decide +kernel
theorem dX2_retire_12 : decode cX2_retire 12 = .ok (.invokevirtual 255, 3) := by decide +kernel
theorem dX2_retire_15 : decode cX2_retire 15 = .ok (.istore_n 2, 1) := by decide +kernel
theorem dX2_retire_16 : decode cX2_retire 16 = .ok (.iload_n 2, 1) := by decide +kernel
theorem dX2_retire_17 : decode cX2_retire 17 = .ok (.ifCond .eq 19, 3) := by decide +kernel
theorem dX2_retire_20 : decode cX2_retire 20 = .ok (.aload_n 0, 1) := by decide +kernel
theorem dX2_retire_21 : decode cX2_retire 21 = .ok (.getfield 37, 3) := by decide +kernel
theorem dX2_retire_24 : decode cX2_retire 24 = .ok (.getfield 124, 3) := by decide +kernel
theorem dX2_retire_27 : decode cX2_retire 27 = .ok (.iload_n 2, 1) := by decide +kernel
theorem dX2_retire_28 : decode cX2_retire 28 = .ok (.aload_n 0, 1) := by decide +kernel
theorem dX2_retire_29 : decode cX2_retire 29 = .ok (.getfield 28, 3) := by decide +kernel
theorem dX2_retire_32 : decode cX2_retire 32 = .ok (.getfield 150, 3) := by decide +kernel
theorem dX2_retire_35 : decode cX2_retire 35 = .ok (.iastore, 1) := by decide +kernel
theorem dX2_retire_36 : decode cX2_retire 36 = .ok (.aload_n 0, 1) := by decide +kernel
theorem dX2_retire_37 : decode cX2_retire 37 = .ok (.getfield 28, 3) := by decide +kernel
theorem dX2_retire_40 : decode cX2_retire 40 = .ok (.getfield 169, 3) := by decide +kernel
theorem dX2_retire_43 : decode cX2_retire 43 = .ok (.ifCond .eq 31, 3) := by decide +kernel
theorem dX2_retire_46 : decode cX2_retire 46 = .ok (.aload_n 0, 1) := by decide +kernel
theorem dX2_retire_47 : decode cX2_retire 47 = .ok (.getfield 12, 3) := by decide +kernel
theorem dX2_retire_50 : decode cX2_retire 50 = .ok (.aload_n 0, 1) := by decide +kernel
theorem dX2_retire_51 : decode cX2_retire 51 = .ok (.getfield 28, 3) := by decide +kernel
theorem dX2_retire_54 : decode cX2_retire 54 = .ok (.getfield 172, 3) := by decide +kernel
theorem dX2_retire_57 : decode cX2_retire 57 = .ok (.aload_n 0, 1) := by decide +kernel
theorem dX2_retire_58 : decode cX2_retire 58 = .ok (.getfield 28, 3) := by decide +kernel
theorem dX2_retire_61 : decode cX2_retire 61 = .ok (.getfield 169, 3) := by decide +kernel
theorem dX2_retire_64 : decode cX2_retire 64 = .ok (.aload_n 0, 1) := by decide +kernel
theorem dX2_retire_65 : decode cX2_retire 65 = .ok (.getfield 28, 3) := by decide +kernel
theorem dX2_retire_68 : decode cX2_retire 68 = .ok (.getfield 181, 3) := by decide +kernel
theorem dX2_retire_71 : decode cX2_retire 71 = .ok (.invokevirtual 259, 3) := by decide +kernel
theorem dX2_retire_74 : decode cX2_retire 74 = .ok (.aload_n 1, 1) := by decide +kernel
theorem dX2_retire_75 : decode cX2_retire 75 = .ok (.aload_n 0, 1) := by decide +kernel
theorem dX2_retire_76 : decode cX2_retire 76 = .ok (.getfield 28, 3) := by decide +kernel
theorem dX2_retire_79 : decode cX2_retire 79 = .ok (.getfield 139, 3) := by decide +kernel
theorem dX2_retire_82 : decode cX2_retire 82 = .ok (.putfield 45, 3) := by decide +kernel
theorem dX2_retire_85 : decode cX2_retire 85 = .ok (.aload_n 1, 1) := by decide +kernel
theorem dX2_retire_86 : decode cX2_retire 86 = .ok (.aload_n 0, 1) := by decide +kernel
theorem dX2_retire_87 : decode cX2_retire 87 = .ok (.getfield 28, 3) := by decide +kernel
theorem dX2_retire_90 : decode cX2_retire 90 = .ok (.getfield 230, 3) := by decide +kernel
theorem dX2_retire_93 : decode cX2_retire 93 = .ok (.putfield 51, 3) := by decide +kernel
theorem dX2_retire_96 : decode cX2_retire 96 = .ok (.aload_n 0, 1) := by decide +kernel
theorem dX2_retire_97 : decode cX2_retire 97 = .ok (.getfield 21, 3) := by decide +kernel
theorem dX2_retire_100 : decode cX2_retire 100 = .ok (.getfield 144, 3) := by decide +kernel
theorem dX2_retire_103 : decode cX2_retire 103 = .ok (.bipush 31, 2) := by decide +kernel
theorem dX2_retire_105 : decode cX2_retire 105 = .ok (.if_icmp .ne 29, 3) := by decide +kernel
theorem dX2_retire_108 : decode cX2_retire 108 = .ok (.aload_n 1, 1) := by decide +kernel
theorem dX2_retire_109 : decode cX2_retire 109 = .ok (.aload_n 0, 1) := by decide +kernel
theorem dX2_retire_110 : decode cX2_retire 110 = .ok (.getfield 21, 3) := by decide +kernel
theorem dX2_retire_113 : decode cX2_retire 113 = .ok (.getfield 190, 3) := by decide +kernel
theorem dX2_retire_116 : decode cX2_retire 116 = .ok (.aload_n 0, 1) := by decide +kernel
theorem dX2_retire_117 : decode cX2_retire 117 = .ok (.getfield 37, 3) := by decide +kernel
theorem dX2_retire_120 : decode cX2_retire 120 = .ok (.getfield 124, 3) := by decide +kernel
theorem dX2_retire_123 : decode cX2_retire 123 = .ok (.aload_n 0, 1) := by decide +kernel
theorem dX2_retire_124 : decode cX2_retire 124 = .ok (.getfield 21, 3) := by decide +kernel
theorem dX2_retire_127 : decode cX2_retire 127 = .ok (.getfield 128, 3) := by decide +kernel
theorem dX2_retire_130 : decode cX2_retire 130 = .ok (.iaload, 1) := by decide +kernel
theorem dX2_retire_131 : decode cX2_retire 131 = .ok (.invokevirtual 262, 3) := by decide +kernel
theorem dX2_retire_134 : decode cX2_retire 134 = .ok (.aload_n 0, 1) := by decide +kernel
theorem dX2_retire_135 : decode cX2_retire 135 = .ok (.getfield 21, 3) := by decide +kernel
theorem dX2_retire_138 : decode cX2_retire 138 = .ok (.getfield 144, 3) := by decide +kernel
theorem dX2_retire_141 : decode cX2_retire 141 = .ok (.bipush 33, 2) := by decide +kernel
theorem dX2_retire_143 : decode cX2_retire 143 = .ok (.if_icmp .ne 25, 3) := by decide +kernel
theorem dX2_retire_146 : decode cX2_retire 146 = .ok (.aload_n 1, 1) := by decide +kernel
theorem dX2_retire_147 : decode cX2_retire 147 = .ok (.aload_n 1, 1) := by decide +kernel
theorem dX2_retire_148 : decode cX2_retire 148 = .ok (.getfield 265, 3) := by decide +kernel
theorem dX2_retire_151 : decode cX2_retire 151 = .ok (.putfield 45, 3) := by decide +kernel
theorem dX2_retire_154 : decode cX2_retire 154 = .ok (.aload_n 0, 1) := by decide +kernel
theorem dX2_retire_155 : decode cX2_retire 155 = .ok (.getfield 37, 3) := by decide +kernel
theorem dX2_retire_158 : decode cX2_retire 158 = .ok (.aload_n 1, 1) := by decide +kernel
theorem dX2_retire_159 : decode cX2_retire 159 = .ok (.getfield 268, 3) := by decide +kernel
theorem dX2_retire_162 : decode cX2_retire 162 = .ok (.invokevirtual 271, 3) := by decide +kernel
theorem dX2_retire_165 : decode cX2_retire 165 = .ok (.goto 40, 3) := by decide +kernel
theorem dX2_retire_168 : decode cX2_retire 168 = .ok (.aload_n 0, 1) := by decide +kernel
theorem dX2_retire_169 : decode cX2_retire 169 = .ok (.getfield 21, 3) := by decide +kernel
theorem dX2_retire_172 : decode cX2_retire 172 = .ok (.sipush 8192, 3) := by decide +kernel
theorem dX2_retire_175 : decode cX2_retire 175 = .ok (.invokevirtual 108, 3) := by decide +kernel
theorem dX2_retire_178 : decode cX2_retire 178 = .ok (.ifCond .eq 20, 3) := by decide +kernel
theorem dX2_retire_181 : decode cX2_retire 181 = .ok (.aload_n 0, 1) := by decide +kernel
theorem dX2_retire_182 : decode cX2_retire 182 = .ok (.getfield 37, 3) := by decide +kernel
theorem dX2_retire_185 : decode cX2_retire 185 = .ok (.aload_n 0, 1) := by decide +kernel
theorem dX2_retire_186 : decode cX2_retire 186 = .ok (.getfield 28, 3) := by decide +kernel
theorem dX2_retire_189 : decode cX2_retire 189 = .ok (.getfield 153, 3) := by decide +kernel
theorem dX2_retire_192 : decode cX2_retire 192 = .ok (.invokevirtual 274, 3) := by decide +kernel
theorem dX2_retire_195 : decode cX2_retire 195 = .ok (.goto 10, 3) := by decide +kernel
theorem dX2_retire_198 : decode cX2_retire 198 = .ok (.aload_n 0, 1) := by decide +kernel
theorem dX2_retire_199 : decode cX2_retire 199 = .ok (.getfield 37, 3) := by decide +kernel
theorem dX2_retire_202 : decode cX2_retire 202 = .ok (.invokevirtual 277, 3) := by decide +kernel
theorem dX2_retire_205 : decode cX2_retire 205 = .ok (.aload_n 1, 1) := by decide +kernel
theorem dX2_retire_206 : decode cX2_retire 206 = .ok (.invokevirtual 280, 3) := by decide +kernel
theorem dX2_retire_209 : decode cX2_retire 209 = .ok (.return_, 1) := by decide +kernel
set_option maxRecDepth 1000000 in
theorem ggX2_except_X9_goTo : GoodIn wsX2_except wsX9_goTo := goodIn_r _ [18, 19, 20, 25, 26, 27, 28, 29, 30] (by decide +kernel) (by decide +kernel)
set_option maxRecDepth 1000000 in
theorem gX2_except_X9_goTo : GoodIn wsX2_except (wsV RX2 271 RX9 yX9_goTo wsX9_goTo) := goodIn_app (goodIn_of _ (by decide +kernel)) ggX2_except_X9_goTo
theorem dX2_except_0 : decode cX2_except 0 = .ok (.aload_n 0, 1) := by decide +kernel
theorem dX2_except_1 : decode cX2_except 1 = .ok (.getfield 37, 3) := by decide +kernel
theorem dX2_except_4 : decode cX2_except 4 = .ok (.getfield 41, 3) := by decide +kernel
theorem dX2_except_7 : decode cX2_except 7 = .ok (.astore_n 1, 1) := by decide +kernel
theorem dX2_except_8 : decode cX2_except 8 = .ok (.aload_n 1, 1) := by decide +kernel
theorem dX2_except_9 : decode cX2_except 9 = .ok (.getfield 45, 3) := by decide +kernel
theorem dX2_except_12 : decode cX2_except 12 = .ok (.istore_n 2, 1) := by decide +kernel
theorem dX2_except_13 : decode cX2_except 13 = .ok (.aload_n 1, 1) := by decide +kernel
theorem dX2_except_14 : decode cX2_except 14 = .ok (.iload_n 2, 1) := by decide +kernel
theorem dX2_except_15 : decode cX2_except 15 = .ok (.putfield 265, 3) := by decide +kernel
theorem dX2_except_18 : decode cX2_except 18 = .ok (.aload_n 1, 1) := by decide +kernel
theorem dX2_except_19 : decode cX2_except 19 = .ok (.iload_n 2, 1) := by decide +kernel
theorem dX2_except_20 : decode cX2_except 20 = .ok (.sipush 416, 3) := by decide +kernel
theorem dX2_except_23 : decode cX2_except 23 = .ok (.iand, 1) := by decide +kernel
theorem dX2_except_24 : decode cX2_except 24 = .ok (.iconst 1, 1) := by decide +kernel
theorem dX2_except_25 : decode cX2_except 25 = .ok (.ior, 1) := by decide +kernel
theorem dX2_except_26 : decode cX2_except 26 = .ok (.putfield 45, 3) := by decide +kernel
theorem dX2_except_29 : decode cX2_except 29 = .ok (.aload_n 0, 1) := by decide +kernel
theorem dX2_except_30 : decode cX2_except 30 = .ok (.getfield 37, 3) := by decide +kernel
theorem dX2_except_33 : decode cX2_except 33 = .ok (.getfield 140, 3) := by decide +kernel
theorem dX2_except_36 : decode cX2_except 36 = .ok (.ifCond .eq 28, 3) := by decide +kernel
theorem dX2_except_39 : decode cX2_except 39 = .ok (.aload_n 1, 1) := by decide +kernel
theorem dX2_except_40 : decode cX2_except 40 = .ok (.aload_n 0, 1) := by decide +kernel
theorem dX2_except_41 : decode cX2_except 41 = .ok (.getfield 37, 3) := by decide +kernel
theorem dX2_except_44 : decode cX2_except 44 = .ok (.getfield 281, 3) := by decide +kernel
theorem dX2_except_47 : decode cX2_except 47 = .ok (.putfield 268, 3) := by decide +kernel
theorem dX2_except_50 : decode cX2_except 50 = .ok (.aload_n 1, 1) := by decide +kernel
theorem dX2_except_51 : decode cX2_except 51 = .ok (.dup, 1) := by decide +kernel
theorem dX2_except_52 : decode cX2_except 52 = .ok (.getfield 45, 3) := by decide +kernel
theorem dX2_except_55 : decode cX2_except 55 = .ok (.bipush 64, 2) := by decide +kernel
theorem dX2_except_57 : decode cX2_except 57 = .ok (.ior, 1) := by decide +kernel
theorem dX2_except_58 : decode cX2_except 58 = .ok (.putfield 45, 3) := by decide +kernel
theorem dX2_except_61 : decode cX2_except 61 = .ok (.goto 38, 3) := by decide +kernel
theorem dX2_except_64 : decode cX2_except 64 = .ok (.aload_n 1, 1) := by decide +kernel
theorem dX2_except_65 : decode cX2_except 65 = .ok (.aload_n 0, 1) := by decide +kernel
theorem dX2_except_66 : decode cX2_except 66 = .ok (.getfield 28, 3) := by decide +kernel
theorem dX2_except_69 : decode cX2_except 69 = .ok (.getfield 86, 3) := by decide +kernel
theorem dX2_except_72 : decode cX2_except 72 = .ok (.bipush 12, 2) := by decide +kernel
theorem dX2_except_74 : decode cX2_except 74 = .ok (.if_icmp .ne 15, 3) := by decide +kernel
theorem dX2_except_77 : decode cX2_except 77 = .ok (.aload_n 0, 1) := by decide +kernel
theorem dX2_except_78 : decode cX2_except 78 = .ok (.getfield 37, 3) := by decide +kernel
theorem dX2_except_81 : decode cX2_except 81 = .ok (.getfield 63, 3) := by decide +kernel
theorem dX2_except_84 : decode cX2_except 84 = .ok (.iconst 4, 1) := by decide +kernel
theorem dX2_except_85 : decode cX2_except 85 = .ok (.iadd, 1) := by decide +kernel
theorem dX2_except_86 : decode cX2_except 86 = .ok (.goto 10, 3) := by decide +kernel
theorem dX2_except_89 : decode cX2_except 89 = .ok (.aload_n 0, 1) := by decide +kernel
theorem dX2_except_90 : decode cX2_except 90 = .ok (.getfield 37, 3) := by decide +kernel
theorem dX2_except_93 : decode cX2_except 93 = .ok (.getfield 63, 3) := by decide +kernel
theorem dX2_except_96 : decode cX2_except 96 = .ok (.putfield 268, 3) := by decide +kernel
theorem dX2_except_99 : decode cX2_except 99 = .ok (.aload_n 0, 1) := by decide +kernel
theorem dX2_except_100 : decode cX2_except 100 = .ok (.getfield 28, 3) := by decide +kernel
theorem dX2_except_103 : decode cX2_except 103 = .ok (.getfield 284, 3) := by decide +kernel
theorem dX2_except_106 : decode cX2_except 106 = .ok (.ifCond .eq 14, 3) := by decide +kernel
theorem dX2_except_109 : decode cX2_except 109 = .ok (.aload_n 1, 1) := by decide +kernel
theorem dX2_except_110 : decode cX2_except 110 = .ok (.aload_n 0, 1) := by decide +kernel
theorem dX2_except_111 : decode cX2_except 111 = .ok (.getfield 28, 3) := by decide +kernel
theorem dX2_except_114 : decode cX2_except 114 = .ok (.getfield 287, 3) := by decide +kernel
theorem dX2_except_117 : decode cX2_except 117 = .ok (.putfield 290, 3) := by decide +kernel
theorem dX2_except_120 : decode cX2_except 120 = .ok (.aload_n 0, 1) := by decide +kernel
theorem dX2_except_121 : decode cX2_except 121 = .ok (.getfield 37, 3) := by decide +kernel
theorem dX2_except_124 : decode cX2_except 124 = .ok (.sipush 256, 3) := by decide +kernel
theorem dX2_except_127 : decode cX2_except 127 = .ok (.aload_n 0, 1) := by decide +kernel
theorem dX2_except_128 : decode cX2_except 128 = .ok (.getfield 28, 3) := by decide +kernel
theorem dX2_except_131 : decode cX2_except 131 = .ok (.getfield 86, 3) := by decide +kernel
theorem dX2_except_134 : decode cX2_except 134 = .ok (.imul, 1) := by decide +kernel
theorem dX2_except_135 : decode cX2_except 135 = .ok (.invokevirtual 271, 3) := by decide +kernel
theorem dX2_except_138 : decode cX2_except 138 = .ok (.return_, 1) := by decide +kernel
