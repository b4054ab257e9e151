theorem dX11_result_106 : decode cX11_result 106 = .ok (.bipush 31, 2) := by decide +kernel
theorem dX11_result_108 : decode cX11_result 108 = .ok (.iand, 1) := by decide +kernel
theorem dX11_result_109 : decode cX11_result 109 = .ok (.ishl, 1) := by decide +kernel
theorem dX11_result_110 : decode cX11_result 110 = .ok (.ireturn, 1) := by decide +kernel
theorem dX11_result_111 : decode cX11_result 111 = .ok (.iload_n 1, 1) := by decide +kernel
theorem dX11_result_112 : decode cX11_result 112 = .ok (.iload_n 2, 1) := by decide +kernel
theorem dX11_result_113 : decode cX11_result 113 = .ok (.bipush 31, 2) := by decide +kernel
theorem dX11_result_115 : decode cX11_result 115 = .ok (.iand, 1) := by decide +kernel
theorem dX11_result_116 : decode cX11_result 116 = .ok (.iushr, 1) := by decide +kernel
theorem dX11_result_117 : decode cX11_result 117 = .ok (.ireturn, 1) := by decide +kernel
theorem dX11_result_118 : decode cX11_result 118 = .ok (.iload_n 1, 1) := by decide +kernel
theorem dX11_result_119 : decode cX11_result 119 = .ok (.iload_n 2, 1) := by decide +kernel
theorem dX11_result_120 : decode cX11_result 120 = .ok (.bipush 31, 2) := by decide +kernel
theorem dX11_result_122 : decode cX11_result 122 = .ok (.iand, 1) := by decide +kernel
theorem dX11_result_123 : decode cX11_result 123 = .ok (.ishr, 1) := by decide +kernel
theorem dX11_result_124 : decode cX11_result 124 = .ok (.ireturn, 1) := by decide +kernel
theorem dX11_result_125 : decode cX11_result 125 = .ok (.iload_n 1, 1) := by decide +kernel
theorem dX11_result_126 : decode cX11_result 126 = .ok (.iload_n 2, 1) := by decide +kernel
theorem dX11_result_127 : decode cX11_result 127 = .ok (.imul, 1) := by decide +kernel
theorem dX11_result_128 : decode cX11_result 128 = .ok (.ireturn, 1) := by decide +kernel
theorem dX11_result_129 : decode cX11_result 129 = .ok (.iload_n 2, 1) := by decide +kernel
theorem dX11_result_130 : decode cX11_result 130 = .ok (.ifCond .ne 7, 3) := by decide +kernel
theorem dX11_result_133 : decode cX11_result 133 = .ok (.iconst 0, 1) := by decide +kernel
theorem dX11_result_134 : decode cX11_result 134 = .ok (.goto 16, 3) := by decide +kernel
theorem dX11_result_137 : decode cX11_result 137 = .ok (.iload_n 2, 1) := by decide +kernel
theorem dX11_result_138 : decode cX11_result 138 = .ok (.iconst (-1), 1) := by decide +kernel
theorem dX11_result_139 : decode cX11_result 139 = .ok (.if_icmp .ne 8, 3) := by decide +kernel
theorem dX11_result_142 : decode cX11_result 142 = .ok (.iload_n 1, 1) := by decide +kernel
theorem dX11_result_143 : decode cX11_result 143 = .ok (.ineg, 1) := by decide +kernel
theorem dX11_result_144 : decode cX11_result 144 = .ok (.goto 6, 3) := by decide +kernel
theorem dX11_result_147 : decode cX11_result 147 = .ok (.iload_n 1, 1) := by decide +kernel
theorem dX11_result_148 : decode cX11_result 148 = .ok (.iload_n 2, 1) := by decide +kernel
theorem dX11_result_149 : decode cX11_result 149 = .ok (.idiv, 1) := by decide +kernel
theorem dX11_result_150 : decode cX11_result 150 = .ok (.ireturn, 1) := by decide +kernel
theorem dX11_result_151 : decode cX11_result 151 = .ok (.iload_n 1, 1) := by decide +kernel
theorem dX11_result_152 : decode cX11_result 152 = .ok (.iload 4, 2) := by decide +kernel
theorem dX11_result_154 : decode cX11_result 154 = .ok (.iadd, 1) := by decide +kernel
theorem dX11_result_155 : decode cX11_result 155 = .ok (.ireturn, 1) := by decide +kernel
theorem dX11_result_156 : decode cX11_result 156 = .ok (.iload_n 1, 1) := by decide +kernel
theorem dX11_result_157 : decode cX11_result 157 = .ok (.iload_n 3, 1) := by decide +kernel
theorem dX11_result_158 : decode cX11_result 158 = .ok (.iand, 1) := by decide +kernel
theorem dX11_result_159 : decode cX11_result 159 = .ok (.ireturn, 1) := by decide +kernel
theorem dX11_result_160 : decode cX11_result 160 = .ok (.iload_n 1, 1) := by decide +kernel
theorem dX11_result_161 : decode cX11_result 161 = .ok (.iload_n 3, 1) := by decide +kernel
theorem dX11_result_162 : decode cX11_result 162 = .ok (.ior, 1) := by decide +kernel
theorem dX11_result_163 : decode cX11_result 163 = .ok (.ireturn, 1) := by decide +kernel
theorem dX11_result_164 : decode cX11_result 164 = .ok (.iload_n 1, 1) := by decide +kernel
theorem dX11_result_165 : decode cX11_result 165 = .ok (.iload_n 3, 1) := by decide +kernel
theorem dX11_result_166 : decode cX11_result 166 = .ok (.ixor, 1) := by decide +kernel
theorem dX11_result_167 : decode cX11_result 167 = .ok (.ireturn, 1) := by decide +kernel
theorem dX11_result_168 : decode cX11_result 168 = .ok (.iload_n 3, 1) := by decide +kernel
theorem dX11_result_169 : decode cX11_result 169 = .ok (.bipush 16, 2) := by decide +kernel
theorem dX11_result_171 : decode cX11_result 171 = .ok (.ishl, 1) := by decide +kernel
theorem dX11_result_172 : decode cX11_result 172 = .ok (.ireturn, 1) := by decide +kernel
theorem dX11_result_173 : decode cX11_result 173 = .ok (.iload_n 1, 1) := by decide +kernel
theorem dX11_result_174 : decode cX11_result 174 = .ok (.iload_n 3, 1) := by decide +kernel
theorem dX11_result_175 : decode cX11_result 175 = .ok (.bipush 31, 2) := by decide +kernel
theorem dX11_result_177 : decode cX11_result 177 = .ok (.iand, 1) := by decide +kernel
theorem dX11_result_178 : decode cX11_result 178 = .ok (.ishl, 1) := by decide +kernel
theorem dX11_result_179 : decode cX11_result 179 = .ok (.ireturn, 1) := by decide +kernel
theorem dX11_result_180 : decode cX11_result 180 = .ok (.iload_n 1, 1) := by decide +kernel
theorem dX11_result_181 : decode cX11_result 181 = .ok (.iload_n 3, 1) := by decide +kernel
theorem dX11_result_182 : decode cX11_result 182 = .ok (.bipush 31, 2) := by decide +kernel
theorem dX11_result_184 : decode cX11_result 184 = .ok (.iand, 1) := by decide +kernel
theorem dX11_result_185 : decode cX11_result 185 = .ok (.iushr, 1) := by decide +kernel
theorem dX11_result_186 : decode cX11_result 186 = .ok (.ireturn, 1) := by decide +kernel
theorem dX11_result_187 : decode cX11_result 187 = .ok (.iload_n 1, 1) := by decide +kernel
theorem dX11_result_188 : decode cX11_result 188 = .ok (.iload_n 3, 1) := by decide +kernel
theorem dX11_result_189 : decode cX11_result 189 = .ok (.bipush 31, 2) := by decide +kernel
theorem dX11_result_191 : decode cX11_result 191 = .ok (.iand, 1) := by decide +kernel
theorem dX11_result_192 : decode cX11_result 192 = .ok (.ishr, 1) := by decide +kernel
theorem dX11_result_193 : decode cX11_result 193 = .ok (.ireturn, 1) := by decide +kernel
theorem dX11_bitOf_0 : decode cX11_bitOf 0 = .ok (.iconst 0, 1) := by decide +kernel
theorem dX11_bitOf_1 : decode cX11_bitOf 1 = .ok (.istore_n 2, 1) := by decide +kernel
theorem dX11_bitOf_2 : decode cX11_bitOf 2 = .ok (.iconst 1, 1) := by decide +kernel
theorem dX11_bitOf_3 : decode cX11_bitOf 3 = .ok (.istore_n 3, 1) := by decide +kernel
theorem dX11_bitOf_4 : decode cX11_bitOf 4 = .ok (.iload_n 3, 1) := by decide +kernel
theorem dX11_bitOf_5 : decode cX11_bitOf 5 = .ok (.bipush 33, 2) := by decide +kernel
theorem dX11_bitOf_7 : decode cX11_bitOf 7 = .ok (.if_icmp .ge 30, 3) := by decide +kernel
theorem dX11_bitOf_10 : decode cX11_bitOf 10 = .ok (.iload_n 0, 1) := by decide +kernel
theorem dX11_bitOf_11 : decode cX11_bitOf 11 = .ok (.iload_n 3, 1) := by decide +kernel
theorem dX11_bitOf_12 : decode cX11_bitOf 12 = .ok (.iconst 1, 1) := by decide +kernel
theorem dX11_bitOf_13 : decode cX11_bitOf 13 = .ok (.isub, 1) := by decide +kernel
theorem dX11_bitOf_14 : decode cX11_bitOf 14 = .ok (.iushr, 1) := by decide +kernel
theorem dX11_bitOf_15 : decode cX11_bitOf 15 = .ok (.iconst 1, 1) := by decide +kernel
theorem dX11_bitOf_16 : decode cX11_bitOf 16 = .ok (.iand, 1) := by decide +kernel
theorem dX11_bitOf_17 : decode cX11_bitOf 17 = .ok (.iconst 1, 1) := by decide +kernel
theorem dX11_bitOf_18 : decode cX11_bitOf 18 = .ok (.if_icmp .ne 13, 3) := by decide +kernel
theorem dX11_bitOf_21 : decode cX11_bitOf 21 = .ok (.iload_n 2, 1) := by decide +kernel
theorem dX11_bitOf_22 : decode cX11_bitOf 22 = .ok (.ifCond .eq 7, 3) := by decide +kernel
theorem dX11_bitOf_25 : decode cX11_bitOf 25 = .ok (.iload_n 1, 1) := by decide +kernel
theorem dX11_bitOf_26 : decode cX11_bitOf 26 = .ok (.ifCond .ne 5, 3) := by decide +kernel
theorem dX11_bitOf_29 : decode cX11_bitOf 29 = .ok (.iload_n 3, 1) := by decide +kernel
theorem dX11_bitOf_30 : decode cX11_bitOf 30 = .ok (.istore_n 2, 1) := by decide +kernel
theorem dX11_bitOf_31 : decode cX11_bitOf 31 = .ok (.iinc 3 1, 3) := by decide +kernel
theorem dX11_bitOf_34 : decode cX11_bitOf 34 = .ok (.goto (-30), 3) := by decide +kernel
theorem dX11_bitOf_37 : decode cX11_bitOf 37 = .ok (.iload_n 2, 1) := by decide +kernel
theorem dX11_bitOf_38 : decode cX11_bitOf 38 = .ok (.ireturn, 1) := by decide +kernel
theorem dX11_rotated_0 : decode cX11_rotated 0 = .ok (.iload_n 1, 1) := by decide +kernel
theorem dX11_rotated_1 : decode cX11_rotated 1 = .ok (.bipush 31, 2) := by decide +kernel
theorem dX11_rotated_3 : decode cX11_rotated 3 = .ok (.iand, 1) := by decide +kernel
theorem dX11_rotated_4 : decode cX11_rotated 4 = .ok (.istore_n 2, 1) := by decide +kernel
theorem dX11_rotated_5 : decode cX11_rotated 5 = .ok (.iload_n 2, 1) := by decide +kernel
theorem dX11_rotated_6 : decode cX11_rotated 6 = .ok (.ifCond .ne 7, 3) := by decide +kernel
theorem dX11_rotated_9 : decode cX11_rotated 9 = .ok (.iload_n 0, 1) := by decide +kernel
theorem dX11_rotated_10 : decode cX11_rotated 10 = .ok (.goto 13, 3) := by decide +kernel
theorem dX11_rotated_13 : decode cX11_rotated 13 = .ok (.iload_n 0, 1) := by decide +kernel
theorem dX11_rotated_14 : decode cX11_rotated 14 = .ok (.iload_n 2, 1) := by decide +kernel
theorem dX11_rotated_15 : decode cX11_rotated 15 = .ok (.iushr, 1) := by decide +kernel
theorem dX11_rotated_16 : decode cX11_rotated 16 = .ok (.iload_n 0, 1) := by decide +kernel
theorem dX11_rotated_17 : decode cX11_rotated 17 = .ok (.bipush 32, 2) := by decide +kernel
theorem dX11_rotated_19 : decode cX11_rotated 19 = .ok (.iload_n 2, 1) := by decide +kernel
theorem dX11_rotated_20 : decode cX11_rotated 20 = .ok (.isub, 1) := by decide +kernel
theorem dX11_rotated_21 : decode cX11_rotated 21 = .ok (.ishl, 1) := by decide +kernel
theorem dX11_rotated_22 : decode cX11_rotated 22 = .ok (.ior, 1) := by decide +kernel
theorem dX11_rotated_23 : decode cX11_rotated 23 = .ok (.ireturn, 1) := by decide +kernel
set_option maxRecDepth 1000000 in
theorem ggX11_more_X11_has : GoodIn wsX11_more wsX11_has := goodIn_r _ [7, 8, 15, 16, 17, 18, 19, 20, 21, 22, 23, 24, 25, 26, 27, 28, 29, 30, 31, 32, 33, 34, 35, 36, 37, 38, 39, 40, 41, 42, 43, 44, 45, 46, 47, 48, 49, 50, 51, 52, 53, 54, 55, 56, 57, 58, 59, 60, 61, 62, 63, 64, 65, 66, 67, 68, 69, 70, 71, 72, 73, 74] rfl (by decide +kernel)
set_option maxRecDepth 1000000 in
theorem gX11_more_X11_has : GoodIn wsX11_more (wsV RX11 122 RX11 yX11_has wsX11_has) := goodIn_app (goodIn_of _ (by decide +kernel)) ggX11_more_X11_has
set_option maxRecDepth 1000000 in
theorem ggX11_more_X11_bitOf : GoodIn wsX11_more wsX11_bitOf := goodIn_r _ [11] (by decide +kernel) (by decide +kernel)
set_option maxRecDepth 1000000 in
theorem gX11_more_X11_bitOf : GoodIn wsX11_more (va_wsS RX11 282 yX11_bitOf wsX11_bitOf) := goodIn_app (goodIn_of _ (by decide +kernel)) ggX11_more_X11_bitOf
set_option maxRecDepth 1000000 in
theorem ggX11_more_X11_rotated : GoodIn wsX11_more wsX11_rotated := goodIn_r _ [14] (by decide +kernel) (by decide +kernel)
set_option maxRecDepth 1000000 in
theorem gX11_more_X11_rotated : GoodIn wsX11_more (va_wsS RX11 286 yX11_rotated wsX11_rotated) := goodIn_app (goodIn_of _ (by decide +kernel)) ggX11_more_X11_rotated
theorem dX11_more_0 : decode cX11_more 0 = .ok (.iload_n 1, 1) := by decide +kernel
theorem dX11_more_1 : decode cX11_more 1 = .ok (.tableswitch 222 34 50 #[83, 103, 124, 128, 222, 222, 222, 222, 151, 159, 167, 172, 178, 193, 193, 209, 215], 83) := by decide +kernel
theorem dX11_more_84 : decode cX11_more 84 = .ok (.iload_n 2, 1) := by decide +kernel
theorem dX11_more_85 : decode cX11_more 85 = .ok (.iload_n 3, 1) := by decide +kernel
theorem dX11_more_86 : decode cX11_more 86 = .ok (.iadd, 1) := by decide +kernel
theorem dX11_more_87 : decode cX11_more 87 = .ok (.aload_n 0, 1) := by decide +kernel
theorem dX11_more_88 : decode cX11_more 88 = .ok (.sipush 128, 3) := by decide +kernel
theorem dX11_more_91 : decode cX11_more 91 = .ok (.invokevirtual 122, 3) := by decide +kernel
theorem dX11_more_94 : decode cX11_more 94 = .ok (.ifCond .eq 7, 3) := by decide +kernel
theorem dX11_more_97 : decode cX11_more 97 = .ok (.iconst 1, 1) := by decide +kernel
theorem dX11_more_98 : decode cX11_more 98 = .ok (.goto 4, 3) := by decide +kernel
theorem dX11_more_101 : decode cX11_more 101 = .ok (.iconst 0, 1) := by decide +kernel
theorem dX11_more_102 : decode cX11_more 102 = .ok (.iadd, 1) := by decide +kernel
theorem dX11_more_103 : decode cX11_more 103 = .ok (.ireturn, 1) := by decide +kernel
theorem dX11_more_104 : decode cX11_more 104 = .ok (.iload_n 2, 1) := by decide +kernel
theorem dX11_more_105 : decode cX11_more 105 = .ok (.iload 5, 2) := by decide +kernel
theorem dX11_more_107 : decode cX11_more 107 = .ok (.iadd, 1) := by decide +kernel
theorem dX11_more_108 : decode cX11_more 108 = .ok (.aload_n 0, 1) := by decide +kernel
theorem dX11_more_109 : decode cX11_more 109 = .ok (.sipush 128, 3) := by decide +kernel
theorem dX11_more_112 : decode cX11_more 112 = .ok (.invokevirtual 122, 3) := by decide +kernel
theorem dX11_more_115 : decode cX11_more 115 = .ok (.ifCond .eq 7, 3) := by decide +kernel
theorem dX11_more_118 : decode cX11_more 118 = .ok (.iconst 1, 1) := by decide +kernel
theorem dX11_more_119 : decode cX11_more 119 = .ok (.goto 4, 3) := by decide +kernel
theorem dX11_more_122 : decode cX11_more 122 = .ok (.iconst 0, 1) := by decide +kernel
theorem dX11_more_123 : decode cX11_more 123 = .ok (.iadd, 1) := by decide +kernel
theorem dX11_more_124 : decode cX11_more 124 = .ok (.ireturn, 1) := by decide +kernel
theorem dX11_more_125 : decode cX11_more 125 = .ok (.iload_n 2, 1) := by decide +kernel
theorem dX11_more_126 : decode cX11_more 126 = .ok (.iload_n 3, 1) := by decide +kernel
theorem dX11_more_127 : decode cX11_more 127 = .ok (.imul, 1) := by decide +kernel
theorem dX11_more_128 : decode cX11_more 128 = .ok (.ireturn, 1) := by decide +kernel
theorem dX11_more_129 : decode cX11_more 129 = .ok (.iload_n 3, 1) := by decide +kernel
theorem dX11_more_130 : decode cX11_more 130 = .ok (.ifCond .ne 7, 3) := by decide +kernel
theorem dX11_more_133 : decode cX11_more 133 = .ok (.iconst 0, 1) := by decide +kernel
theorem dX11_more_134 : decode cX11_more 134 = .ok (.goto 17, 3) := by decide +kernel
theorem dX11_more_137 : decode cX11_more 137 = .ok (.iload_n 2, 1) := by decide +kernel
theorem dX11_more_138 : decode cX11_more 138 = .ok (.i2l, 1) := by decide +kernel
theorem dX11_more_139 : decode cX11_more 139 = .ok (.ldc2_w 130, 3) := by decide +kernel
theorem dX11_more_142 : decode cX11_more 142 = .ok (.land, 1) := by decide +kernel
theorem dX11_more_143 : decode cX11_more 143 = .ok (.iload_n 3, 1) := by decide +kernel
theorem dX11_more_144 : decode cX11_more 144 = .ok (.i2l, 1) := by decide +kernel
theorem dX11_more_145 : decode cX11_more 145 = .ok (.ldc2_w 130, 3) := by decide +kernel
theorem dX11_more_148 : decode cX11_more 148 = .ok (.land, 1) := by decide +kernel
theorem dX11_more_149 : decode cX11_more 149 = .ok (.ldiv, 1) := by decide +kernel
theorem dX11_more_150 : decode cX11_more 150 = .ok (.l2i, 1) := by decide +kernel
theorem dX11_more_151 : decode cX11_more 151 = .ok (.ireturn, 1) := by decide +kernel
theorem dX11_more_152 : decode cX11_more 152 = .ok (.iload_n 2, 1) := by decide +kernel
theorem dX11_more_153 : decode cX11_more 153 = .ok (.bipush 16, 2) := by decide +kernel
theorem dX11_more_155 : decode cX11_more 155 = .ok (.ishl, 1) := by decide +kernel
theorem dX11_more_156 : decode cX11_more 156 = .ok (.bipush 16, 2) := by decide +kernel
theorem dX11_more_158 : decode cX11_more 158 = .ok (.ishr, 1) := by decide +kernel
theorem dX11_more_159 : decode cX11_more 159 = .ok (.ireturn, 1) := by decide +kernel
theorem dX11_more_160 : decode cX11_more 160 = .ok (.iload_n 2, 1) := by decide +kernel
theorem dX11_more_161 : decode cX11_more 161 = .ok (.bipush 24, 2) := by decide +kernel
theorem dX11_more_163 : decode cX11_more 163 = .ok (.ishl, 1) := by decide +kernel
theorem dX11_more_164 : decode cX11_more 164 = .ok (.bipush 24, 2) := by decide +kernel
theorem dX11_more_166 : decode cX11_more 166 = .ok (.ishr, 1) := by decide +kernel
theorem dX11_more_167 : decode cX11_more 167 = .ok (.ireturn, 1) := by decide +kernel
theorem dX11_more_168 : decode cX11_more 168 = .ok (.iload_n 2, 1) := by decide +kernel
theorem dX11_more_169 : decode cX11_more 169 = .ok (.ldc 246, 2) := by decide +kernel
theorem dX11_more_171 : decode cX11_more 171 = .ok (.iand, 1) := by decide +kernel
theorem dX11_more_172 : decode cX11_more 172 = .ok (.ireturn, 1) := by decide +kernel
theorem dX11_more_173 : decode cX11_more 173 = .ok (.iload_n 2, 1) := by decide +kernel
theorem dX11_more_174 : decode cX11_more 174 = .ok (.sipush 255, 3) := by decide +kernel
theorem dX11_more_177 : decode cX11_more 177 = .ok (.iand, 1) := by decide +kernel
theorem dX11_more_178 : decode cX11_more 178 = .ok (.ireturn, 1) := by decide +kernel
theorem dX11_more_179 : decode cX11_more 179 = .ok (.aload_n 0, 1) := by decide +kernel
theorem dX11_more_180 : decode cX11_more 180 = .ok (.bipush 32, 2) := by decide +kernel
theorem dX11_more_182 : decode cX11_more 182 = .ok (.invokevirtual 122, 3) := by decide +kernel
theorem dX11_more_185 : decode cX11_more 185 = .ok (.ifCond .eq 7, 3) := by decide +kernel
theorem dX11_more_188 : decode cX11_more 188 = .ok (.iload_n 2, 1) := by decide +kernel
theorem dX11_more_189 : decode cX11_more 189 = .ok (.goto 4, 3) := by decide +kernel
theorem dX11_more_192 : decode cX11_more 192 = .ok (.iload_n 3, 1) := by decide +kernel
theorem dX11_more_193 : decode cX11_more 193 = .ok (.ireturn, 1) := by decide +kernel
theorem dX11_more_194 : decode cX11_more 194 = .ok (.iload_n 2, 1) := by decide +kernel
theorem dX11_more_195 : decode cX11_more 195 = .ok (.iload_n 1, 1) := by decide +kernel
theorem dX11_more_196 : decode cX11_more 196 = .ok (.bipush 47, 2) := by decide +kernel
theorem dX11_more_198 : decode cX11_more 198 = .ok (.if_icmp .ne 7, 3) := by decide +kernel
theorem dX11_more_201 : decode cX11_more 201 = .ok (.iconst 1, 1) := by decide +kernel
theorem dX11_more_202 : decode cX11_more 202 = .ok (.goto 4, 3) := by decide +kernel
theorem dX11_more_205 : decode cX11_more 205 = .ok (.iconst 0, 1) := by decide +kernel
theorem dX11_more_206 : decode cX11_more 206 = .ok (.invokestatic 282, 3) := by decide +kernel
theorem dX11_more_209 : decode cX11_more 209 = .ok (.ireturn, 1) := by decide +kernel
theorem dX11_more_210 : decode cX11_more 210 = .ok (.iload_n 2, 1) := by decide +kernel
theorem dX11_more_211 : decode cX11_more 211 = .ok (.iload_n 3, 1) := by decide +kernel
theorem dX11_more_212 : decode cX11_more 212 = .ok (.invokestatic 286, 3) := by decide +kernel
theorem dX11_more_215 : decode cX11_more 215 = .ok (.ireturn, 1) := by decide +kernel
theorem dX11_more_216 : decode cX11_more 216 = .ok (.iload_n 2, 1) := by decide +kernel
theorem dX11_more_217 : decode cX11_more 217 = .ok (.iload 4, 2) := by decide +kernel
theorem dX11_more_219 : decode cX11_more 219 = .ok (.invokestatic 286, 3) := by decide +kernel
theorem dX11_more_222 : decode cX11_more 222 = .ok (.ireturn, 1) := by decide +kernel
theorem dX11_more_223 : decode cX11_more 223 = .ok (.iload_n 2, 1) := by decide +kernel
theorem dX11_more_224 : decode cX11_more 224 = .ok (.iload 5, 2) := by decide +kernel
theorem dX11_more_226 : decode cX11_more 226 = .ok (.imul, 1) := by decide +kernel
theorem dX11_more_227 : decode cX11_more 227 = .ok (.ireturn, 1) := by decide +kernel
theorem dX11_compare_0 : decode cX11_compare 0 = .ok (.iload_n 0, 1) := by decide +kernel
theorem dX11_compare_1 : decode cX11_compare 1 = .ok (.bipush 6, 2) := by decide +kernel
theorem dX11_compare_3 : decode cX11_compare 3 = .ok (.if_icmp .ge 12, 3) := by decide +kernel
theorem dX11_compare_6 : decode cX11_compare 6 = .ok (.iload_n 1, 1) := by decide +kernel
theorem dX11_compare_7 : decode cX11_compare 7 = .ok (.i2l, 1) := by decide +kernel
theorem dX11_compare_8 : decode cX11_compare 8 = .ok (.ldc2_w 130, 3) := by decide +kernel
theorem dX11_compare_11 : decode cX11_compare 11 = .ok (.land, 1) := by decide +kernel
theorem dX11_compare_12 : decode cX11_compare 12 = .ok (.goto 5, 3) := by decide +kernel
theorem dX11_compare_15 : decode cX11_compare 15 = .ok (.iload_n 1, 1) := by decide +kernel
theorem dX11_compare_16 : decode cX11_compare 16 = .ok (.i2l, 1) := by decide +kernel
theorem dX11_compare_17 : decode cX11_compare 17 = .ok (.lstore_n 3, 1) := by decide +kernel
theorem dX11_compare_18 : decode cX11_compare 18 = .ok (.iload_n 0, 1) := by decide +kernel
theorem dX11_compare_19 : decode cX11_compare 19 = .ok (.bipush 6, 2) := by decide +kernel
theorem dX11_compare_21 : decode cX11_compare 21 = .ok (.if_icmp .ge 12, 3) := by decide +kernel
theorem dX11_compare_24 : decode cX11_compare 24 = .ok (.iload_n 2, 1) := by decide +kernel
theorem dX11_compare_25 : decode cX11_compare 25 = .ok (.i2l, 1) := by decide +kernel
theorem dX11_compare_26 : decode cX11_compare 26 = .ok (.ldc2_w 130, 3) := by decide +kernel
theorem dX11_compare_29 : decode cX11_compare 29 = .ok (.land, 1) := by decide +kernel
theorem dX11_compare_30 : decode cX11_compare 30 = .ok (.goto 5, 3) := by decide +kernel
theorem dX11_compare_33 : decode cX11_compare 33 = .ok (.iload_n 2, 1) := by decide +kernel
theorem dX11_compare_34 : decode cX11_compare 34 = .ok (.i2l, 1) := by decide +kernel
theorem dX11_compare_35 : decode cX11_compare 35 = .ok (.lstore 5, 2) := by decide +kernel
theorem dX11_compare_37 : decode cX11_compare 37 = .ok (.iload_n 0, 1) := by decide +kernel
theorem dX11_compare_38 : decode cX11_compare 38 = .ok (.tableswitch 115 0 8 #[50, 63, 76, 89, 102, 115, 76, 89, 102], 50) := by decide +kernel
theorem dX11_compare_88 : decode cX11_compare 88 = .ok (.lload_n 3, 1) := by decide +kernel
theorem dX11_compare_89 : decode cX11_compare 89 = .ok (.lload 5, 2) := by decide +kernel
theorem dX11_compare_91 : decode cX11_compare 91 = .ok (.lcmp, 1) := by decide +kernel
theorem dX11_compare_92 : decode cX11_compare 92 = .ok (.ifCond .ne 7, 3) := by decide +kernel
theorem dX11_compare_95 : decode cX11_compare 95 = .ok (.iconst 1, 1) := by decide +kernel
theorem dX11_compare_96 : decode cX11_compare 96 = .ok (.goto 4, 3) := by decide +kernel
theorem dX11_compare_99 : decode cX11_compare 99 = .ok (.iconst 0, 1) := by decide +kernel
theorem dX11_compare_100 : decode cX11_compare 100 = .ok (.ireturn, 1) := by decide +kernel
theorem dX11_compare_101 : decode cX11_compare 101 = .ok (.lload_n 3, 1) := by decide +kernel
theorem dX11_compare_102 : decode cX11_compare 102 = .ok (.lload 5, 2) := by decide +kernel
theorem dX11_compare_104 : decode cX11_compare 104 = .ok (.lcmp, 1) := by decide +kernel
theorem dX11_compare_105 : decode cX11_compare 105 = .ok (.ifCond .eq 7, 3) := by decide +kernel
theorem dX11_compare_108 : decode cX11_compare 108 = .ok (.iconst 1, 1) := by decide +kernel
theorem dX11_compare_109 : decode cX11_compare 109 = .ok (.goto 4, 3) := by decide +kernel
theorem dX11_compare_112 : decode cX11_compare 112 = .ok (.iconst 0, 1) := by decide +kernel
theorem dX11_compare_113 : decode cX11_compare 113 = .ok (.ireturn, 1) := by decide +kernel
theorem dX11_compare_114 : decode cX11_compare 114 = .ok (.lload_n 3, 1) := by decide +kernel
theorem dX11_compare_115 : decode cX11_compare 115 = .ok (.lload 5, 2) := by decide +kernel
theorem dX11_compare_117 : decode cX11_compare 117 = .ok (.lcmp, 1) := by decide +kernel
theorem dX11_compare_118 : decode cX11_compare 118 = .ok (.ifCond .le 7, 3) := by decide +kernel
theorem dX11_compare_121 : decode cX11_compare 121 = .ok (.iconst 1, 1) := by decide +kernel
theorem dX11_compare_122 : decode cX11_compare 122 = .ok (.goto 4, 3) := by decide +kernel
theorem dX11_compare_125 : decode cX11_compare 125 = .ok (.iconst 0, 1) := by decide +kernel
theorem dX11_compare_126 : decode cX11_compare 126 = .ok (.ireturn, 1) := by decide +kernel
theorem dX11_compare_127 : decode cX11_compare 127 = .ok (.lload_n 3, 1) := by decide +kernel
theorem dX11_compare_128 : decode cX11_compare 128 = .ok (.lload 5, 2) := by decide +kernel
theorem dX11_compare_130 : decode cX11_compare 130 = .ok (.lcmp, 1) := by decide +kernel
theorem dX11_compare_131 : decode cX11_compare 131 = .ok (.ifCond .lt 7, 3) := by decide +kernel
theorem dX11_compare_134 : decode cX11_compare 134 = .ok (.iconst 1, 1) := by decide +kernel
theorem dX11_compare_135 : decode cX11_compare 135 = .ok (.goto 4, 3) := by decide +kernel
theorem dX11_compare_138 : decode cX11_compare 138 = .ok (.iconst 0, 1) := by decide +kernel
theorem dX11_compare_139 : decode cX11_compare 139 = .ok (.ireturn, 1) := by decide +kernel
theorem dX11_compare_140 : decode cX11_compare 140 = .ok (.lload_n 3, 1) := by decide +kernel
theorem dX11_compare_141 : decode cX11_compare 141 = .ok (.lload 5, 2) := by decide +kernel
theorem dX11_compare_143 : decode cX11_compare 143 = .ok (.lcmp, 1) := by decide +kernel
theorem dX11_compare_144 : decode cX11_compare 144 = .ok (.ifCond .ge 7, 3) := by decide +kernel
theorem dX11_compare_147 : decode cX11_compare 147 = .ok (.iconst 1, 1) := by decide +kernel
theorem dX11_compare_148 : decode cX11_compare 148 = .ok (.goto 4, 3) := by decide +kernel
theorem dX11_compare_151 : decode cX11_compare 151 = .ok (.iconst 0, 1) := by decide +kernel
theorem dX11_compare_152 : decode cX11_compare 152 = .ok (.ireturn, 1) := by decide +kernel
theorem dX11_compare_153 : decode cX11_compare 153 = .ok (.lload_n 3, 1) := by decide +kernel
theorem dX11_compare_154 : decode cX11_compare 154 = .ok (.lload 5, 2) := by decide +kernel
theorem dX11_compare_156 : decode cX11_compare 156 = .ok (.lcmp, 1) := by decide +kernel
theorem dX11_compare_157 : decode cX11_compare 157 = .ok (.ifCond .gt 7, 3) := by decide +kernel
theorem dX11_compare_160 : decode cX11_compare 160 = .ok (.iconst 1, 1) := by decide +kernel
theorem dX11_compare_161 : decode cX11_compare 161 = .ok (.goto 4, 3) := by decide +kernel
theorem dX11_compare_164 : decode cX11_compare 164 = .ok (.iconst 0, 1) := by decide +kernel
theorem dX11_compare_165 : decode cX11_compare 165 = .ok (.ireturn, 1) := by decide +kernel
set_option maxRecDepth 1000000 in
theorem ggX11_access_X11_isStore : GoodIn wsX11_access wsX11_isStore := goodIn_r _ [14, 15, 16, 13, 17] (by decide +kernel) (by decide +kernel)
set_option maxRecDepth 1000000 in
theorem gX11_access_X11_isStore : GoodIn wsX11_access (va_wsS RX11 157 yX11_isStore wsX11_isStore) := goodIn_app (goodIn_of _ (by decide +kernel)) ggX11_access_X11_isStore
set_option maxRecDepth 1000000 in
theorem ggX11_access_X11_dataAt : GoodIn wsX11_access wsX11_dataAt := goodIn_r _ [21, 22, 23, 24, 25, 26, 27, 28, 13, 29, 30, 31, 32, 33, 34, 35, 36, 37, 38, 44, 45, 46, 47, 48, 49, 50, 51, 52, 53, 54, 55, 56, 57, 58, 59, 60, 61, 62, 63, 64, 65, 66, 67, 68, 69, 70, 71, 72, 73, 74, 75, 76, 77, 78, 79, 80, 81, 82, 83, 84, 85, 86, 87, 88, 89, 90, 91, 92, 93, 94, 95, 96, 97, 98, 99, 100, 101, 102, 103] rfl (by decide +kernel)
set_option maxRecDepth 1000000 in
theorem gX11_access_X11_dataAt : GoodIn wsX11_access (wsV RX11 290 RX11 yX11_dataAt wsX11_dataAt) := goodIn_app (goodIn_of _ (by decide +kernel)) ggX11_access_X11_dataAt
set_option maxRecDepth 1000000 in
theorem ggX11_access_X11_give : GoodIn wsX11_access wsX11_give := goodIn_r _ [42, 43, 4, 44, 45, 46, 47, 48, 49, 50, 51, 52, 53, 54, 55, 56, 57, 58, 59, 60, 61, 62, 63, 64, 65, 66, 67, 68, 69, 70, 71, 72, 73, 74, 75, 76, 77, 78, 79, 80, 81, 82, 83, 84, 85, 86, 87, 88, 89, 90, 91, 92, 93, 94, 95, 96, 97, 98, 99, 100, 101, 102, 103] rfl (by decide +kernel)
set_option maxRecDepth 1000000 in
theorem gX11_access_X11_give : GoodIn wsX11_access (wsV RX11 261 RX11 yX11_give wsX11_give) := goodIn_app (goodIn_of _ (by decide +kernel)) ggX11_access_X11_give
theorem dX11_access_0 : decode cX11_access 0 = .ok (.iload_n 1, 1) := by decide +kernel
theorem dX11_access_1 : decode cX11_access 1 = .ok (.bipush 26, 2) := by decide +kernel
theorem dX11_access_3 : decode cX11_access 3 = .ok (.if_icmp .eq 9, 3) := by decide +kernel
theorem dX11_access_6 : decode cX11_access 6 = .ok (.iload_n 1, 1) := by decide +kernel
theorem dX11_access_7 : decode cX11_access 7 = .ok (.bipush 28, 2) := by decide +kernel
theorem dX11_access_9 : decode cX11_access 9 = .ok (.if_icmp .ne 7, 3) := by decide +kernel
theorem dX11_access_12 : decode cX11_access 12 = .ok (.iconst 4, 1) := by decide +kernel
theorem dX11_access_13 : decode cX11_access 13 = .ok (.goto 14, 3) := by decide +kernel
theorem dX11_access_16 : decode cX11_access 16 = .ok (.iload_n 1, 1) := by decide +kernel
theorem dX11_access_17 : decode cX11_access 17 = .ok (.bipush 51, 2) := by decide +kernel
theorem dX11_access_19 : decode cX11_access 19 = .ok (.if_icmp .le 7, 3) := by decide +kernel
theorem dX11_access_22 : decode cX11_access 22 = .ok (.iconst 2, 1) := by decide +kernel
theorem dX11_access_23 : decode cX11_access 23 = .ok (.goto 4, 3) := by decide +kernel
theorem dX11_access_26 : decode cX11_access 26 = .ok (.iconst 1, 1) := by decide +kernel
theorem dX11_access_27 : decode cX11_access 27 = .ok (.istore 4, 2) := by decide +kernel
theorem dX11_access_29 : decode cX11_access 29 = .ok (.aload_n 0, 1) := by decide +kernel
theorem dX11_access_30 : decode cX11_access 30 = .ok (.iload_n 3, 1) := by decide +kernel
theorem dX11_access_31 : decode cX11_access 31 = .ok (.iload 4, 2) := by decide +kernel
theorem dX11_access_33 : decode cX11_access 33 = .ok (.aload_n 0, 1) := by decide +kernel
theorem dX11_access_34 : decode cX11_access 34 = .ok (.getfield 169, 3) := by decide +kernel
theorem dX11_access_37 : decode cX11_access 37 = .ok (.invokestatic 157, 3) := by decide +kernel
theorem dX11_access_40 : decode cX11_access 40 = .ok (.invokevirtual 290, 3) := by decide +kernel
theorem dX11_access_43 : decode cX11_access 43 = .ok (.istore 5, 2) := by decide +kernel
theorem dX11_access_45 : decode cX11_access 45 = .ok (.iload 5, 2) := by decide +kernel
theorem dX11_access_47 : decode cX11_access 47 = .ok (.ifCond .ge 23, 3) := by decide +kernel
theorem dX11_access_50 : decode cX11_access 50 = .ok (.aload_n 0, 1) := by decide +kernel
theorem dX11_access_51 : decode cX11_access 51 = .ok (.iload 5, 2) := by decide +kernel
theorem dX11_access_53 : decode cX11_access 53 = .ok (.ineg, 1) := by decide +kernel
theorem dX11_access_54 : decode cX11_access 54 = .ok (.putfield 197, 3) := by decide +kernel
theorem dX11_access_57 : decode cX11_access 57 = .ok (.aload_n 0, 1) := by decide +kernel
theorem dX11_access_58 : decode cX11_access 58 = .ok (.iconst 1, 1) := by decide +kernel
theorem dX11_access_59 : decode cX11_access 59 = .ok (.putfield 200, 3) := by decide +kernel
theorem dX11_access_62 : decode cX11_access 62 = .ok (.aload_n 0, 1) := by decide +kernel
theorem dX11_access_63 : decode cX11_access 63 = .ok (.iload_n 3, 1) := by decide +kernel
theorem dX11_access_64 : decode cX11_access 64 = .ok (.putfield 240, 3) := by decide +kernel
theorem dX11_access_67 : decode cX11_access 67 = .ok (.goto 157, 3) := by decide +kernel
theorem dX11_access_70 : decode cX11_access 70 = .ok (.aload_n 0, 1) := by decide +kernel
theorem dX11_access_71 : decode cX11_access 71 = .ok (.getfield 169, 3) := by decide +kernel
theorem dX11_access_74 : decode cX11_access 74 = .ok (.invokestatic 157, 3) := by decide +kernel
theorem dX11_access_77 : decode cX11_access 77 = .ok (.ifCond .eq 65, 3) := by decide +kernel
theorem dX11_access_80 : decode cX11_access 80 = .ok (.aload_n 0, 1) := by decide +kernel
theorem dX11_access_81 : decode cX11_access 81 = .ok (.iload 5, 2) := by decide +kernel
theorem dX11_access_83 : decode cX11_access 83 = .ok (.putfield 218, 3) := by decide +kernel
theorem dX11_access_86 : decode cX11_access 86 = .ok (.aload_n 0, 1) := by decide +kernel
theorem dX11_access_87 : decode cX11_access 87 = .ok (.iload 4, 2) := by decide +kernel
theorem dX11_access_89 : decode cX11_access 89 = .ok (.putfield 294, 3) := by decide +kernel
theorem dX11_access_92 : decode cX11_access 92 = .ok (.aload_n 0, 1) := by decide +kernel
theorem dX11_access_93 : decode cX11_access 93 = .ok (.iload 4, 2) := by decide +kernel
theorem dX11_access_95 : decode cX11_access 95 = .ok (.iconst 4, 1) := by decide +kernel
theorem dX11_access_96 : decode cX11_access 96 = .ok (.if_icmp .ne 12, 3) := by decide +kernel
theorem dX11_access_99 : decode cX11_access 99 = .ok (.aload_n 0, 1) := by decide +kernel
theorem dX11_access_100 : decode cX11_access 100 = .ok (.getfield 14, 3) := by decide +kernel
theorem dX11_access_103 : decode cX11_access 103 = .ok (.iload_n 2, 1) := by decide +kernel
theorem dX11_access_104 : decode cX11_access 104 = .ok (.iaload, 1) := by decide +kernel
theorem dX11_access_105 : decode cX11_access 105 = .ok (.goto 31, 3) := by decide +kernel
theorem dX11_access_108 : decode cX11_access 108 = .ok (.iload 4, 2) := by decide +kernel
theorem dX11_access_110 : decode cX11_access 110 = .ok (.iconst 2, 1) := by decide +kernel
theorem dX11_access_111 : decode cX11_access 111 = .ok (.if_icmp .ne 15, 3) := by decide +kernel
theorem dX11_access_114 : decode cX11_access 114 = .ok (.aload_n 0, 1) := by decide +kernel
theorem dX11_access_115 : decode cX11_access 115 = .ok (.getfield 14, 3) := by decide +kernel
theorem dX11_access_118 : decode cX11_access 118 = .ok (.iload_n 2, 1) := by decide +kernel
theorem dX11_access_119 : decode cX11_access 119 = .ok (.iaload, 1) := by decide +kernel
theorem dX11_access_120 : decode cX11_access 120 = .ok (.ldc 246, 2) := by decide +kernel
theorem dX11_access_122 : decode cX11_access 122 = .ok (.iand, 1) := by decide +kernel
theorem dX11_access_123 : decode cX11_access 123 = .ok (.goto 13, 3) := by decide +kernel
theorem dX11_access_126 : decode cX11_access 126 = .ok (.aload_n 0, 1) := by decide +kernel
theorem dX11_access_127 : decode cX11_access 127 = .ok (.getfield 14, 3) := by decide +kernel
theorem dX11_access_130 : decode cX11_access 130 = .ok (.iload_n 2, 1) := by decide +kernel
theorem dX11_access_131 : decode cX11_access 131 = .ok (.iaload, 1) := by decide +kernel
theorem dX11_access_132 : decode cX11_access 132 = .ok (.sipush 255, 3) := by decide +kernel
theorem dX11_access_135 : decode cX11_access 135 = .ok (.iand, 1) := by decide +kernel
theorem dX11_access_136 : decode cX11_access 136 = .ok (.putfield 297, 3) := by decide +kernel
theorem dX11_access_139 : decode cX11_access 139 = .ok (.goto 85, 3) := by decide +kernel
theorem dX11_access_142 : decode cX11_access 142 = .ok (.iconst 0, 1) := by decide +kernel
theorem dX11_access_143 : decode cX11_access 143 = .ok (.istore 6, 2) := by decide +kernel
theorem dX11_access_145 : decode cX11_access 145 = .ok (.iconst 0, 1) := by decide +kernel
theorem dX11_access_146 : decode cX11_access 146 = .ok (.istore 7, 2) := by decide +kernel
theorem dX11_access_148 : decode cX11_access 148 = .ok (.iload 7, 2) := by decide +kernel
theorem dX11_access_150 : decode cX11_access 150 = .ok (.iload 4, 2) := by decide +kernel
theorem dX11_access_152 : decode cX11_access 152 = .ok (.if_icmp .ge 31, 3) := by decide +kernel
theorem dX11_access_155 : decode cX11_access 155 = .ok (.iload 6, 2) := by decide +kernel
theorem dX11_access_157 : decode cX11_access 157 = .ok (.bipush 8, 2) := by decide +kernel
theorem dX11_access_159 : decode cX11_access 159 = .ok (.ishl, 1) := by decide +kernel
theorem dX11_access_160 : decode cX11_access 160 = .ok (.aload_n 0, 1) := by decide +kernel
theorem dX11_access_161 : decode cX11_access 161 = .ok (.getfield 8, 3) := by decide +kernel
theorem dX11_access_164 : decode cX11_access 164 = .ok (.iload 5, 2) := by decide +kernel
theorem dX11_access_166 : decode cX11_access 166 = .ok (.iload 7, 2) := by decide +kernel
theorem dX11_access_168 : decode cX11_access 168 = .ok (.iadd, 1) := by decide +kernel
theorem dX11_access_169 : decode cX11_access 169 = .ok (.baload, 1) := by decide +kernel
theorem dX11_access_170 : decode cX11_access 170 = .ok (.sipush 255, 3) := by decide +kernel
theorem dX11_access_173 : decode cX11_access 173 = .ok (.iand, 1) := by decide +kernel
theorem dX11_access_174 : decode cX11_access 174 = .ok (.ior, 1) := by decide +kernel
theorem dX11_access_175 : decode cX11_access 175 = .ok (.istore 6, 2) := by decide +kernel
theorem dX11_access_177 : decode cX11_access 177 = .ok (.iinc 7 1, 3) := by decide +kernel
theorem dX11_access_180 : decode cX11_access 180 = .ok (.goto (-32), 3) := by decide +kernel
theorem dX11_access_183 : decode cX11_access 183 = .ok (.aload_n 0, 1) := by decide +kernel
theorem dX11_access_184 : decode cX11_access 184 = .ok (.iload_n 2, 1) := by decide +kernel
theorem dX11_access_185 : decode cX11_access 185 = .ok (.iload_n 1, 1) := by decide +kernel
theorem dX11_access_186 : decode cX11_access 186 = .ok (.bipush 51, 2) := by decide +kernel
theorem dX11_access_188 : decode cX11_access 188 = .ok (.if_icmp .ne 14, 3) := by decide +kernel
theorem dX11_access_191 : decode cX11_access 191 = .ok (.iload 6, 2) := by decide +kernel
theorem dX11_access_193 : decode cX11_access 193 = .ok (.bipush 24, 2) := by decide +kernel
theorem dX11_access_195 : decode cX11_access 195 = .ok (.ishl, 1) := by decide +kernel
theorem dX11_access_196 : decode cX11_access 196 = .ok (.bipush 24, 2) := by decide +kernel
theorem dX11_access_198 : decode cX11_access 198 = .ok (.ishr, 1) := by decide +kernel
theorem dX11_access_199 : decode cX11_access 199 = .ok (.goto 22, 3) := by decide +kernel
theorem dX11_access_202 : decode cX11_access 202 = .ok (.iload_n 1, 1) := by decide +kernel
theorem dX11_access_203 : decode cX11_access 203 = .ok (.bipush 53, 2) := by decide +kernel
theorem dX11_access_205 : decode cX11_access 205 = .ok (.if_icmp .ne 14, 3) := by decide +kernel
theorem dX11_access_208 : decode cX11_access 208 = .ok (.iload 6, 2) := by decide +kernel
theorem dX11_access_210 : decode cX11_access 210 = .ok (.bipush 16, 2) := by decide +kernel
theorem dX11_access_212 : decode cX11_access 212 = .ok (.ishl, 1) := by decide +kernel
theorem dX11_access_213 : decode cX11_access 213 = .ok (.bipush 16, 2) := by decide +kernel
theorem dX11_access_215 : decode cX11_access 215 = .ok (.ishr, 1) := by decide +kernel
theorem dX11_access_216 : decode cX11_access 216 = .ok (.goto 5, 3) := by decide +kernel
theorem dX11_access_219 : decode cX11_access 219 = .ok (.iload 6, 2) := by decide +kernel
theorem dX11_access_221 : decode cX11_access 221 = .ok (.invokevirtual 261, 3) := by decide +kernel
theorem dX11_access_224 : decode cX11_access 224 = .ok (.return_, 1) := by decide +kernel
set_option maxRecDepth 1000000 in
theorem ggX11_status_X11_linesNow : GoodIn wsX11_status wsX11_linesNow := goodIn_r _ [6, 7, 8, 9, 10, 11, 12, 13, 14, 15, 16, 17, 18, 19, 20, 21, 22, 23, 24, 25, 26, 27, 28, 29, 30, 31, 32, 33, 34, 35, 36, 37, 38, 39, 40, 41, 42, 43, 44, 45, 46, 47, 48, 49, 50, 51, 52, 53, 54, 55, 56, 57, 58, 59, 60, 61, 62, 63, 64, 65, 66, 67, 68, 69, 70] rfl (by decide +kernel)
set_option maxRecDepth 1000000 in
theorem gX11_status_X11_linesNow : GoodIn wsX11_status (wsV RX11 300 RX11 yX11_linesNow wsX11_linesNow) := goodIn_app (goodIn_of _ (by decide +kernel)) ggX11_status_X11_linesNow
theorem dX11_status_0 : decode cX11_status 0 = .ok (.aload_n 0, 1) := by decide +kernel
theorem dX11_status_1 : decode cX11_status 1 = .ok (.invokevirtual 300, 3) := by decide +kernel
theorem dX11_status_4 : decode cX11_status 4 = .ok (.aload_n 0, 1) := by decide +kernel
theorem dX11_status_5 : decode cX11_status 5 = .ok (.getfield 18, 3) := by decide +kernel
theorem dX11_status_8 : decode cX11_status 8 = .ok (.bipush 9, 2) := by decide +kernel
theorem dX11_status_10 : decode cX11_status 10 = .ok (.iaload, 1) := by decide +kernel
theorem dX11_status_11 : decode cX11_status 11 = .ok (.iconst (-1), 1) := by decide +kernel
theorem dX11_status_12 : decode cX11_status 12 = .ok (.ixor, 1) := by decide +kernel
theorem dX11_status_13 : decode cX11_status 13 = .ok (.iand, 1) := by decide +kernel
theorem dX11_status_14 : decode cX11_status 14 = .ok (.aload_n 0, 1) := by decide +kernel
theorem dX11_status_15 : decode cX11_status 15 = .ok (.getfield 18, 3) := by decide +kernel
theorem dX11_status_18 : decode cX11_status 18 = .ok (.bipush 7, 2) := by decide +kernel
theorem dX11_status_20 : decode cX11_status 20 = .ok (.iaload, 1) := by decide +kernel
theorem dX11_status_21 : decode cX11_status 21 = .ok (.aload_n 0, 1) := by decide +kernel
theorem dX11_status_22 : decode cX11_status 22 = .ok (.getfield 18, 3) := by decide +kernel
theorem dX11_status_25 : decode cX11_status 25 = .ok (.bipush 9, 2) := by decide +kernel
theorem dX11_status_27 : decode cX11_status 27 = .ok (.iaload, 1) := by decide +kernel
theorem dX11_status_28 : decode cX11_status 28 = .ok (.iand, 1) := by decide +kernel
theorem dX11_status_29 : decode cX11_status 29 = .ok (.ior, 1) := by decide +kernel
theorem dX11_status_30 : decode cX11_status 30 = .ok (.ireturn, 1) := by decide +kernel
theorem dX11_isMap_0 : decode cX11_isMap 0 = .ok (.iload_n 1, 1) := by decide +kernel
theorem dX11_isMap_1 : decode cX11_isMap 1 = .ok (.sipush 1024, 3) := by decide +kernel
theorem dX11_isMap_4 : decode cX11_isMap 4 = .ok (.if_icmp .lt 26, 3) := by decide +kernel
theorem dX11_isMap_7 : decode cX11_isMap 7 = .ok (.iload_n 1, 1) := by decide +kernel
theorem dX11_isMap_8 : decode cX11_isMap 8 = .ok (.sipush 1536, 3) := by decide +kernel
theorem dX11_isMap_11 : decode cX11_isMap 11 = .ok (.if_icmp .ge 19, 3) := by decide +kernel
theorem dX11_isMap_14 : decode cX11_isMap 14 = .ok (.iload_n 1, 1) := by decide +kernel
theorem dX11_isMap_15 : decode cX11_isMap 15 = .ok (.sipush 128, 3) := by decide +kernel
theorem dX11_isMap_18 : decode cX11_isMap 18 = .ok (.irem, 1) := by decide +kernel
theorem dX11_isMap_19 : decode cX11_isMap 19 = .ok (.aload_n 0, 1) := by decide +kernel
theorem dX11_isMap_20 : decode cX11_isMap 20 = .ok (.getfield 42, 3) := by decide +kernel
theorem dX11_isMap_23 : decode cX11_isMap 23 = .ok (.if_icmp .ge 7, 3) := by decide +kernel
theorem dX11_isMap_26 : decode cX11_isMap 26 = .ok (.iconst 1, 1) := by decide +kernel
theorem dX11_isMap_27 : decode cX11_isMap 27 = .ok (.goto 4, 3) := by decide +kernel
theorem dX11_isMap_30 : decode cX11_isMap 30 = .ok (.iconst 0, 1) := by decide +kernel
theorem dX11_isMap_31 : decode cX11_isMap 31 = .ok (.ireturn, 1) := by decide +kernel
set_option maxRecDepth 1000000 in
theorem ggX11_special_X11_status : GoodIn wsX11_special wsX11_status := goodIn_r _ [9, 4, 10, 11, 12, 8, 13, 14, 15, 1, 16, 22, 23, 24, 25, 26, 27, 28, 29, 30, 31, 32, 33, 34, 35, 36, 37, 38, 39, 40, 41, 42, 43, 44, 45, 46, 47, 48, 49, 50, 51, 52, 53, 54, 55, 56, 57, 58, 59, 60, 61, 62, 63, 64, 65, 66, 67, 68, 69, 70, 71, 72, 73, 74, 75, 76, 77, 78, 79, 80, 81] rfl (by decide +kernel)
set_option maxRecDepth 1000000 in
theorem gX11_special_X11_status : GoodIn wsX11_special (wsV RX11 236 RX11 yX11_status wsX11_status) := goodIn_app (goodIn_of _ (by decide +kernel)) ggX11_special_X11_status
set_option maxRecDepth 1000000 in
theorem ggX11_special_X11_isMap : GoodIn wsX11_special wsX11_isMap := goodIn_r _ [20, 21, 22, 23, 24, 25, 26, 27, 28, 29, 30, 31, 32, 33, 34, 35, 36, 37, 38, 39, 40, 41, 42, 43, 44, 45, 46, 47, 48, 49, 50, 51, 52, 53, 54, 55, 56, 57, 58, 59, 60, 61, 62, 63, 64, 65, 66, 67, 68, 69, 70, 71, 72, 73, 74, 75, 76, 77, 78, 79, 80, 81] rfl (by decide +kernel)
set_option maxRecDepth 1000000 in
theorem gX11_special_X11_isMap : GoodIn wsX11_special (wsV RX11 303 RX11 yX11_isMap wsX11_isMap) := goodIn_app (goodIn_of _ (by decide +kernel)) ggX11_special_X11_isMap
theorem dX11_special_0 : decode cX11_special 0 = .ok (.iload_n 1, 1) := by decide +kernel
theorem dX11_special_1 : decode cX11_special 1 = .ok (.bipush 7, 2) := by decide +kernel
theorem dX11_special_3 : decode cX11_special 3 = .ok (.if_icmp .ne 8, 3) := by decide +kernel
theorem dX11_special_6 : decode cX11_special 6 = .ok (.aload_n 0, 1) := by decide +kernel
theorem dX11_special_7 : decode cX11_special 7 = .ok (.invokevirtual 236, 3) := by decide +kernel
theorem dX11_special_10 : decode cX11_special 10 = .ok (.ireturn, 1) := by decide +kernel
theorem dX11_special_11 : decode cX11_special 11 = .ok (.iload_n 1, 1) := by decide +kernel
theorem dX11_special_12 : decode cX11_special 12 = .ok (.bipush 8, 2) := by decide +kernel
theorem dX11_special_14 : decode cX11_special 14 = .ok (.if_icmp .ne 8, 3) := by decide +kernel
theorem dX11_special_17 : decode cX11_special 17 = .ok (.aload_n 0, 1) := by decide +kernel
theorem dX11_special_18 : decode cX11_special 18 = .ok (.getfield 69, 3) := by decide +kernel
theorem dX11_special_21 : decode cX11_special 21 = .ok (.ireturn, 1) := by decide +kernel
theorem dX11_special_22 : decode cX11_special 22 = .ok (.iload_n 1, 1) := by decide +kernel
theorem dX11_special_23 : decode cX11_special 23 = .ok (.bipush 10, 2) := by decide +kernel
theorem dX11_special_25 : decode cX11_special 25 = .ok (.if_icmp .eq 9, 3) := by decide +kernel
theorem dX11_special_28 : decode cX11_special 28 = .ok (.iload_n 1, 1) := by decide +kernel
theorem dX11_special_29 : decode cX11_special 29 = .ok (.bipush 11, 2) := by decide +kernel
theorem dX11_special_31 : decode cX11_special 31 = .ok (.if_icmp .ne 25, 3) := by decide +kernel
theorem dX11_special_34 : decode cX11_special 34 = .ok (.iload_n 1, 1) := by decide +kernel
theorem dX11_special_35 : decode cX11_special 35 = .ok (.bipush 10, 2) := by decide +kernel
theorem dX11_special_37 : decode cX11_special 37 = .ok (.if_icmp .ne 13, 3) := by decide +kernel
theorem dX11_special_40 : decode cX11_special 40 = .ok (.aload_n 0, 1) := by decide +kernel
theorem dX11_special_41 : decode cX11_special 41 = .ok (.getfield 52, 3) := by decide +kernel
theorem dX11_special_44 : decode cX11_special 44 = .ok (.bipush 32, 2) := by decide +kernel
theorem dX11_special_46 : decode cX11_special 46 = .ok (.lshr, 1) := by decide +kernel
theorem dX11_special_47 : decode cX11_special 47 = .ok (.goto 7, 3) := by decide +kernel
theorem dX11_special_50 : decode cX11_special 50 = .ok (.aload_n 0, 1) := by decide +kernel
theorem dX11_special_51 : decode cX11_special 51 = .ok (.getfield 52, 3) := by decide +kernel
theorem dX11_special_54 : decode cX11_special 54 = .ok (.l2i, 1) := by decide +kernel
theorem dX11_special_55 : decode cX11_special 55 = .ok (.ireturn, 1) := by decide +kernel
theorem dX11_special_56 : decode cX11_special 56 = .ok (.aload_n 0, 1) := by decide +kernel
theorem dX11_special_57 : decode cX11_special 57 = .ok (.iload_n 1, 1) := by decide +kernel
theorem dX11_special_58 : decode cX11_special 58 = .ok (.invokevirtual 303, 3) := by decide +kernel
theorem dX11_special_61 : decode cX11_special 61 = .ok (.ifCond .eq 14, 3) := by decide +kernel
theorem dX11_special_64 : decode cX11_special 64 = .ok (.aload_n 0, 1) := by decide +kernel
theorem dX11_special_65 : decode cX11_special 65 = .ok (.getfield 21, 3) := by decide +kernel
theorem dX11_special_68 : decode cX11_special 68 = .ok (.iload_n 1, 1) := by decide +kernel
theorem dX11_special_69 : decode cX11_special 69 = .ok (.sipush 1024, 3) := by decide +kernel
theorem dX11_special_72 : decode cX11_special 72 = .ok (.isub, 1) := by decide +kernel
theorem dX11_special_73 : decode cX11_special 73 = .ok (.iaload, 1) := by decide +kernel
theorem dX11_special_74 : decode cX11_special 74 = .ok (.ireturn, 1) := by decide +kernel
theorem dX11_special_75 : decode cX11_special 75 = .ok (.iload_n 1, 1) := by decide +kernel
theorem dX11_special_76 : decode cX11_special 76 = .ok (.ifCond .lt 28, 3) := by decide +kernel
theorem dX11_special_79 : decode cX11_special 79 = .ok (.iload_n 1, 1) := by decide +kernel
theorem dX11_special_80 : decode cX11_special 80 = .ok (.bipush 10, 2) := by decide +kernel
theorem dX11_special_82 : decode cX11_special 82 = .ok (.if_icmp .ge 22, 3) := by decide +kernel
theorem dX11_special_85 : decode cX11_special 85 = .ok (.aload_n 0, 1) := by decide +kernel
theorem dX11_special_86 : decode cX11_special 86 = .ok (.getfield 18, 3) := by decide +kernel
theorem dX11_special_89 : decode cX11_special 89 = .ok (.iload_n 1, 1) := by decide +kernel
theorem dX11_special_90 : decode cX11_special 90 = .ok (.bipush 10, 2) := by decide +kernel
theorem dX11_special_92 : decode cX11_special 92 = .ok (.if_icmp .ge 7, 3) := by decide +kernel
theorem dX11_special_95 : decode cX11_special 95 = .ok (.iload_n 1, 1) := by decide +kernel
theorem dX11_special_96 : decode cX11_special 96 = .ok (.goto 4, 3) := by decide +kernel
theorem dX11_special_99 : decode cX11_special 99 = .ok (.iconst 0, 1) := by decide +kernel
theorem dX11_special_100 : decode cX11_special 100 = .ok (.iaload, 1) := by decide +kernel
theorem dX11_special_101 : decode cX11_special 101 = .ok (.goto 4, 3) := by decide +kernel
theorem dX11_special_104 : decode cX11_special 104 = .ok (.iconst 0, 1) := by decide +kernel
theorem dX11_special_105 : decode cX11_special 105 = .ok (.ireturn, 1) := by decide +kernel
theorem dX11_issue_0 : decode cX11_issue 0 = .ok (.aload_n 0, 1) := by decide +kernel
theorem dX11_issue_1 : decode cX11_issue 1 = .ok (.getfield 33, 3) := by decide +kernel
theorem dX11_issue_4 : decode cX11_issue 4 = .ok (.aload_n 0, 1) := by decide +kernel
theorem dX11_issue_5 : decode cX11_issue 5 = .ok (.getfield 78, 3) := by decide +kernel
theorem dX11_issue_8 : decode cX11_issue 8 = .ok (.iload_n 1, 1) := by decide +kernel
theorem dX11_issue_9 : decode cX11_issue 9 = .ok (.isub, 1) := by decide +kernel
theorem dX11_issue_10 : decode cX11_issue 10 = .ok (.bipush 7, 2) := by decide +kernel
theorem dX11_issue_12 : decode cX11_issue 12 = .ok (.iand, 1) := by decide +kernel
theorem dX11_issue_13 : decode cX11_issue 13 = .ok (.iaload, 1) := by decide +kernel
theorem dX11_issue_14 : decode cX11_issue 14 = .ok (.ireturn, 1) := by decide +kernel
theorem dX11_dueOf_0 : decode cX11_dueOf 0 = .ok (.aload_n 0, 1) := by decide +kernel
theorem dX11_dueOf_1 : decode cX11_dueOf 1 = .ok (.getfield 36, 3) := by decide +kernel
theorem dX11_dueOf_4 : decode cX11_dueOf 4 = .ok (.aload_n 0, 1) := by decide +kernel
theorem dX11_dueOf_5 : decode cX11_dueOf 5 = .ok (.getfield 78, 3) := by decide +kernel
theorem dX11_dueOf_8 : decode cX11_dueOf 8 = .ok (.iload_n 1, 1) := by decide +kernel
theorem dX11_dueOf_9 : decode cX11_dueOf 9 = .ok (.isub, 1) := by decide +kernel
theorem dX11_dueOf_10 : decode cX11_dueOf 10 = .ok (.bipush 7, 2) := by decide +kernel
theorem dX11_dueOf_12 : decode cX11_dueOf 12 = .ok (.iand, 1) := by decide +kernel
theorem dX11_dueOf_13 : decode cX11_dueOf 13 = .ok (.iaload, 1) := by decide +kernel
theorem dX11_dueOf_14 : decode cX11_dueOf 14 = .ok (.ireturn, 1) := by decide +kernel
theorem dX11_later_0 : decode cX11_later 0 = .ok (.iload_n 0, 1) := by decide +kernel
theorem dX11_later_1 : decode cX11_later 1 = .ok (.iload_n 1, 1) := by decide +kernel
theorem dX11_later_2 : decode cX11_later 2 = .ok (.if_icmp .le 7, 3) := by decide +kernel
theorem dX11_later_5 : decode cX11_later 5 = .ok (.iload_n 0, 1) := by decide +kernel
theorem dX11_later_6 : decode cX11_later 6 = .ok (.goto 4, 3) := by decide +kernel
theorem dX11_later_9 : decode cX11_later 9 = .ok (.iload_n 1, 1) := by decide +kernel
theorem dX11_later_10 : decode cX11_later 10 = .ok (.ireturn, 1) := by decide +kernel
set_option maxRecDepth 1000000 in
theorem ggX11_reckon_X11_issue : GoodIn wsX11_reckon wsX11_issue := goodIn_r _ [25, 26, 2, 89, 90, 91, 92, 93, 94, 95, 96, 97, 98, 99, 100, 101, 102, 103, 104, 105, 106, 107, 108, 109, 110, 111, 112, 113, 114, 115, 116, 117, 118, 119, 120, 121, 122, 123, 124, 125, 126, 127, 128, 129, 130, 131, 132, 133, 134, 135, 136, 137, 138, 139, 140, 141, 142, 143, 144, 145, 146, 147, 148] rfl (by decide +kernel)
set_option maxRecDepth 1000000 in
theorem gX11_reckon_X11_issue : GoodIn wsX11_reckon (wsV RX11 321 RX11 yX11_issue wsX11_issue) := goodIn_app (goodIn_of _ (by decide +kernel)) ggX11_reckon_X11_issue
set_option maxRecDepth 1000000 in
theorem ggX11_reckon_X11_later : GoodIn wsX11_reckon wsX11_later := goodIn_r _ [29] (by decide +kernel) (by decide +kernel)
set_option maxRecDepth 1000000 in
theorem gX11_reckon_X11_later : GoodIn wsX11_reckon (va_wsS RX11 324 yX11_later wsX11_later) := goodIn_app (goodIn_of _ (by decide +kernel)) ggX11_reckon_X11_later
set_option maxRecDepth 1000000 in
theorem ggX11_reckon_X11_pairs : GoodIn wsX11_reckon wsX11_pairs := goodIn_r _ [33, 34, 1, 35, 12, 36, 37, 24, 38, 39, 40, 41, 42, 43, 44, 45, 46, 47, 48, 49, 50, 51, 52, 53, 54, 55, 56, 57, 58, 59, 60, 61, 62, 63, 64, 65, 66, 67, 68, 69, 70, 71, 72, 73, 74, 75, 76, 77, 78, 79, 80, 81, 82, 83, 89, 90, 91, 92, 93, 94, 95, 96, 97, 98, 99, 100, 101, 102, 103, 104, 105, 106, 107, 108, 109, 110, 111, 112, 113, 114, 115, 116, 117, 118, 119, 120, 121, 122, 123, 124, 125, 126, 127, 128, 129, 130, 131, 132, 133, 134, 135, 136, 137, 138, 139, 140, 141, 142, 143, 144, 145, 146, 147, 148] rfl (by decide +kernel)
set_option maxRecDepth 1000000 in
theorem gX11_reckon_X11_pairs : GoodIn wsX11_reckon (wsV RX11 330 RX11 yX11_pairs wsX11_pairs) := goodIn_app (goodIn_of _ (by decide +kernel)) ggX11_reckon_X11_pairs
set_option maxRecDepth 1000000 in
theorem ggX11_reckon_X11_reads : GoodIn wsX11_reckon wsX11_reads := goodIn_r _ [71, 42, 43, 24, 44, 39, 40, 41, 48, 49, 50, 66, 67, 68] (by decide +kernel) (by decide +kernel)
set_option maxRecDepth 1000000 in
theorem gX11_reckon_X11_reads : GoodIn wsX11_reckon (va_wsS RX11 181 yX11_reads wsX11_reads) := goodIn_app (goodIn_of _ (by decide +kernel)) ggX11_reckon_X11_reads
set_option maxRecDepth 1000000 in
theorem ggX11_reckon_X11_isNone : GoodIn wsX11_reckon wsX11_isNone := goodIn_r _ [41, 42, 43, 24, 44] (by decide +kernel) (by decide +kernel)
set_option maxRecDepth 1000000 in
theorem gX11_reckon_X11_isNone : GoodIn wsX11_reckon (va_wsS RX11 142 yX11_isNone wsX11_isNone) := goodIn_app (goodIn_of _ (by decide +kernel)) ggX11_reckon_X11_isNone
set_option maxRecDepth 1000000 in
theorem ggX11_reckon_X11_readsFlag : GoodIn wsX11_reckon wsX11_readsFlag := goodIn_r _ [77, 42, 43, 24, 44] (by decide +kernel) (by decide +kernel)
set_option maxRecDepth 1000000 in
theorem gX11_reckon_X11_readsFlag : GoodIn wsX11_reckon (va_wsS RX11 188 yX11_readsFlag wsX11_readsFlag) := goodIn_app (goodIn_of _ (by decide +kernel)) ggX11_reckon_X11_readsFlag
set_option maxRecDepth 1000000 in
theorem ggX11_reckon_X11_readsCarry : GoodIn wsX11_reckon wsX11_readsCarry := goodIn_r _ [83, 42, 43, 24, 44] (by decide +kernel) (by decide +kernel)
set_option maxRecDepth 1000000 in
theorem gX11_reckon_X11_readsCarry : GoodIn wsX11_reckon (va_wsS RX11 194 yX11_readsCarry wsX11_readsCarry) := goodIn_app (goodIn_of _ (by decide +kernel)) ggX11_reckon_X11_readsCarry
set_option maxRecDepth 1000000 in
theorem ggX11_reckon_X11_op : GoodIn wsX11_reckon wsX11_op := goodIn_r _ [44] (by decide +kernel) (by decide +kernel)
set_option maxRecDepth 1000000 in
theorem gX11_reckon_X11_op : GoodIn wsX11_reckon (va_wsS RX11 138 yX11_op wsX11_op) := goodIn_app (goodIn_of _ (by decide +kernel)) ggX11_reckon_X11_op
set_option maxRecDepth 1000000 in
theorem ggX11_reckon_X11_isDivide : GoodIn wsX11_reckon wsX11_isDivide := goodIn_r _ [62, 42, 43, 24, 44] (by decide +kernel) (by decide +kernel)
set_option maxRecDepth 1000000 in
theorem gX11_reckon_X11_isDivide : GoodIn wsX11_reckon (va_wsS RX11 151 yX11_isDivide wsX11_isDivide) := goodIn_app (goodIn_of _ (by decide +kernel)) ggX11_reckon_X11_isDivide
set_option maxRecDepth 1000000 in
theorem ggX11_reckon_X11_isSingle : GoodIn wsX11_reckon wsX11_isSingle := goodIn_r _ [38, 39, 40, 24, 41, 42, 43, 44] (by decide +kernel) (by decide +kernel)
set_option maxRecDepth 1000000 in
theorem gX11_reckon_X11_isSingle : GoodIn wsX11_reckon (va_wsS RX11 166 yX11_isSingle wsX11_isSingle) := goodIn_app (goodIn_of _ (by decide +kernel)) ggX11_reckon_X11_isSingle
set_option maxRecDepth 1000000 in
theorem ggX11_reckon_X11_dueOf : GoodIn wsX11_reckon wsX11_dueOf := goodIn_r _ [87, 88, 2, 89, 90, 91, 92, 93, 94, 95, 96, 97, 98, 99, 100, 101, 102, 103, 104, 105, 106, 107, 108, 109, 110, 111, 112, 113, 114, 115, 116, 117, 118, 119, 120, 121, 122, 123, 124, 125, 126, 127, 128, 129, 130, 131, 132, 133, 134, 135, 136, 137, 138, 139, 140, 141, 142, 143, 144, 145, 146, 147, 148] rfl (by decide +kernel)
set_option maxRecDepth 1000000 in
theorem gX11_reckon_X11_dueOf : GoodIn wsX11_reckon (wsV RX11 334 RX11 yX11_dueOf wsX11_dueOf) := goodIn_app (goodIn_of _ (by decide +kernel)) ggX11_reckon_X11_dueOf
set_option maxRecDepth 1000000 in
theorem ggX11_reckon_X11_isMultiply : GoodIn wsX11_reckon wsX11_isMultiply := goodIn_r _ [56, 42, 43, 24, 44, 57, 58, 59] (by decide +kernel) (by decide +kernel)
set_option maxRecDepth 1000000 in
theorem gX11_reckon_X11_isMultiply : GoodIn wsX11_reckon (va_wsS RX11 148 yX11_isMultiply wsX11_isMultiply) := goodIn_app (goodIn_of _ (by decide +kernel)) ggX11_reckon_X11_isMultiply
theorem dX11_reckon_0 : decode cX11_reckon 0 = .ok (.aload_n 0, 1) := by decide +kernel
theorem dX11_reckon_1 : decode cX11_reckon 1 = .ok (.getfield 119, 3) := by decide +kernel
theorem dX11_reckon_4 : decode cX11_reckon 4 = .ok (.ifCond .ne 7, 3) := by decide +kernel
theorem dX11_reckon_7 : decode cX11_reckon 7 = .ok (.iconst 1, 1) := by decide +kernel
theorem dX11_reckon_8 : decode cX11_reckon 8 = .ok (.goto 4, 3) := by decide +kernel
theorem dX11_reckon_11 : decode cX11_reckon 11 = .ok (.iconst 0, 1) := by decide +kernel
theorem dX11_reckon_12 : decode cX11_reckon 12 = .ok (.istore_n 1, 1) := by decide +kernel
theorem dX11_reckon_13 : decode cX11_reckon 13 = .ok (.aload_n 0, 1) := by decide +kernel
theorem dX11_reckon_14 : decode cX11_reckon 14 = .ok (.getfield 78, 3) := by decide +kernel
theorem dX11_reckon_17 : decode cX11_reckon 17 = .ok (.ifCond .le 41, 3) := by decide +kernel
theorem dX11_reckon_20 : decode cX11_reckon 20 = .ok (.aload_n 0, 1) := by decide +kernel
theorem dX11_reckon_21 : decode cX11_reckon 21 = .ok (.getfield 93, 3) := by decide +kernel
theorem dX11_reckon_24 : decode cX11_reckon 24 = .ok (.ifCond .eq 34, 3) := by decide +kernel
theorem dX11_reckon_27 : decode cX11_reckon 27 = .ok (.aload_n 0, 1) := by decide +kernel
theorem dX11_reckon_28 : decode cX11_reckon 28 = .ok (.getfield 56, 3) := by decide +kernel
theorem dX11_reckon_31 : decode cX11_reckon 31 = .ok (.aload_n 0, 1) := by decide +kernel
theorem dX11_reckon_32 : decode cX11_reckon 32 = .ok (.getfield 306, 3) := by decide +kernel
theorem dX11_reckon_35 : decode cX11_reckon 35 = .ok (.iconst 4, 1) := by decide +kernel
theorem dX11_reckon_36 : decode cX11_reckon 36 = .ok (.iadd, 1) := by decide +kernel
theorem dX11_reckon_37 : decode cX11_reckon 37 = .ok (.if_icmp .ne 21, 3) := by decide +kernel
theorem dX11_reckon_40 : decode cX11_reckon 40 = .ok (.aload_n 0, 1) := by decide +kernel
theorem dX11_reckon_41 : decode cX11_reckon 41 = .ok (.getfield 90, 3) := by decide +kernel
theorem dX11_reckon_44 : decode cX11_reckon 44 = .ok (.ifCond .ne 14, 3) := by decide +kernel
theorem dX11_reckon_47 : decode cX11_reckon 47 = .ok (.aload_n 0, 1) := by decide +kernel
theorem dX11_reckon_48 : decode cX11_reckon 48 = .ok (.getfield 309, 3) := by decide +kernel
theorem dX11_reckon_51 : decode cX11_reckon 51 = .ok (.ifCond .ne 7, 3) := by decide +kernel
theorem dX11_reckon_54 : decode cX11_reckon 54 = .ok (.iconst 1, 1) := by decide +kernel
theorem dX11_reckon_55 : decode cX11_reckon 55 = .ok (.goto 4, 3) := by decide +kernel
theorem dX11_reckon_58 : decode cX11_reckon 58 = .ok (.iconst 0, 1) := by decide +kernel
theorem dX11_reckon_59 : decode cX11_reckon 59 = .ok (.istore_n 2, 1) := by decide +kernel
theorem dX11_reckon_60 : decode cX11_reckon 60 = .ok (.aload_n 0, 1) := by decide +kernel
theorem dX11_reckon_61 : decode cX11_reckon 61 = .ok (.iload_n 2, 1) := by decide +kernel
theorem dX11_reckon_62 : decode cX11_reckon 62 = .ok (.ifCond .ne 7, 3) := by decide +kernel
theorem dX11_reckon_65 : decode cX11_reckon 65 = .ok (.iconst 1, 1) := by decide +kernel
theorem dX11_reckon_66 : decode cX11_reckon 66 = .ok (.goto 4, 3) := by decide +kernel
theorem dX11_reckon_69 : decode cX11_reckon 69 = .ok (.iconst 0, 1) := by decide +kernel
theorem dX11_reckon_70 : decode cX11_reckon 70 = .ok (.putfield 312, 3) := by decide +kernel
theorem dX11_reckon_73 : decode cX11_reckon 73 = .ok (.iload_n 2, 1) := by decide +kernel
theorem dX11_reckon_74 : decode cX11_reckon 74 = .ok (.ifCond .eq 14, 3) := by decide +kernel
theorem dX11_reckon_77 : decode cX11_reckon 77 = .ok (.aload_n 0, 1) := by decide +kernel
theorem dX11_reckon_78 : decode cX11_reckon 78 = .ok (.aload_n 0, 1) := by decide +kernel
theorem dX11_reckon_79 : decode cX11_reckon 79 = .ok (.getfield 315, 3) := by decide +kernel
theorem dX11_reckon_82 : decode cX11_reckon 82 = .ok (.putfield 318, 3) := by decide +kernel
theorem dX11_reckon_85 : decode cX11_reckon 85 = .ok (.goto 88, 3) := by decide +kernel
theorem dX11_reckon_88 : decode cX11_reckon 88 = .ok (.aload_n 0, 1) := by decide +kernel
theorem dX11_reckon_89 : decode cX11_reckon 89 = .ok (.aload_n 0, 1) := by decide +kernel
theorem dX11_reckon_90 : decode cX11_reckon 90 = .ok (.getfield 78, 3) := by decide +kernel
theorem dX11_reckon_93 : decode cX11_reckon 93 = .ok (.ifCond .le 12, 3) := by decide +kernel
theorem dX11_reckon_96 : decode cX11_reckon 96 = .ok (.aload_n 0, 1) := by decide +kernel
theorem dX11_reckon_97 : decode cX11_reckon 97 = .ok (.getfield 315, 3) := by decide +kernel
theorem dX11_reckon_100 : decode cX11_reckon 100 = .ok (.iconst 1, 1) := by decide +kernel
theorem dX11_reckon_101 : decode cX11_reckon 101 = .ok (.iadd, 1) := by decide +kernel
theorem dX11_reckon_102 : decode cX11_reckon 102 = .ok (.goto 4, 3) := by decide +kernel
theorem dX11_reckon_105 : decode cX11_reckon 105 = .ok (.iconst 1, 1) := by decide +kernel
theorem dX11_reckon_106 : decode cX11_reckon 106 = .ok (.putfield 318, 3) := by decide +kernel
theorem dX11_reckon_109 : decode cX11_reckon 109 = .ok (.aload_n 0, 1) := by decide +kernel
theorem dX11_reckon_110 : decode cX11_reckon 110 = .ok (.aload_n 0, 1) := by decide +kernel
theorem dX11_reckon_111 : decode cX11_reckon 111 = .ok (.getfield 78, 3) := by decide +kernel
theorem dX11_reckon_114 : decode cX11_reckon 114 = .ok (.iconst 4, 1) := by decide +kernel
theorem dX11_reckon_115 : decode cX11_reckon 115 = .ok (.if_icmp .le 20, 3) := by decide +kernel
theorem dX11_reckon_118 : decode cX11_reckon 118 = .ok (.aload_n 0, 1) := by decide +kernel
theorem dX11_reckon_119 : decode cX11_reckon 119 = .ok (.getfield 318, 3) := by decide +kernel
theorem dX11_reckon_122 : decode cX11_reckon 122 = .ok (.aload_n 0, 1) := by decide +kernel
theorem dX11_reckon_123 : decode cX11_reckon 123 = .ok (.iconst 5, 1) := by decide +kernel
theorem dX11_reckon_124 : decode cX11_reckon 124 = .ok (.invokevirtual 321, 3) := by decide +kernel
theorem dX11_reckon_127 : decode cX11_reckon 127 = .ok (.iconst 1, 1) := by decide +kernel
theorem dX11_reckon_128 : decode cX11_reckon 128 = .ok (.iadd, 1) := by decide +kernel
theorem dX11_reckon_129 : decode cX11_reckon 129 = .ok (.invokestatic 324, 3) := by decide +kernel
theorem dX11_reckon_132 : decode cX11_reckon 132 = .ok (.goto 7, 3) := by decide +kernel
theorem dX11_reckon_135 : decode cX11_reckon 135 = .ok (.aload_n 0, 1) := by decide +kernel
theorem dX11_reckon_136 : decode cX11_reckon 136 = .ok (.getfield 318, 3) := by decide +kernel
theorem dX11_reckon_139 : decode cX11_reckon 139 = .ok (.putfield 318, 3) := by decide +kernel
theorem dX11_reckon_142 : decode cX11_reckon 142 = .ok (.aload_n 0, 1) := by decide +kernel
theorem dX11_reckon_143 : decode cX11_reckon 143 = .ok (.aload_n 0, 1) := by decide +kernel
theorem dX11_reckon_144 : decode cX11_reckon 144 = .ok (.getfield 90, 3) := by decide +kernel
theorem dX11_reckon_147 : decode cX11_reckon 147 = .ok (.ifCond .eq 19, 3) := by decide +kernel
theorem dX11_reckon_150 : decode cX11_reckon 150 = .ok (.aload_n 0, 1) := by decide +kernel
theorem dX11_reckon_151 : decode cX11_reckon 151 = .ok (.getfield 318, 3) := by decide +kernel
theorem dX11_reckon_154 : decode cX11_reckon 154 = .ok (.aload_n 0, 1) := by decide +kernel
theorem dX11_reckon_155 : decode cX11_reckon 155 = .ok (.getfield 327, 3) := by decide +kernel
theorem dX11_reckon_158 : decode cX11_reckon 158 = .ok (.iconst 1, 1) := by decide +kernel
theorem dX11_reckon_159 : decode cX11_reckon 159 = .ok (.iadd, 1) := by decide +kernel
theorem dX11_reckon_160 : decode cX11_reckon 160 = .ok (.invokestatic 324, 3) := by decide +kernel
theorem dX11_reckon_163 : decode cX11_reckon 163 = .ok (.goto 7, 3) := by decide +kernel
theorem dX11_reckon_166 : decode cX11_reckon 166 = .ok (.aload_n 0, 1) := by decide +kernel
theorem dX11_reckon_167 : decode cX11_reckon 167 = .ok (.getfield 318, 3) := by decide +kernel
theorem dX11_reckon_170 : decode cX11_reckon 170 = .ok (.putfield 318, 3) := by decide +kernel
theorem dX11_reckon_173 : decode cX11_reckon 173 = .ok (.aload_n 0, 1) := by decide +kernel
theorem dX11_reckon_174 : decode cX11_reckon 174 = .ok (.getfield 318, 3) := by decide +kernel
theorem dX11_reckon_177 : decode cX11_reckon 177 = .ok (.iconst 2, 1) := by decide +kernel
theorem dX11_reckon_178 : decode cX11_reckon 178 = .ok (.iadd, 1) := by decide +kernel
theorem dX11_reckon_179 : decode cX11_reckon 179 = .ok (.istore_n 3, 1) := by decide +kernel
theorem dX11_reckon_180 : decode cX11_reckon 180 = .ok (.aload_n 0, 1) := by decide +kernel
theorem dX11_reckon_181 : decode cX11_reckon 181 = .ok (.getfield 78, 3) := by decide +kernel
theorem dX11_reckon_184 : decode cX11_reckon 184 = .ok (.ifCond .le 59, 3) := by decide +kernel
theorem dX11_reckon_187 : decode cX11_reckon 187 = .ok (.aload_n 0, 1) := by decide +kernel
theorem dX11_reckon_188 : decode cX11_reckon 188 = .ok (.invokevirtual 330, 3) := by decide +kernel
theorem dX11_reckon_191 : decode cX11_reckon 191 = .ok (.ifCond .eq 28, 3) := by decide +kernel
theorem dX11_reckon_194 : decode cX11_reckon 194 = .ok (.aload_n 0, 1) := by decide +kernel
theorem dX11_reckon_195 : decode cX11_reckon 195 = .ok (.getfield 78, 3) := by decide +kernel
theorem dX11_reckon_198 : decode cX11_reckon 198 = .ok (.iconst 1, 1) := by decide +kernel
theorem dX11_reckon_199 : decode cX11_reckon 199 = .ok (.if_icmp .eq 16, 3) := by decide +kernel
theorem dX11_reckon_202 : decode cX11_reckon 202 = .ok (.aload_n 0, 1) := by decide +kernel
theorem dX11_reckon_203 : decode cX11_reckon 203 = .ok (.iconst 2, 1) := by decide +kernel
theorem dX11_reckon_204 : decode cX11_reckon 204 = .ok (.invokevirtual 321, 3) := by decide +kernel
theorem dX11_reckon_207 : decode cX11_reckon 207 = .ok (.aload_n 0, 1) := by decide +kernel
theorem dX11_reckon_208 : decode cX11_reckon 208 = .ok (.iconst 1, 1) := by decide +kernel
theorem dX11_reckon_209 : decode cX11_reckon 209 = .ok (.invokevirtual 321, 3) := by decide +kernel
theorem dX11_reckon_212 : decode cX11_reckon 212 = .ok (.if_icmp .ge 7, 3) := by decide +kernel
theorem dX11_reckon_215 : decode cX11_reckon 215 = .ok (.iconst 1, 1) := by decide +kernel
theorem dX11_reckon_216 : decode cX11_reckon 216 = .ok (.goto 4, 3) := by decide +kernel
theorem dX11_reckon_219 : decode cX11_reckon 219 = .ok (.iconst 0, 1) := by decide +kernel
theorem dX11_reckon_220 : decode cX11_reckon 220 = .ok (.istore 4, 2) := by decide +kernel
theorem dX11_reckon_222 : decode cX11_reckon 222 = .ok (.iload_n 3, 1) := by decide +kernel
theorem dX11_reckon_223 : decode cX11_reckon 223 = .ok (.aload_n 0, 1) := by decide +kernel
theorem dX11_reckon_224 : decode cX11_reckon 224 = .ok (.iconst 1, 1) := by decide +kernel
theorem dX11_reckon_225 : decode cX11_reckon 225 = .ok (.invokevirtual 321, 3) := by decide +kernel
theorem dX11_reckon_228 : decode cX11_reckon 228 = .ok (.iload 4, 2) := by decide +kernel
theorem dX11_reckon_230 : decode cX11_reckon 230 = .ok (.ifCond .eq 7, 3) := by decide +kernel
theorem dX11_reckon_233 : decode cX11_reckon 233 = .ok (.iconst 0, 1) := by decide +kernel
theorem dX11_reckon_234 : decode cX11_reckon 234 = .ok (.goto 4, 3) := by decide +kernel
theorem dX11_reckon_237 : decode cX11_reckon 237 = .ok (.iconst 1, 1) := by decide +kernel
theorem dX11_reckon_238 : decode cX11_reckon 238 = .ok (.iadd, 1) := by decide +kernel
theorem dX11_reckon_239 : decode cX11_reckon 239 = .ok (.invokestatic 324, 3) := by decide +kernel
theorem dX11_reckon_242 : decode cX11_reckon 242 = .ok (.istore_n 3, 1) := by decide +kernel
theorem dX11_reckon_243 : decode cX11_reckon 243 = .ok (.iconst 1, 1) := by decide +kernel
theorem dX11_reckon_244 : decode cX11_reckon 244 = .ok (.istore 4, 2) := by decide +kernel
theorem dX11_reckon_246 : decode cX11_reckon 246 = .ok (.iload 4, 2) := by decide +kernel
theorem dX11_reckon_248 : decode cX11_reckon 248 = .ok (.bipush 32, 2) := by decide +kernel
theorem dX11_reckon_250 : decode cX11_reckon 250 = .ok (.if_icmp .ge 41, 3) := by decide +kernel
theorem dX11_reckon_253 : decode cX11_reckon 253 = .ok (.iload_n 1, 1) := by decide +kernel
theorem dX11_reckon_254 : decode cX11_reckon 254 = .ok (.ifCond .eq 37, 3) := by decide +kernel
theorem dX11_reckon_257 : decode cX11_reckon 257 = .ok (.aload_n 0, 1) := by decide +kernel
theorem dX11_reckon_258 : decode cX11_reckon 258 = .ok (.getfield 169, 3) := by decide +kernel
theorem dX11_reckon_261 : decode cX11_reckon 261 = .ok (.iload 4, 2) := by decide +kernel
theorem dX11_reckon_263 : decode cX11_reckon 263 = .ok (.invokestatic 181, 3) := by decide +kernel
theorem dX11_reckon_266 : decode cX11_reckon 266 = .ok (.ifCond .eq 17, 3) := by decide +kernel
theorem dX11_reckon_269 : decode cX11_reckon 269 = .ok (.iload_n 3, 1) := by decide +kernel
theorem dX11_reckon_270 : decode cX11_reckon 270 = .ok (.aload_n 0, 1) := by decide +kernel
theorem dX11_reckon_271 : decode cX11_reckon 271 = .ok (.getfield 39, 3) := by decide +kernel
theorem dX11_reckon_274 : decode cX11_reckon 274 = .ok (.iload 4, 2) := by decide +kernel
theorem dX11_reckon_276 : decode cX11_reckon 276 = .ok (.iaload, 1) := by decide +kernel
theorem dX11_reckon_277 : decode cX11_reckon 277 = .ok (.invokestatic 324, 3) := by decide +kernel
theorem dX11_reckon_280 : decode cX11_reckon 280 = .ok (.goto 4, 3) := by decide +kernel
theorem dX11_reckon_283 : decode cX11_reckon 283 = .ok (.iload_n 3, 1) := by decide +kernel
theorem dX11_reckon_284 : decode cX11_reckon 284 = .ok (.istore_n 3, 1) := by decide +kernel
theorem dX11_reckon_285 : decode cX11_reckon 285 = .ok (.iinc 4 1, 3) := by decide +kernel
theorem dX11_reckon_288 : decode cX11_reckon 288 = .ok (.goto (-42), 3) := by decide +kernel
theorem dX11_reckon_291 : decode cX11_reckon 291 = .ok (.iload_n 1, 1) := by decide +kernel
theorem dX11_reckon_292 : decode cX11_reckon 292 = .ok (.ifCond .eq 17, 3) := by decide +kernel
theorem dX11_reckon_295 : decode cX11_reckon 295 = .ok (.aload_n 0, 1) := by decide +kernel
theorem dX11_reckon_296 : decode cX11_reckon 296 = .ok (.getfield 169, 3) := by decide +kernel
theorem dX11_reckon_299 : decode cX11_reckon 299 = .ok (.invokestatic 142, 3) := by decide +kernel
theorem dX11_reckon_302 : decode cX11_reckon 302 = .ok (.ifCond .ne 7, 3) := by decide +kernel
theorem dX11_reckon_305 : decode cX11_reckon 305 = .ok (.iconst 1, 1) := by decide +kernel
theorem dX11_reckon_306 : decode cX11_reckon 306 = .ok (.goto 4, 3) := by decide +kernel
theorem dX11_reckon_309 : decode cX11_reckon 309 = .ok (.iconst 0, 1) := by decide +kernel
theorem dX11_reckon_310 : decode cX11_reckon 310 = .ok (.istore 4, 2) := by decide +kernel
theorem dX11_reckon_312 : decode cX11_reckon 312 = .ok (.iload 4, 2) := by decide +kernel
theorem dX11_reckon_314 : decode cX11_reckon 314 = .ok (.ifCond .eq 24, 3) := by decide +kernel
theorem dX11_reckon_317 : decode cX11_reckon 317 = .ok (.aload_n 0, 1) := by decide +kernel
theorem dX11_reckon_318 : decode cX11_reckon 318 = .ok (.getfield 169, 3) := by decide +kernel
theorem dX11_reckon_321 : decode cX11_reckon 321 = .ok (.invokestatic 188, 3) := by decide +kernel
theorem dX11_reckon_324 : decode cX11_reckon 324 = .ok (.ifCond .eq 14, 3) := by decide +kernel
theorem dX11_reckon_327 : decode cX11_reckon 327 = .ok (.iload_n 3, 1) := by decide +kernel
theorem dX11_reckon_328 : decode cX11_reckon 328 = .ok (.aload_n 0, 1) := by decide +kernel
theorem dX11_reckon_329 : decode cX11_reckon 329 = .ok (.getfield 96, 3) := by decide +kernel
theorem dX11_reckon_332 : decode cX11_reckon 332 = .ok (.invokestatic 324, 3) := by decide +kernel
theorem dX11_reckon_335 : decode cX11_reckon 335 = .ok (.goto 4, 3) := by decide +kernel
theorem dX11_reckon_338 : decode cX11_reckon 338 = .ok (.iload_n 3, 1) := by decide +kernel
theorem dX11_reckon_339 : decode cX11_reckon 339 = .ok (.istore_n 3, 1) := by decide +kernel
theorem dX11_reckon_340 : decode cX11_reckon 340 = .ok (.iload 4, 2) := by decide +kernel
theorem dX11_reckon_342 : decode cX11_reckon 342 = .ok (.ifCond .eq 24, 3) := by decide +kernel
theorem dX11_reckon_345 : decode cX11_reckon 345 = .ok (.aload_n 0, 1) := by decide +kernel
theorem dX11_reckon_346 : decode cX11_reckon 346 = .ok (.getfield 169, 3) := by decide +kernel
theorem dX11_reckon_349 : decode cX11_reckon 349 = .ok (.invokestatic 194, 3) := by decide +kernel
theorem dX11_reckon_352 : decode cX11_reckon 352 = .ok (.ifCond .eq 14, 3) := by decide +kernel
theorem dX11_reckon_355 : decode cX11_reckon 355 = .ok (.iload_n 3, 1) := by decide +kernel
theorem dX11_reckon_356 : decode cX11_reckon 356 = .ok (.aload_n 0, 1) := by decide +kernel
theorem dX11_reckon_357 : decode cX11_reckon 357 = .ok (.getfield 99, 3) := by decide +kernel
theorem dX11_reckon_360 : decode cX11_reckon 360 = .ok (.invokestatic 324, 3) := by decide +kernel
theorem dX11_reckon_363 : decode cX11_reckon 363 = .ok (.goto 4, 3) := by decide +kernel
theorem dX11_reckon_366 : decode cX11_reckon 366 = .ok (.iload_n 3, 1) := by decide +kernel
theorem dX11_reckon_367 : decode cX11_reckon 367 = .ok (.istore_n 3, 1) := by decide +kernel
theorem dX11_reckon_368 : decode cX11_reckon 368 = .ok (.iload 4, 2) := by decide +kernel
theorem dX11_reckon_370 : decode cX11_reckon 370 = .ok (.ifCond .eq 26, 3) := by decide +kernel
theorem dX11_reckon_373 : decode cX11_reckon 373 = .ok (.aload_n 0, 1) := by decide +kernel
theorem dX11_reckon_374 : decode cX11_reckon 374 = .ok (.getfield 169, 3) := by decide +kernel
theorem dX11_reckon_377 : decode cX11_reckon 377 = .ok (.invokestatic 138, 3) := by decide +kernel
theorem dX11_reckon_380 : decode cX11_reckon 380 = .ok (.bipush 41, 2) := by decide +kernel
theorem dX11_reckon_382 : decode cX11_reckon 382 = .ok (.if_icmp .ne 14, 3) := by decide +kernel
theorem dX11_reckon_385 : decode cX11_reckon 385 = .ok (.iload_n 3, 1) := by decide +kernel
theorem dX11_reckon_386 : decode cX11_reckon 386 = .ok (.aload_n 0, 1) := by decide +kernel
theorem dX11_reckon_387 : decode cX11_reckon 387 = .ok (.getfield 102, 3) := by decide +kernel
theorem dX11_reckon_390 : decode cX11_reckon 390 = .ok (.invokestatic 324, 3) := by decide +kernel
theorem dX11_reckon_393 : decode cX11_reckon 393 = .ok (.goto 4, 3) := by decide +kernel
theorem dX11_reckon_396 : decode cX11_reckon 396 = .ok (.iload_n 3, 1) := by decide +kernel
theorem dX11_reckon_397 : decode cX11_reckon 397 = .ok (.istore_n 3, 1) := by decide +kernel
theorem dX11_reckon_398 : decode cX11_reckon 398 = .ok (.iload 4, 2) := by decide +kernel
theorem dX11_reckon_400 : decode cX11_reckon 400 = .ok (.ifCond .eq 27, 3) := by decide +kernel
theorem dX11_reckon_403 : decode cX11_reckon 403 = .ok (.aload_n 0, 1) := by decide +kernel
theorem dX11_reckon_404 : decode cX11_reckon 404 = .ok (.getfield 169, 3) := by decide +kernel
theorem dX11_reckon_407 : decode cX11_reckon 407 = .ok (.invokestatic 151, 3) := by decide +kernel
theorem dX11_reckon_410 : decode cX11_reckon 410 = .ok (.ifCond .eq 17, 3) := by decide +kernel
theorem dX11_reckon_413 : decode cX11_reckon 413 = .ok (.iload_n 3, 1) := by decide +kernel
theorem dX11_reckon_414 : decode cX11_reckon 414 = .ok (.aload_n 0, 1) := by decide +kernel
theorem dX11_reckon_415 : decode cX11_reckon 415 = .ok (.getfield 105, 3) := by decide +kernel
theorem dX11_reckon_418 : decode cX11_reckon 418 = .ok (.bipush 18, 2) := by decide +kernel
theorem dX11_reckon_420 : decode cX11_reckon 420 = .ok (.iadd, 1) := by decide +kernel
theorem dX11_reckon_421 : decode cX11_reckon 421 = .ok (.invokestatic 324, 3) := by decide +kernel
theorem dX11_reckon_424 : decode cX11_reckon 424 = .ok (.goto 4, 3) := by decide +kernel
theorem dX11_reckon_427 : decode cX11_reckon 427 = .ok (.iload_n 3, 1) := by decide +kernel
theorem dX11_reckon_428 : decode cX11_reckon 428 = .ok (.istore_n 3, 1) := by decide +kernel
theorem dX11_reckon_429 : decode cX11_reckon 429 = .ok (.iload_n 1, 1) := by decide +kernel
theorem dX11_reckon_430 : decode cX11_reckon 430 = .ok (.ifCond .eq 34, 3) := by decide +kernel
theorem dX11_reckon_433 : decode cX11_reckon 433 = .ok (.aload_n 0, 1) := by decide +kernel
theorem dX11_reckon_434 : decode cX11_reckon 434 = .ok (.getfield 169, 3) := by decide +kernel
theorem dX11_reckon_437 : decode cX11_reckon 437 = .ok (.invokestatic 166, 3) := by decide +kernel
theorem dX11_reckon_440 : decode cX11_reckon 440 = .ok (.ifCond .eq 24, 3) := by decide +kernel
theorem dX11_reckon_443 : decode cX11_reckon 443 = .ok (.aload_n 0, 1) := by decide +kernel
theorem dX11_reckon_444 : decode cX11_reckon 444 = .ok (.getfield 78, 3) := by decide +kernel
theorem dX11_reckon_447 : decode cX11_reckon 447 = .ok (.ifCond .le 17, 3) := by decide +kernel
theorem dX11_reckon_450 : decode cX11_reckon 450 = .ok (.iload_n 3, 1) := by decide +kernel
theorem dX11_reckon_451 : decode cX11_reckon 451 = .ok (.aload_n 0, 1) := by decide +kernel
theorem dX11_reckon_452 : decode cX11_reckon 452 = .ok (.iconst 1, 1) := by decide +kernel
theorem dX11_reckon_453 : decode cX11_reckon 453 = .ok (.invokevirtual 334, 3) := by decide +kernel
theorem dX11_reckon_456 : decode cX11_reckon 456 = .ok (.iconst 1, 1) := by decide +kernel
theorem dX11_reckon_457 : decode cX11_reckon 457 = .ok (.iadd, 1) := by decide +kernel
theorem dX11_reckon_458 : decode cX11_reckon 458 = .ok (.invokestatic 324, 3) := by decide +kernel
theorem dX11_reckon_461 : decode cX11_reckon 461 = .ok (.goto 4, 3) := by decide +kernel
theorem dX11_reckon_464 : decode cX11_reckon 464 = .ok (.iload_n 3, 1) := by decide +kernel
theorem dX11_reckon_465 : decode cX11_reckon 465 = .ok (.istore_n 3, 1) := by decide +kernel
theorem dX11_reckon_466 : decode cX11_reckon 466 = .ok (.aload_n 0, 1) := by decide +kernel
theorem dX11_reckon_467 : decode cX11_reckon 467 = .ok (.iload_n 3, 1) := by decide +kernel
theorem dX11_reckon_468 : decode cX11_reckon 468 = .ok (.putfield 337, 3) := by decide +kernel
theorem dX11_reckon_471 : decode cX11_reckon 471 = .ok (.iload_n 3, 1) := by decide +kernel
theorem dX11_reckon_472 : decode cX11_reckon 472 = .ok (.iload 4, 2) := by decide +kernel
theorem dX11_reckon_474 : decode cX11_reckon 474 = .ok (.ifCond .eq 17, 3) := by decide +kernel
theorem dX11_reckon_477 : decode cX11_reckon 477 = .ok (.aload_n 0, 1) := by decide +kernel
theorem dX11_reckon_478 : decode cX11_reckon 478 = .ok (.getfield 169, 3) := by decide +kernel
theorem dX11_reckon_481 : decode cX11_reckon 481 = .ok (.invokestatic 148, 3) := by decide +kernel
theorem dX11_reckon_484 : decode cX11_reckon 484 = .ok (.ifCond .eq 7, 3) := by decide +kernel
theorem dX11_reckon_487 : decode cX11_reckon 487 = .ok (.iconst 5, 1) := by decide +kernel
theorem dX11_reckon_488 : decode cX11_reckon 488 = .ok (.goto 24, 3) := by decide +kernel
theorem dX11_reckon_491 : decode cX11_reckon 491 = .ok (.iload 4, 2) := by decide +kernel
theorem dX11_reckon_493 : decode cX11_reckon 493 = .ok (.ifCond .eq 18, 3) := by decide +kernel
theorem dX11_reckon_496 : decode cX11_reckon 496 = .ok (.aload_n 0, 1) := by decide +kernel
theorem dX11_reckon_497 : decode cX11_reckon 497 = .ok (.getfield 169, 3) := by decide +kernel
theorem dX11_reckon_500 : decode cX11_reckon 500 = .ok (.invokestatic 151, 3) := by decide +kernel
theorem dX11_reckon_503 : decode cX11_reckon 503 = .ok (.ifCond .eq 8, 3) := by decide +kernel
theorem dX11_reckon_506 : decode cX11_reckon 506 = .ok (.bipush 20, 2) := by decide +kernel
theorem dX11_reckon_508 : decode cX11_reckon 508 = .ok (.goto 4, 3) := by decide +kernel
theorem dX11_reckon_511 : decode cX11_reckon 511 = .ok (.iconst 3, 1) := by decide +kernel
theorem dX11_reckon_512 : decode cX11_reckon 512 = .ok (.iadd, 1) := by decide +kernel
theorem dX11_reckon_513 : decode cX11_reckon 513 = .ok (.istore 5, 2) := by decide +kernel
theorem dX11_reckon_515 : decode cX11_reckon 515 = .ok (.aload_n 0, 1) := by decide +kernel
theorem dX11_reckon_516 : decode cX11_reckon 516 = .ok (.getfield 78, 3) := by decide +kernel
theorem dX11_reckon_519 : decode cX11_reckon 519 = .ok (.ifCond .le 29, 3) := by decide +kernel
theorem dX11_reckon_522 : decode cX11_reckon 522 = .ok (.iload 5, 2) := by decide +kernel
theorem dX11_reckon_524 : decode cX11_reckon 524 = .ok (.aload_n 0, 1) := by decide +kernel
theorem dX11_reckon_525 : decode cX11_reckon 525 = .ok (.iconst 1, 1) := by decide +kernel
theorem dX11_reckon_526 : decode cX11_reckon 526 = .ok (.invokevirtual 334, 3) := by decide +kernel
theorem dX11_reckon_529 : decode cX11_reckon 529 = .ok (.aload_n 0, 1) := by decide +kernel
theorem dX11_reckon_530 : decode cX11_reckon 530 = .ok (.getfield 197, 3) := by decide +kernel
theorem dX11_reckon_533 : decode cX11_reckon 533 = .ok (.ifCond .le 7, 3) := by decide +kernel
theorem dX11_reckon_536 : decode cX11_reckon 536 = .ok (.iconst 1, 1) := by decide +kernel
theorem dX11_reckon_537 : decode cX11_reckon 537 = .ok (.goto 4, 3) := by decide +kernel
theorem dX11_reckon_540 : decode cX11_reckon 540 = .ok (.iconst 0, 1) := by decide +kernel
theorem dX11_reckon_541 : decode cX11_reckon 541 = .ok (.iadd, 1) := by decide +kernel
theorem dX11_reckon_542 : decode cX11_reckon 542 = .ok (.invokestatic 324, 3) := by decide +kernel
theorem dX11_reckon_545 : decode cX11_reckon 545 = .ok (.goto 5, 3) := by decide +kernel
theorem dX11_reckon_548 : decode cX11_reckon 548 = .ok (.iload 5, 2) := by decide +kernel
theorem dX11_reckon_550 : decode cX11_reckon 550 = .ok (.istore 5, 2) := by decide +kernel
theorem dX11_reckon_552 : decode cX11_reckon 552 = .ok (.aload_n 0, 1) := by decide +kernel
theorem dX11_reckon_553 : decode cX11_reckon 553 = .ok (.getfield 78, 3) := by decide +kernel
theorem dX11_reckon_556 : decode cX11_reckon 556 = .ok (.iconst 1, 1) := by decide +kernel
theorem dX11_reckon_557 : decode cX11_reckon 557 = .ok (.if_icmp .le 18, 3) := by decide +kernel
theorem dX11_reckon_560 : decode cX11_reckon 560 = .ok (.iload 5, 2) := by decide +kernel
theorem dX11_reckon_562 : decode cX11_reckon 562 = .ok (.aload_n 0, 1) := by decide +kernel
theorem dX11_reckon_563 : decode cX11_reckon 563 = .ok (.iconst 2, 1) := by decide +kernel
theorem dX11_reckon_564 : decode cX11_reckon 564 = .ok (.invokevirtual 334, 3) := by decide +kernel
theorem dX11_reckon_567 : decode cX11_reckon 567 = .ok (.iconst 1, 1) := by decide +kernel
theorem dX11_reckon_568 : decode cX11_reckon 568 = .ok (.iadd, 1) := by decide +kernel
theorem dX11_reckon_569 : decode cX11_reckon 569 = .ok (.invokestatic 324, 3) := by decide +kernel
theorem dX11_reckon_572 : decode cX11_reckon 572 = .ok (.goto 5, 3) := by decide +kernel
theorem dX11_reckon_575 : decode cX11_reckon 575 = .ok (.iload 5, 2) := by decide +kernel
theorem dX11_reckon_577 : decode cX11_reckon 577 = .ok (.istore 5, 2) := by decide +kernel
theorem dX11_reckon_579 : decode cX11_reckon 579 = .ok (.aload_n 0, 1) := by decide +kernel
theorem dX11_reckon_580 : decode cX11_reckon 580 = .ok (.iload 5, 2) := by decide +kernel
theorem dX11_reckon_582 : decode cX11_reckon 582 = .ok (.putfield 340, 3) := by decide +kernel
theorem dX11_reckon_585 : decode cX11_reckon 585 = .ok (.return_, 1) := by decide +kernel
set_option maxRecDepth 1000000 in
theorem ggX11_happen_X11_isNone : GoodIn wsX11_happen wsX11_isNone := goodIn_r _ [41, 42, 43, 40, 44] (by decide +kernel) (by decide +kernel)
set_option maxRecDepth 1000000 in
theorem gX11_happen_X11_isNone : GoodIn wsX11_happen (va_wsS RX11 142 yX11_isNone wsX11_isNone) := goodIn_app (goodIn_of _ (by decide +kernel)) ggX11_happen_X11_isNone
set_option maxRecDepth 1000000 in
theorem ggX11_happen_X11_dueOf : GoodIn wsX11_happen wsX11_dueOf := goodIn_r _ [48, 19, 3, 139, 140, 141, 142, 143, 144, 145, 146, 147, 148, 149, 150, 151, 152, 153, 154, 155, 156, 157, 158, 159, 160, 161, 162, 163, 164, 165, 166, 167, 168, 169, 170, 171, 172, 173, 174, 175, 176, 177, 178, 179, 180, 181, 182, 183, 184, 185, 186, 187, 188, 189, 190, 191, 192, 193, 194, 195, 196, 197, 198] rfl (by decide +kernel)
set_option maxRecDepth 1000000 in
theorem gX11_happen_X11_dueOf : GoodIn wsX11_happen (wsV RX11 334 RX11 yX11_dueOf wsX11_dueOf) := goodIn_app (goodIn_of _ (by decide +kernel)) ggX11_happen_X11_dueOf
set_option maxRecDepth 1000000 in
theorem ggX11_happen_X11_isDivide : GoodIn wsX11_happen wsX11_isDivide := goodIn_r _ [51, 42, 43, 40, 44] (by decide +kernel) (by decide +kernel)
set_option maxRecDepth 1000000 in
theorem gX11_happen_X11_isDivide : GoodIn wsX11_happen (va_wsS RX11 151 yX11_isDivide wsX11_isDivide) := goodIn_app (goodIn_of _ (by decide +kernel)) ggX11_happen_X11_isDivide
set_option maxRecDepth 1000000 in
theorem ggX11_happen_X11_isMemory : GoodIn wsX11_happen wsX11_isMemory := goodIn_r _ [54, 42, 43, 40, 44] (by decide +kernel) (by decide +kernel)
set_option maxRecDepth 1000000 in
theorem gX11_happen_X11_isMemory : GoodIn wsX11_happen (va_wsS RX11 154 yX11_isMemory wsX11_isMemory) := goodIn_app (goodIn_of _ (by decide +kernel)) ggX11_happen_X11_isMemory
set_option maxRecDepth 1000000 in
theorem ggX11_happen_X11_isMultiply : GoodIn wsX11_happen wsX11_isMultiply := goodIn_r _ [57, 42, 43, 40, 44, 58, 59, 60] (by decide +kernel) (by decide +kernel)
set_option maxRecDepth 1000000 in
theorem gX11_happen_X11_isMultiply : GoodIn wsX11_happen (va_wsS RX11 148 yX11_isMultiply wsX11_isMultiply) := goodIn_app (goodIn_of _ (by decide +kernel)) ggX11_happen_X11_isMultiply
set_option maxRecDepth 1000000 in
theorem ggX11_happen_X11_writes : GoodIn wsX11_happen wsX11_writes := goodIn_r _ [63, 42, 43, 40, 44, 52, 53, 54, 64, 65, 66, 58, 59, 60, 38, 39, 41] (by decide +kernel) (by decide +kernel)
set_option maxRecDepth 1000000 in
theorem gX11_happen_X11_writes : GoodIn wsX11_happen (va_wsS RX11 178 yX11_writes wsX11_writes) := goodIn_app (goodIn_of _ (by decide +kernel)) ggX11_happen_X11_writes
set_option maxRecDepth 1000000 in
theorem ggX11_happen_X11_writesFlag : GoodIn wsX11_happen wsX11_writesFlag := goodIn_r _ [69, 38, 39, 40, 41, 42, 43, 44] (by decide +kernel) (by decide +kernel)
set_option maxRecDepth 1000000 in
theorem gX11_happen_X11_writesFlag : GoodIn wsX11_happen (va_wsS RX11 185 yX11_writesFlag wsX11_writesFlag) := goodIn_app (goodIn_of _ (by decide +kernel)) ggX11_happen_X11_writesFlag
set_option maxRecDepth 1000000 in
theorem ggX11_happen_X11_writesCarry : GoodIn wsX11_happen wsX11_writesCarry := goodIn_r _ [72, 42, 43, 40, 44] (by decide +kernel) (by decide +kernel)
set_option maxRecDepth 1000000 in
theorem gX11_happen_X11_writesCarry : GoodIn wsX11_happen (va_wsS RX11 191 yX11_writesCarry wsX11_writesCarry) := goodIn_app (goodIn_of _ (by decide +kernel)) ggX11_happen_X11_writesCarry
set_option maxRecDepth 1000000 in
theorem ggX11_happen_X11_isSum : GoodIn wsX11_happen wsX11_isSum := goodIn_r _ [60, 42, 43, 40, 44] (by decide +kernel) (by decide +kernel)
set_option maxRecDepth 1000000 in
theorem gX11_happen_X11_isSum : GoodIn wsX11_happen (va_wsS RX11 145 yX11_isSum wsX11_isSum) := goodIn_app (goodIn_of _ (by decide +kernel)) ggX11_happen_X11_isSum
set_option maxRecDepth 1000000 in
theorem ggX11_happen_X11_isSingle : GoodIn wsX11_happen wsX11_isSingle := goodIn_r _ [75, 38, 39, 40, 41, 42, 43, 44] (by decide +kernel) (by decide +kernel)
set_option maxRecDepth 1000000 in
theorem gX11_happen_X11_isSingle : GoodIn wsX11_happen (va_wsS RX11 166 yX11_isSingle wsX11_isSingle) := goodIn_app (goodIn_of _ (by decide +kernel)) ggX11_happen_X11_isSingle
set_option maxRecDepth 1000000 in
theorem ggX11_happen_X11_issue : GoodIn wsX11_happen wsX11_issue := goodIn_r _ [79, 18, 3, 139, 140, 141, 142, 143, 144, 145, 146, 147, 148, 149, 150, 151, 152, 153, 154, 155, 156, 157, 158, 159, 160, 161, 162, 163, 164, 165, 166, 167, 168, 169, 170, 171, 172, 173, 174, 175, 176, 177, 178, 179, 180, 181, 182, 183, 184, 185, 186, 187, 188, 189, 190, 191, 192, 193, 194, 195, 196, 197, 198] rfl (by decide +kernel)
set_option maxRecDepth 1000000 in
theorem gX11_happen_X11_issue : GoodIn wsX11_happen (wsV RX11 321 RX11 yX11_issue wsX11_issue) := goodIn_app (goodIn_of _ (by decide +kernel)) ggX11_happen_X11_issue
set_option maxRecDepth 1000000 in
theorem ggX11_happen_X11_except : GoodIn wsX11_happen wsX11_except := goodIn_r _ [83, 84, 85, 14, 10, 86, 6, 13, 87, 88, 89, 40, 90, 91, 139, 140, 141, 142, 143, 144, 145, 146, 147, 148, 149, 150, 151, 152, 153, 154, 155, 156, 157, 158, 159, 160, 161, 162, 163, 164, 165, 166, 167, 168, 169, 170, 171, 172, 173, 174, 175, 176, 177, 178, 179, 180, 181, 182, 183, 184, 185, 186, 187, 188, 189, 190, 191, 192, 193, 194, 195, 196, 197, 198] rfl (by decide +kernel)
set_option maxRecDepth 1000000 in
theorem gX11_happen_X11_except : GoodIn wsX11_happen (wsV RX11 349 RX11 yX11_except wsX11_except) := goodIn_app (goodIn_of _ (by decide +kernel)) ggX11_happen_X11_except
set_option maxRecDepth 1000000 in
theorem ggX11_happen_X11_retire : GoodIn wsX11_happen wsX11_retire := goodIn_r _ [95, 7, 96, 14, 8, 85, 97, 98, 99, 100, 101, 9, 15, 102, 2, 103, 104, 13, 10, 91, 86, 105, 25, 26, 106, 107, 108, 109, 110, 111, 112, 113, 40, 114, 115, 42, 43, 44, 116, 117, 118, 119, 120, 121, 122, 123, 124, 125, 126, 127, 128, 87, 88, 89, 90, 129, 130, 131, 132, 133, 134, 135, 136, 137, 138, 139, 140, 141, 142, 143, 144, 145, 146, 147, 148, 149, 150, 151, 152, 153, 154, 155, 156, 157, 158, 159, 160, 161, 162, 163, 164, 165, 166, 167, 168, 169, 170, 171, 172, 173, 174, 175, 176, 177, 178, 179, 180, 181, 182, 183, 184, 185, 186, 187, 188, 189, 190, 191, 192, 193, 194, 195, 196, 197, 198] rfl (by decide +kernel)
set_option maxRecDepth 1000000 in
theorem gX11_happen_X11_retire : GoodIn wsX11_happen (wsV RX11 352 RX11 yX11_retire wsX11_retire) := goodIn_app (goodIn_of _ (by decide +kernel)) ggX11_happen_X11_retire
theorem dX11_happen_0 : decode cX11_happen 0 = .ok (.aload_n 0, 1) := by decide +kernel
theorem dX11_happen_1 : decode cX11_happen 1 = .ok (.getfield 119, 3) := by decide +kernel
theorem dX11_happen_4 : decode cX11_happen 4 = .ok (.ifCond .ne 7, 3) := by decide +kernel
theorem dX11_happen_7 : decode cX11_happen 7 = .ok (.iconst 1, 1) := by decide +kernel
theorem dX11_happen_8 : decode cX11_happen 8 = .ok (.goto 4, 3) := by decide +kernel
theorem dX11_happen_11 : decode cX11_happen 11 = .ok (.iconst 0, 1) := by decide +kernel
theorem dX11_happen_12 : decode cX11_happen 12 = .ok (.istore_n 1, 1) := by decide +kernel
theorem dX11_happen_13 : decode cX11_happen 13 = .ok (.iload_n 1, 1) := by decide +kernel
theorem dX11_happen_14 : decode cX11_happen 14 = .ok (.ifCond .eq 17, 3) := by decide +kernel
theorem dX11_happen_17 : decode cX11_happen 17 = .ok (.aload_n 0, 1) := by decide +kernel
theorem dX11_happen_18 : decode cX11_happen 18 = .ok (.getfield 169, 3) := by decide +kernel
theorem dX11_happen_21 : decode cX11_happen 21 = .ok (.invokestatic 142, 3) := by decide +kernel
theorem dX11_happen_24 : decode cX11_happen 24 = .ok (.ifCond .ne 7, 3) := by decide +kernel
theorem dX11_happen_27 : decode cX11_happen 27 = .ok (.iconst 1, 1) := by decide +kernel
theorem dX11_happen_28 : decode cX11_happen 28 = .ok (.goto 4, 3) := by decide +kernel
theorem dX11_happen_31 : decode cX11_happen 31 = .ok (.iconst 0, 1) := by decide +kernel
theorem dX11_happen_32 : decode cX11_happen 32 = .ok (.istore_n 2, 1) := by decide +kernel
theorem dX11_happen_33 : decode cX11_happen 33 = .ok (.bipush 11, 2) := by decide +kernel
theorem dX11_happen_35 : decode cX11_happen 35 = .ok (.aload_n 0, 1) := by decide +kernel
theorem dX11_happen_36 : decode cX11_happen 36 = .ok (.getfield 78, 3) := by decide +kernel
