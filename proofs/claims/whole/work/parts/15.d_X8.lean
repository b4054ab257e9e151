set_option maxRecDepth 1000000 in
theorem ggX8_init_X4_init : GoodIn wsX8_init wsX4_init := goodIn_r _ [14, 15, 2, 3, 16, 17, 18, 25, 26, 27, 28] (by decide +kernel) (by decide +kernel)
set_option maxRecDepth 1000000 in
theorem gX8_init_X4_init_n11 : GoodIn wsX8_init (wsX4_init) := ggX8_init_X4_init
set_option maxRecDepth 1000000 in
theorem ggX8_init_X5_init : GoodIn wsX8_init wsX5_init := goodIn_r _ [21, 22, 2, 3, 16, 23, 24, 42, 43] (by decide +kernel) (by decide +kernel)
set_option maxRecDepth 1000000 in
theorem gX8_init_X5_init : GoodIn wsX8_init (wsX5_init) := ggX8_init_X5_init
theorem dX8_init_0 : decode cX8_init 0 = .ok (.aload_n 0, 1) := by decide +kernel
theorem dX8_init_1 : decode cX8_init 1 = .ok (.invokespecial 3, 3) := by decide +kernel
theorem dX8_init_4 : decode cX8_init 4 = .ok (.aload_n 0, 1) := by decide +kernel
theorem dX8_init_5 : decode cX8_init 5 = .ok (.new 9, 3) := by decide +kernel
theorem dX8_init_8 : decode cX8_init 8 = .ok (.dup, 1) := by decide +kernel
theorem dX8_init_9 : decode cX8_init 9 = .ok (.invokespecial 11, 3) := by decide +kernel
theorem dX8_init_12 : decode cX8_init 12 = .ok (.putfield 12, 3) := by decide +kernel
theorem dX8_init_15 : decode cX8_init 15 = .ok (.aload_n 0, 1) := by decide +kernel
theorem dX8_init_16 : decode cX8_init 16 = .ok (.iconst 1, 1) := by decide +kernel
theorem dX8_init_17 : decode cX8_init 17 = .ok (.putfield 18, 3) := by decide +kernel
theorem dX8_init_20 : decode cX8_init 20 = .ok (.aload_n 0, 1) := by decide +kernel
theorem dX8_init_21 : decode cX8_init 21 = .ok (.new 22, 3) := by decide +kernel
theorem dX8_init_24 : decode cX8_init 24 = .ok (.dup, 1) := by decide +kernel
theorem dX8_init_25 : decode cX8_init 25 = .ok (.iload_n 1, 1) := by decide +kernel
theorem dX8_init_26 : decode cX8_init 26 = .ok (.invokespecial 24, 3) := by decide +kernel
theorem dX8_init_29 : decode cX8_init 29 = .ok (.putfield 27, 3) := by decide +kernel
theorem dX8_init_32 : decode cX8_init 32 = .ok (.return_, 1) := by decide +kernel
set_option maxRecDepth 1000000 in
theorem ggX8_reset_X5_reset : GoodIn wsX8_reset wsX5_reset := goodIn_r _ [18, 19, 20, 21, 22, 23, 44, 45] (by decide +kernel) (by decide +kernel)
set_option maxRecDepth 1000000 in
theorem gX8_reset_X5_reset : GoodIn wsX8_reset (wsV RX8 31 RX5 yX5_reset wsX5_reset) := goodIn_app (goodIn_of _ (by decide +kernel)) ggX8_reset_X5_reset
set_option maxRecDepth 1000000 in
theorem ggX8_reset_X4_reset : GoodIn wsX8_reset wsX4_reset := goodIn_r _ [28, 29, 30, 46, 47, 48, 49] (by decide +kernel) (by decide +kernel)
set_option maxRecDepth 1000000 in
theorem gX8_reset_X4_reset : GoodIn wsX8_reset (wsV RX8 34 RX4 yX4_reset wsX4_reset) := goodIn_app (goodIn_of _ (by decide +kernel)) ggX8_reset_X4_reset
theorem dX8_reset_0 : decode cX8_reset 0 = .ok (.aload_n 0, 1) := by decide +kernel
theorem dX8_reset_1 : decode cX8_reset 1 = .ok (.getfield 27, 3) := by decide +kernel
theorem dX8_reset_4 : decode cX8_reset 4 = .ok (.invokevirtual 31, 3) := by decide +kernel
theorem dX8_reset_7 : decode cX8_reset 7 = .ok (.aload_n 0, 1) := by decide +kernel
theorem dX8_reset_8 : decode cX8_reset 8 = .ok (.getfield 12, 3) := by decide +kernel
theorem dX8_reset_11 : decode cX8_reset 11 = .ok (.invokevirtual 34, 3) := by decide +kernel
theorem dX8_reset_14 : decode cX8_reset 14 = .ok (.aload_n 0, 1) := by decide +kernel
theorem dX8_reset_15 : decode cX8_reset 15 = .ok (.iconst 1, 1) := by decide +kernel
theorem dX8_reset_16 : decode cX8_reset 16 = .ok (.putfield 18, 3) := by decide +kernel
theorem dX8_reset_19 : decode cX8_reset 19 = .ok (.aload_n 0, 1) := by decide +kernel
theorem dX8_reset_20 : decode cX8_reset 20 = .ok (.iconst 0, 1) := by decide +kernel
theorem dX8_reset_21 : decode cX8_reset 21 = .ok (.putfield 35, 3) := by decide +kernel
theorem dX8_reset_24 : decode cX8_reset 24 = .ok (.aload_n 0, 1) := by decide +kernel
theorem dX8_reset_25 : decode cX8_reset 25 = .ok (.iconst 0, 1) := by decide +kernel
theorem dX8_reset_26 : decode cX8_reset 26 = .ok (.putfield 38, 3) := by decide +kernel
theorem dX8_reset_29 : decode cX8_reset 29 = .ok (.aload_n 0, 1) := by decide +kernel
theorem dX8_reset_30 : decode cX8_reset 30 = .ok (.iconst 0, 1) := by decide +kernel
theorem dX8_reset_31 : decode cX8_reset 31 = .ok (.putfield 41, 3) := by decide +kernel
theorem dX8_reset_34 : decode cX8_reset 34 = .ok (.aload_n 0, 1) := by decide +kernel
theorem dX8_reset_35 : decode cX8_reset 35 = .ok (.iconst 0, 1) := by decide +kernel
theorem dX8_reset_36 : decode cX8_reset 36 = .ok (.putfield 44, 3) := by decide +kernel
theorem dX8_reset_39 : decode cX8_reset 39 = .ok (.aload_n 0, 1) := by decide +kernel
theorem dX8_reset_40 : decode cX8_reset 40 = .ok (.lconst 0, 1) := by decide +kernel
theorem dX8_reset_41 : decode cX8_reset 41 = .ok (.putfield 47, 3) := by decide +kernel
theorem dX8_reset_44 : decode cX8_reset 44 = .ok (.aload_n 0, 1) := by decide +kernel
theorem dX8_reset_45 : decode cX8_reset 45 = .ok (.iconst 0, 1) := by decide +kernel
theorem dX8_reset_46 : decode cX8_reset 46 = .ok (.putfield 51, 3) := by decide +kernel
theorem dX8_reset_49 : decode cX8_reset 49 = .ok (.aload_n 0, 1) := by decide +kernel
theorem dX8_reset_50 : decode cX8_reset 50 = .ok (.iconst 0, 1) := by decide +kernel
theorem dX8_reset_51 : decode cX8_reset 51 = .ok (.putfield 54, 3) := by decide +kernel
theorem dX8_reset_54 : decode cX8_reset 54 = .ok (.aload_n 0, 1) := by decide +kernel
theorem dX8_reset_55 : decode cX8_reset 55 = .ok (.iconst 0, 1) := by decide +kernel
theorem dX8_reset_56 : decode cX8_reset 56 = .ok (.putfield 57, 3) := by decide +kernel
theorem dX8_reset_59 : decode cX8_reset 59 = .ok (.aload_n 0, 1) := by decide +kernel
theorem dX8_reset_60 : decode cX8_reset 60 = .ok (.iconst 0, 1) := by decide +kernel
theorem dX8_reset_61 : decode cX8_reset 61 = .ok (.putfield 60, 3) := by decide +kernel
theorem dX8_reset_64 : decode cX8_reset 64 = .ok (.aload_n 0, 1) := by decide +kernel
theorem dX8_reset_65 : decode cX8_reset 65 = .ok (.iconst 0, 1) := by decide +kernel
theorem dX8_reset_66 : decode cX8_reset 66 = .ok (.putfield 63, 3) := by decide +kernel
theorem dX8_reset_69 : decode cX8_reset 69 = .ok (.return_, 1) := by decide +kernel
set_option maxRecDepth 1000000 in
theorem ggX8_read_X8_status : GoodIn wsX8_read wsX8_status := goodIn_r _ [16, 17, 8, 9, 18, 19, 20, 21, 22, 23, 24, 25, 26, 27, 39, 40, 41, 42, 43, 44, 45, 46, 47, 48, 49, 50, 51, 52, 53, 54, 55] (by decide +kernel) (by decide +kernel)
set_option maxRecDepth 1000000 in
theorem gX8_read_X8_status : GoodIn wsX8_read (wsV RX8 66 RX8 yX8_status wsX8_status) := goodIn_app (goodIn_of _ (by decide +kernel)) ggX8_read_X8_status
set_option maxRecDepth 1000000 in
theorem ggX8_read_X5_get : GoodIn wsX8_read wsX5_get := goodIn_r _ [32, 33, 34, 35, 36, 31, 37, 38, 56, 57] (by decide +kernel) (by decide +kernel)
set_option maxRecDepth 1000000 in
theorem gX8_read_X5_get : GoodIn wsX8_read (wsV RX8 70 RX5 yX5_get wsX5_get) := goodIn_app (goodIn_of _ (by decide +kernel)) ggX8_read_X5_get
theorem dX8_read_0 : decode cX8_read 0 = .ok (.iload_n 1, 1) := by decide +kernel
theorem dX8_read_1 : decode cX8_read 1 = .ok (.tableswitch 128 0 11 #[63, 68, 73, 78, 83, 88, 93, 98, 103, 108, 113, 122], 63) := by decide +kernel
theorem dX8_read_64 : decode cX8_read 64 = .ok (.aload_n 0, 1) := by decide +kernel
theorem dX8_read_65 : decode cX8_read 65 = .ok (.getfield 18, 3) := by decide +kernel
theorem dX8_read_68 : decode cX8_read 68 = .ok (.ireturn, 1) := by decide +kernel
theorem dX8_read_69 : decode cX8_read 69 = .ok (.aload_n 0, 1) := by decide +kernel
theorem dX8_read_70 : decode cX8_read 70 = .ok (.getfield 35, 3) := by decide +kernel
theorem dX8_read_73 : decode cX8_read 73 = .ok (.ireturn, 1) := by decide +kernel
theorem dX8_read_74 : decode cX8_read 74 = .ok (.aload_n 0, 1) := by decide +kernel
theorem dX8_read_75 : decode cX8_read 75 = .ok (.getfield 38, 3) := by decide +kernel
theorem dX8_read_78 : decode cX8_read 78 = .ok (.ireturn, 1) := by decide +kernel
theorem dX8_read_79 : decode cX8_read 79 = .ok (.aload_n 0, 1) := by decide +kernel
theorem dX8_read_80 : decode cX8_read 80 = .ok (.getfield 41, 3) := by decide +kernel
theorem dX8_read_83 : decode cX8_read 83 = .ok (.ireturn, 1) := by decide +kernel
theorem dX8_read_84 : decode cX8_read 84 = .ok (.aload_n 0, 1) := by decide +kernel
theorem dX8_read_85 : decode cX8_read 85 = .ok (.getfield 51, 3) := by decide +kernel
theorem dX8_read_88 : decode cX8_read 88 = .ok (.ireturn, 1) := by decide +kernel
theorem dX8_read_89 : decode cX8_read 89 = .ok (.aload_n 0, 1) := by decide +kernel
theorem dX8_read_90 : decode cX8_read 90 = .ok (.getfield 54, 3) := by decide +kernel
theorem dX8_read_93 : decode cX8_read 93 = .ok (.ireturn, 1) := by decide +kernel
theorem dX8_read_94 : decode cX8_read 94 = .ok (.aload_n 0, 1) := by decide +kernel
theorem dX8_read_95 : decode cX8_read 95 = .ok (.getfield 57, 3) := by decide +kernel
theorem dX8_read_98 : decode cX8_read 98 = .ok (.ireturn, 1) := by decide +kernel
theorem dX8_read_99 : decode cX8_read 99 = .ok (.aload_n 0, 1) := by decide +kernel
theorem dX8_read_100 : decode cX8_read 100 = .ok (.invokevirtual 66, 3) := by decide +kernel
theorem dX8_read_103 : decode cX8_read 103 = .ok (.ireturn, 1) := by decide +kernel
theorem dX8_read_104 : decode cX8_read 104 = .ok (.aload_n 0, 1) := by decide +kernel
theorem dX8_read_105 : decode cX8_read 105 = .ok (.getfield 60, 3) := by decide +kernel
theorem dX8_read_108 : decode cX8_read 108 = .ok (.ireturn, 1) := by decide +kernel
theorem dX8_read_109 : decode cX8_read 109 = .ok (.aload_n 0, 1) := by decide +kernel
theorem dX8_read_110 : decode cX8_read 110 = .ok (.getfield 63, 3) := by decide +kernel
theorem dX8_read_113 : decode cX8_read 113 = .ok (.ireturn, 1) := by decide +kernel
theorem dX8_read_114 : decode cX8_read 114 = .ok (.aload_n 0, 1) := by decide +kernel
theorem dX8_read_115 : decode cX8_read 115 = .ok (.getfield 47, 3) := by decide +kernel
theorem dX8_read_118 : decode cX8_read 118 = .ok (.bipush 32, 2) := by decide +kernel
theorem dX8_read_120 : decode cX8_read 120 = .ok (.lushr, 1) := by decide +kernel
theorem dX8_read_121 : decode cX8_read 121 = .ok (.l2i, 1) := by decide +kernel
theorem dX8_read_122 : decode cX8_read 122 = .ok (.ireturn, 1) := by decide +kernel
theorem dX8_read_123 : decode cX8_read 123 = .ok (.aload_n 0, 1) := by decide +kernel
theorem dX8_read_124 : decode cX8_read 124 = .ok (.getfield 47, 3) := by decide +kernel
theorem dX8_read_127 : decode cX8_read 127 = .ok (.l2i, 1) := by decide +kernel
theorem dX8_read_128 : decode cX8_read 128 = .ok (.ireturn, 1) := by decide +kernel
theorem dX8_read_129 : decode cX8_read 129 = .ok (.aload_n 0, 1) := by decide +kernel
theorem dX8_read_130 : decode cX8_read 130 = .ok (.getfield 27, 3) := by decide +kernel
theorem dX8_read_133 : decode cX8_read 133 = .ok (.iload_n 1, 1) := by decide +kernel
theorem dX8_read_134 : decode cX8_read 134 = .ok (.invokevirtual 70, 3) := by decide +kernel
theorem dX8_read_137 : decode cX8_read 137 = .ok (.ireturn, 1) := by decide +kernel
set_option maxRecDepth 1000000 in
theorem ggX8_write_X5_put : GoodIn wsX8_write wsX5_put := goodIn_r _ [20, 21, 22, 23, 24, 19, 25, 26, 40, 41] (by decide +kernel) (by decide +kernel)
set_option maxRecDepth 1000000 in
theorem gX8_write_X5_put : GoodIn wsX8_write (wsV RX8 80 RX5 yX5_put wsX5_put) := goodIn_app (goodIn_of _ (by decide +kernel)) ggX8_write_X5_put
theorem dX8_write_0 : decode cX8_write 0 = .ok (.iload_n 1, 1) := by decide +kernel
theorem dX8_write_1 : decode cX8_write 1 = .ok (.tableswitch 199 0 11 #[63, 75, 83, 95, 103, 114, 125, 133, 199, 148, 156, 177], 63) := by decide +kernel
theorem dX8_write_64 : decode cX8_write 64 = .ok (.aload_n 0, 1) := by decide +kernel
theorem dX8_write_65 : decode cX8_write 65 = .ok (.iload_n 2, 1) := by decide +kernel
theorem dX8_write_66 : decode cX8_write 66 = .ok (.sipush 1023, 3) := by decide +kernel
theorem dX8_write_69 : decode cX8_write 69 = .ok (.iand, 1) := by decide +kernel
theorem dX8_write_70 : decode cX8_write 70 = .ok (.putfield 18, 3) := by decide +kernel
theorem dX8_write_73 : decode cX8_write 73 = .ok (.goto 136, 3) := by decide +kernel
theorem dX8_write_76 : decode cX8_write 76 = .ok (.aload_n 0, 1) := by decide +kernel
theorem dX8_write_77 : decode cX8_write 77 = .ok (.iload_n 2, 1) := by decide +kernel
theorem dX8_write_78 : decode cX8_write 78 = .ok (.putfield 35, 3) := by decide +kernel
theorem dX8_write_81 : decode cX8_write 81 = .ok (.goto 128, 3) := by decide +kernel
theorem dX8_write_84 : decode cX8_write 84 = .ok (.aload_n 0, 1) := by decide +kernel
theorem dX8_write_85 : decode cX8_write 85 = .ok (.iload_n 2, 1) := by decide +kernel
theorem dX8_write_86 : decode cX8_write 86 = .ok (.sipush 1023, 3) := by decide +kernel
theorem dX8_write_89 : decode cX8_write 89 = .ok (.iand, 1) := by decide +kernel
theorem dX8_write_90 : decode cX8_write 90 = .ok (.putfield 38, 3) := by decide +kernel
theorem dX8_write_93 : decode cX8_write 93 = .ok (.goto 116, 3) := by decide +kernel
theorem dX8_write_96 : decode cX8_write 96 = .ok (.aload_n 0, 1) := by decide +kernel
theorem dX8_write_97 : decode cX8_write 97 = .ok (.iload_n 2, 1) := by decide +kernel
theorem dX8_write_98 : decode cX8_write 98 = .ok (.putfield 41, 3) := by decide +kernel
theorem dX8_write_101 : decode cX8_write 101 = .ok (.goto 108, 3) := by decide +kernel
theorem dX8_write_104 : decode cX8_write 104 = .ok (.aload_n 0, 1) := by decide +kernel
theorem dX8_write_105 : decode cX8_write 105 = .ok (.iload_n 2, 1) := by decide +kernel
theorem dX8_write_106 : decode cX8_write 106 = .ok (.ldc 74, 2) := by decide +kernel
theorem dX8_write_108 : decode cX8_write 108 = .ok (.iand, 1) := by decide +kernel
theorem dX8_write_109 : decode cX8_write 109 = .ok (.putfield 51, 3) := by decide +kernel
theorem dX8_write_112 : decode cX8_write 112 = .ok (.goto 97, 3) := by decide +kernel
theorem dX8_write_115 : decode cX8_write 115 = .ok (.aload_n 0, 1) := by decide +kernel
theorem dX8_write_116 : decode cX8_write 116 = .ok (.iload_n 2, 1) := by decide +kernel
theorem dX8_write_117 : decode cX8_write 117 = .ok (.ldc 75, 2) := by decide +kernel
theorem dX8_write_119 : decode cX8_write 119 = .ok (.iand, 1) := by decide +kernel
theorem dX8_write_120 : decode cX8_write 120 = .ok (.putfield 54, 3) := by decide +kernel
theorem dX8_write_123 : decode cX8_write 123 = .ok (.goto 86, 3) := by decide +kernel
theorem dX8_write_126 : decode cX8_write 126 = .ok (.aload_n 0, 1) := by decide +kernel
theorem dX8_write_127 : decode cX8_write 127 = .ok (.iload_n 2, 1) := by decide +kernel
theorem dX8_write_128 : decode cX8_write 128 = .ok (.putfield 57, 3) := by decide +kernel
theorem dX8_write_131 : decode cX8_write 131 = .ok (.goto 78, 3) := by decide +kernel
theorem dX8_write_134 : decode cX8_write 134 = .ok (.aload_n 0, 1) := by decide +kernel
theorem dX8_write_135 : decode cX8_write 135 = .ok (.dup, 1) := by decide +kernel
theorem dX8_write_136 : decode cX8_write 136 = .ok (.getfield 44, 3) := by decide +kernel
theorem dX8_write_139 : decode cX8_write 139 = .ok (.iload_n 2, 1) := by decide +kernel
theorem dX8_write_140 : decode cX8_write 140 = .ok (.iconst (-1), 1) := by decide +kernel
theorem dX8_write_141 : decode cX8_write 141 = .ok (.ixor, 1) := by decide +kernel
theorem dX8_write_142 : decode cX8_write 142 = .ok (.iand, 1) := by decide +kernel
theorem dX8_write_143 : decode cX8_write 143 = .ok (.putfield 44, 3) := by decide +kernel
theorem dX8_write_146 : decode cX8_write 146 = .ok (.goto 63, 3) := by decide +kernel
theorem dX8_write_149 : decode cX8_write 149 = .ok (.aload_n 0, 1) := by decide +kernel
theorem dX8_write_150 : decode cX8_write 150 = .ok (.iload_n 2, 1) := by decide +kernel
theorem dX8_write_151 : decode cX8_write 151 = .ok (.putfield 63, 3) := by decide +kernel
theorem dX8_write_154 : decode cX8_write 154 = .ok (.goto 55, 3) := by decide +kernel
theorem dX8_write_157 : decode cX8_write 157 = .ok (.aload_n 0, 1) := by decide +kernel
theorem dX8_write_158 : decode cX8_write 158 = .ok (.aload_n 0, 1) := by decide +kernel
theorem dX8_write_159 : decode cX8_write 159 = .ok (.getfield 47, 3) := by decide +kernel
theorem dX8_write_162 : decode cX8_write 162 = .ok (.ldc2_w 76, 3) := by decide +kernel
theorem dX8_write_165 : decode cX8_write 165 = .ok (.land, 1) := by decide +kernel
theorem dX8_write_166 : decode cX8_write 166 = .ok (.iload_n 2, 1) := by decide +kernel
theorem dX8_write_167 : decode cX8_write 167 = .ok (.i2l, 1) := by decide +kernel
theorem dX8_write_168 : decode cX8_write 168 = .ok (.bipush 32, 2) := by decide +kernel
theorem dX8_write_170 : decode cX8_write 170 = .ok (.lshl, 1) := by decide +kernel
theorem dX8_write_171 : decode cX8_write 171 = .ok (.lor, 1) := by decide +kernel
theorem dX8_write_172 : decode cX8_write 172 = .ok (.putfield 47, 3) := by decide +kernel
theorem dX8_write_175 : decode cX8_write 175 = .ok (.goto 34, 3) := by decide +kernel
theorem dX8_write_178 : decode cX8_write 178 = .ok (.aload_n 0, 1) := by decide +kernel
theorem dX8_write_179 : decode cX8_write 179 = .ok (.aload_n 0, 1) := by decide +kernel
theorem dX8_write_180 : decode cX8_write 180 = .ok (.getfield 47, 3) := by decide +kernel
theorem dX8_write_183 : decode cX8_write 183 = .ok (.ldc2_w 78, 3) := by decide +kernel
theorem dX8_write_186 : decode cX8_write 186 = .ok (.land, 1) := by decide +kernel
theorem dX8_write_187 : decode cX8_write 187 = .ok (.iload_n 2, 1) := by decide +kernel
theorem dX8_write_188 : decode cX8_write 188 = .ok (.i2l, 1) := by decide +kernel
theorem dX8_write_189 : decode cX8_write 189 = .ok (.ldc2_w 76, 3) := by decide +kernel
theorem dX8_write_192 : decode cX8_write 192 = .ok (.land, 1) := by decide +kernel
theorem dX8_write_193 : decode cX8_write 193 = .ok (.lor, 1) := by decide +kernel
theorem dX8_write_194 : decode cX8_write 194 = .ok (.putfield 47, 3) := by decide +kernel
theorem dX8_write_197 : decode cX8_write 197 = .ok (.goto 12, 3) := by decide +kernel
theorem dX8_write_200 : decode cX8_write 200 = .ok (.aload_n 0, 1) := by decide +kernel
theorem dX8_write_201 : decode cX8_write 201 = .ok (.getfield 27, 3) := by decide +kernel
theorem dX8_write_204 : decode cX8_write 204 = .ok (.iload_n 1, 1) := by decide +kernel
theorem dX8_write_205 : decode cX8_write 205 = .ok (.iload_n 2, 1) := by decide +kernel
theorem dX8_write_206 : decode cX8_write 206 = .ok (.invokevirtual 80, 3) := by decide +kernel
theorem dX8_write_209 : decode cX8_write 209 = .ok (.return_, 1) := by decide +kernel
theorem dX8_timerIsDue_0 : decode cX8_timerIsDue 0 = .ok (.aload_n 0, 1) := by decide +kernel
theorem dX8_timerIsDue_1 : decode cX8_timerIsDue 1 = .ok (.getfield 18, 3) := by decide +kernel
theorem dX8_timerIsDue_4 : decode cX8_timerIsDue 4 = .ok (.iconst 2, 1) := by decide +kernel
theorem dX8_timerIsDue_5 : decode cX8_timerIsDue 5 = .ok (.iand, 1) := by decide +kernel
theorem dX8_timerIsDue_6 : decode cX8_timerIsDue 6 = .ok (.ifCond .eq 17, 3) := by decide +kernel
theorem dX8_timerIsDue_9 : decode cX8_timerIsDue 9 = .ok (.aload_n 0, 1) := by decide +kernel
theorem dX8_timerIsDue_10 : decode cX8_timerIsDue 10 = .ok (.getfield 54, 3) := by decide +kernel
theorem dX8_timerIsDue_13 : decode cX8_timerIsDue 13 = .ok (.ldc 84, 2) := by decide +kernel
theorem dX8_timerIsDue_15 : decode cX8_timerIsDue 15 = .ok (.iand, 1) := by decide +kernel
theorem dX8_timerIsDue_16 : decode cX8_timerIsDue 16 = .ok (.ifCond .eq 7, 3) := by decide +kernel
theorem dX8_timerIsDue_19 : decode cX8_timerIsDue 19 = .ok (.iconst 1, 1) := by decide +kernel
theorem dX8_timerIsDue_20 : decode cX8_timerIsDue 20 = .ok (.goto 4, 3) := by decide +kernel
theorem dX8_timerIsDue_23 : decode cX8_timerIsDue 23 = .ok (.iconst 0, 1) := by decide +kernel
theorem dX8_timerIsDue_24 : decode cX8_timerIsDue 24 = .ok (.ireturn, 1) := by decide +kernel
set_option maxRecDepth 1000000 in
theorem ggX8_lineIsDue_X8_status : GoodIn wsX8_lineIsDue wsX8_status := goodIn_r _ [7, 8, 9, 10, 11, 12, 13, 14, 15, 16, 17, 18, 19, 20, 21, 22, 23, 24, 25, 26, 27, 28, 29, 30, 31, 32, 33, 34, 35, 36, 37] (by decide +kernel) (by decide +kernel)
set_option maxRecDepth 1000000 in
theorem gX8_lineIsDue_X8_status : GoodIn wsX8_lineIsDue (wsV RX8 66 RX8 yX8_status wsX8_status) := goodIn_app (goodIn_of _ (by decide +kernel)) ggX8_lineIsDue_X8_status
theorem dX8_lineIsDue_0 : decode cX8_lineIsDue 0 = .ok (.aload_n 0, 1) := by decide +kernel
theorem dX8_lineIsDue_1 : decode cX8_lineIsDue 1 = .ok (.getfield 18, 3) := by decide +kernel
theorem dX8_lineIsDue_4 : decode cX8_lineIsDue 4 = .ok (.iconst 4, 1) := by decide +kernel
theorem dX8_lineIsDue_5 : decode cX8_lineIsDue 5 = .ok (.iand, 1) := by decide +kernel
theorem dX8_lineIsDue_6 : decode cX8_lineIsDue 6 = .ok (.ifCond .eq 19, 3) := by decide +kernel
theorem dX8_lineIsDue_9 : decode cX8_lineIsDue 9 = .ok (.aload_n 0, 1) := by decide +kernel
theorem dX8_lineIsDue_10 : decode cX8_lineIsDue 10 = .ok (.invokevirtual 66, 3) := by decide +kernel
theorem dX8_lineIsDue_13 : decode cX8_lineIsDue 13 = .ok (.aload_n 0, 1) := by decide +kernel
theorem dX8_lineIsDue_14 : decode cX8_lineIsDue 14 = .ok (.getfield 57, 3) := by decide +kernel
theorem dX8_lineIsDue_17 : decode cX8_lineIsDue 17 = .ok (.iand, 1) := by decide +kernel
theorem dX8_lineIsDue_18 : decode cX8_lineIsDue 18 = .ok (.ifCond .eq 7, 3) := by decide +kernel
theorem dX8_lineIsDue_21 : decode cX8_lineIsDue 21 = .ok (.iconst 1, 1) := by decide +kernel
theorem dX8_lineIsDue_22 : decode cX8_lineIsDue 22 = .ok (.goto 4, 3) := by decide +kernel
theorem dX8_lineIsDue_25 : decode cX8_lineIsDue 25 = .ok (.iconst 0, 1) := by decide +kernel
theorem dX8_lineIsDue_26 : decode cX8_lineIsDue 26 = .ok (.ireturn, 1) := by decide +kernel
set_option maxRecDepth 1000000 in
theorem ggX8_retire_X8_countOne : GoodIn wsX8_retire wsX8_countOne := goodIn_r _ [9, 10, 11, 12, 13, 14, 24, 25, 26, 27, 28, 29, 30, 31, 32, 33, 34, 35, 36] (by decide +kernel) (by decide +kernel)
set_option maxRecDepth 1000000 in
theorem gX8_retire_X8_countOne : GoodIn wsX8_retire (wsV RX8 85 RX8 yX8_countOne wsX8_countOne) := goodIn_app (goodIn_of _ (by decide +kernel)) ggX8_retire_X8_countOne
set_option maxRecDepth 1000000 in
theorem ggX8_retire_X4_at : GoodIn wsX8_retire wsX4_at := goodIn_r _ [19, 20, 21, 22, 23, 37, 38, 39, 40] (by decide +kernel) (by decide +kernel)
set_option maxRecDepth 1000000 in
theorem gX8_retire_X4_at : GoodIn wsX8_retire (wsV RX8 88 RX4 yX4_at wsX4_at) := goodIn_app (goodIn_of _ (by decide +kernel)) ggX8_retire_X4_at
theorem dX8_retire_0 : decode cX8_retire 0 = .ok (.aload_n 0, 1) := by decide +kernel
theorem dX8_retire_1 : decode cX8_retire 1 = .ok (.dup, 1) := by decide +kernel
theorem dX8_retire_2 : decode cX8_retire 2 = .ok (.getfield 60, 3) := by decide +kernel
theorem dX8_retire_5 : decode cX8_retire 5 = .ok (.iconst 1, 1) := by decide +kernel
theorem dX8_retire_6 : decode cX8_retire 6 = .ok (.iadd, 1) := by decide +kernel
theorem dX8_retire_7 : decode cX8_retire 7 = .ok (.putfield 60, 3) := by decide +kernel
theorem dX8_retire_10 : decode cX8_retire 10 = .ok (.aload_n 0, 1) := by decide +kernel
theorem dX8_retire_11 : decode cX8_retire 11 = .ok (.invokevirtual 85, 3) := by decide +kernel
theorem dX8_retire_14 : decode cX8_retire 14 = .ok (.aload_n 0, 1) := by decide +kernel
theorem dX8_retire_15 : decode cX8_retire 15 = .ok (.dup, 1) := by decide +kernel
theorem dX8_retire_16 : decode cX8_retire 16 = .ok (.getfield 44, 3) := by decide +kernel
theorem dX8_retire_19 : decode cX8_retire 19 = .ok (.aload_n 0, 1) := by decide +kernel
theorem dX8_retire_20 : decode cX8_retire 20 = .ok (.getfield 12, 3) := by decide +kernel
theorem dX8_retire_23 : decode cX8_retire 23 = .ok (.aload_n 0, 1) := by decide +kernel
theorem dX8_retire_24 : decode cX8_retire 24 = .ok (.getfield 60, 3) := by decide +kernel
theorem dX8_retire_27 : decode cX8_retire 27 = .ok (.invokevirtual 88, 3) := by decide +kernel
theorem dX8_retire_30 : decode cX8_retire 30 = .ok (.aload_n 0, 1) := by decide +kernel
theorem dX8_retire_31 : decode cX8_retire 31 = .ok (.getfield 63, 3) := by decide +kernel
theorem dX8_retire_34 : decode cX8_retire 34 = .ok (.iand, 1) := by decide +kernel
theorem dX8_retire_35 : decode cX8_retire 35 = .ok (.ior, 1) := by decide +kernel
theorem dX8_retire_36 : decode cX8_retire 36 = .ok (.putfield 44, 3) := by decide +kernel
theorem dX8_retire_39 : decode cX8_retire 39 = .ok (.return_, 1) := by decide +kernel
set_option maxRecDepth 1000000 in
theorem ggX8_status_X4_at : GoodIn wsX8_status wsX4_at := goodIn_r _ [9, 10, 11, 12, 13, 27, 28, 29, 30] (by decide +kernel) (by decide +kernel)
set_option maxRecDepth 1000000 in
theorem gX8_status_X4_at : GoodIn wsX8_status (wsV RX8 88 RX4 yX4_at wsX4_at) := goodIn_app (goodIn_of _ (by decide +kernel)) ggX8_status_X4_at
theorem dX8_status_0 : decode cX8_status 0 = .ok (.aload_n 0, 1) := by decide +kernel
theorem dX8_status_1 : decode cX8_status 1 = .ok (.getfield 12, 3) := by decide +kernel
theorem dX8_status_4 : decode cX8_status 4 = .ok (.aload_n 0, 1) := by decide +kernel
theorem dX8_status_5 : decode cX8_status 5 = .ok (.getfield 60, 3) := by decide +kernel
theorem dX8_status_8 : decode cX8_status 8 = .ok (.invokevirtual 88, 3) := by decide +kernel
theorem dX8_status_11 : decode cX8_status 11 = .ok (.aload_n 0, 1) := by decide +kernel
theorem dX8_status_12 : decode cX8_status 12 = .ok (.getfield 63, 3) := by decide +kernel
theorem dX8_status_15 : decode cX8_status 15 = .ok (.iconst (-1), 1) := by decide +kernel
theorem dX8_status_16 : decode cX8_status 16 = .ok (.ixor, 1) := by decide +kernel
theorem dX8_status_17 : decode cX8_status 17 = .ok (.iand, 1) := by decide +kernel
theorem dX8_status_18 : decode cX8_status 18 = .ok (.aload_n 0, 1) := by decide +kernel
theorem dX8_status_19 : decode cX8_status 19 = .ok (.getfield 44, 3) := by decide +kernel
theorem dX8_status_22 : decode cX8_status 22 = .ok (.aload_n 0, 1) := by decide +kernel
theorem dX8_status_23 : decode cX8_status 23 = .ok (.getfield 63, 3) := by decide +kernel
theorem dX8_status_26 : decode cX8_status 26 = .ok (.iand, 1) := by decide +kernel
theorem dX8_status_27 : decode cX8_status 27 = .ok (.ior, 1) := by decide +kernel
theorem dX8_status_28 : decode cX8_status 28 = .ok (.ireturn, 1) := by decide +kernel
theorem dX8_countOne_0 : decode cX8_countOne 0 = .ok (.aload_n 0, 1) := by decide +kernel
theorem dX8_countOne_1 : decode cX8_countOne 1 = .ok (.getfield 54, 3) := by decide +kernel
theorem dX8_countOne_4 : decode cX8_countOne 4 = .ok (.bipush 29, 2) := by decide +kernel
theorem dX8_countOne_6 : decode cX8_countOne 6 = .ok (.iushr, 1) := by decide +kernel
theorem dX8_countOne_7 : decode cX8_countOne 7 = .ok (.istore_n 1, 1) := by decide +kernel
theorem dX8_countOne_8 : decode cX8_countOne 8 = .ok (.iload_n 1, 1) := by decide +kernel
theorem dX8_countOne_9 : decode cX8_countOne 9 = .ok (.ifCond .ne 4, 3) := by decide +kernel
theorem dX8_countOne_12 : decode cX8_countOne 12 = .ok (.return_, 1) := by decide +kernel
theorem dX8_countOne_13 : decode cX8_countOne 13 = .ok (.aload_n 0, 1) := by decide +kernel
theorem dX8_countOne_14 : decode cX8_countOne 14 = .ok (.aload_n 0, 1) := by decide +kernel
theorem dX8_countOne_15 : decode cX8_countOne 15 = .ok (.getfield 51, 3) := by decide +kernel
theorem dX8_countOne_18 : decode cX8_countOne 18 = .ok (.iconst 1, 1) := by decide +kernel
theorem dX8_countOne_19 : decode cX8_countOne 19 = .ok (.iadd, 1) := by decide +kernel
theorem dX8_countOne_20 : decode cX8_countOne 20 = .ok (.ldc 74, 2) := by decide +kernel
theorem dX8_countOne_22 : decode cX8_countOne 22 = .ok (.iand, 1) := by decide +kernel
theorem dX8_countOne_23 : decode cX8_countOne 23 = .ok (.putfield 51, 3) := by decide +kernel
theorem dX8_countOne_26 : decode cX8_countOne 26 = .ok (.aload_n 0, 1) := by decide +kernel
theorem dX8_countOne_27 : decode cX8_countOne 27 = .ok (.getfield 51, 3) := by decide +kernel
theorem dX8_countOne_30 : decode cX8_countOne 30 = .ok (.aload_n 0, 1) := by decide +kernel
theorem dX8_countOne_31 : decode cX8_countOne 31 = .ok (.getfield 54, 3) := by decide +kernel
theorem dX8_countOne_34 : decode cX8_countOne 34 = .ok (.ldc 74, 2) := by decide +kernel
theorem dX8_countOne_36 : decode cX8_countOne 36 = .ok (.iand, 1) := by decide +kernel
theorem dX8_countOne_37 : decode cX8_countOne 37 = .ok (.if_icmp .eq 4, 3) := by decide +kernel
theorem dX8_countOne_40 : decode cX8_countOne 40 = .ok (.return_, 1) := by decide +kernel
theorem dX8_countOne_41 : decode cX8_countOne 41 = .ok (.aload_n 0, 1) := by decide +kernel
theorem dX8_countOne_42 : decode cX8_countOne 42 = .ok (.dup, 1) := by decide +kernel
theorem dX8_countOne_43 : decode cX8_countOne 43 = .ok (.getfield 54, 3) := by decide +kernel
theorem dX8_countOne_46 : decode cX8_countOne 46 = .ok (.ldc 84, 2) := by decide +kernel
theorem dX8_countOne_48 : decode cX8_countOne 48 = .ok (.ior, 1) := by decide +kernel
theorem dX8_countOne_49 : decode cX8_countOne 49 = .ok (.putfield 54, 3) := by decide +kernel
theorem dX8_countOne_52 : decode cX8_countOne 52 = .ok (.iload_n 1, 1) := by decide +kernel
theorem dX8_countOne_53 : decode cX8_countOne 53 = .ok (.iconst 1, 1) := by decide +kernel
theorem dX8_countOne_54 : decode cX8_countOne 54 = .ok (.if_icmp .ne 8, 3) := by decide +kernel
theorem dX8_countOne_57 : decode cX8_countOne 57 = .ok (.aload_n 0, 1) := by decide +kernel
theorem dX8_countOne_58 : decode cX8_countOne 58 = .ok (.iconst 0, 1) := by decide +kernel
theorem dX8_countOne_59 : decode cX8_countOne 59 = .ok (.putfield 51, 3) := by decide +kernel
theorem dX8_countOne_62 : decode cX8_countOne 62 = .ok (.iload_n 1, 1) := by decide +kernel
theorem dX8_countOne_63 : decode cX8_countOne 63 = .ok (.iconst 2, 1) := by decide +kernel
theorem dX8_countOne_64 : decode cX8_countOne 64 = .ok (.if_icmp .ne 14, 3) := by decide +kernel
theorem dX8_countOne_67 : decode cX8_countOne 67 = .ok (.aload_n 0, 1) := by decide +kernel
theorem dX8_countOne_68 : decode cX8_countOne 68 = .ok (.dup, 1) := by decide +kernel
theorem dX8_countOne_69 : decode cX8_countOne 69 = .ok (.getfield 54, 3) := by decide +kernel
theorem dX8_countOne_72 : decode cX8_countOne 72 = .ok (.ldc 91, 2) := by decide +kernel
theorem dX8_countOne_74 : decode cX8_countOne 74 = .ok (.iand, 1) := by decide +kernel
theorem dX8_countOne_75 : decode cX8_countOne 75 = .ok (.putfield 54, 3) := by decide +kernel
theorem dX8_countOne_78 : decode cX8_countOne 78 = .ok (.return_, 1) := by decide +kernel
