theorem dX11_reads_103 : decode cX11_reads 103 = .ok (.iload_n 2, 1) := by decide +kernel
theorem dX11_reads_104 : decode cX11_reads 104 = .ok (.bipush 34, 2) := by decide +kernel
theorem dX11_reads_106 : decode cX11_reads 106 = .ok (.if_icmp .eq 33, 3) := by decide +kernel
theorem dX11_reads_109 : decode cX11_reads 109 = .ok (.iload_n 2, 1) := by decide +kernel
theorem dX11_reads_110 : decode cX11_reads 110 = .ok (.bipush 35, 2) := by decide +kernel
theorem dX11_reads_112 : decode cX11_reads 112 = .ok (.if_icmp .le 9, 3) := by decide +kernel
theorem dX11_reads_115 : decode cX11_reads 115 = .ok (.iload_n 2, 1) := by decide +kernel
theorem dX11_reads_116 : decode cX11_reads 116 = .ok (.bipush 39, 2) := by decide +kernel
theorem dX11_reads_118 : decode cX11_reads 118 = .ok (.if_icmp .lt 21, 3) := by decide +kernel
theorem dX11_reads_121 : decode cX11_reads 121 = .ok (.iload_n 2, 1) := by decide +kernel
theorem dX11_reads_122 : decode cX11_reads 122 = .ok (.bipush 40, 2) := by decide +kernel
theorem dX11_reads_124 : decode cX11_reads 124 = .ok (.if_icmp .eq 15, 3) := by decide +kernel
theorem dX11_reads_127 : decode cX11_reads 127 = .ok (.iload_n 2, 1) := by decide +kernel
theorem dX11_reads_128 : decode cX11_reads 128 = .ok (.bipush 46, 2) := by decide +kernel
theorem dX11_reads_130 : decode cX11_reads 130 = .ok (.if_icmp .eq 9, 3) := by decide +kernel
theorem dX11_reads_133 : decode cX11_reads 133 = .ok (.iload_n 2, 1) := by decide +kernel
theorem dX11_reads_134 : decode cX11_reads 134 = .ok (.bipush 49, 2) := by decide +kernel
theorem dX11_reads_136 : decode cX11_reads 136 = .ok (.if_icmp .ne 7, 3) := by decide +kernel
theorem dX11_reads_139 : decode cX11_reads 139 = .ok (.iconst 1, 1) := by decide +kernel
theorem dX11_reads_140 : decode cX11_reads 140 = .ok (.goto 4, 3) := by decide +kernel
theorem dX11_reads_143 : decode cX11_reads 143 = .ok (.iconst 0, 1) := by decide +kernel
theorem dX11_reads_144 : decode cX11_reads 144 = .ok (.istore 4, 2) := by decide +kernel
theorem dX11_reads_146 : decode cX11_reads 146 = .ok (.iload_n 0, 1) := by decide +kernel
theorem dX11_reads_147 : decode cX11_reads 147 = .ok (.invokestatic 157, 3) := by decide +kernel
theorem dX11_reads_150 : decode cX11_reads 150 = .ok (.istore 5, 2) := by decide +kernel
theorem dX11_reads_152 : decode cX11_reads 152 = .ok (.iload_n 3, 1) := by decide +kernel
theorem dX11_reads_153 : decode cX11_reads 153 = .ok (.ifCond .eq 14, 3) := by decide +kernel
theorem dX11_reads_156 : decode cX11_reads 156 = .ok (.iload_n 0, 1) := by decide +kernel
theorem dX11_reads_157 : decode cX11_reads 157 = .ok (.bipush 16, 2) := by decide +kernel
theorem dX11_reads_159 : decode cX11_reads 159 = .ok (.ishr, 1) := by decide +kernel
theorem dX11_reads_160 : decode cX11_reads 160 = .ok (.bipush 31, 2) := by decide +kernel
theorem dX11_reads_162 : decode cX11_reads 162 = .ok (.iand, 1) := by decide +kernel
theorem dX11_reads_163 : decode cX11_reads 163 = .ok (.iload_n 1, 1) := by decide +kernel
theorem dX11_reads_164 : decode cX11_reads 164 = .ok (.if_icmp .eq 35, 3) := by decide +kernel
theorem dX11_reads_167 : decode cX11_reads 167 = .ok (.iload 4, 2) := by decide +kernel
theorem dX11_reads_169 : decode cX11_reads 169 = .ok (.ifCond .eq 14, 3) := by decide +kernel
theorem dX11_reads_172 : decode cX11_reads 172 = .ok (.iload_n 0, 1) := by decide +kernel
theorem dX11_reads_173 : decode cX11_reads 173 = .ok (.bipush 11, 2) := by decide +kernel
theorem dX11_reads_175 : decode cX11_reads 175 = .ok (.ishr, 1) := by decide +kernel
theorem dX11_reads_176 : decode cX11_reads 176 = .ok (.bipush 31, 2) := by decide +kernel
theorem dX11_reads_178 : decode cX11_reads 178 = .ok (.iand, 1) := by decide +kernel
theorem dX11_reads_179 : decode cX11_reads 179 = .ok (.iload_n 1, 1) := by decide +kernel
theorem dX11_reads_180 : decode cX11_reads 180 = .ok (.if_icmp .eq 19, 3) := by decide +kernel
theorem dX11_reads_183 : decode cX11_reads 183 = .ok (.iload 5, 2) := by decide +kernel
theorem dX11_reads_185 : decode cX11_reads 185 = .ok (.ifCond .eq 18, 3) := by decide +kernel
theorem dX11_reads_188 : decode cX11_reads 188 = .ok (.iload_n 0, 1) := by decide +kernel
theorem dX11_reads_189 : decode cX11_reads 189 = .ok (.bipush 21, 2) := by decide +kernel
theorem dX11_reads_191 : decode cX11_reads 191 = .ok (.ishr, 1) := by decide +kernel
theorem dX11_reads_192 : decode cX11_reads 192 = .ok (.bipush 31, 2) := by decide +kernel
theorem dX11_reads_194 : decode cX11_reads 194 = .ok (.iand, 1) := by decide +kernel
theorem dX11_reads_195 : decode cX11_reads 195 = .ok (.iload_n 1, 1) := by decide +kernel
theorem dX11_reads_196 : decode cX11_reads 196 = .ok (.if_icmp .ne 7, 3) := by decide +kernel
theorem dX11_reads_199 : decode cX11_reads 199 = .ok (.iconst 1, 1) := by decide +kernel
theorem dX11_reads_200 : decode cX11_reads 200 = .ok (.goto 4, 3) := by decide +kernel
theorem dX11_reads_203 : decode cX11_reads 203 = .ok (.iconst 0, 1) := by decide +kernel
theorem dX11_reads_204 : decode cX11_reads 204 = .ok (.ireturn, 1) := by decide +kernel
set_option maxRecDepth 1000000 in
theorem ggX11_readsFlag_X11_op : GoodIn wsX11_readsFlag wsX11_op := goodIn_r _ [4] (by decide +kernel) (by decide +kernel)
set_option maxRecDepth 1000000 in
theorem gX11_readsFlag_X11_op : GoodIn wsX11_readsFlag (va_wsS RX11 138 yX11_op wsX11_op) := goodIn_app (goodIn_of _ (by decide +kernel)) ggX11_readsFlag_X11_op
theorem dX11_readsFlag_0 : decode cX11_readsFlag 0 = .ok (.iload_n 0, 1) := by decide +kernel
theorem dX11_readsFlag_1 : decode cX11_readsFlag 1 = .ok (.invokestatic 138, 3) := by decide +kernel
theorem dX11_readsFlag_4 : decode cX11_readsFlag 4 = .ok (.bipush 22, 2) := by decide +kernel
theorem dX11_readsFlag_6 : decode cX11_readsFlag 6 = .ok (.if_icmp .eq 21, 3) := by decide +kernel
theorem dX11_readsFlag_9 : decode cX11_readsFlag 9 = .ok (.iload_n 0, 1) := by decide +kernel
theorem dX11_readsFlag_10 : decode cX11_readsFlag 10 = .ok (.invokestatic 138, 3) := by decide +kernel
theorem dX11_readsFlag_13 : decode cX11_readsFlag 13 = .ok (.bipush 23, 2) := by decide +kernel
theorem dX11_readsFlag_15 : decode cX11_readsFlag 15 = .ok (.if_icmp .eq 12, 3) := by decide +kernel
theorem dX11_readsFlag_18 : decode cX11_readsFlag 18 = .ok (.iload_n 0, 1) := by decide +kernel
theorem dX11_readsFlag_19 : decode cX11_readsFlag 19 = .ok (.invokestatic 138, 3) := by decide +kernel
theorem dX11_readsFlag_22 : decode cX11_readsFlag 22 = .ok (.bipush 46, 2) := by decide +kernel
theorem dX11_readsFlag_24 : decode cX11_readsFlag 24 = .ok (.if_icmp .ne 7, 3) := by decide +kernel
theorem dX11_readsFlag_27 : decode cX11_readsFlag 27 = .ok (.iconst 1, 1) := by decide +kernel
theorem dX11_readsFlag_28 : decode cX11_readsFlag 28 = .ok (.goto 4, 3) := by decide +kernel
theorem dX11_readsFlag_31 : decode cX11_readsFlag 31 = .ok (.iconst 0, 1) := by decide +kernel
theorem dX11_readsFlag_32 : decode cX11_readsFlag 32 = .ok (.ireturn, 1) := by decide +kernel
set_option maxRecDepth 1000000 in
theorem ggX11_pairs_X11_isSingle : GoodIn wsX11_pairs wsX11_isSingle := goodIn_r _ [8, 9, 10, 7, 11, 12, 13, 14] (by decide +kernel) (by decide +kernel)
set_option maxRecDepth 1000000 in
theorem gX11_pairs_X11_isSingle : GoodIn wsX11_pairs (va_wsS RX11 166 yX11_isSingle wsX11_isSingle) := goodIn_app (goodIn_of _ (by decide +kernel)) ggX11_pairs_X11_isSingle
set_option maxRecDepth 1000000 in
theorem ggX11_pairs_X11_isBranch : GoodIn wsX11_pairs wsX11_isBranch := goodIn_r _ [17, 12, 13, 7, 14] (by decide +kernel) (by decide +kernel)
set_option maxRecDepth 1000000 in
theorem gX11_pairs_X11_isBranch : GoodIn wsX11_pairs (va_wsS RX11 172 yX11_isBranch wsX11_isBranch) := goodIn_app (goodIn_of _ (by decide +kernel)) ggX11_pairs_X11_isBranch
set_option maxRecDepth 1000000 in
theorem ggX11_pairs_X11_isMemory : GoodIn wsX11_pairs wsX11_isMemory := goodIn_r _ [20, 12, 13, 7, 14] (by decide +kernel) (by decide +kernel)
set_option maxRecDepth 1000000 in
theorem gX11_pairs_X11_isMemory : GoodIn wsX11_pairs (va_wsS RX11 154 yX11_isMemory wsX11_isMemory) := goodIn_app (goodIn_of _ (by decide +kernel)) ggX11_pairs_X11_isMemory
set_option maxRecDepth 1000000 in
theorem ggX11_pairs_X11_isSlow : GoodIn wsX11_pairs wsX11_isSlow := goodIn_r _ [23, 24, 25, 7, 26, 12, 13, 14, 27, 28, 29, 30, 31, 32] (by decide +kernel) (by decide +kernel)
set_option maxRecDepth 1000000 in
theorem gX11_pairs_X11_isSlow : GoodIn wsX11_pairs (va_wsS RX11 175 yX11_isSlow wsX11_isSlow) := goodIn_app (goodIn_of _ (by decide +kernel)) ggX11_pairs_X11_isSlow
set_option maxRecDepth 1000000 in
theorem ggX11_pairs_X11_writes : GoodIn wsX11_pairs wsX11_writes := goodIn_r _ [35, 12, 13, 7, 14, 18, 19, 20, 36, 37, 38, 27, 28, 29, 9, 10, 11] (by decide +kernel) (by decide +kernel)
set_option maxRecDepth 1000000 in
theorem gX11_pairs_X11_writes : GoodIn wsX11_pairs (va_wsS RX11 178 yX11_writes wsX11_writes) := goodIn_app (goodIn_of _ (by decide +kernel)) ggX11_pairs_X11_writes
set_option maxRecDepth 1000000 in
theorem ggX11_pairs_X11_reads : GoodIn wsX11_pairs wsX11_reads := goodIn_r _ [41, 12, 13, 7, 14, 9, 10, 11, 18, 19, 20, 36, 37, 38] (by decide +kernel) (by decide +kernel)
set_option maxRecDepth 1000000 in
theorem gX11_pairs_X11_reads : GoodIn wsX11_pairs (va_wsS RX11 181 yX11_reads wsX11_reads) := goodIn_app (goodIn_of _ (by decide +kernel)) ggX11_pairs_X11_reads
set_option maxRecDepth 1000000 in
theorem ggX11_pairs_X11_writesFlag : GoodIn wsX11_pairs wsX11_writesFlag := goodIn_r _ [44, 9, 10, 7, 11, 12, 13, 14] (by decide +kernel) (by decide +kernel)
set_option maxRecDepth 1000000 in
theorem gX11_pairs_X11_writesFlag : GoodIn wsX11_pairs (va_wsS RX11 185 yX11_writesFlag wsX11_writesFlag) := goodIn_app (goodIn_of _ (by decide +kernel)) ggX11_pairs_X11_writesFlag
set_option maxRecDepth 1000000 in
theorem ggX11_pairs_X11_readsFlag : GoodIn wsX11_pairs wsX11_readsFlag := goodIn_r _ [47, 12, 13, 7, 14] (by decide +kernel) (by decide +kernel)
set_option maxRecDepth 1000000 in
theorem gX11_pairs_X11_readsFlag : GoodIn wsX11_pairs (va_wsS RX11 188 yX11_readsFlag wsX11_readsFlag) := goodIn_app (goodIn_of _ (by decide +kernel)) ggX11_pairs_X11_readsFlag
set_option maxRecDepth 1000000 in
theorem ggX11_pairs_X11_writesCarry : GoodIn wsX11_pairs wsX11_writesCarry := goodIn_r _ [50, 12, 13, 7, 14] (by decide +kernel) (by decide +kernel)
set_option maxRecDepth 1000000 in
theorem gX11_pairs_X11_writesCarry : GoodIn wsX11_pairs (va_wsS RX11 191 yX11_writesCarry wsX11_writesCarry) := goodIn_app (goodIn_of _ (by decide +kernel)) ggX11_pairs_X11_writesCarry
set_option maxRecDepth 1000000 in
theorem ggX11_pairs_X11_readsCarry : GoodIn wsX11_pairs wsX11_readsCarry := goodIn_r _ [53, 12, 13, 7, 14] (by decide +kernel) (by decide +kernel)
set_option maxRecDepth 1000000 in
theorem gX11_pairs_X11_readsCarry : GoodIn wsX11_pairs (va_wsS RX11 194 yX11_readsCarry wsX11_readsCarry) := goodIn_app (goodIn_of _ (by decide +kernel)) ggX11_pairs_X11_readsCarry
set_option maxRecDepth 1000000 in
theorem ggX11_pairs_X11_isSum : GoodIn wsX11_pairs wsX11_isSum := goodIn_r _ [29, 12, 13, 7, 14] (by decide +kernel) (by decide +kernel)
set_option maxRecDepth 1000000 in
theorem gX11_pairs_X11_isSum : GoodIn wsX11_pairs (va_wsS RX11 145 yX11_isSum wsX11_isSum) := goodIn_app (goodIn_of _ (by decide +kernel)) ggX11_pairs_X11_isSum
set_option maxRecDepth 1000000 in
theorem ggX11_pairs_X11_op : GoodIn wsX11_pairs wsX11_op := goodIn_r _ [14] (by decide +kernel) (by decide +kernel)
set_option maxRecDepth 1000000 in
theorem gX11_pairs_X11_op : GoodIn wsX11_pairs (va_wsS RX11 138 yX11_op wsX11_op) := goodIn_app (goodIn_of _ (by decide +kernel)) ggX11_pairs_X11_op
theorem dX11_pairs_0 : decode cX11_pairs 0 = .ok (.aload_n 0, 1) := by decide +kernel
theorem dX11_pairs_1 : decode cX11_pairs 1 = .ok (.getfield 160, 3) := by decide +kernel
theorem dX11_pairs_4 : decode cX11_pairs 4 = .ok (.ifCond .eq 10, 3) := by decide +kernel
theorem dX11_pairs_7 : decode cX11_pairs 7 = .ok (.aload_n 0, 1) := by decide +kernel
theorem dX11_pairs_8 : decode cX11_pairs 8 = .ok (.getfield 119, 3) := by decide +kernel
theorem dX11_pairs_11 : decode cX11_pairs 11 = .ok (.ifCond .le 70, 3) := by decide +kernel
theorem dX11_pairs_14 : decode cX11_pairs 14 = .ok (.aload_n 0, 1) := by decide +kernel
theorem dX11_pairs_15 : decode cX11_pairs 15 = .ok (.getfield 160, 3) := by decide +kernel
theorem dX11_pairs_18 : decode cX11_pairs 18 = .ok (.ifCond .eq 13, 3) := by decide +kernel
theorem dX11_pairs_21 : decode cX11_pairs 21 = .ok (.aload_n 0, 1) := by decide +kernel
theorem dX11_pairs_22 : decode cX11_pairs 22 = .ok (.getfield 163, 3) := by decide +kernel
theorem dX11_pairs_25 : decode cX11_pairs 25 = .ok (.invokestatic 166, 3) := by decide +kernel
theorem dX11_pairs_28 : decode cX11_pairs 28 = .ok (.ifCond .ne 20, 3) := by decide +kernel
theorem dX11_pairs_31 : decode cX11_pairs 31 = .ok (.aload_n 0, 1) := by decide +kernel
theorem dX11_pairs_32 : decode cX11_pairs 32 = .ok (.getfield 119, 3) := by decide +kernel
theorem dX11_pairs_35 : decode cX11_pairs 35 = .ok (.ifCond .ne 17, 3) := by decide +kernel
theorem dX11_pairs_38 : decode cX11_pairs 38 = .ok (.aload_n 0, 1) := by decide +kernel
theorem dX11_pairs_39 : decode cX11_pairs 39 = .ok (.getfield 169, 3) := by decide +kernel
theorem dX11_pairs_42 : decode cX11_pairs 42 = .ok (.invokestatic 166, 3) := by decide +kernel
theorem dX11_pairs_45 : decode cX11_pairs 45 = .ok (.ifCond .eq 7, 3) := by decide +kernel
theorem dX11_pairs_48 : decode cX11_pairs 48 = .ok (.iconst 1, 1) := by decide +kernel
theorem dX11_pairs_49 : decode cX11_pairs 49 = .ok (.goto 4, 3) := by decide +kernel
theorem dX11_pairs_52 : decode cX11_pairs 52 = .ok (.iconst 0, 1) := by decide +kernel
theorem dX11_pairs_53 : decode cX11_pairs 53 = .ok (.istore_n 1, 1) := by decide +kernel
theorem dX11_pairs_54 : decode cX11_pairs 54 = .ok (.iload_n 1, 1) := by decide +kernel
theorem dX11_pairs_55 : decode cX11_pairs 55 = .ok (.ifCond .ne 24, 3) := by decide +kernel
theorem dX11_pairs_58 : decode cX11_pairs 58 = .ok (.aload_n 0, 1) := by decide +kernel
theorem dX11_pairs_59 : decode cX11_pairs 59 = .ok (.getfield 160, 3) := by decide +kernel
theorem dX11_pairs_62 : decode cX11_pairs 62 = .ok (.ifCond .eq 13, 3) := by decide +kernel
theorem dX11_pairs_65 : decode cX11_pairs 65 = .ok (.aload_n 0, 1) := by decide +kernel
theorem dX11_pairs_66 : decode cX11_pairs 66 = .ok (.getfield 163, 3) := by decide +kernel
theorem dX11_pairs_69 : decode cX11_pairs 69 = .ok (.invokestatic 172, 3) := by decide +kernel
theorem dX11_pairs_72 : decode cX11_pairs 72 = .ok (.ifCond .ne 7, 3) := by decide +kernel
theorem dX11_pairs_75 : decode cX11_pairs 75 = .ok (.iconst 1, 1) := by decide +kernel
theorem dX11_pairs_76 : decode cX11_pairs 76 = .ok (.goto 4, 3) := by decide +kernel
theorem dX11_pairs_79 : decode cX11_pairs 79 = .ok (.iconst 0, 1) := by decide +kernel
theorem dX11_pairs_80 : decode cX11_pairs 80 = .ok (.ireturn, 1) := by decide +kernel
theorem dX11_pairs_81 : decode cX11_pairs 81 = .ok (.aload_n 0, 1) := by decide +kernel
theorem dX11_pairs_82 : decode cX11_pairs 82 = .ok (.getfield 163, 3) := by decide +kernel
theorem dX11_pairs_85 : decode cX11_pairs 85 = .ok (.invokestatic 166, 3) := by decide +kernel
theorem dX11_pairs_88 : decode cX11_pairs 88 = .ok (.ifCond .ne 146, 3) := by decide +kernel
theorem dX11_pairs_91 : decode cX11_pairs 91 = .ok (.aload_n 0, 1) := by decide +kernel
theorem dX11_pairs_92 : decode cX11_pairs 92 = .ok (.getfield 169, 3) := by decide +kernel
theorem dX11_pairs_95 : decode cX11_pairs 95 = .ok (.invokestatic 166, 3) := by decide +kernel
theorem dX11_pairs_98 : decode cX11_pairs 98 = .ok (.ifCond .ne 136, 3) := by decide +kernel
theorem dX11_pairs_101 : decode cX11_pairs 101 = .ok (.aload_n 0, 1) := by decide +kernel
theorem dX11_pairs_102 : decode cX11_pairs 102 = .ok (.getfield 163, 3) := by decide +kernel
theorem dX11_pairs_105 : decode cX11_pairs 105 = .ok (.invokestatic 172, 3) := by decide +kernel
theorem dX11_pairs_108 : decode cX11_pairs 108 = .ok (.ifCond .ne 126, 3) := by decide +kernel
theorem dX11_pairs_111 : decode cX11_pairs 111 = .ok (.aload_n 0, 1) := by decide +kernel
theorem dX11_pairs_112 : decode cX11_pairs 112 = .ok (.getfield 163, 3) := by decide +kernel
theorem dX11_pairs_115 : decode cX11_pairs 115 = .ok (.invokestatic 154, 3) := by decide +kernel
theorem dX11_pairs_118 : decode cX11_pairs 118 = .ok (.ifCond .eq 13, 3) := by decide +kernel
theorem dX11_pairs_121 : decode cX11_pairs 121 = .ok (.aload_n 0, 1) := by decide +kernel
theorem dX11_pairs_122 : decode cX11_pairs 122 = .ok (.getfield 169, 3) := by decide +kernel
theorem dX11_pairs_125 : decode cX11_pairs 125 = .ok (.invokestatic 154, 3) := by decide +kernel
theorem dX11_pairs_128 : decode cX11_pairs 128 = .ok (.ifCond .ne 106, 3) := by decide +kernel
theorem dX11_pairs_131 : decode cX11_pairs 131 = .ok (.aload_n 0, 1) := by decide +kernel
theorem dX11_pairs_132 : decode cX11_pairs 132 = .ok (.getfield 163, 3) := by decide +kernel
theorem dX11_pairs_135 : decode cX11_pairs 135 = .ok (.invokestatic 175, 3) := by decide +kernel
theorem dX11_pairs_138 : decode cX11_pairs 138 = .ok (.ifCond .eq 13, 3) := by decide +kernel
theorem dX11_pairs_141 : decode cX11_pairs 141 = .ok (.aload_n 0, 1) := by decide +kernel
theorem dX11_pairs_142 : decode cX11_pairs 142 = .ok (.getfield 169, 3) := by decide +kernel
theorem dX11_pairs_145 : decode cX11_pairs 145 = .ok (.invokestatic 175, 3) := by decide +kernel
theorem dX11_pairs_148 : decode cX11_pairs 148 = .ok (.ifCond .ne 86, 3) := by decide +kernel
theorem dX11_pairs_151 : decode cX11_pairs 151 = .ok (.aload_n 0, 1) := by decide +kernel
theorem dX11_pairs_152 : decode cX11_pairs 152 = .ok (.getfield 169, 3) := by decide +kernel
theorem dX11_pairs_155 : decode cX11_pairs 155 = .ok (.aload_n 0, 1) := by decide +kernel
theorem dX11_pairs_156 : decode cX11_pairs 156 = .ok (.getfield 163, 3) := by decide +kernel
theorem dX11_pairs_159 : decode cX11_pairs 159 = .ok (.invokestatic 178, 3) := by decide +kernel
theorem dX11_pairs_162 : decode cX11_pairs 162 = .ok (.invokestatic 181, 3) := by decide +kernel
theorem dX11_pairs_165 : decode cX11_pairs 165 = .ok (.ifCond .ne 69, 3) := by decide +kernel
theorem dX11_pairs_168 : decode cX11_pairs 168 = .ok (.aload_n 0, 1) := by decide +kernel
theorem dX11_pairs_169 : decode cX11_pairs 169 = .ok (.getfield 163, 3) := by decide +kernel
theorem dX11_pairs_172 : decode cX11_pairs 172 = .ok (.invokestatic 185, 3) := by decide +kernel
theorem dX11_pairs_175 : decode cX11_pairs 175 = .ok (.ifCond .eq 13, 3) := by decide +kernel
theorem dX11_pairs_178 : decode cX11_pairs 178 = .ok (.aload_n 0, 1) := by decide +kernel
theorem dX11_pairs_179 : decode cX11_pairs 179 = .ok (.getfield 169, 3) := by decide +kernel
theorem dX11_pairs_182 : decode cX11_pairs 182 = .ok (.invokestatic 188, 3) := by decide +kernel
theorem dX11_pairs_185 : decode cX11_pairs 185 = .ok (.ifCond .ne 49, 3) := by decide +kernel
theorem dX11_pairs_188 : decode cX11_pairs 188 = .ok (.aload_n 0, 1) := by decide +kernel
theorem dX11_pairs_189 : decode cX11_pairs 189 = .ok (.getfield 163, 3) := by decide +kernel
theorem dX11_pairs_192 : decode cX11_pairs 192 = .ok (.invokestatic 191, 3) := by decide +kernel
theorem dX11_pairs_195 : decode cX11_pairs 195 = .ok (.ifCond .eq 13, 3) := by decide +kernel
theorem dX11_pairs_198 : decode cX11_pairs 198 = .ok (.aload_n 0, 1) := by decide +kernel
theorem dX11_pairs_199 : decode cX11_pairs 199 = .ok (.getfield 169, 3) := by decide +kernel
theorem dX11_pairs_202 : decode cX11_pairs 202 = .ok (.invokestatic 194, 3) := by decide +kernel
theorem dX11_pairs_205 : decode cX11_pairs 205 = .ok (.ifCond .ne 29, 3) := by decide +kernel
theorem dX11_pairs_208 : decode cX11_pairs 208 = .ok (.aload_n 0, 1) := by decide +kernel
theorem dX11_pairs_209 : decode cX11_pairs 209 = .ok (.getfield 163, 3) := by decide +kernel
theorem dX11_pairs_212 : decode cX11_pairs 212 = .ok (.invokestatic 145, 3) := by decide +kernel
theorem dX11_pairs_215 : decode cX11_pairs 215 = .ok (.ifCond .eq 15, 3) := by decide +kernel
theorem dX11_pairs_218 : decode cX11_pairs 218 = .ok (.aload_n 0, 1) := by decide +kernel
theorem dX11_pairs_219 : decode cX11_pairs 219 = .ok (.getfield 169, 3) := by decide +kernel
theorem dX11_pairs_222 : decode cX11_pairs 222 = .ok (.invokestatic 138, 3) := by decide +kernel
theorem dX11_pairs_225 : decode cX11_pairs 225 = .ok (.bipush 41, 2) := by decide +kernel
theorem dX11_pairs_227 : decode cX11_pairs 227 = .ok (.if_icmp .eq 7, 3) := by decide +kernel
theorem dX11_pairs_230 : decode cX11_pairs 230 = .ok (.iconst 1, 1) := by decide +kernel
theorem dX11_pairs_231 : decode cX11_pairs 231 = .ok (.goto 4, 3) := by decide +kernel
theorem dX11_pairs_234 : decode cX11_pairs 234 = .ok (.iconst 0, 1) := by decide +kernel
theorem dX11_pairs_235 : decode cX11_pairs 235 = .ok (.ireturn, 1) := by decide +kernel
set_option maxRecDepth 1000000 in
theorem ggX11_look_X11_codeAt : GoodIn wsX11_look wsX11_codeAt := goodIn_r _ [22, 13, 23, 24, 25, 26, 27, 28, 29, 21, 30, 15, 31, 32, 33, 34, 35, 36, 37, 134, 135, 136, 137, 138, 139, 140, 141, 142, 143, 144, 145, 146, 147, 148, 149, 150, 151, 152, 153, 154, 155, 156, 157, 158, 159, 160, 161, 162, 163, 164, 165, 166, 167, 168, 169, 170, 171, 172, 173, 174, 175, 176, 177, 178, 179, 180, 181, 182, 183, 184, 185, 186, 187, 188, 189, 190, 191, 192, 193] rfl (by decide +kernel)
set_option maxRecDepth 1000000 in
theorem gX11_look_X11_codeAt : GoodIn wsX11_look (wsV RX11 230 RX11 yX11_codeAt wsX11_codeAt) := goodIn_app (goodIn_of _ (by decide +kernel)) ggX11_look_X11_codeAt
set_option maxRecDepth 1000000 in
theorem ggX11_look_X11_wordIn : GoodIn wsX11_look wsX11_wordIn := goodIn_r _ [41, 42, 134, 135, 136, 137, 138, 139, 140, 141, 142, 143, 144, 145, 146, 147, 148, 149, 150, 151, 152, 153, 154, 155, 156, 157, 158, 159, 160, 161, 162, 163, 164, 165, 166, 167, 168, 169, 170, 171, 172, 173, 174, 175, 176, 177, 178, 179, 180, 181, 182, 183, 184, 185, 186, 187, 188, 189, 190, 191, 192, 193] rfl (by decide +kernel)
set_option maxRecDepth 1000000 in
theorem gX11_look_X11_wordIn : GoodIn wsX11_look (wsV RX11 233 RX11 yX11_wordIn wsX11_wordIn) := goodIn_app (goodIn_of _ (by decide +kernel)) ggX11_look_X11_wordIn
set_option maxRecDepth 1000000 in
theorem ggX11_look_X11_has : GoodIn wsX11_look wsX11_has := goodIn_r _ [30, 15, 134, 135, 136, 137, 138, 139, 140, 141, 142, 143, 144, 145, 146, 147, 148, 149, 150, 151, 152, 153, 154, 155, 156, 157, 158, 159, 160, 161, 162, 163, 164, 165, 166, 167, 168, 169, 170, 171, 172, 173, 174, 175, 176, 177, 178, 179, 180, 181, 182, 183, 184, 185, 186, 187, 188, 189, 190, 191, 192, 193] rfl (by decide +kernel)
set_option maxRecDepth 1000000 in
theorem gX11_look_X11_has : GoodIn wsX11_look (wsV RX11 122 RX11 yX11_has wsX11_has) := goodIn_app (goodIn_of _ (by decide +kernel)) ggX11_look_X11_has
set_option maxRecDepth 1000000 in
theorem ggX11_look_X11_status : GoodIn wsX11_look wsX11_status := goodIn_r _ [46, 15, 47, 48, 49, 21, 50, 51, 52, 53, 54, 134, 135, 136, 137, 138, 139, 140, 141, 142, 143, 144, 145, 146, 147, 148, 149, 150, 151, 152, 153, 154, 155, 156, 157, 158, 159, 160, 161, 162, 163, 164, 165, 166, 167, 168, 169, 170, 171, 172, 173, 174, 175, 176, 177, 178, 179, 180, 181, 182, 183, 184, 185, 186, 187, 188, 189, 190, 191, 192, 193] rfl (by decide +kernel)
set_option maxRecDepth 1000000 in
theorem gX11_look_X11_status : GoodIn wsX11_look (wsV RX11 236 RX11 yX11_status wsX11_status) := goodIn_app (goodIn_of _ (by decide +kernel)) ggX11_look_X11_status
set_option maxRecDepth 1000000 in
theorem ggX11_look_X11_isNone : GoodIn wsX11_look wsX11_isNone := goodIn_r _ [57, 58, 59, 21, 60] (by decide +kernel) (by decide +kernel)
set_option maxRecDepth 1000000 in
theorem gX11_look_X11_isNone : GoodIn wsX11_look (va_wsS RX11 142 yX11_isNone wsX11_isNone) := goodIn_app (goodIn_of _ (by decide +kernel)) ggX11_look_X11_isNone
set_option maxRecDepth 1000000 in
theorem ggX11_look_X11_isBranch : GoodIn wsX11_look wsX11_isBranch := goodIn_r _ [63, 58, 59, 21, 60] (by decide +kernel) (by decide +kernel)
set_option maxRecDepth 1000000 in
theorem gX11_look_X11_isBranch : GoodIn wsX11_look (va_wsS RX11 172 yX11_isBranch wsX11_isBranch) := goodIn_app (goodIn_of _ (by decide +kernel)) ggX11_look_X11_isBranch
set_option maxRecDepth 1000000 in
theorem ggX11_look_X11_op : GoodIn wsX11_look wsX11_op := goodIn_r _ [60] (by decide +kernel) (by decide +kernel)
set_option maxRecDepth 1000000 in
theorem gX11_look_X11_op : GoodIn wsX11_look (va_wsS RX11 138 yX11_op wsX11_op) := goodIn_app (goodIn_of _ (by decide +kernel)) ggX11_look_X11_op
set_option maxRecDepth 1000000 in
theorem ggX11_look_X11_perform : GoodIn wsX11_look wsX11_perform := goodIn_r _ [67, 14, 68, 69, 10, 11, 1, 4, 12, 70, 9, 58, 59, 21, 60, 71, 72, 73, 74, 7, 75, 76, 6, 77, 78, 79, 80, 81, 82, 83, 3, 16, 84, 85, 86, 87, 88, 89, 90, 23, 27, 28, 29, 30, 15, 91, 92, 93, 94, 95, 96, 97, 98, 99, 100, 5, 101, 102, 103, 104, 105, 106, 107, 108, 109, 110, 111, 2, 8, 112, 113, 42, 114, 115, 116, 117, 118, 119, 120, 24, 121, 122, 31, 32, 33, 34, 35, 36, 25, 37, 123, 124, 125, 126, 127, 128, 129, 53, 43, 44, 45, 46, 47, 48, 49, 50, 51, 52, 54, 130, 131, 132, 133, 134, 135, 136, 137, 138, 139, 140, 141, 142, 143, 144, 145, 146, 147, 148, 149, 150, 151, 152, 153, 154, 155, 156, 157, 158, 159, 160, 161, 162, 163, 164, 165, 166, 167, 168, 169, 170, 171, 172, 173, 174, 175, 176, 177, 178, 179, 180, 181, 182, 183, 184, 185, 186, 187, 188, 189, 190, 191, 192, 193] rfl (by decide +kernel)
set_option maxRecDepth 1000000 in
theorem gX11_look_X11_perform : GoodIn wsX11_look (wsV RX11 243 RX11 yX11_perform wsX11_perform) := goodIn_app (goodIn_of _ (by decide +kernel)) ggX11_look_X11_perform
theorem dX11_look_0 : decode cX11_look 0 = .ok (.aload_n 0, 1) := by decide +kernel
theorem dX11_look_1 : decode cX11_look 1 = .ok (.iconst 0, 1) := by decide +kernel
theorem dX11_look_2 : decode cX11_look 2 = .ok (.putfield 197, 3) := by decide +kernel
theorem dX11_look_5 : decode cX11_look 5 = .ok (.aload_n 0, 1) := by decide +kernel
theorem dX11_look_6 : decode cX11_look 6 = .ok (.iconst 0, 1) := by decide +kernel
theorem dX11_look_7 : decode cX11_look 7 = .ok (.putfield 200, 3) := by decide +kernel
theorem dX11_look_10 : decode cX11_look 10 = .ok (.aload_n 0, 1) := by decide +kernel
theorem dX11_look_11 : decode cX11_look 11 = .ok (.iconst 0, 1) := by decide +kernel
theorem dX11_look_12 : decode cX11_look 12 = .ok (.putfield 203, 3) := by decide +kernel
theorem dX11_look_15 : decode cX11_look 15 = .ok (.aload_n 0, 1) := by decide +kernel
theorem dX11_look_16 : decode cX11_look 16 = .ok (.iconst (-1), 1) := by decide +kernel
theorem dX11_look_17 : decode cX11_look 17 = .ok (.putfield 206, 3) := by decide +kernel
theorem dX11_look_20 : decode cX11_look 20 = .ok (.aload_n 0, 1) := by decide +kernel
theorem dX11_look_21 : decode cX11_look 21 = .ok (.iconst (-1), 1) := by decide +kernel
theorem dX11_look_22 : decode cX11_look 22 = .ok (.putfield 209, 3) := by decide +kernel
theorem dX11_look_25 : decode cX11_look 25 = .ok (.aload_n 0, 1) := by decide +kernel
theorem dX11_look_26 : decode cX11_look 26 = .ok (.iconst (-1), 1) := by decide +kernel
theorem dX11_look_27 : decode cX11_look 27 = .ok (.putfield 212, 3) := by decide +kernel
theorem dX11_look_30 : decode cX11_look 30 = .ok (.aload_n 0, 1) := by decide +kernel
theorem dX11_look_31 : decode cX11_look 31 = .ok (.iconst 0, 1) := by decide +kernel
theorem dX11_look_32 : decode cX11_look 32 = .ok (.putfield 215, 3) := by decide +kernel
theorem dX11_look_35 : decode cX11_look 35 = .ok (.aload_n 0, 1) := by decide +kernel
theorem dX11_look_36 : decode cX11_look 36 = .ok (.iconst (-1), 1) := by decide +kernel
theorem dX11_look_37 : decode cX11_look 37 = .ok (.putfield 218, 3) := by decide +kernel
theorem dX11_look_40 : decode cX11_look 40 = .ok (.aload_n 0, 1) := by decide +kernel
theorem dX11_look_41 : decode cX11_look 41 = .ok (.iconst 0, 1) := by decide +kernel
theorem dX11_look_42 : decode cX11_look 42 = .ok (.putfield 221, 3) := by decide +kernel
theorem dX11_look_45 : decode cX11_look 45 = .ok (.aload_n 0, 1) := by decide +kernel
theorem dX11_look_46 : decode cX11_look 46 = .ok (.aload_n 0, 1) := by decide +kernel
theorem dX11_look_47 : decode cX11_look 47 = .ok (.getfield 56, 3) := by decide +kernel
theorem dX11_look_50 : decode cX11_look 50 = .ok (.iconst 4, 1) := by decide +kernel
theorem dX11_look_51 : decode cX11_look 51 = .ok (.iadd, 1) := by decide +kernel
theorem dX11_look_52 : decode cX11_look 52 = .ok (.putfield 224, 3) := by decide +kernel
theorem dX11_look_55 : decode cX11_look 55 = .ok (.aload_n 0, 1) := by decide +kernel
theorem dX11_look_56 : decode cX11_look 56 = .ok (.iconst 0, 1) := by decide +kernel
theorem dX11_look_57 : decode cX11_look 57 = .ok (.putfield 227, 3) := by decide +kernel
theorem dX11_look_60 : decode cX11_look 60 = .ok (.aload_n 0, 1) := by decide +kernel
theorem dX11_look_61 : decode cX11_look 61 = .ok (.aload_n 0, 1) := by decide +kernel
theorem dX11_look_62 : decode cX11_look 62 = .ok (.getfield 56, 3) := by decide +kernel
theorem dX11_look_65 : decode cX11_look 65 = .ok (.invokevirtual 230, 3) := by decide +kernel
theorem dX11_look_68 : decode cX11_look 68 = .ok (.istore_n 1, 1) := by decide +kernel
theorem dX11_look_69 : decode cX11_look 69 = .ok (.aload_n 0, 1) := by decide +kernel
theorem dX11_look_70 : decode cX11_look 70 = .ok (.aload_n 0, 1) := by decide +kernel
theorem dX11_look_71 : decode cX11_look 71 = .ok (.getfield 119, 3) := by decide +kernel
theorem dX11_look_74 : decode cX11_look 74 = .ok (.ifCond .le 7, 3) := by decide +kernel
theorem dX11_look_77 : decode cX11_look 77 = .ok (.iconst 0, 1) := by decide +kernel
theorem dX11_look_78 : decode cX11_look 78 = .ok (.goto 8, 3) := by decide +kernel
theorem dX11_look_81 : decode cX11_look 81 = .ok (.aload_n 0, 1) := by decide +kernel
theorem dX11_look_82 : decode cX11_look 82 = .ok (.iload_n 1, 1) := by decide +kernel
theorem dX11_look_83 : decode cX11_look 83 = .ok (.invokevirtual 233, 3) := by decide +kernel
theorem dX11_look_86 : decode cX11_look 86 = .ok (.putfield 169, 3) := by decide +kernel
theorem dX11_look_89 : decode cX11_look 89 = .ok (.aload_n 0, 1) := by decide +kernel
theorem dX11_look_90 : decode cX11_look 90 = .ok (.iconst 2, 1) := by decide +kernel
theorem dX11_look_91 : decode cX11_look 91 = .ok (.invokevirtual 122, 3) := by decide +kernel
theorem dX11_look_94 : decode cX11_look 94 = .ok (.ifCond .eq 26, 3) := by decide +kernel
theorem dX11_look_97 : decode cX11_look 97 = .ok (.aload_n 0, 1) := by decide +kernel
theorem dX11_look_98 : decode cX11_look 98 = .ok (.getfield 18, 3) := by decide +kernel
theorem dX11_look_101 : decode cX11_look 101 = .ok (.iconst 5, 1) := by decide +kernel
theorem dX11_look_102 : decode cX11_look 102 = .ok (.iaload, 1) := by decide +kernel
theorem dX11_look_103 : decode cX11_look 103 = .ok (.bipush 28, 2) := by decide +kernel
theorem dX11_look_105 : decode cX11_look 105 = .ok (.ishr, 1) := by decide +kernel
theorem dX11_look_106 : decode cX11_look 106 = .ok (.iconst 1, 1) := by decide +kernel
theorem dX11_look_107 : decode cX11_look 107 = .ok (.iand, 1) := by decide +kernel
theorem dX11_look_108 : decode cX11_look 108 = .ok (.iconst 1, 1) := by decide +kernel
theorem dX11_look_109 : decode cX11_look 109 = .ok (.if_icmp .ne 11, 3) := by decide +kernel
theorem dX11_look_112 : decode cX11_look 112 = .ok (.aload_n 0, 1) := by decide +kernel
theorem dX11_look_113 : decode cX11_look 113 = .ok (.iconst 5, 1) := by decide +kernel
theorem dX11_look_114 : decode cX11_look 114 = .ok (.putfield 197, 3) := by decide +kernel
theorem dX11_look_117 : decode cX11_look 117 = .ok (.goto 162, 3) := by decide +kernel
theorem dX11_look_120 : decode cX11_look 120 = .ok (.aload_n 0, 1) := by decide +kernel
theorem dX11_look_121 : decode cX11_look 121 = .ok (.iconst 4, 1) := by decide +kernel
theorem dX11_look_122 : decode cX11_look 122 = .ok (.invokevirtual 122, 3) := by decide +kernel
theorem dX11_look_125 : decode cX11_look 125 = .ok (.ifCond .eq 27, 3) := by decide +kernel
theorem dX11_look_128 : decode cX11_look 128 = .ok (.aload_n 0, 1) := by decide +kernel
theorem dX11_look_129 : decode cX11_look 129 = .ok (.invokevirtual 236, 3) := by decide +kernel
theorem dX11_look_132 : decode cX11_look 132 = .ok (.aload_n 0, 1) := by decide +kernel
theorem dX11_look_133 : decode cX11_look 133 = .ok (.getfield 18, 3) := by decide +kernel
theorem dX11_look_136 : decode cX11_look 136 = .ok (.bipush 6, 2) := by decide +kernel
theorem dX11_look_138 : decode cX11_look 138 = .ok (.iaload, 1) := by decide +kernel
theorem dX11_look_139 : decode cX11_look 139 = .ok (.iand, 1) := by decide +kernel
theorem dX11_look_140 : decode cX11_look 140 = .ok (.ifCond .eq 12, 3) := by decide +kernel
theorem dX11_look_143 : decode cX11_look 143 = .ok (.aload_n 0, 1) := by decide +kernel
theorem dX11_look_144 : decode cX11_look 144 = .ok (.bipush 8, 2) := by decide +kernel
theorem dX11_look_146 : decode cX11_look 146 = .ok (.putfield 197, 3) := by decide +kernel
theorem dX11_look_149 : decode cX11_look 149 = .ok (.goto 130, 3) := by decide +kernel
theorem dX11_look_152 : decode cX11_look 152 = .ok (.aload_n 0, 1) := by decide +kernel
theorem dX11_look_153 : decode cX11_look 153 = .ok (.getfield 119, 3) := by decide +kernel
theorem dX11_look_156 : decode cX11_look 156 = .ok (.ifCond .le 27, 3) := by decide +kernel
theorem dX11_look_159 : decode cX11_look 159 = .ok (.aload_n 0, 1) := by decide +kernel
theorem dX11_look_160 : decode cX11_look 160 = .ok (.aload_n 0, 1) := by decide +kernel
theorem dX11_look_161 : decode cX11_look 161 = .ok (.getfield 119, 3) := by decide +kernel
theorem dX11_look_164 : decode cX11_look 164 = .ok (.putfield 197, 3) := by decide +kernel
theorem dX11_look_167 : decode cX11_look 167 = .ok (.aload_n 0, 1) := by decide +kernel
theorem dX11_look_168 : decode cX11_look 168 = .ok (.iconst 1, 1) := by decide +kernel
theorem dX11_look_169 : decode cX11_look 169 = .ok (.putfield 200, 3) := by decide +kernel
theorem dX11_look_172 : decode cX11_look 172 = .ok (.aload_n 0, 1) := by decide +kernel
theorem dX11_look_173 : decode cX11_look 173 = .ok (.aload_n 0, 1) := by decide +kernel
theorem dX11_look_174 : decode cX11_look 174 = .ok (.getfield 56, 3) := by decide +kernel
theorem dX11_look_177 : decode cX11_look 177 = .ok (.putfield 240, 3) := by decide +kernel
theorem dX11_look_180 : decode cX11_look 180 = .ok (.goto 99, 3) := by decide +kernel
theorem dX11_look_183 : decode cX11_look 183 = .ok (.aload_n 0, 1) := by decide +kernel
theorem dX11_look_184 : decode cX11_look 184 = .ok (.getfield 169, 3) := by decide +kernel
theorem dX11_look_187 : decode cX11_look 187 = .ok (.invokestatic 142, 3) := by decide +kernel
theorem dX11_look_190 : decode cX11_look 190 = .ok (.ifCond .ne 76, 3) := by decide +kernel
theorem dX11_look_193 : decode cX11_look 193 = .ok (.aload_n 0, 1) := by decide +kernel
theorem dX11_look_194 : decode cX11_look 194 = .ok (.getfield 59, 3) := by decide +kernel
theorem dX11_look_197 : decode cX11_look 197 = .ok (.ifCond .eq 25, 3) := by decide +kernel
theorem dX11_look_200 : decode cX11_look 200 = .ok (.aload_n 0, 1) := by decide +kernel
theorem dX11_look_201 : decode cX11_look 201 = .ok (.getfield 169, 3) := by decide +kernel
theorem dX11_look_204 : decode cX11_look 204 = .ok (.invokestatic 172, 3) := by decide +kernel
theorem dX11_look_207 : decode cX11_look 207 = .ok (.ifCond .ne 59, 3) := by decide +kernel
theorem dX11_look_210 : decode cX11_look 210 = .ok (.aload_n 0, 1) := by decide +kernel
theorem dX11_look_211 : decode cX11_look 211 = .ok (.getfield 169, 3) := by decide +kernel
theorem dX11_look_214 : decode cX11_look 214 = .ok (.invokestatic 138, 3) := by decide +kernel
theorem dX11_look_217 : decode cX11_look 217 = .ok (.bipush 33, 2) := by decide +kernel
theorem dX11_look_219 : decode cX11_look 219 = .ok (.if_icmp .eq 47, 3) := by decide +kernel
theorem dX11_look_222 : decode cX11_look 222 = .ok (.aload_n 0, 1) := by decide +kernel
theorem dX11_look_223 : decode cX11_look 223 = .ok (.iconst 1, 1) := by decide +kernel
theorem dX11_look_224 : decode cX11_look 224 = .ok (.invokevirtual 122, 3) := by decide +kernel
theorem dX11_look_227 : decode cX11_look 227 = .ok (.ifCond .ne 48, 3) := by decide +kernel
theorem dX11_look_230 : decode cX11_look 230 = .ok (.aload_n 0, 1) := by decide +kernel
theorem dX11_look_231 : decode cX11_look 231 = .ok (.getfield 169, 3) := by decide +kernel
theorem dX11_look_234 : decode cX11_look 234 = .ok (.invokestatic 138, 3) := by decide +kernel
theorem dX11_look_237 : decode cX11_look 237 = .ok (.bipush 30, 2) := by decide +kernel
theorem dX11_look_239 : decode cX11_look 239 = .ok (.if_icmp .eq 27, 3) := by decide +kernel
theorem dX11_look_242 : decode cX11_look 242 = .ok (.aload_n 0, 1) := by decide +kernel
theorem dX11_look_243 : decode cX11_look 243 = .ok (.getfield 169, 3) := by decide +kernel
theorem dX11_look_246 : decode cX11_look 246 = .ok (.invokestatic 138, 3) := by decide +kernel
theorem dX11_look_249 : decode cX11_look 249 = .ok (.bipush 31, 2) := by decide +kernel
theorem dX11_look_251 : decode cX11_look 251 = .ok (.if_icmp .eq 15, 3) := by decide +kernel
theorem dX11_look_254 : decode cX11_look 254 = .ok (.aload_n 0, 1) := by decide +kernel
theorem dX11_look_255 : decode cX11_look 255 = .ok (.getfield 169, 3) := by decide +kernel
theorem dX11_look_258 : decode cX11_look 258 = .ok (.invokestatic 138, 3) := by decide +kernel
theorem dX11_look_261 : decode cX11_look 261 = .ok (.bipush 33, 2) := by decide +kernel
theorem dX11_look_263 : decode cX11_look 263 = .ok (.if_icmp .ne 12, 3) := by decide +kernel
theorem dX11_look_266 : decode cX11_look 266 = .ok (.aload_n 0, 1) := by decide +kernel
theorem dX11_look_267 : decode cX11_look 267 = .ok (.bipush 7, 2) := by decide +kernel
theorem dX11_look_269 : decode cX11_look 269 = .ok (.putfield 197, 3) := by decide +kernel
theorem dX11_look_272 : decode cX11_look 272 = .ok (.goto 7, 3) := by decide +kernel
theorem dX11_look_275 : decode cX11_look 275 = .ok (.aload_n 0, 1) := by decide +kernel
theorem dX11_look_276 : decode cX11_look 276 = .ok (.invokevirtual 243, 3) := by decide +kernel
theorem dX11_look_279 : decode cX11_look 279 = .ok (.return_, 1) := by decide +kernel
theorem dX11_give_0 : decode cX11_give 0 = .ok (.aload_n 0, 1) := by decide +kernel
theorem dX11_give_1 : decode cX11_give 1 = .ok (.iload_n 1, 1) := by decide +kernel
theorem dX11_give_2 : decode cX11_give 2 = .ok (.putfield 203, 3) := by decide +kernel
theorem dX11_give_5 : decode cX11_give 5 = .ok (.aload_n 0, 1) := by decide +kernel
theorem dX11_give_6 : decode cX11_give 6 = .ok (.iload_n 2, 1) := by decide +kernel
theorem dX11_give_7 : decode cX11_give 7 = .ok (.putfield 240, 3) := by decide +kernel
theorem dX11_give_10 : decode cX11_give 10 = .ok (.return_, 1) := by decide +kernel
set_option maxRecDepth 1000000 in
theorem ggX11_perform_X11_op : GoodIn wsX11_perform wsX11_op := goodIn_r _ [14] (by decide +kernel) (by decide +kernel)
set_option maxRecDepth 1000000 in
theorem gX11_perform_X11_op : GoodIn wsX11_perform (va_wsS RX11 138 yX11_op wsX11_op) := goodIn_app (goodIn_of _ (by decide +kernel)) ggX11_perform_X11_op
set_option maxRecDepth 1000000 in
theorem ggX11_perform_X11_work : GoodIn wsX11_perform wsX11_work := goodIn_r _ [18, 1, 19, 20, 21, 22, 6, 23, 24, 13, 25, 11, 12, 14, 26, 27, 28, 29, 30, 31, 32, 33, 34, 35, 36, 37, 38, 39, 3, 40, 41, 42, 43, 44, 45, 46, 47, 48, 49, 50, 51, 52, 53, 54, 55, 56, 57, 58, 59, 113, 114, 115, 116, 117, 118, 119, 120, 121, 122, 123, 124, 125, 126, 127, 128, 129, 130, 131, 132, 133, 134, 135, 136, 137, 138, 139, 140, 141, 142, 143, 144, 145, 146, 147, 148, 149, 150, 151, 152, 153, 154, 155, 156, 157, 158, 159, 160, 161, 162, 163, 164, 165, 166, 167, 168, 169, 170, 171, 172] rfl (by decide +kernel)
set_option maxRecDepth 1000000 in
theorem gX11_perform_X11_work : GoodIn wsX11_perform (wsV RX11 247 RX11 yX11_work wsX11_work) := goodIn_app (goodIn_of _ (by decide +kernel)) ggX11_perform_X11_work
set_option maxRecDepth 1000000 in
theorem ggX11_perform_X11_isMemory : GoodIn wsX11_perform wsX11_isMemory := goodIn_r _ [62, 11, 12, 13, 14] (by decide +kernel) (by decide +kernel)
set_option maxRecDepth 1000000 in
theorem gX11_perform_X11_isMemory : GoodIn wsX11_perform (va_wsS RX11 154 yX11_isMemory wsX11_isMemory) := goodIn_app (goodIn_of _ (by decide +kernel)) ggX11_perform_X11_isMemory
set_option maxRecDepth 1000000 in
theorem ggX11_perform_X11_access : GoodIn wsX11_perform wsX11_access := goodIn_r _ [66, 1, 6, 67, 31, 68, 69, 2, 3, 70, 71, 72, 73, 13, 74, 11, 12, 14, 75, 76, 77, 78, 39, 79, 80, 81, 40, 41, 42, 43, 44, 82, 83, 84, 85, 86, 87, 88, 89, 26, 27, 28, 29, 30, 113, 114, 115, 116, 117, 118, 119, 120, 121, 122, 123, 124, 125, 126, 127, 128, 129, 130, 131, 132, 133, 134, 135, 136, 137, 138, 139, 140, 141, 142, 143, 144, 145, 146, 147, 148, 149, 150, 151, 152, 153, 154, 155, 156, 157, 158, 159, 160, 161, 162, 163, 164, 165, 166, 167, 168, 169, 170, 171, 172] rfl (by decide +kernel)
set_option maxRecDepth 1000000 in
theorem gX11_perform_X11_access : GoodIn wsX11_perform (wsV RX11 251 RX11 yX11_access wsX11_access) := goodIn_app (goodIn_of _ (by decide +kernel)) ggX11_perform_X11_access
set_option maxRecDepth 1000000 in
theorem ggX11_perform_X11_compare : GoodIn wsX11_perform wsX11_compare := goodIn_r _ [92, 39] (by decide +kernel) (by decide +kernel)
set_option maxRecDepth 1000000 in
theorem gX11_perform_X11_compare : GoodIn wsX11_perform (va_wsS RX11 254 yX11_compare wsX11_compare) := goodIn_app (goodIn_of _ (by decide +kernel)) ggX11_perform_X11_compare
set_option maxRecDepth 1000000 in
theorem ggX11_perform_X11_has : GoodIn wsX11_perform wsX11_has := goodIn_r _ [43, 44, 113, 114, 115, 116, 117, 118, 119, 120, 121, 122, 123, 124, 125, 126, 127, 128, 129, 130, 131, 132, 133, 134, 135, 136, 137, 138, 139, 140, 141, 142, 143, 144, 145, 146, 147, 148, 149, 150, 151, 152, 153, 154, 155, 156, 157, 158, 159, 160, 161, 162, 163, 164, 165, 166, 167, 168, 169, 170, 171, 172] rfl (by decide +kernel)
set_option maxRecDepth 1000000 in
theorem gX11_perform_X11_has : GoodIn wsX11_perform (wsV RX11 122 RX11 yX11_has wsX11_has) := goodIn_app (goodIn_of _ (by decide +kernel)) ggX11_perform_X11_has
set_option maxRecDepth 1000000 in
theorem ggX11_perform_X11_give : GoodIn wsX11_perform wsX11_give := goodIn_r _ [29, 30, 31, 113, 114, 115, 116, 117, 118, 119, 120, 121, 122, 123, 124, 125, 126, 127, 128, 129, 130, 131, 132, 133, 134, 135, 136, 137, 138, 139, 140, 141, 142, 143, 144, 145, 146, 147, 148, 149, 150, 151, 152, 153, 154, 155, 156, 157, 158, 159, 160, 161, 162, 163, 164, 165, 166, 167, 168, 169, 170, 171, 172] rfl (by decide +kernel)
set_option maxRecDepth 1000000 in
theorem gX11_perform_X11_give : GoodIn wsX11_perform (wsV RX11 261 RX11 yX11_give wsX11_give) := goodIn_app (goodIn_of _ (by decide +kernel)) ggX11_perform_X11_give
set_option maxRecDepth 1000000 in
theorem ggX11_perform_X11_special : GoodIn wsX11_perform wsX11_special := goodIn_r _ [96, 97, 20, 86, 44, 98, 99, 100, 13, 101, 102, 103, 104, 105, 106, 107, 108, 109, 110, 111, 112, 87, 113, 114, 115, 116, 117, 118, 119, 120, 121, 122, 123, 124, 125, 126, 127, 128, 129, 130, 131, 132, 133, 134, 135, 136, 137, 138, 139, 140, 141, 142, 143, 144, 145, 146, 147, 148, 149, 150, 151, 152, 153, 154, 155, 156, 157, 158, 159, 160, 161, 162, 163, 164, 165, 166, 167, 168, 169, 170, 171, 172] rfl (by decide +kernel)
set_option maxRecDepth 1000000 in
theorem gX11_perform_X11_special : GoodIn wsX11_perform (wsV RX11 265 RX11 yX11_special wsX11_special) := goodIn_app (goodIn_of _ (by decide +kernel)) ggX11_perform_X11_special
theorem dX11_perform_0 : decode cX11_perform 0 = .ok (.aload_n 0, 1) := by decide +kernel
theorem dX11_perform_1 : decode cX11_perform 1 = .ok (.getfield 169, 3) := by decide +kernel
theorem dX11_perform_4 : decode cX11_perform 4 = .ok (.invokestatic 138, 3) := by decide +kernel
theorem dX11_perform_7 : decode cX11_perform 7 = .ok (.istore_n 1, 1) := by decide +kernel
theorem dX11_perform_8 : decode cX11_perform 8 = .ok (.aload_n 0, 1) := by decide +kernel
theorem dX11_perform_9 : decode cX11_perform 9 = .ok (.getfield 169, 3) := by decide +kernel
theorem dX11_perform_12 : decode cX11_perform 12 = .ok (.bipush 21, 2) := by decide +kernel
theorem dX11_perform_14 : decode cX11_perform 14 = .ok (.ishr, 1) := by decide +kernel
theorem dX11_perform_15 : decode cX11_perform 15 = .ok (.bipush 31, 2) := by decide +kernel
theorem dX11_perform_17 : decode cX11_perform 17 = .ok (.iand, 1) := by decide +kernel
theorem dX11_perform_18 : decode cX11_perform 18 = .ok (.istore_n 2, 1) := by decide +kernel
theorem dX11_perform_19 : decode cX11_perform 19 = .ok (.aload_n 0, 1) := by decide +kernel
theorem dX11_perform_20 : decode cX11_perform 20 = .ok (.getfield 14, 3) := by decide +kernel
theorem dX11_perform_23 : decode cX11_perform 23 = .ok (.aload_n 0, 1) := by decide +kernel
theorem dX11_perform_24 : decode cX11_perform 24 = .ok (.getfield 169, 3) := by decide +kernel
theorem dX11_perform_27 : decode cX11_perform 27 = .ok (.bipush 16, 2) := by decide +kernel
theorem dX11_perform_29 : decode cX11_perform 29 = .ok (.ishr, 1) := by decide +kernel
theorem dX11_perform_30 : decode cX11_perform 30 = .ok (.bipush 31, 2) := by decide +kernel
theorem dX11_perform_32 : decode cX11_perform 32 = .ok (.iand, 1) := by decide +kernel
theorem dX11_perform_33 : decode cX11_perform 33 = .ok (.iaload, 1) := by decide +kernel
theorem dX11_perform_34 : decode cX11_perform 34 = .ok (.istore_n 3, 1) := by decide +kernel
theorem dX11_perform_35 : decode cX11_perform 35 = .ok (.aload_n 0, 1) := by decide +kernel
theorem dX11_perform_36 : decode cX11_perform 36 = .ok (.getfield 14, 3) := by decide +kernel
theorem dX11_perform_39 : decode cX11_perform 39 = .ok (.aload_n 0, 1) := by decide +kernel
theorem dX11_perform_40 : decode cX11_perform 40 = .ok (.getfield 169, 3) := by decide +kernel
theorem dX11_perform_43 : decode cX11_perform 43 = .ok (.bipush 11, 2) := by decide +kernel
theorem dX11_perform_45 : decode cX11_perform 45 = .ok (.ishr, 1) := by decide +kernel
theorem dX11_perform_46 : decode cX11_perform 46 = .ok (.bipush 31, 2) := by decide +kernel
theorem dX11_perform_48 : decode cX11_perform 48 = .ok (.iand, 1) := by decide +kernel
theorem dX11_perform_49 : decode cX11_perform 49 = .ok (.iaload, 1) := by decide +kernel
theorem dX11_perform_50 : decode cX11_perform 50 = .ok (.istore 4, 2) := by decide +kernel
theorem dX11_perform_52 : decode cX11_perform 52 = .ok (.aload_n 0, 1) := by decide +kernel
theorem dX11_perform_53 : decode cX11_perform 53 = .ok (.getfield 169, 3) := by decide +kernel
theorem dX11_perform_56 : decode cX11_perform 56 = .ok (.ldc 246, 2) := by decide +kernel
theorem dX11_perform_58 : decode cX11_perform 58 = .ok (.iand, 1) := by decide +kernel
theorem dX11_perform_59 : decode cX11_perform 59 = .ok (.istore 5, 2) := by decide +kernel
theorem dX11_perform_61 : decode cX11_perform 61 = .ok (.aload_n 0, 1) := by decide +kernel
theorem dX11_perform_62 : decode cX11_perform 62 = .ok (.getfield 169, 3) := by decide +kernel
theorem dX11_perform_65 : decode cX11_perform 65 = .ok (.bipush 16, 2) := by decide +kernel
theorem dX11_perform_67 : decode cX11_perform 67 = .ok (.ishl, 1) := by decide +kernel
theorem dX11_perform_68 : decode cX11_perform 68 = .ok (.bipush 16, 2) := by decide +kernel
theorem dX11_perform_70 : decode cX11_perform 70 = .ok (.ishr, 1) := by decide +kernel
theorem dX11_perform_71 : decode cX11_perform 71 = .ok (.istore 6, 2) := by decide +kernel
theorem dX11_perform_73 : decode cX11_perform 73 = .ok (.aload_n 0, 1) := by decide +kernel
theorem dX11_perform_74 : decode cX11_perform 74 = .ok (.getfield 169, 3) := by decide +kernel
theorem dX11_perform_77 : decode cX11_perform 77 = .ok (.bipush 6, 2) := by decide +kernel
theorem dX11_perform_79 : decode cX11_perform 79 = .ok (.ishl, 1) := by decide +kernel
theorem dX11_perform_80 : decode cX11_perform 80 = .ok (.bipush 6, 2) := by decide +kernel
theorem dX11_perform_82 : decode cX11_perform 82 = .ok (.ishr, 1) := by decide +kernel
theorem dX11_perform_83 : decode cX11_perform 83 = .ok (.istore 7, 2) := by decide +kernel
theorem dX11_perform_85 : decode cX11_perform 85 = .ok (.iload_n 1, 1) := by decide +kernel
theorem dX11_perform_86 : decode cX11_perform 86 = .ok (.bipush 18, 2) := by decide +kernel
theorem dX11_perform_88 : decode cX11_perform 88 = .ok (.if_icmp .lt 21, 3) := by decide +kernel
theorem dX11_perform_91 : decode cX11_perform 91 = .ok (.iload_n 1, 1) := by decide +kernel
theorem dX11_perform_92 : decode cX11_perform 92 = .ok (.bipush 33, 2) := by decide +kernel
theorem dX11_perform_94 : decode cX11_perform 94 = .ok (.if_icmp .le 9, 3) := by decide +kernel
theorem dX11_perform_97 : decode cX11_perform 97 = .ok (.iload_n 1, 1) := by decide +kernel
theorem dX11_perform_98 : decode cX11_perform 98 = .ok (.bipush 51, 2) := by decide +kernel
theorem dX11_perform_100 : decode cX11_perform 100 = .ok (.if_icmp .lt 9, 3) := by decide +kernel
theorem dX11_perform_103 : decode cX11_perform 103 = .ok (.iload_n 1, 1) := by decide +kernel
theorem dX11_perform_104 : decode cX11_perform 104 = .ok (.bipush 57, 2) := by decide +kernel
theorem dX11_perform_106 : decode cX11_perform 106 = .ok (.if_icmp .ne 19, 3) := by decide +kernel
theorem dX11_perform_109 : decode cX11_perform 109 = .ok (.aload_n 0, 1) := by decide +kernel
theorem dX11_perform_110 : decode cX11_perform 110 = .ok (.iload_n 1, 1) := by decide +kernel
theorem dX11_perform_111 : decode cX11_perform 111 = .ok (.iload_n 2, 1) := by decide +kernel
theorem dX11_perform_112 : decode cX11_perform 112 = .ok (.iload_n 3, 1) := by decide +kernel
theorem dX11_perform_113 : decode cX11_perform 113 = .ok (.iload 4, 2) := by decide +kernel
theorem dX11_perform_115 : decode cX11_perform 115 = .ok (.iload 5, 2) := by decide +kernel
theorem dX11_perform_117 : decode cX11_perform 117 = .ok (.iload 6, 2) := by decide +kernel
theorem dX11_perform_119 : decode cX11_perform 119 = .ok (.invokevirtual 247, 3) := by decide +kernel
theorem dX11_perform_122 : decode cX11_perform 122 = .ok (.goto 265, 3) := by decide +kernel
theorem dX11_perform_125 : decode cX11_perform 125 = .ok (.iload_n 1, 1) := by decide +kernel
theorem dX11_perform_126 : decode cX11_perform 126 = .ok (.bipush 55, 2) := by decide +kernel
theorem dX11_perform_128 : decode cX11_perform 128 = .ok (.if_icmp .ne 16, 3) := by decide +kernel
theorem dX11_perform_131 : decode cX11_perform 131 = .ok (.aload_n 0, 1) := by decide +kernel
theorem dX11_perform_132 : decode cX11_perform 132 = .ok (.aload_n 0, 1) := by decide +kernel
theorem dX11_perform_133 : decode cX11_perform 133 = .ok (.getfield 56, 3) := by decide +kernel
theorem dX11_perform_136 : decode cX11_perform 136 = .ok (.iconst 4, 1) := by decide +kernel
theorem dX11_perform_137 : decode cX11_perform 137 = .ok (.iadd, 1) := by decide +kernel
theorem dX11_perform_138 : decode cX11_perform 138 = .ok (.putfield 224, 3) := by decide +kernel
theorem dX11_perform_141 : decode cX11_perform 141 = .ok (.goto 246, 3) := by decide +kernel
theorem dX11_perform_144 : decode cX11_perform 144 = .ok (.iload_n 1, 1) := by decide +kernel
theorem dX11_perform_145 : decode cX11_perform 145 = .ok (.bipush 56, 2) := by decide +kernel
theorem dX11_perform_147 : decode cX11_perform 147 = .ok (.if_icmp .ne 12, 3) := by decide +kernel
theorem dX11_perform_150 : decode cX11_perform 150 = .ok (.aload_n 0, 1) := by decide +kernel
theorem dX11_perform_151 : decode cX11_perform 151 = .ok (.bipush 14, 2) := by decide +kernel
theorem dX11_perform_153 : decode cX11_perform 153 = .ok (.putfield 197, 3) := by decide +kernel
theorem dX11_perform_156 : decode cX11_perform 156 = .ok (.goto 231, 3) := by decide +kernel
theorem dX11_perform_159 : decode cX11_perform 159 = .ok (.aload_n 0, 1) := by decide +kernel
theorem dX11_perform_160 : decode cX11_perform 160 = .ok (.getfield 169, 3) := by decide +kernel
theorem dX11_perform_163 : decode cX11_perform 163 = .ok (.invokestatic 154, 3) := by decide +kernel
theorem dX11_perform_166 : decode cX11_perform 166 = .ok (.ifCond .eq 16, 3) := by decide +kernel
theorem dX11_perform_169 : decode cX11_perform 169 = .ok (.aload_n 0, 1) := by decide +kernel
theorem dX11_perform_170 : decode cX11_perform 170 = .ok (.iload_n 1, 1) := by decide +kernel
theorem dX11_perform_171 : decode cX11_perform 171 = .ok (.iload_n 2, 1) := by decide +kernel
theorem dX11_perform_172 : decode cX11_perform 172 = .ok (.iload_n 3, 1) := by decide +kernel
theorem dX11_perform_173 : decode cX11_perform 173 = .ok (.iload 6, 2) := by decide +kernel
theorem dX11_perform_175 : decode cX11_perform 175 = .ok (.iadd, 1) := by decide +kernel
theorem dX11_perform_176 : decode cX11_perform 176 = .ok (.invokevirtual 251, 3) := by decide +kernel
theorem dX11_perform_179 : decode cX11_perform 179 = .ok (.goto 208, 3) := by decide +kernel
theorem dX11_perform_182 : decode cX11_perform 182 = .ok (.iload_n 1, 1) := by decide +kernel
theorem dX11_perform_183 : decode cX11_perform 183 = .ok (.bipush 20, 2) := by decide +kernel
theorem dX11_perform_185 : decode cX11_perform 185 = .ok (.if_icmp .ge 36, 3) := by decide +kernel
theorem dX11_perform_188 : decode cX11_perform 188 = .ok (.aload_n 0, 1) := by decide +kernel
theorem dX11_perform_189 : decode cX11_perform 189 = .ok (.iload_n 2, 1) := by decide +kernel
theorem dX11_perform_190 : decode cX11_perform 190 = .ok (.iload_n 3, 1) := by decide +kernel
theorem dX11_perform_191 : decode cX11_perform 191 = .ok (.iload_n 1, 1) := by decide +kernel
theorem dX11_perform_192 : decode cX11_perform 192 = .ok (.bipush 18, 2) := by decide +kernel
theorem dX11_perform_194 : decode cX11_perform 194 = .ok (.if_icmp .ne 8, 3) := by decide +kernel
theorem dX11_perform_197 : decode cX11_perform 197 = .ok (.iload 4, 2) := by decide +kernel
theorem dX11_perform_199 : decode cX11_perform 199 = .ok (.goto 5, 3) := by decide +kernel
theorem dX11_perform_202 : decode cX11_perform 202 = .ok (.iload 6, 2) := by decide +kernel
theorem dX11_perform_204 : decode cX11_perform 204 = .ok (.invokestatic 254, 3) := by decide +kernel
theorem dX11_perform_207 : decode cX11_perform 207 = .ok (.ifCond .eq 7, 3) := by decide +kernel
theorem dX11_perform_210 : decode cX11_perform 210 = .ok (.iconst 1, 1) := by decide +kernel
theorem dX11_perform_211 : decode cX11_perform 211 = .ok (.goto 4, 3) := by decide +kernel
theorem dX11_perform_214 : decode cX11_perform 214 = .ok (.iconst 0, 1) := by decide +kernel
theorem dX11_perform_215 : decode cX11_perform 215 = .ok (.putfield 206, 3) := by decide +kernel
theorem dX11_perform_218 : decode cX11_perform 218 = .ok (.goto 169, 3) := by decide +kernel
theorem dX11_perform_221 : decode cX11_perform 221 = .ok (.iload_n 1, 1) := by decide +kernel
theorem dX11_perform_222 : decode cX11_perform 222 = .ok (.bipush 26, 2) := by decide +kernel
theorem dX11_perform_224 : decode cX11_perform 224 = .ok (.if_icmp .ge 117, 3) := by decide +kernel
theorem dX11_perform_227 : decode cX11_perform 227 = .ok (.iload_n 1, 1) := by decide +kernel
theorem dX11_perform_228 : decode cX11_perform 228 = .ok (.bipush 22, 2) := by decide +kernel
theorem dX11_perform_230 : decode cX11_perform 230 = .ok (.if_icmp .ne 12, 3) := by decide +kernel
theorem dX11_perform_233 : decode cX11_perform 233 = .ok (.aload_n 0, 1) := by decide +kernel
theorem dX11_perform_234 : decode cX11_perform 234 = .ok (.bipush 32, 2) := by decide +kernel
theorem dX11_perform_236 : decode cX11_perform 236 = .ok (.invokevirtual 122, 3) := by decide +kernel
theorem dX11_perform_239 : decode cX11_perform 239 = .ok (.goto 27, 3) := by decide +kernel
theorem dX11_perform_242 : decode cX11_perform 242 = .ok (.iload_n 1, 1) := by decide +kernel
theorem dX11_perform_243 : decode cX11_perform 243 = .ok (.bipush 23, 2) := by decide +kernel
theorem dX11_perform_245 : decode cX11_perform 245 = .ok (.if_icmp .ne 20, 3) := by decide +kernel
theorem dX11_perform_248 : decode cX11_perform 248 = .ok (.aload_n 0, 1) := by decide +kernel
theorem dX11_perform_249 : decode cX11_perform 249 = .ok (.bipush 32, 2) := by decide +kernel
theorem dX11_perform_251 : decode cX11_perform 251 = .ok (.invokevirtual 122, 3) := by decide +kernel
theorem dX11_perform_254 : decode cX11_perform 254 = .ok (.ifCond .ne 7, 3) := by decide +kernel
theorem dX11_perform_257 : decode cX11_perform 257 = .ok (.iconst 1, 1) := by decide +kernel
theorem dX11_perform_258 : decode cX11_perform 258 = .ok (.goto 8, 3) := by decide +kernel
theorem dX11_perform_261 : decode cX11_perform 261 = .ok (.iconst 0, 1) := by decide +kernel
theorem dX11_perform_262 : decode cX11_perform 262 = .ok (.goto 4, 3) := by decide +kernel
theorem dX11_perform_265 : decode cX11_perform 265 = .ok (.iconst 1, 1) := by decide +kernel
theorem dX11_perform_266 : decode cX11_perform 266 = .ok (.istore 8, 2) := by decide +kernel
theorem dX11_perform_268 : decode cX11_perform 268 = .ok (.aload_n 0, 1) := by decide +kernel
theorem dX11_perform_269 : decode cX11_perform 269 = .ok (.iload 8, 2) := by decide +kernel
theorem dX11_perform_271 : decode cX11_perform 271 = .ok (.ifCond .ne 13, 3) := by decide +kernel
theorem dX11_perform_274 : decode cX11_perform 274 = .ok (.aload_n 0, 1) := by decide +kernel
theorem dX11_perform_275 : decode cX11_perform 275 = .ok (.getfield 56, 3) := by decide +kernel
theorem dX11_perform_278 : decode cX11_perform 278 = .ok (.bipush 8, 2) := by decide +kernel
theorem dX11_perform_280 : decode cX11_perform 280 = .ok (.iadd, 1) := by decide +kernel
theorem dX11_perform_281 : decode cX11_perform 281 = .ok (.goto 23, 3) := by decide +kernel
theorem dX11_perform_284 : decode cX11_perform 284 = .ok (.iload_n 1, 1) := by decide +kernel
theorem dX11_perform_285 : decode cX11_perform 285 = .ok (.bipush 23, 2) := by decide +kernel
theorem dX11_perform_287 : decode cX11_perform 287 = .ok (.if_icmp .le 8, 3) := by decide +kernel
theorem dX11_perform_290 : decode cX11_perform 290 = .ok (.iload 4, 2) := by decide +kernel
theorem dX11_perform_292 : decode cX11_perform 292 = .ok (.goto 12, 3) := by decide +kernel
theorem dX11_perform_295 : decode cX11_perform 295 = .ok (.aload_n 0, 1) := by decide +kernel
theorem dX11_perform_296 : decode cX11_perform 296 = .ok (.getfield 56, 3) := by decide +kernel
theorem dX11_perform_299 : decode cX11_perform 299 = .ok (.iconst 4, 1) := by decide +kernel
theorem dX11_perform_300 : decode cX11_perform 300 = .ok (.iload 7, 2) := by decide +kernel
theorem dX11_perform_302 : decode cX11_perform 302 = .ok (.imul, 1) := by decide +kernel
theorem dX11_perform_303 : decode cX11_perform 303 = .ok (.iadd, 1) := by decide +kernel
theorem dX11_perform_304 : decode cX11_perform 304 = .ok (.putfield 227, 3) := by decide +kernel
theorem dX11_perform_307 : decode cX11_perform 307 = .ok (.aload_n 0, 1) := by decide +kernel
theorem dX11_perform_308 : decode cX11_perform 308 = .ok (.iload 8, 2) := by decide +kernel
theorem dX11_perform_310 : decode cX11_perform 310 = .ok (.putfield 258, 3) := by decide +kernel
theorem dX11_perform_313 : decode cX11_perform 313 = .ok (.iload_n 1, 1) := by decide +kernel
theorem dX11_perform_314 : decode cX11_perform 314 = .ok (.bipush 21, 2) := by decide +kernel
theorem dX11_perform_316 : decode cX11_perform 316 = .ok (.if_icmp .eq 9, 3) := by decide +kernel
theorem dX11_perform_319 : decode cX11_perform 319 = .ok (.iload_n 1, 1) := by decide +kernel
theorem dX11_perform_320 : decode cX11_perform 320 = .ok (.bipush 25, 2) := by decide +kernel
theorem dX11_perform_322 : decode cX11_perform 322 = .ok (.if_icmp .ne 16, 3) := by decide +kernel
theorem dX11_perform_325 : decode cX11_perform 325 = .ok (.aload_n 0, 1) := by decide +kernel
theorem dX11_perform_326 : decode cX11_perform 326 = .ok (.bipush 31, 2) := by decide +kernel
theorem dX11_perform_328 : decode cX11_perform 328 = .ok (.aload_n 0, 1) := by decide +kernel
theorem dX11_perform_329 : decode cX11_perform 329 = .ok (.getfield 56, 3) := by decide +kernel
theorem dX11_perform_332 : decode cX11_perform 332 = .ok (.bipush 8, 2) := by decide +kernel
theorem dX11_perform_334 : decode cX11_perform 334 = .ok (.iadd, 1) := by decide +kernel
theorem dX11_perform_335 : decode cX11_perform 335 = .ok (.invokevirtual 261, 3) := by decide +kernel
theorem dX11_perform_338 : decode cX11_perform 338 = .ok (.goto 49, 3) := by decide +kernel
theorem dX11_perform_341 : decode cX11_perform 341 = .ok (.iload_n 1, 1) := by decide +kernel
theorem dX11_perform_342 : decode cX11_perform 342 = .ok (.bipush 30, 2) := by decide +kernel
theorem dX11_perform_344 : decode cX11_perform 344 = .ok (.if_icmp .ne 17, 3) := by decide +kernel
theorem dX11_perform_347 : decode cX11_perform 347 = .ok (.aload_n 0, 1) := by decide +kernel
theorem dX11_perform_348 : decode cX11_perform 348 = .ok (.iload_n 2, 1) := by decide +kernel
theorem dX11_perform_349 : decode cX11_perform 349 = .ok (.aload_n 0, 1) := by decide +kernel
theorem dX11_perform_350 : decode cX11_perform 350 = .ok (.iload 5, 2) := by decide +kernel
theorem dX11_perform_352 : decode cX11_perform 352 = .ok (.invokevirtual 265, 3) := by decide +kernel
theorem dX11_perform_355 : decode cX11_perform 355 = .ok (.invokevirtual 261, 3) := by decide +kernel
theorem dX11_perform_358 : decode cX11_perform 358 = .ok (.goto 29, 3) := by decide +kernel
theorem dX11_perform_361 : decode cX11_perform 361 = .ok (.iload_n 1, 1) := by decide +kernel
theorem dX11_perform_362 : decode cX11_perform 362 = .ok (.bipush 32, 2) := by decide +kernel
theorem dX11_perform_364 : decode cX11_perform 364 = .ok (.if_icmp .ne 12, 3) := by decide +kernel
theorem dX11_perform_367 : decode cX11_perform 367 = .ok (.aload_n 0, 1) := by decide +kernel
theorem dX11_perform_368 : decode cX11_perform 368 = .ok (.bipush 12, 2) := by decide +kernel
theorem dX11_perform_370 : decode cX11_perform 370 = .ok (.putfield 197, 3) := by decide +kernel
theorem dX11_perform_373 : decode cX11_perform 373 = .ok (.goto 14, 3) := by decide +kernel
theorem dX11_perform_376 : decode cX11_perform 376 = .ok (.iload_n 1, 1) := by decide +kernel
theorem dX11_perform_377 : decode cX11_perform 377 = .ok (.bipush 33, 2) := by decide +kernel
theorem dX11_perform_379 : decode cX11_perform 379 = .ok (.if_icmp .ne 8, 3) := by decide +kernel
theorem dX11_perform_382 : decode cX11_perform 382 = .ok (.aload_n 0, 1) := by decide +kernel
theorem dX11_perform_383 : decode cX11_perform 383 = .ok (.iconst 1, 1) := by decide +kernel
theorem dX11_perform_384 : decode cX11_perform 384 = .ok (.putfield 221, 3) := by decide +kernel
theorem dX11_perform_387 : decode cX11_perform 387 = .ok (.return_, 1) := by decide +kernel
set_option maxRecDepth 1000000 in
theorem ggX11_work_X11_isSum : GoodIn wsX11_work wsX11_isSum := goodIn_r _ [10, 11, 12, 9, 13] (by decide +kernel) (by decide +kernel)
set_option maxRecDepth 1000000 in
theorem gX11_work_X11_isSum : GoodIn wsX11_work (va_wsS RX11 145 yX11_isSum wsX11_isSum) := goodIn_app (goodIn_of _ (by decide +kernel)) ggX11_work_X11_isSum
set_option maxRecDepth 1000000 in
theorem ggX11_work_X11_give : GoodIn wsX11_work wsX11_give := goodIn_r _ [17, 18, 19, 49, 50, 51, 52, 53, 54, 55, 56, 57, 58, 59, 60, 61, 62, 63, 64, 65, 66, 67, 68, 69, 70, 71, 72, 73, 74, 75, 76, 77, 78, 79, 80, 81, 82, 83, 84, 85, 86, 87, 88, 89, 90, 91, 92, 93, 94, 95, 96, 97, 98, 99, 100, 101, 102, 103, 104, 105, 106, 107, 108] rfl (by decide +kernel)
set_option maxRecDepth 1000000 in
theorem gX11_work_X11_give : GoodIn wsX11_work (wsV RX11 261 RX11 yX11_give wsX11_give) := goodIn_app (goodIn_of _ (by decide +kernel)) ggX11_work_X11_give
set_option maxRecDepth 1000000 in
theorem ggX11_work_X11_result : GoodIn wsX11_work wsX11_result := goodIn_r _ [22] (by decide +kernel) (by decide +kernel)
set_option maxRecDepth 1000000 in
theorem gX11_work_X11_result : GoodIn wsX11_work (va_wsS RX11 271 yX11_result wsX11_result) := goodIn_app (goodIn_of _ (by decide +kernel)) ggX11_work_X11_result
set_option maxRecDepth 1000000 in
theorem ggX11_work_X11_more : GoodIn wsX11_work wsX11_more := goodIn_r _ [26, 27, 28, 29, 30, 31, 9, 32, 33, 34, 35, 36, 37, 38, 39, 49, 50, 51, 52, 53, 54, 55, 56, 57, 58, 59, 60, 61, 62, 63, 64, 65, 66, 67, 68, 69, 70, 71, 72, 73, 74, 75, 76, 77, 78, 79, 80, 81, 82, 83, 84, 85, 86, 87, 88, 89, 90, 91, 92, 93, 94, 95, 96, 97, 98, 99, 100, 101, 102, 103, 104, 105, 106, 107, 108] rfl (by decide +kernel)
set_option maxRecDepth 1000000 in
theorem gX11_work_X11_more : GoodIn wsX11_work (wsV RX11 275 RX11 yX11_more wsX11_more) := goodIn_app (goodIn_of _ (by decide +kernel)) ggX11_work_X11_more
set_option maxRecDepth 1000000 in
theorem ggX11_work_X11_signs : GoodIn wsX11_work wsX11_signs := goodIn_r _ [43, 27, 1, 44, 5, 45, 46, 47, 9, 48, 11, 12, 13, 29, 30, 31, 32, 33, 49, 50, 51, 52, 53, 54, 55, 56, 57, 58, 59, 60, 61, 62, 63, 64, 65, 66, 67, 68, 69, 70, 71, 72, 73, 74, 75, 76, 77, 78, 79, 80, 81, 82, 83, 84, 85, 86, 87, 88, 89, 90, 91, 92, 93, 94, 95, 96, 97, 98, 99, 100, 101, 102, 103, 104, 105, 106, 107, 108] rfl (by decide +kernel)
set_option maxRecDepth 1000000 in
theorem gX11_work_X11_signs : GoodIn wsX11_work (wsV RX11 278 RX11 yX11_signs wsX11_signs) := goodIn_app (goodIn_of _ (by decide +kernel)) ggX11_work_X11_signs
set_option maxRecDepth 1000000 in
theorem ggX11_work_X11_has : GoodIn wsX11_work wsX11_has := goodIn_r _ [32, 33, 49, 50, 51, 52, 53, 54, 55, 56, 57, 58, 59, 60, 61, 62, 63, 64, 65, 66, 67, 68, 69, 70, 71, 72, 73, 74, 75, 76, 77, 78, 79, 80, 81, 82, 83, 84, 85, 86, 87, 88, 89, 90, 91, 92, 93, 94, 95, 96, 97, 98, 99, 100, 101, 102, 103, 104, 105, 106, 107, 108] rfl (by decide +kernel)
set_option maxRecDepth 1000000 in
theorem gX11_work_X11_has : GoodIn wsX11_work (wsV RX11 122 RX11 yX11_has wsX11_has) := goodIn_app (goodIn_of _ (by decide +kernel)) ggX11_work_X11_has
theorem dX11_work_0 : decode cX11_work 0 = .ok (.aload_n 0, 1) := by decide +kernel
theorem dX11_work_1 : decode cX11_work 1 = .ok (.getfield 169, 3) := by decide +kernel
theorem dX11_work_4 : decode cX11_work 4 = .ok (.invokestatic 145, 3) := by decide +kernel
theorem dX11_work_7 : decode cX11_work 7 = .ok (.ifCond .eq 55, 3) := by decide +kernel
theorem dX11_work_10 : decode cX11_work 10 = .ok (.iload_n 3, 1) := by decide +kernel
theorem dX11_work_11 : decode cX11_work 11 = .ok (.i2l, 1) := by decide +kernel
theorem dX11_work_12 : decode cX11_work 12 = .ok (.iload_n 1, 1) := by decide +kernel
theorem dX11_work_13 : decode cX11_work 13 = .ok (.bipush 39, 2) := by decide +kernel
theorem dX11_work_15 : decode cX11_work 15 = .ok (.if_icmp .ne 8, 3) := by decide +kernel
theorem dX11_work_18 : decode cX11_work 18 = .ok (.iload 6, 2) := by decide +kernel
theorem dX11_work_20 : decode cX11_work 20 = .ok (.goto 5, 3) := by decide +kernel
theorem dX11_work_23 : decode cX11_work 23 = .ok (.iload 4, 2) := by decide +kernel
theorem dX11_work_25 : decode cX11_work 25 = .ok (.i2l, 1) := by decide +kernel
theorem dX11_work_26 : decode cX11_work 26 = .ok (.lmul, 1) := by decide +kernel
theorem dX11_work_27 : decode cX11_work 27 = .ok (.lstore 7, 2) := by decide +kernel
theorem dX11_work_29 : decode cX11_work 29 = .ok (.aload_n 0, 1) := by decide +kernel
theorem dX11_work_30 : decode cX11_work 30 = .ok (.iconst 1, 1) := by decide +kernel
theorem dX11_work_31 : decode cX11_work 31 = .ok (.putfield 215, 3) := by decide +kernel
theorem dX11_work_34 : decode cX11_work 34 = .ok (.aload_n 0, 1) := by decide +kernel
theorem dX11_work_35 : decode cX11_work 35 = .ok (.iload_n 1, 1) := by decide +kernel
theorem dX11_work_36 : decode cX11_work 36 = .ok (.bipush 40, 2) := by decide +kernel
theorem dX11_work_38 : decode cX11_work 38 = .ok (.if_icmp .ne 13, 3) := by decide +kernel
theorem dX11_work_41 : decode cX11_work 41 = .ok (.aload_n 0, 1) := by decide +kernel
theorem dX11_work_42 : decode cX11_work 42 = .ok (.getfield 52, 3) := by decide +kernel
theorem dX11_work_45 : decode cX11_work 45 = .ok (.lload 7, 2) := by decide +kernel
theorem dX11_work_47 : decode cX11_work 47 = .ok (.lsub, 1) := by decide +kernel
theorem dX11_work_48 : decode cX11_work 48 = .ok (.goto 10, 3) := by decide +kernel
theorem dX11_work_51 : decode cX11_work 51 = .ok (.aload_n 0, 1) := by decide +kernel
theorem dX11_work_52 : decode cX11_work 52 = .ok (.getfield 52, 3) := by decide +kernel
theorem dX11_work_55 : decode cX11_work 55 = .ok (.lload 7, 2) := by decide +kernel
theorem dX11_work_57 : decode cX11_work 57 = .ok (.ladd, 1) := by decide +kernel
theorem dX11_work_58 : decode cX11_work 58 = .ok (.putfield 268, 3) := by decide +kernel
theorem dX11_work_61 : decode cX11_work 61 = .ok (.return_, 1) := by decide +kernel
theorem dX11_work_62 : decode cX11_work 62 = .ok (.iload_n 1, 1) := by decide +kernel
theorem dX11_work_63 : decode cX11_work 63 = .ok (.bipush 41, 2) := by decide +kernel
theorem dX11_work_65 : decode cX11_work 65 = .ok (.if_icmp .ne 24, 3) := by decide +kernel
theorem dX11_work_68 : decode cX11_work 68 = .ok (.aload_n 0, 1) := by decide +kernel
theorem dX11_work_69 : decode cX11_work 69 = .ok (.iconst 1, 1) := by decide +kernel
theorem dX11_work_70 : decode cX11_work 70 = .ok (.putfield 215, 3) := by decide +kernel
theorem dX11_work_73 : decode cX11_work 73 = .ok (.aload_n 0, 1) := by decide +kernel
theorem dX11_work_74 : decode cX11_work 74 = .ok (.lconst 0, 1) := by decide +kernel
theorem dX11_work_75 : decode cX11_work 75 = .ok (.putfield 268, 3) := by decide +kernel
theorem dX11_work_78 : decode cX11_work 78 = .ok (.aload_n 0, 1) := by decide +kernel
theorem dX11_work_79 : decode cX11_work 79 = .ok (.iload_n 2, 1) := by decide +kernel
theorem dX11_work_80 : decode cX11_work 80 = .ok (.aload_n 0, 1) := by decide +kernel
theorem dX11_work_81 : decode cX11_work 81 = .ok (.getfield 52, 3) := by decide +kernel
theorem dX11_work_84 : decode cX11_work 84 = .ok (.l2i, 1) := by decide +kernel
theorem dX11_work_85 : decode cX11_work 85 = .ok (.invokevirtual 261, 3) := by decide +kernel
theorem dX11_work_88 : decode cX11_work 88 = .ok (.return_, 1) := by decide +kernel
theorem dX11_work_89 : decode cX11_work 89 = .ok (.iload_n 1, 1) := by decide +kernel
theorem dX11_work_90 : decode cX11_work 90 = .ok (.bipush 10, 2) := by decide +kernel
theorem dX11_work_92 : decode cX11_work 92 = .ok (.if_icmp .eq 15, 3) := by decide +kernel
theorem dX11_work_95 : decode cX11_work 95 = .ok (.iload_n 1, 1) := by decide +kernel
theorem dX11_work_96 : decode cX11_work 96 = .ok (.bipush 35, 2) := by decide +kernel
theorem dX11_work_98 : decode cX11_work 98 = .ok (.if_icmp .eq 9, 3) := by decide +kernel
theorem dX11_work_101 : decode cX11_work 101 = .ok (.iload_n 1, 1) := by decide +kernel
theorem dX11_work_102 : decode cX11_work 102 = .ok (.bipush 57, 2) := by decide +kernel
theorem dX11_work_104 : decode cX11_work 104 = .ok (.if_icmp .ne 8, 3) := by decide +kernel
theorem dX11_work_107 : decode cX11_work 107 = .ok (.iload 6, 2) := by decide +kernel
theorem dX11_work_109 : decode cX11_work 109 = .ok (.goto 5, 3) := by decide +kernel
theorem dX11_work_112 : decode cX11_work 112 = .ok (.iload 4, 2) := by decide +kernel
theorem dX11_work_114 : decode cX11_work 114 = .ok (.istore 7, 2) := by decide +kernel
theorem dX11_work_116 : decode cX11_work 116 = .ok (.iload_n 1, 1) := by decide +kernel
theorem dX11_work_117 : decode cX11_work 117 = .ok (.bipush 18, 2) := by decide +kernel
theorem dX11_work_119 : decode cX11_work 119 = .ok (.if_icmp .ge 17, 3) := by decide +kernel
theorem dX11_work_122 : decode cX11_work 122 = .ok (.iload_n 1, 1) := by decide +kernel
theorem dX11_work_123 : decode cX11_work 123 = .ok (.iload_n 3, 1) := by decide +kernel
theorem dX11_work_124 : decode cX11_work 124 = .ok (.iload 4, 2) := by decide +kernel
theorem dX11_work_126 : decode cX11_work 126 = .ok (.iload 5, 2) := by decide +kernel
theorem dX11_work_128 : decode cX11_work 128 = .ok (.iload 6, 2) := by decide +kernel
theorem dX11_work_130 : decode cX11_work 130 = .ok (.invokestatic 271, 3) := by decide +kernel
theorem dX11_work_133 : decode cX11_work 133 = .ok (.goto 15, 3) := by decide +kernel
theorem dX11_work_136 : decode cX11_work 136 = .ok (.aload_n 0, 1) := by decide +kernel
theorem dX11_work_137 : decode cX11_work 137 = .ok (.iload_n 1, 1) := by decide +kernel
theorem dX11_work_138 : decode cX11_work 138 = .ok (.iload_n 3, 1) := by decide +kernel
theorem dX11_work_139 : decode cX11_work 139 = .ok (.iload 4, 2) := by decide +kernel
theorem dX11_work_141 : decode cX11_work 141 = .ok (.iload 5, 2) := by decide +kernel
theorem dX11_work_143 : decode cX11_work 143 = .ok (.iload 6, 2) := by decide +kernel
theorem dX11_work_145 : decode cX11_work 145 = .ok (.invokevirtual 275, 3) := by decide +kernel
theorem dX11_work_148 : decode cX11_work 148 = .ok (.istore 8, 2) := by decide +kernel
theorem dX11_work_150 : decode cX11_work 150 = .ok (.aload_n 0, 1) := by decide +kernel
theorem dX11_work_151 : decode cX11_work 151 = .ok (.iload_n 1, 1) := by decide +kernel
theorem dX11_work_152 : decode cX11_work 152 = .ok (.iload_n 3, 1) := by decide +kernel
theorem dX11_work_153 : decode cX11_work 153 = .ok (.iload 7, 2) := by decide +kernel
theorem dX11_work_155 : decode cX11_work 155 = .ok (.invokevirtual 278, 3) := by decide +kernel
theorem dX11_work_158 : decode cX11_work 158 = .ok (.aload_n 0, 1) := by decide +kernel
theorem dX11_work_159 : decode cX11_work 159 = .ok (.sipush 512, 3) := by decide +kernel
theorem dX11_work_162 : decode cX11_work 162 = .ok (.invokevirtual 122, 3) := by decide +kernel
theorem dX11_work_165 : decode cX11_work 165 = .ok (.ifCond .eq 20, 3) := by decide +kernel
theorem dX11_work_168 : decode cX11_work 168 = .ok (.aload_n 0, 1) := by decide +kernel
theorem dX11_work_169 : decode cX11_work 169 = .ok (.getfield 212, 3) := by decide +kernel
theorem dX11_work_172 : decode cX11_work 172 = .ok (.iconst 1, 1) := by decide +kernel
theorem dX11_work_173 : decode cX11_work 173 = .ok (.if_icmp .ne 12, 3) := by decide +kernel
theorem dX11_work_176 : decode cX11_work 176 = .ok (.aload_n 0, 1) := by decide +kernel
theorem dX11_work_177 : decode cX11_work 177 = .ok (.bipush 11, 2) := by decide +kernel
theorem dX11_work_179 : decode cX11_work 179 = .ok (.putfield 197, 3) := by decide +kernel
theorem dX11_work_182 : decode cX11_work 182 = .ok (.goto 10, 3) := by decide +kernel
theorem dX11_work_185 : decode cX11_work 185 = .ok (.aload_n 0, 1) := by decide +kernel
theorem dX11_work_186 : decode cX11_work 186 = .ok (.iload_n 2, 1) := by decide +kernel
theorem dX11_work_187 : decode cX11_work 187 = .ok (.iload 8, 2) := by decide +kernel
theorem dX11_work_189 : decode cX11_work 189 = .ok (.invokevirtual 261, 3) := by decide +kernel
theorem dX11_work_192 : decode cX11_work 192 = .ok (.return_, 1) := by decide +kernel
set_option maxRecDepth 1000000 in
theorem ggX11_signs_X11_readsCarry : GoodIn wsX11_signs wsX11_readsCarry := goodIn_r _ [9, 10, 11, 8, 12] (by decide +kernel) (by decide +kernel)
set_option maxRecDepth 1000000 in
theorem gX11_signs_X11_readsCarry : GoodIn wsX11_signs (va_wsS RX11 194 yX11_readsCarry wsX11_readsCarry) := goodIn_app (goodIn_of _ (by decide +kernel)) ggX11_signs_X11_readsCarry
set_option maxRecDepth 1000000 in
theorem ggX11_signs_X11_has : GoodIn wsX11_signs wsX11_has := goodIn_r _ [16, 17, 18, 19, 20, 21, 22, 23, 24, 25, 26, 27, 28, 29, 30, 31, 32, 33, 34, 35, 36, 37, 38, 39, 40, 41, 42, 43, 44, 45, 46, 47, 48, 49, 50, 51, 52, 53, 54, 55, 56, 57, 58, 59, 60, 61, 62, 63, 64, 65, 66, 67, 68, 69, 70, 71, 72, 73, 74, 75, 76, 77] rfl (by decide +kernel)
set_option maxRecDepth 1000000 in
theorem gX11_signs_X11_has : GoodIn wsX11_signs (wsV RX11 122 RX11 yX11_has wsX11_has) := goodIn_app (goodIn_of _ (by decide +kernel)) ggX11_signs_X11_has
theorem dX11_signs_0 : decode cX11_signs 0 = .ok (.iload_n 2, 1) := by decide +kernel
theorem dX11_signs_1 : decode cX11_signs 1 = .ok (.i2l, 1) := by decide +kernel
theorem dX11_signs_2 : decode cX11_signs 2 = .ok (.ldc2_w 130, 3) := by decide +kernel
theorem dX11_signs_5 : decode cX11_signs 5 = .ok (.land, 1) := by decide +kernel
theorem dX11_signs_6 : decode cX11_signs 6 = .ok (.lstore 4, 2) := by decide +kernel
theorem dX11_signs_8 : decode cX11_signs 8 = .ok (.iload_n 3, 1) := by decide +kernel
theorem dX11_signs_9 : decode cX11_signs 9 = .ok (.i2l, 1) := by decide +kernel
theorem dX11_signs_10 : decode cX11_signs 10 = .ok (.ldc2_w 130, 3) := by decide +kernel
theorem dX11_signs_13 : decode cX11_signs 13 = .ok (.land, 1) := by decide +kernel
theorem dX11_signs_14 : decode cX11_signs 14 = .ok (.lstore 6, 2) := by decide +kernel
theorem dX11_signs_16 : decode cX11_signs 16 = .ok (.aload_n 0, 1) := by decide +kernel
theorem dX11_signs_17 : decode cX11_signs 17 = .ok (.getfield 169, 3) := by decide +kernel
theorem dX11_signs_20 : decode cX11_signs 20 = .ok (.invokestatic 194, 3) := by decide +kernel
theorem dX11_signs_23 : decode cX11_signs 23 = .ok (.ifCond .eq 17, 3) := by decide +kernel
theorem dX11_signs_26 : decode cX11_signs 26 = .ok (.aload_n 0, 1) := by decide +kernel
theorem dX11_signs_27 : decode cX11_signs 27 = .ok (.sipush 128, 3) := by decide +kernel
theorem dX11_signs_30 : decode cX11_signs 30 = .ok (.invokevirtual 122, 3) := by decide +kernel
theorem dX11_signs_33 : decode cX11_signs 33 = .ok (.ifCond .eq 7, 3) := by decide +kernel
theorem dX11_signs_36 : decode cX11_signs 36 = .ok (.lconst 1, 1) := by decide +kernel
theorem dX11_signs_37 : decode cX11_signs 37 = .ok (.goto 4, 3) := by decide +kernel
theorem dX11_signs_40 : decode cX11_signs 40 = .ok (.lconst 0, 1) := by decide +kernel
theorem dX11_signs_41 : decode cX11_signs 41 = .ok (.lstore 8, 2) := by decide +kernel
theorem dX11_signs_43 : decode cX11_signs 43 = .ok (.lconst 0, 1) := by decide +kernel
theorem dX11_signs_44 : decode cX11_signs 44 = .ok (.lstore 10, 2) := by decide +kernel
theorem dX11_signs_46 : decode cX11_signs 46 = .ok (.iload_n 1, 1) := by decide +kernel
theorem dX11_signs_47 : decode cX11_signs 47 = .ok (.ifCond .eq 21, 3) := by decide +kernel
theorem dX11_signs_50 : decode cX11_signs 50 = .ok (.iload_n 1, 1) := by decide +kernel
theorem dX11_signs_51 : decode cX11_signs 51 = .ok (.bipush 10, 2) := by decide +kernel
theorem dX11_signs_53 : decode cX11_signs 53 = .ok (.if_icmp .eq 15, 3) := by decide +kernel
theorem dX11_signs_56 : decode cX11_signs 56 = .ok (.iload_n 1, 1) := by decide +kernel
theorem dX11_signs_57 : decode cX11_signs 57 = .ok (.bipush 34, 2) := by decide +kernel
theorem dX11_signs_59 : decode cX11_signs 59 = .ok (.if_icmp .eq 9, 3) := by decide +kernel
theorem dX11_signs_62 : decode cX11_signs 62 = .ok (.iload_n 1, 1) := by decide +kernel
theorem dX11_signs_63 : decode cX11_signs 63 = .ok (.bipush 35, 2) := by decide +kernel
theorem dX11_signs_65 : decode cX11_signs 65 = .ok (.if_icmp .ne 40, 3) := by decide +kernel
theorem dX11_signs_68 : decode cX11_signs 68 = .ok (.aload_n 0, 1) := by decide +kernel
theorem dX11_signs_69 : decode cX11_signs 69 = .ok (.lload 4, 2) := by decide +kernel
theorem dX11_signs_71 : decode cX11_signs 71 = .ok (.lload 6, 2) := by decide +kernel
theorem dX11_signs_73 : decode cX11_signs 73 = .ok (.ladd, 1) := by decide +kernel
theorem dX11_signs_74 : decode cX11_signs 74 = .ok (.lload 8, 2) := by decide +kernel
theorem dX11_signs_76 : decode cX11_signs 76 = .ok (.ladd, 1) := by decide +kernel
theorem dX11_signs_77 : decode cX11_signs 77 = .ok (.ldc2_w 130, 3) := by decide +kernel
theorem dX11_signs_80 : decode cX11_signs 80 = .ok (.lcmp, 1) := by decide +kernel
theorem dX11_signs_81 : decode cX11_signs 81 = .ok (.ifCond .le 7, 3) := by decide +kernel
theorem dX11_signs_84 : decode cX11_signs 84 = .ok (.iconst 1, 1) := by decide +kernel
theorem dX11_signs_85 : decode cX11_signs 85 = .ok (.goto 4, 3) := by decide +kernel
theorem dX11_signs_88 : decode cX11_signs 88 = .ok (.iconst 0, 1) := by decide +kernel
theorem dX11_signs_89 : decode cX11_signs 89 = .ok (.putfield 209, 3) := by decide +kernel
theorem dX11_signs_92 : decode cX11_signs 92 = .ok (.iload_n 2, 1) := by decide +kernel
theorem dX11_signs_93 : decode cX11_signs 93 = .ok (.i2l, 1) := by decide +kernel
theorem dX11_signs_94 : decode cX11_signs 94 = .ok (.iload_n 3, 1) := by decide +kernel
theorem dX11_signs_95 : decode cX11_signs 95 = .ok (.i2l, 1) := by decide +kernel
theorem dX11_signs_96 : decode cX11_signs 96 = .ok (.ladd, 1) := by decide +kernel
theorem dX11_signs_97 : decode cX11_signs 97 = .ok (.lload 8, 2) := by decide +kernel
theorem dX11_signs_99 : decode cX11_signs 99 = .ok (.ladd, 1) := by decide +kernel
theorem dX11_signs_100 : decode cX11_signs 100 = .ok (.lstore 10, 2) := by decide +kernel
theorem dX11_signs_102 : decode cX11_signs 102 = .ok (.goto 116, 3) := by decide +kernel
theorem dX11_signs_105 : decode cX11_signs 105 = .ok (.iload_n 1, 1) := by decide +kernel
theorem dX11_signs_106 : decode cX11_signs 106 = .ok (.iconst 1, 1) := by decide +kernel
theorem dX11_signs_107 : decode cX11_signs 107 = .ok (.if_icmp .ne 30, 3) := by decide +kernel
theorem dX11_signs_110 : decode cX11_signs 110 = .ok (.aload_n 0, 1) := by decide +kernel
theorem dX11_signs_111 : decode cX11_signs 111 = .ok (.lload 4, 2) := by decide +kernel
theorem dX11_signs_113 : decode cX11_signs 113 = .ok (.lload 6, 2) := by decide +kernel
theorem dX11_signs_115 : decode cX11_signs 115 = .ok (.lcmp, 1) := by decide +kernel
theorem dX11_signs_116 : decode cX11_signs 116 = .ok (.ifCond .ge 7, 3) := by decide +kernel
theorem dX11_signs_119 : decode cX11_signs 119 = .ok (.iconst 1, 1) := by decide +kernel
theorem dX11_signs_120 : decode cX11_signs 120 = .ok (.goto 4, 3) := by decide +kernel
theorem dX11_signs_123 : decode cX11_signs 123 = .ok (.iconst 0, 1) := by decide +kernel
theorem dX11_signs_124 : decode cX11_signs 124 = .ok (.putfield 209, 3) := by decide +kernel
theorem dX11_signs_127 : decode cX11_signs 127 = .ok (.iload_n 2, 1) := by decide +kernel
theorem dX11_signs_128 : decode cX11_signs 128 = .ok (.i2l, 1) := by decide +kernel
theorem dX11_signs_129 : decode cX11_signs 129 = .ok (.iload_n 3, 1) := by decide +kernel
theorem dX11_signs_130 : decode cX11_signs 130 = .ok (.i2l, 1) := by decide +kernel
theorem dX11_signs_131 : decode cX11_signs 131 = .ok (.lsub, 1) := by decide +kernel
theorem dX11_signs_132 : decode cX11_signs 132 = .ok (.lstore 10, 2) := by decide +kernel
theorem dX11_signs_134 : decode cX11_signs 134 = .ok (.goto 84, 3) := by decide +kernel
theorem dX11_signs_137 : decode cX11_signs 137 = .ok (.iload_n 1, 1) := by decide +kernel
theorem dX11_signs_138 : decode cX11_signs 138 = .ok (.bipush 36, 2) := by decide +kernel
theorem dX11_signs_140 : decode cX11_signs 140 = .ok (.if_icmp .ne 37, 3) := by decide +kernel
theorem dX11_signs_143 : decode cX11_signs 143 = .ok (.aload_n 0, 1) := by decide +kernel
theorem dX11_signs_144 : decode cX11_signs 144 = .ok (.lload 4, 2) := by decide +kernel
theorem dX11_signs_146 : decode cX11_signs 146 = .ok (.lload 6, 2) := by decide +kernel
theorem dX11_signs_148 : decode cX11_signs 148 = .ok (.lmul, 1) := by decide +kernel
theorem dX11_signs_149 : decode cX11_signs 149 = .ok (.lconst 0, 1) := by decide +kernel
theorem dX11_signs_150 : decode cX11_signs 150 = .ok (.lcmp, 1) := by decide +kernel
theorem dX11_signs_151 : decode cX11_signs 151 = .ok (.ifCond .lt 15, 3) := by decide +kernel
theorem dX11_signs_154 : decode cX11_signs 154 = .ok (.lload 4, 2) := by decide +kernel
theorem dX11_signs_156 : decode cX11_signs 156 = .ok (.lload 6, 2) := by decide +kernel
theorem dX11_signs_158 : decode cX11_signs 158 = .ok (.lmul, 1) := by decide +kernel
theorem dX11_signs_159 : decode cX11_signs 159 = .ok (.ldc2_w 130, 3) := by decide +kernel
theorem dX11_signs_162 : decode cX11_signs 162 = .ok (.lcmp, 1) := by decide +kernel
theorem dX11_signs_163 : decode cX11_signs 163 = .ok (.ifCond .le 7, 3) := by decide +kernel
theorem dX11_signs_166 : decode cX11_signs 166 = .ok (.iconst 1, 1) := by decide +kernel
theorem dX11_signs_167 : decode cX11_signs 167 = .ok (.goto 4, 3) := by decide +kernel
theorem dX11_signs_170 : decode cX11_signs 170 = .ok (.iconst 0, 1) := by decide +kernel
theorem dX11_signs_171 : decode cX11_signs 171 = .ok (.putfield 209, 3) := by decide +kernel
theorem dX11_signs_174 : decode cX11_signs 174 = .ok (.goto 44, 3) := by decide +kernel
theorem dX11_signs_177 : decode cX11_signs 177 = .ok (.iload_n 1, 1) := by decide +kernel
theorem dX11_signs_178 : decode cX11_signs 178 = .ok (.bipush 37, 2) := by decide +kernel
theorem dX11_signs_180 : decode cX11_signs 180 = .ok (.if_icmp .ne 19, 3) := by decide +kernel
theorem dX11_signs_183 : decode cX11_signs 183 = .ok (.aload_n 0, 1) := by decide +kernel
theorem dX11_signs_184 : decode cX11_signs 184 = .ok (.iload_n 3, 1) := by decide +kernel
theorem dX11_signs_185 : decode cX11_signs 185 = .ok (.ifCond .ne 7, 3) := by decide +kernel
theorem dX11_signs_188 : decode cX11_signs 188 = .ok (.iconst 1, 1) := by decide +kernel
theorem dX11_signs_189 : decode cX11_signs 189 = .ok (.goto 4, 3) := by decide +kernel
theorem dX11_signs_192 : decode cX11_signs 192 = .ok (.iconst 0, 1) := by decide +kernel
theorem dX11_signs_193 : decode cX11_signs 193 = .ok (.putfield 209, 3) := by decide +kernel
theorem dX11_signs_196 : decode cX11_signs 196 = .ok (.goto 22, 3) := by decide +kernel
theorem dX11_signs_199 : decode cX11_signs 199 = .ok (.iload_n 1, 1) := by decide +kernel
theorem dX11_signs_200 : decode cX11_signs 200 = .ok (.bipush 8, 2) := by decide +kernel
theorem dX11_signs_202 : decode cX11_signs 202 = .ok (.if_icmp .eq 9, 3) := by decide +kernel
theorem dX11_signs_205 : decode cX11_signs 205 = .ok (.iload_n 1, 1) := by decide +kernel
theorem dX11_signs_206 : decode cX11_signs 206 = .ok (.bipush 57, 2) := by decide +kernel
theorem dX11_signs_208 : decode cX11_signs 208 = .ok (.if_icmp .ne 10, 3) := by decide +kernel
theorem dX11_signs_211 : decode cX11_signs 211 = .ok (.iload_n 2, 1) := by decide +kernel
theorem dX11_signs_212 : decode cX11_signs 212 = .ok (.i2l, 1) := by decide +kernel
theorem dX11_signs_213 : decode cX11_signs 213 = .ok (.iload_n 3, 1) := by decide +kernel
theorem dX11_signs_214 : decode cX11_signs 214 = .ok (.i2l, 1) := by decide +kernel
theorem dX11_signs_215 : decode cX11_signs 215 = .ok (.lmul, 1) := by decide +kernel
theorem dX11_signs_216 : decode cX11_signs 216 = .ok (.lstore 10, 2) := by decide +kernel
theorem dX11_signs_218 : decode cX11_signs 218 = .ok (.iload_n 1, 1) := by decide +kernel
theorem dX11_signs_219 : decode cX11_signs 219 = .ok (.ifCond .eq 38, 3) := by decide +kernel
theorem dX11_signs_222 : decode cX11_signs 222 = .ok (.iload_n 1, 1) := by decide +kernel
theorem dX11_signs_223 : decode cX11_signs 223 = .ok (.iconst 1, 1) := by decide +kernel
theorem dX11_signs_224 : decode cX11_signs 224 = .ok (.if_icmp .eq 33, 3) := by decide +kernel
theorem dX11_signs_227 : decode cX11_signs 227 = .ok (.iload_n 1, 1) := by decide +kernel
theorem dX11_signs_228 : decode cX11_signs 228 = .ok (.bipush 10, 2) := by decide +kernel
theorem dX11_signs_230 : decode cX11_signs 230 = .ok (.if_icmp .eq 27, 3) := by decide +kernel
theorem dX11_signs_233 : decode cX11_signs 233 = .ok (.iload_n 1, 1) := by decide +kernel
theorem dX11_signs_234 : decode cX11_signs 234 = .ok (.bipush 34, 2) := by decide +kernel
theorem dX11_signs_236 : decode cX11_signs 236 = .ok (.if_icmp .eq 21, 3) := by decide +kernel
theorem dX11_signs_239 : decode cX11_signs 239 = .ok (.iload_n 1, 1) := by decide +kernel
theorem dX11_signs_240 : decode cX11_signs 240 = .ok (.bipush 35, 2) := by decide +kernel
theorem dX11_signs_242 : decode cX11_signs 242 = .ok (.if_icmp .eq 15, 3) := by decide +kernel
theorem dX11_signs_245 : decode cX11_signs 245 = .ok (.iload_n 1, 1) := by decide +kernel
theorem dX11_signs_246 : decode cX11_signs 246 = .ok (.bipush 8, 2) := by decide +kernel
theorem dX11_signs_248 : decode cX11_signs 248 = .ok (.if_icmp .eq 9, 3) := by decide +kernel
theorem dX11_signs_251 : decode cX11_signs 251 = .ok (.iload_n 1, 1) := by decide +kernel
theorem dX11_signs_252 : decode cX11_signs 252 = .ok (.bipush 57, 2) := by decide +kernel
theorem dX11_signs_254 : decode cX11_signs 254 = .ok (.if_icmp .ne 7, 3) := by decide +kernel
theorem dX11_signs_257 : decode cX11_signs 257 = .ok (.iconst 1, 1) := by decide +kernel
theorem dX11_signs_258 : decode cX11_signs 258 = .ok (.goto 4, 3) := by decide +kernel
theorem dX11_signs_261 : decode cX11_signs 261 = .ok (.iconst 0, 1) := by decide +kernel
theorem dX11_signs_262 : decode cX11_signs 262 = .ok (.istore 12, 2) := by decide +kernel
theorem dX11_signs_264 : decode cX11_signs 264 = .ok (.iload 12, 2) := by decide +kernel
theorem dX11_signs_266 : decode cX11_signs 266 = .ok (.ifCond .eq 25, 3) := by decide +kernel
theorem dX11_signs_269 : decode cX11_signs 269 = .ok (.aload_n 0, 1) := by decide +kernel
theorem dX11_signs_270 : decode cX11_signs 270 = .ok (.lload 10, 2) := by decide +kernel
theorem dX11_signs_272 : decode cX11_signs 272 = .ok (.lload 10, 2) := by decide +kernel
theorem dX11_signs_274 : decode cX11_signs 274 = .ok (.l2i, 1) := by decide +kernel
theorem dX11_signs_275 : decode cX11_signs 275 = .ok (.i2l, 1) := by decide +kernel
theorem dX11_signs_276 : decode cX11_signs 276 = .ok (.lcmp, 1) := by decide +kernel
theorem dX11_signs_277 : decode cX11_signs 277 = .ok (.ifCond .ne 7, 3) := by decide +kernel
theorem dX11_signs_280 : decode cX11_signs 280 = .ok (.iconst 0, 1) := by decide +kernel
theorem dX11_signs_281 : decode cX11_signs 281 = .ok (.goto 4, 3) := by decide +kernel
theorem dX11_signs_284 : decode cX11_signs 284 = .ok (.iconst 1, 1) := by decide +kernel
theorem dX11_signs_285 : decode cX11_signs 285 = .ok (.putfield 212, 3) := by decide +kernel
theorem dX11_signs_288 : decode cX11_signs 288 = .ok (.goto 34, 3) := by decide +kernel
theorem dX11_signs_291 : decode cX11_signs 291 = .ok (.iload_n 1, 1) := by decide +kernel
theorem dX11_signs_292 : decode cX11_signs 292 = .ok (.bipush 9, 2) := by decide +kernel
theorem dX11_signs_294 : decode cX11_signs 294 = .ok (.if_icmp .ne 28, 3) := by decide +kernel
theorem dX11_signs_297 : decode cX11_signs 297 = .ok (.aload_n 0, 1) := by decide +kernel
theorem dX11_signs_298 : decode cX11_signs 298 = .ok (.iload_n 3, 1) := by decide +kernel
theorem dX11_signs_299 : decode cX11_signs 299 = .ok (.ifCond .eq 15, 3) := by decide +kernel
theorem dX11_signs_302 : decode cX11_signs 302 = .ok (.iload_n 3, 1) := by decide +kernel
theorem dX11_signs_303 : decode cX11_signs 303 = .ok (.iconst (-1), 1) := by decide +kernel
theorem dX11_signs_304 : decode cX11_signs 304 = .ok (.if_icmp .ne 14, 3) := by decide +kernel
theorem dX11_signs_307 : decode cX11_signs 307 = .ok (.iload_n 2, 1) := by decide +kernel
theorem dX11_signs_308 : decode cX11_signs 308 = .ok (.ldc_w 281, 3) := by decide +kernel
theorem dX11_signs_311 : decode cX11_signs 311 = .ok (.if_icmp .ne 7, 3) := by decide +kernel
theorem dX11_signs_314 : decode cX11_signs 314 = .ok (.iconst 1, 1) := by decide +kernel
theorem dX11_signs_315 : decode cX11_signs 315 = .ok (.goto 4, 3) := by decide +kernel
theorem dX11_signs_318 : decode cX11_signs 318 = .ok (.iconst 0, 1) := by decide +kernel
theorem dX11_signs_319 : decode cX11_signs 319 = .ok (.putfield 212, 3) := by decide +kernel
theorem dX11_signs_322 : decode cX11_signs 322 = .ok (.return_, 1) := by decide +kernel
theorem dX11_result_0 : decode cX11_result 0 = .ok (.iload_n 0, 1) := by decide +kernel
theorem dX11_result_1 : decode cX11_result 1 = .ok (.tableswitch 186 0 16 #[83, 87, 91, 95, 99, 103, 110, 117, 124, 128, 150, 155, 159, 163, 167, 172, 179], 83) := by decide +kernel
theorem dX11_result_84 : decode cX11_result 84 = .ok (.iload_n 1, 1) := by decide +kernel
theorem dX11_result_85 : decode cX11_result 85 = .ok (.iload_n 2, 1) := by decide +kernel
theorem dX11_result_86 : decode cX11_result 86 = .ok (.iadd, 1) := by decide +kernel
theorem dX11_result_87 : decode cX11_result 87 = .ok (.ireturn, 1) := by decide +kernel
theorem dX11_result_88 : decode cX11_result 88 = .ok (.iload_n 1, 1) := by decide +kernel
theorem dX11_result_89 : decode cX11_result 89 = .ok (.iload_n 2, 1) := by decide +kernel
theorem dX11_result_90 : decode cX11_result 90 = .ok (.isub, 1) := by decide +kernel
theorem dX11_result_91 : decode cX11_result 91 = .ok (.ireturn, 1) := by decide +kernel
theorem dX11_result_92 : decode cX11_result 92 = .ok (.iload_n 1, 1) := by decide +kernel
theorem dX11_result_93 : decode cX11_result 93 = .ok (.iload_n 2, 1) := by decide +kernel
theorem dX11_result_94 : decode cX11_result 94 = .ok (.iand, 1) := by decide +kernel
theorem dX11_result_95 : decode cX11_result 95 = .ok (.ireturn, 1) := by decide +kernel
theorem dX11_result_96 : decode cX11_result 96 = .ok (.iload_n 1, 1) := by decide +kernel
theorem dX11_result_97 : decode cX11_result 97 = .ok (.iload_n 2, 1) := by decide +kernel
theorem dX11_result_98 : decode cX11_result 98 = .ok (.ior, 1) := by decide +kernel
theorem dX11_result_99 : decode cX11_result 99 = .ok (.ireturn, 1) := by decide +kernel
theorem dX11_result_100 : decode cX11_result 100 = .ok (.iload_n 1, 1) := by decide +kernel
theorem dX11_result_101 : decode cX11_result 101 = .ok (.iload_n 2, 1) := by decide +kernel
theorem dX11_result_102 : decode cX11_result 102 = .ok (.ixor, 1) := by decide +kernel
theorem dX11_result_103 : decode cX11_result 103 = .ok (.ireturn, 1) := by decide +kernel
theorem dX11_result_104 : decode cX11_result 104 = .ok (.iload_n 1, 1) := by decide +kernel
theorem dX11_result_105 : decode cX11_result 105 = .ok (.iload_n 2, 1) := by decide +kernel
