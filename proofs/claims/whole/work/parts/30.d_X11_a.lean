set_option maxRecDepth 1000000 in
theorem ggX11_init_X11_begin : GoodIn wsX11_init wsX11_begin := goodIn_r _ [22, 8, 16, 9, 10, 23, 24, 25, 26, 27, 28, 29, 30, 31, 32, 33, 34, 35, 36, 37, 38, 39, 40, 41, 42, 43, 44, 45, 46, 47, 48, 49, 50, 51, 52, 53, 54, 55, 56, 57, 58, 59, 60, 61, 62, 63, 64, 65, 66, 67, 68, 69, 70, 71, 72, 73, 74, 75, 76, 77, 78, 79, 80, 81, 82, 83, 84, 85, 86, 87, 88, 89, 90, 91, 92, 93, 94, 95, 96, 97, 98, 99, 100] rfl (by decide +kernel)
set_option maxRecDepth 1000000 in
theorem gX11_init_X11_begin : GoodIn wsX11_init (wsV RX11 46 RX11 yX11_begin wsX11_begin) := goodIn_app (goodIn_of _ (by decide +kernel)) ggX11_init_X11_begin
theorem dX11_init_0 : decode cX11_init 0 = .ok (.aload_n 0, 1) := by decide +kernel
theorem dX11_init_1 : decode cX11_init 1 = .ok (.invokespecial 1, 3) := by decide +kernel
theorem dX11_init_4 : decode cX11_init 4 = .ok (.aload_n 0, 1) := by decide +kernel
theorem dX11_init_5 : decode cX11_init 5 = .ok (.ldc 7, 2) := by decide +kernel
theorem dX11_init_7 : decode cX11_init 7 = .ok (.newarray .byte, 2) := by decide +kernel
theorem dX11_init_9 : decode cX11_init 9 = .ok (.putfield 8, 3) := by decide +kernel
theorem dX11_init_12 : decode cX11_init 12 = .ok (.aload_n 0, 1) := by decide +kernel
theorem dX11_init_13 : decode cX11_init 13 = .ok (.bipush 32, 2) := by decide +kernel
theorem dX11_init_15 : decode cX11_init 15 = .ok (.newarray .int, 2) := by decide +kernel
theorem dX11_init_17 : decode cX11_init 17 = .ok (.putfield 14, 3) := by decide +kernel
theorem dX11_init_20 : decode cX11_init 20 = .ok (.aload_n 0, 1) := by decide +kernel
theorem dX11_init_21 : decode cX11_init 21 = .ok (.bipush 10, 2) := by decide +kernel
theorem dX11_init_23 : decode cX11_init 23 = .ok (.newarray .int, 2) := by decide +kernel
theorem dX11_init_25 : decode cX11_init 25 = .ok (.putfield 18, 3) := by decide +kernel
theorem dX11_init_28 : decode cX11_init 28 = .ok (.aload_n 0, 1) := by decide +kernel
theorem dX11_init_29 : decode cX11_init 29 = .ok (.sipush 512, 3) := by decide +kernel
theorem dX11_init_32 : decode cX11_init 32 = .ok (.newarray .int, 2) := by decide +kernel
theorem dX11_init_34 : decode cX11_init 34 = .ok (.putfield 21, 3) := by decide +kernel
theorem dX11_init_37 : decode cX11_init 37 = .ok (.aload_n 0, 1) := by decide +kernel
theorem dX11_init_38 : decode cX11_init 38 = .ok (.bipush 32, 2) := by decide +kernel
theorem dX11_init_40 : decode cX11_init 40 = .ok (.newarray .int, 2) := by decide +kernel
theorem dX11_init_42 : decode cX11_init 42 = .ok (.putfield 24, 3) := by decide +kernel
theorem dX11_init_45 : decode cX11_init 45 = .ok (.aload_n 0, 1) := by decide +kernel
theorem dX11_init_46 : decode cX11_init 46 = .ok (.bipush 32, 2) := by decide +kernel
theorem dX11_init_48 : decode cX11_init 48 = .ok (.newarray .int, 2) := by decide +kernel
theorem dX11_init_50 : decode cX11_init 50 = .ok (.putfield 27, 3) := by decide +kernel
theorem dX11_init_53 : decode cX11_init 53 = .ok (.aload_n 0, 1) := by decide +kernel
theorem dX11_init_54 : decode cX11_init 54 = .ok (.sipush 2816, 3) := by decide +kernel
theorem dX11_init_57 : decode cX11_init 57 = .ok (.newarray .int, 2) := by decide +kernel
theorem dX11_init_59 : decode cX11_init 59 = .ok (.putfield 30, 3) := by decide +kernel
theorem dX11_init_62 : decode cX11_init 62 = .ok (.aload_n 0, 1) := by decide +kernel
theorem dX11_init_63 : decode cX11_init 63 = .ok (.bipush 8, 2) := by decide +kernel
theorem dX11_init_65 : decode cX11_init 65 = .ok (.newarray .int, 2) := by decide +kernel
theorem dX11_init_67 : decode cX11_init 67 = .ok (.putfield 33, 3) := by decide +kernel
theorem dX11_init_70 : decode cX11_init 70 = .ok (.aload_n 0, 1) := by decide +kernel
theorem dX11_init_71 : decode cX11_init 71 = .ok (.bipush 8, 2) := by decide +kernel
theorem dX11_init_73 : decode cX11_init 73 = .ok (.newarray .int, 2) := by decide +kernel
theorem dX11_init_75 : decode cX11_init 75 = .ok (.putfield 36, 3) := by decide +kernel
theorem dX11_init_78 : decode cX11_init 78 = .ok (.aload_n 0, 1) := by decide +kernel
theorem dX11_init_79 : decode cX11_init 79 = .ok (.bipush 32, 2) := by decide +kernel
theorem dX11_init_81 : decode cX11_init 81 = .ok (.newarray .int, 2) := by decide +kernel
theorem dX11_init_83 : decode cX11_init 83 = .ok (.putfield 39, 3) := by decide +kernel
theorem dX11_init_86 : decode cX11_init 86 = .ok (.aload_n 0, 1) := by decide +kernel
theorem dX11_init_87 : decode cX11_init 87 = .ok (.iload_n 1, 1) := by decide +kernel
theorem dX11_init_88 : decode cX11_init 88 = .ok (.bipush 32, 2) := by decide +kernel
theorem dX11_init_90 : decode cX11_init 90 = .ok (.if_icmp .ge 8, 3) := by decide +kernel
theorem dX11_init_93 : decode cX11_init 93 = .ok (.bipush 16, 2) := by decide +kernel
theorem dX11_init_95 : decode cX11_init 95 = .ok (.goto 29, 3) := by decide +kernel
theorem dX11_init_98 : decode cX11_init 98 = .ok (.iload_n 1, 1) := by decide +kernel
theorem dX11_init_99 : decode cX11_init 99 = .ok (.bipush 64, 2) := by decide +kernel
theorem dX11_init_101 : decode cX11_init 101 = .ok (.if_icmp .ge 8, 3) := by decide +kernel
theorem dX11_init_104 : decode cX11_init 104 = .ok (.bipush 32, 2) := by decide +kernel
theorem dX11_init_106 : decode cX11_init 106 = .ok (.goto 18, 3) := by decide +kernel
theorem dX11_init_109 : decode cX11_init 109 = .ok (.iload_n 1, 1) := by decide +kernel
theorem dX11_init_110 : decode cX11_init 110 = .ok (.sipush 128, 3) := by decide +kernel
theorem dX11_init_113 : decode cX11_init 113 = .ok (.if_icmp .ge 8, 3) := by decide +kernel
theorem dX11_init_116 : decode cX11_init 116 = .ok (.bipush 64, 2) := by decide +kernel
theorem dX11_init_118 : decode cX11_init 118 = .ok (.goto 6, 3) := by decide +kernel
theorem dX11_init_121 : decode cX11_init 121 = .ok (.sipush 128, 3) := by decide +kernel
theorem dX11_init_124 : decode cX11_init 124 = .ok (.putfield 42, 3) := by decide +kernel
theorem dX11_init_127 : decode cX11_init 127 = .ok (.aload_n 0, 1) := by decide +kernel
theorem dX11_init_128 : decode cX11_init 128 = .ok (.invokevirtual 46, 3) := by decide +kernel
theorem dX11_init_131 : decode cX11_init 131 = .ok (.return_, 1) := by decide +kernel
theorem dX11_begin_0 : decode cX11_begin 0 = .ok (.iconst 0, 1) := by decide +kernel
theorem dX11_begin_1 : decode cX11_begin 1 = .ok (.istore_n 1, 1) := by decide +kernel
theorem dX11_begin_2 : decode cX11_begin 2 = .ok (.iload_n 1, 1) := by decide +kernel
theorem dX11_begin_3 : decode cX11_begin 3 = .ok (.bipush 32, 2) := by decide +kernel
theorem dX11_begin_5 : decode cX11_begin 5 = .ok (.if_icmp .ge 23, 3) := by decide +kernel
theorem dX11_begin_8 : decode cX11_begin 8 = .ok (.aload_n 0, 1) := by decide +kernel
theorem dX11_begin_9 : decode cX11_begin 9 = .ok (.getfield 14, 3) := by decide +kernel
theorem dX11_begin_12 : decode cX11_begin 12 = .ok (.iload_n 1, 1) := by decide +kernel
theorem dX11_begin_13 : decode cX11_begin 13 = .ok (.iconst 0, 1) := by decide +kernel
theorem dX11_begin_14 : decode cX11_begin 14 = .ok (.iastore, 1) := by decide +kernel
theorem dX11_begin_15 : decode cX11_begin 15 = .ok (.aload_n 0, 1) := by decide +kernel
theorem dX11_begin_16 : decode cX11_begin 16 = .ok (.getfield 39, 3) := by decide +kernel
theorem dX11_begin_19 : decode cX11_begin 19 = .ok (.iload_n 1, 1) := by decide +kernel
theorem dX11_begin_20 : decode cX11_begin 20 = .ok (.iconst 0, 1) := by decide +kernel
theorem dX11_begin_21 : decode cX11_begin 21 = .ok (.iastore, 1) := by decide +kernel
theorem dX11_begin_22 : decode cX11_begin 22 = .ok (.iinc 1 1, 3) := by decide +kernel
theorem dX11_begin_25 : decode cX11_begin 25 = .ok (.goto (-23), 3) := by decide +kernel
theorem dX11_begin_28 : decode cX11_begin 28 = .ok (.iconst 0, 1) := by decide +kernel
theorem dX11_begin_29 : decode cX11_begin 29 = .ok (.istore_n 1, 1) := by decide +kernel
theorem dX11_begin_30 : decode cX11_begin 30 = .ok (.iload_n 1, 1) := by decide +kernel
theorem dX11_begin_31 : decode cX11_begin 31 = .ok (.bipush 10, 2) := by decide +kernel
theorem dX11_begin_33 : decode cX11_begin 33 = .ok (.if_icmp .ge 16, 3) := by decide +kernel
theorem dX11_begin_36 : decode cX11_begin 36 = .ok (.aload_n 0, 1) := by decide +kernel
theorem dX11_begin_37 : decode cX11_begin 37 = .ok (.getfield 18, 3) := by decide +kernel
theorem dX11_begin_40 : decode cX11_begin 40 = .ok (.iload_n 1, 1) := by decide +kernel
theorem dX11_begin_41 : decode cX11_begin 41 = .ok (.iconst 0, 1) := by decide +kernel
theorem dX11_begin_42 : decode cX11_begin 42 = .ok (.iastore, 1) := by decide +kernel
theorem dX11_begin_43 : decode cX11_begin 43 = .ok (.iinc 1 1, 3) := by decide +kernel
theorem dX11_begin_46 : decode cX11_begin 46 = .ok (.goto (-16), 3) := by decide +kernel
theorem dX11_begin_49 : decode cX11_begin 49 = .ok (.iconst 0, 1) := by decide +kernel
theorem dX11_begin_50 : decode cX11_begin 50 = .ok (.istore_n 1, 1) := by decide +kernel
theorem dX11_begin_51 : decode cX11_begin 51 = .ok (.iload_n 1, 1) := by decide +kernel
theorem dX11_begin_52 : decode cX11_begin 52 = .ok (.sipush 512, 3) := by decide +kernel
theorem dX11_begin_55 : decode cX11_begin 55 = .ok (.if_icmp .ge 16, 3) := by decide +kernel
theorem dX11_begin_58 : decode cX11_begin 58 = .ok (.aload_n 0, 1) := by decide +kernel
theorem dX11_begin_59 : decode cX11_begin 59 = .ok (.getfield 21, 3) := by decide +kernel
theorem dX11_begin_62 : decode cX11_begin 62 = .ok (.iload_n 1, 1) := by decide +kernel
theorem dX11_begin_63 : decode cX11_begin 63 = .ok (.iconst 0, 1) := by decide +kernel
theorem dX11_begin_64 : decode cX11_begin 64 = .ok (.iastore, 1) := by decide +kernel
theorem dX11_begin_65 : decode cX11_begin 65 = .ok (.iinc 1 1, 3) := by decide +kernel
theorem dX11_begin_68 : decode cX11_begin 68 = .ok (.goto (-17), 3) := by decide +kernel
theorem dX11_begin_71 : decode cX11_begin 71 = .ok (.aload_n 0, 1) := by decide +kernel
theorem dX11_begin_72 : decode cX11_begin 72 = .ok (.lconst 0, 1) := by decide +kernel
theorem dX11_begin_73 : decode cX11_begin 73 = .ok (.putfield 52, 3) := by decide +kernel
theorem dX11_begin_76 : decode cX11_begin 76 = .ok (.aload_n 0, 1) := by decide +kernel
theorem dX11_begin_77 : decode cX11_begin 77 = .ok (.getfield 18, 3) := by decide +kernel
theorem dX11_begin_80 : decode cX11_begin 80 = .ok (.iconst 0, 1) := by decide +kernel
theorem dX11_begin_81 : decode cX11_begin 81 = .ok (.iconst 1, 1) := by decide +kernel
theorem dX11_begin_82 : decode cX11_begin 82 = .ok (.iastore, 1) := by decide +kernel
theorem dX11_begin_83 : decode cX11_begin 83 = .ok (.aload_n 0, 1) := by decide +kernel
theorem dX11_begin_84 : decode cX11_begin 84 = .ok (.sipush 256, 3) := by decide +kernel
theorem dX11_begin_87 : decode cX11_begin 87 = .ok (.putfield 56, 3) := by decide +kernel
theorem dX11_begin_90 : decode cX11_begin 90 = .ok (.aload_n 0, 1) := by decide +kernel
theorem dX11_begin_91 : decode cX11_begin 91 = .ok (.iconst 0, 1) := by decide +kernel
theorem dX11_begin_92 : decode cX11_begin 92 = .ok (.putfield 59, 3) := by decide +kernel
theorem dX11_begin_95 : decode cX11_begin 95 = .ok (.aload_n 0, 1) := by decide +kernel
theorem dX11_begin_96 : decode cX11_begin 96 = .ok (.iconst 0, 1) := by decide +kernel
theorem dX11_begin_97 : decode cX11_begin 97 = .ok (.putfield 63, 3) := by decide +kernel
theorem dX11_begin_100 : decode cX11_begin 100 = .ok (.aload_n 0, 1) := by decide +kernel
theorem dX11_begin_101 : decode cX11_begin 101 = .ok (.iconst 0, 1) := by decide +kernel
theorem dX11_begin_102 : decode cX11_begin 102 = .ok (.putfield 66, 3) := by decide +kernel
theorem dX11_begin_105 : decode cX11_begin 105 = .ok (.aload_n 0, 1) := by decide +kernel
theorem dX11_begin_106 : decode cX11_begin 106 = .ok (.iconst 0, 1) := by decide +kernel
theorem dX11_begin_107 : decode cX11_begin 107 = .ok (.putfield 69, 3) := by decide +kernel
theorem dX11_begin_110 : decode cX11_begin 110 = .ok (.aload_n 0, 1) := by decide +kernel
theorem dX11_begin_111 : decode cX11_begin 111 = .ok (.iconst 0, 1) := by decide +kernel
theorem dX11_begin_112 : decode cX11_begin 112 = .ok (.putfield 72, 3) := by decide +kernel
theorem dX11_begin_115 : decode cX11_begin 115 = .ok (.aload_n 0, 1) := by decide +kernel
theorem dX11_begin_116 : decode cX11_begin 116 = .ok (.iconst 0, 1) := by decide +kernel
theorem dX11_begin_117 : decode cX11_begin 117 = .ok (.putfield 75, 3) := by decide +kernel
theorem dX11_begin_120 : decode cX11_begin 120 = .ok (.aload_n 0, 1) := by decide +kernel
theorem dX11_begin_121 : decode cX11_begin 121 = .ok (.iconst 0, 1) := by decide +kernel
theorem dX11_begin_122 : decode cX11_begin 122 = .ok (.putfield 78, 3) := by decide +kernel
theorem dX11_begin_125 : decode cX11_begin 125 = .ok (.aload_n 0, 1) := by decide +kernel
theorem dX11_begin_126 : decode cX11_begin 126 = .ok (.iconst 0, 1) := by decide +kernel
theorem dX11_begin_127 : decode cX11_begin 127 = .ok (.putfield 81, 3) := by decide +kernel
theorem dX11_begin_130 : decode cX11_begin 130 = .ok (.aload_n 0, 1) := by decide +kernel
theorem dX11_begin_131 : decode cX11_begin 131 = .ok (.iconst 0, 1) := by decide +kernel
theorem dX11_begin_132 : decode cX11_begin 132 = .ok (.putfield 84, 3) := by decide +kernel
theorem dX11_begin_135 : decode cX11_begin 135 = .ok (.aload_n 0, 1) := by decide +kernel
theorem dX11_begin_136 : decode cX11_begin 136 = .ok (.iconst 0, 1) := by decide +kernel
theorem dX11_begin_137 : decode cX11_begin 137 = .ok (.putfield 87, 3) := by decide +kernel
theorem dX11_begin_140 : decode cX11_begin 140 = .ok (.aload_n 0, 1) := by decide +kernel
theorem dX11_begin_141 : decode cX11_begin 141 = .ok (.iconst 0, 1) := by decide +kernel
theorem dX11_begin_142 : decode cX11_begin 142 = .ok (.putfield 90, 3) := by decide +kernel
theorem dX11_begin_145 : decode cX11_begin 145 = .ok (.aload_n 0, 1) := by decide +kernel
theorem dX11_begin_146 : decode cX11_begin 146 = .ok (.iconst 0, 1) := by decide +kernel
theorem dX11_begin_147 : decode cX11_begin 147 = .ok (.putfield 93, 3) := by decide +kernel
theorem dX11_begin_150 : decode cX11_begin 150 = .ok (.aload_n 0, 1) := by decide +kernel
theorem dX11_begin_151 : decode cX11_begin 151 = .ok (.iconst 0, 1) := by decide +kernel
theorem dX11_begin_152 : decode cX11_begin 152 = .ok (.putfield 96, 3) := by decide +kernel
theorem dX11_begin_155 : decode cX11_begin 155 = .ok (.aload_n 0, 1) := by decide +kernel
theorem dX11_begin_156 : decode cX11_begin 156 = .ok (.iconst 0, 1) := by decide +kernel
theorem dX11_begin_157 : decode cX11_begin 157 = .ok (.putfield 99, 3) := by decide +kernel
theorem dX11_begin_160 : decode cX11_begin 160 = .ok (.aload_n 0, 1) := by decide +kernel
theorem dX11_begin_161 : decode cX11_begin 161 = .ok (.iconst 0, 1) := by decide +kernel
theorem dX11_begin_162 : decode cX11_begin 162 = .ok (.putfield 102, 3) := by decide +kernel
theorem dX11_begin_165 : decode cX11_begin 165 = .ok (.aload_n 0, 1) := by decide +kernel
theorem dX11_begin_166 : decode cX11_begin 166 = .ok (.bipush (-100), 2) := by decide +kernel
theorem dX11_begin_168 : decode cX11_begin 168 = .ok (.putfield 105, 3) := by decide +kernel
theorem dX11_begin_171 : decode cX11_begin 171 = .ok (.return_, 1) := by decide +kernel
set_option maxRecDepth 1000000 in
theorem ggX11_giveWord_X11_put : GoodIn wsX11_giveWord wsX11_put := goodIn_r _ [8, 9, 10, 11, 12, 13, 14, 15, 16, 17, 18, 19, 20, 21, 22, 23, 24, 25, 26, 27, 28, 29, 30, 31, 32, 33, 34, 35, 36, 37, 38, 39, 40, 41, 42, 43, 44, 45, 46, 47, 48, 49, 50, 51, 52, 53, 54, 55, 56, 57, 58, 59, 60, 61, 62, 63, 64, 65, 66, 67, 68, 69] rfl (by decide +kernel)
set_option maxRecDepth 1000000 in
theorem gX11_giveWord_X11_put : GoodIn wsX11_giveWord (wsV RX11 109 RX11 yX11_put wsX11_put) := goodIn_app (goodIn_of _ (by decide +kernel)) ggX11_giveWord_X11_put
theorem dX11_giveWord_0 : decode cX11_giveWord 0 = .ok (.aload_n 0, 1) := by decide +kernel
theorem dX11_giveWord_1 : decode cX11_giveWord 1 = .ok (.iconst 0, 1) := by decide +kernel
theorem dX11_giveWord_2 : decode cX11_giveWord 2 = .ok (.putfield 49, 3) := by decide +kernel
theorem dX11_giveWord_5 : decode cX11_giveWord 5 = .ok (.aload_n 0, 1) := by decide +kernel
theorem dX11_giveWord_6 : decode cX11_giveWord 6 = .ok (.getfield 75, 3) := by decide +kernel
theorem dX11_giveWord_9 : decode cX11_giveWord 9 = .ok (.ifCond .gt 19, 3) := by decide +kernel
theorem dX11_giveWord_12 : decode cX11_giveWord 12 = .ok (.iload_n 1, 1) := by decide +kernel
theorem dX11_giveWord_13 : decode cX11_giveWord 13 = .ok (.ifCond .lt 15, 3) := by decide +kernel
theorem dX11_giveWord_16 : decode cX11_giveWord 16 = .ok (.iload_n 1, 1) := by decide +kernel
theorem dX11_giveWord_17 : decode cX11_giveWord 17 = .ok (.ldc 108, 2) := by decide +kernel
theorem dX11_giveWord_19 : decode cX11_giveWord 19 = .ok (.if_icmp .gt 9, 3) := by decide +kernel
theorem dX11_giveWord_22 : decode cX11_giveWord 22 = .ok (.iload_n 1, 1) := by decide +kernel
theorem dX11_giveWord_23 : decode cX11_giveWord 23 = .ok (.iconst 4, 1) := by decide +kernel
theorem dX11_giveWord_24 : decode cX11_giveWord 24 = .ok (.irem, 1) := by decide +kernel
theorem dX11_giveWord_25 : decode cX11_giveWord 25 = .ok (.ifCond .eq 5, 3) := by decide +kernel
theorem dX11_giveWord_28 : decode cX11_giveWord 28 = .ok (.iconst 0, 1) := by decide +kernel
theorem dX11_giveWord_29 : decode cX11_giveWord 29 = .ok (.ireturn, 1) := by decide +kernel
theorem dX11_giveWord_30 : decode cX11_giveWord 30 = .ok (.aload_n 0, 1) := by decide +kernel
theorem dX11_giveWord_31 : decode cX11_giveWord 31 = .ok (.iload_n 1, 1) := by decide +kernel
theorem dX11_giveWord_32 : decode cX11_giveWord 32 = .ok (.iload_n 2, 1) := by decide +kernel
theorem dX11_giveWord_33 : decode cX11_giveWord 33 = .ok (.iconst 4, 1) := by decide +kernel
theorem dX11_giveWord_34 : decode cX11_giveWord 34 = .ok (.invokevirtual 109, 3) := by decide +kernel
theorem dX11_giveWord_37 : decode cX11_giveWord 37 = .ok (.iconst 1, 1) := by decide +kernel
theorem dX11_giveWord_38 : decode cX11_giveWord 38 = .ok (.ireturn, 1) := by decide +kernel
theorem dX11_setRegister_0 : decode cX11_setRegister 0 = .ok (.aload_n 0, 1) := by decide +kernel
theorem dX11_setRegister_1 : decode cX11_setRegister 1 = .ok (.iconst 0, 1) := by decide +kernel
theorem dX11_setRegister_2 : decode cX11_setRegister 2 = .ok (.putfield 49, 3) := by decide +kernel
theorem dX11_setRegister_5 : decode cX11_setRegister 5 = .ok (.aload_n 0, 1) := by decide +kernel
theorem dX11_setRegister_6 : decode cX11_setRegister 6 = .ok (.getfield 75, 3) := by decide +kernel
theorem dX11_setRegister_9 : decode cX11_setRegister 9 = .ok (.ifCond .gt 14, 3) := by decide +kernel
theorem dX11_setRegister_12 : decode cX11_setRegister 12 = .ok (.iload_n 1, 1) := by decide +kernel
theorem dX11_setRegister_13 : decode cX11_setRegister 13 = .ok (.iconst 1, 1) := by decide +kernel
theorem dX11_setRegister_14 : decode cX11_setRegister 14 = .ok (.if_icmp .lt 9, 3) := by decide +kernel
theorem dX11_setRegister_17 : decode cX11_setRegister 17 = .ok (.iload_n 1, 1) := by decide +kernel
theorem dX11_setRegister_18 : decode cX11_setRegister 18 = .ok (.bipush 31, 2) := by decide +kernel
theorem dX11_setRegister_20 : decode cX11_setRegister 20 = .ok (.if_icmp .le 5, 3) := by decide +kernel
theorem dX11_setRegister_23 : decode cX11_setRegister 23 = .ok (.iconst 0, 1) := by decide +kernel
theorem dX11_setRegister_24 : decode cX11_setRegister 24 = .ok (.ireturn, 1) := by decide +kernel
theorem dX11_setRegister_25 : decode cX11_setRegister 25 = .ok (.aload_n 0, 1) := by decide +kernel
theorem dX11_setRegister_26 : decode cX11_setRegister 26 = .ok (.getfield 14, 3) := by decide +kernel
theorem dX11_setRegister_29 : decode cX11_setRegister 29 = .ok (.iload_n 1, 1) := by decide +kernel
theorem dX11_setRegister_30 : decode cX11_setRegister 30 = .ok (.iload_n 2, 1) := by decide +kernel
theorem dX11_setRegister_31 : decode cX11_setRegister 31 = .ok (.iastore, 1) := by decide +kernel
theorem dX11_setRegister_32 : decode cX11_setRegister 32 = .ok (.iconst 1, 1) := by decide +kernel
theorem dX11_setRegister_33 : decode cX11_setRegister 33 = .ok (.ireturn, 1) := by decide +kernel
theorem dX11_linesFrom_0 : decode cX11_linesFrom 0 = .ok (.aload_n 0, 1) := by decide +kernel
theorem dX11_linesFrom_1 : decode cX11_linesFrom 1 = .ok (.iconst 0, 1) := by decide +kernel
theorem dX11_linesFrom_2 : decode cX11_linesFrom 2 = .ok (.putfield 49, 3) := by decide +kernel
theorem dX11_linesFrom_5 : decode cX11_linesFrom 5 = .ok (.aload_n 0, 1) := by decide +kernel
theorem dX11_linesFrom_6 : decode cX11_linesFrom 6 = .ok (.getfield 75, 3) := by decide +kernel
theorem dX11_linesFrom_9 : decode cX11_linesFrom 9 = .ok (.ifCond .gt 49, 3) := by decide +kernel
theorem dX11_linesFrom_12 : decode cX11_linesFrom 12 = .ok (.iload_n 1, 1) := by decide +kernel
theorem dX11_linesFrom_13 : decode cX11_linesFrom 13 = .ok (.ifCond .lt 45, 3) := by decide +kernel
theorem dX11_linesFrom_16 : decode cX11_linesFrom 16 = .ok (.aload_n 0, 1) := by decide +kernel
theorem dX11_linesFrom_17 : decode cX11_linesFrom 17 = .ok (.getfield 72, 3) := by decide +kernel
theorem dX11_linesFrom_20 : decode cX11_linesFrom 20 = .ok (.bipush 32, 2) := by decide +kernel
theorem dX11_linesFrom_22 : decode cX11_linesFrom 22 = .ok (.if_icmp .eq 36, 3) := by decide +kernel
theorem dX11_linesFrom_25 : decode cX11_linesFrom 25 = .ok (.aload_n 0, 1) := by decide +kernel
theorem dX11_linesFrom_26 : decode cX11_linesFrom 26 = .ok (.getfield 72, 3) := by decide +kernel
theorem dX11_linesFrom_29 : decode cX11_linesFrom 29 = .ok (.ifCond .le 31, 3) := by decide +kernel
theorem dX11_linesFrom_32 : decode cX11_linesFrom 32 = .ok (.iload_n 1, 1) := by decide +kernel
theorem dX11_linesFrom_33 : decode cX11_linesFrom 33 = .ok (.aload_n 0, 1) := by decide +kernel
theorem dX11_linesFrom_34 : decode cX11_linesFrom 34 = .ok (.getfield 24, 3) := by decide +kernel
theorem dX11_linesFrom_37 : decode cX11_linesFrom 37 = .ok (.aload_n 0, 1) := by decide +kernel
theorem dX11_linesFrom_38 : decode cX11_linesFrom 38 = .ok (.getfield 72, 3) := by decide +kernel
theorem dX11_linesFrom_41 : decode cX11_linesFrom 41 = .ok (.ifCond .le 12, 3) := by decide +kernel
theorem dX11_linesFrom_44 : decode cX11_linesFrom 44 = .ok (.aload_n 0, 1) := by decide +kernel
theorem dX11_linesFrom_45 : decode cX11_linesFrom 45 = .ok (.getfield 72, 3) := by decide +kernel
theorem dX11_linesFrom_48 : decode cX11_linesFrom 48 = .ok (.iconst 1, 1) := by decide +kernel
theorem dX11_linesFrom_49 : decode cX11_linesFrom 49 = .ok (.isub, 1) := by decide +kernel
theorem dX11_linesFrom_50 : decode cX11_linesFrom 50 = .ok (.goto 4, 3) := by decide +kernel
theorem dX11_linesFrom_53 : decode cX11_linesFrom 53 = .ok (.iconst 0, 1) := by decide +kernel
theorem dX11_linesFrom_54 : decode cX11_linesFrom 54 = .ok (.iaload, 1) := by decide +kernel
theorem dX11_linesFrom_55 : decode cX11_linesFrom 55 = .ok (.if_icmp .gt 5, 3) := by decide +kernel
theorem dX11_linesFrom_58 : decode cX11_linesFrom 58 = .ok (.iconst 0, 1) := by decide +kernel
theorem dX11_linesFrom_59 : decode cX11_linesFrom 59 = .ok (.ireturn, 1) := by decide +kernel
theorem dX11_linesFrom_60 : decode cX11_linesFrom 60 = .ok (.aload_n 0, 1) := by decide +kernel
theorem dX11_linesFrom_61 : decode cX11_linesFrom 61 = .ok (.getfield 24, 3) := by decide +kernel
theorem dX11_linesFrom_64 : decode cX11_linesFrom 64 = .ok (.aload_n 0, 1) := by decide +kernel
theorem dX11_linesFrom_65 : decode cX11_linesFrom 65 = .ok (.getfield 72, 3) := by decide +kernel
theorem dX11_linesFrom_68 : decode cX11_linesFrom 68 = .ok (.iload_n 1, 1) := by decide +kernel
theorem dX11_linesFrom_69 : decode cX11_linesFrom 69 = .ok (.iastore, 1) := by decide +kernel
theorem dX11_linesFrom_70 : decode cX11_linesFrom 70 = .ok (.aload_n 0, 1) := by decide +kernel
theorem dX11_linesFrom_71 : decode cX11_linesFrom 71 = .ok (.getfield 27, 3) := by decide +kernel
theorem dX11_linesFrom_74 : decode cX11_linesFrom 74 = .ok (.aload_n 0, 1) := by decide +kernel
theorem dX11_linesFrom_75 : decode cX11_linesFrom 75 = .ok (.getfield 72, 3) := by decide +kernel
theorem dX11_linesFrom_78 : decode cX11_linesFrom 78 = .ok (.iload_n 2, 1) := by decide +kernel
theorem dX11_linesFrom_79 : decode cX11_linesFrom 79 = .ok (.iastore, 1) := by decide +kernel
theorem dX11_linesFrom_80 : decode cX11_linesFrom 80 = .ok (.aload_n 0, 1) := by decide +kernel
theorem dX11_linesFrom_81 : decode cX11_linesFrom 81 = .ok (.dup, 1) := by decide +kernel
theorem dX11_linesFrom_82 : decode cX11_linesFrom 82 = .ok (.getfield 72, 3) := by decide +kernel
theorem dX11_linesFrom_85 : decode cX11_linesFrom 85 = .ok (.iconst 1, 1) := by decide +kernel
theorem dX11_linesFrom_86 : decode cX11_linesFrom 86 = .ok (.iadd, 1) := by decide +kernel
theorem dX11_linesFrom_87 : decode cX11_linesFrom 87 = .ok (.putfield 72, 3) := by decide +kernel
theorem dX11_linesFrom_90 : decode cX11_linesFrom 90 = .ok (.iconst 1, 1) := by decide +kernel
theorem dX11_linesFrom_91 : decode cX11_linesFrom 91 = .ok (.ireturn, 1) := by decide +kernel
set_option maxRecDepth 1000000 in
theorem ggX11_restart_X11_begin : GoodIn wsX11_restart wsX11_begin := goodIn_r _ [6, 7, 8, 9, 10, 11, 12, 13, 14, 15, 16, 17, 18, 19, 20, 21, 22, 23, 24, 25, 26, 27, 28, 29, 30, 31, 32, 33, 34, 35, 36, 37, 38, 39, 40, 41, 42, 43, 44, 45, 46, 47, 48, 49, 50, 51, 52, 53, 54, 55, 56, 57, 58, 59, 60, 61, 62, 63, 64, 65, 66, 67, 68, 69, 70, 71, 72, 73, 74, 75, 76, 77, 78, 79, 80, 81, 82, 83, 84, 85, 86, 87, 88] rfl (by decide +kernel)
set_option maxRecDepth 1000000 in
theorem gX11_restart_X11_begin : GoodIn wsX11_restart (wsV RX11 46 RX11 yX11_begin wsX11_begin) := goodIn_app (goodIn_of _ (by decide +kernel)) ggX11_restart_X11_begin
theorem dX11_restart_0 : decode cX11_restart 0 = .ok (.aload_n 0, 1) := by decide +kernel
theorem dX11_restart_1 : decode cX11_restart 1 = .ok (.iconst 0, 1) := by decide +kernel
theorem dX11_restart_2 : decode cX11_restart 2 = .ok (.putfield 49, 3) := by decide +kernel
theorem dX11_restart_5 : decode cX11_restart 5 = .ok (.aload_n 0, 1) := by decide +kernel
theorem dX11_restart_6 : decode cX11_restart 6 = .ok (.invokevirtual 46, 3) := by decide +kernel
theorem dX11_restart_9 : decode cX11_restart 9 = .ok (.return_, 1) := by decide +kernel
theorem dX11_wordIn_0 : decode cX11_wordIn 0 = .ok (.iconst 0, 1) := by decide +kernel
theorem dX11_wordIn_1 : decode cX11_wordIn 1 = .ok (.istore_n 2, 1) := by decide +kernel
theorem dX11_wordIn_2 : decode cX11_wordIn 2 = .ok (.iconst 0, 1) := by decide +kernel
theorem dX11_wordIn_3 : decode cX11_wordIn 3 = .ok (.istore_n 3, 1) := by decide +kernel
theorem dX11_wordIn_4 : decode cX11_wordIn 4 = .ok (.iload_n 3, 1) := by decide +kernel
theorem dX11_wordIn_5 : decode cX11_wordIn 5 = .ok (.iconst 4, 1) := by decide +kernel
theorem dX11_wordIn_6 : decode cX11_wordIn 6 = .ok (.if_icmp .ge 27, 3) := by decide +kernel
theorem dX11_wordIn_9 : decode cX11_wordIn 9 = .ok (.iload_n 2, 1) := by decide +kernel
theorem dX11_wordIn_10 : decode cX11_wordIn 10 = .ok (.bipush 8, 2) := by decide +kernel
theorem dX11_wordIn_12 : decode cX11_wordIn 12 = .ok (.ishl, 1) := by decide +kernel
theorem dX11_wordIn_13 : decode cX11_wordIn 13 = .ok (.aload_n 0, 1) := by decide +kernel
theorem dX11_wordIn_14 : decode cX11_wordIn 14 = .ok (.getfield 8, 3) := by decide +kernel
theorem dX11_wordIn_17 : decode cX11_wordIn 17 = .ok (.iload_n 1, 1) := by decide +kernel
theorem dX11_wordIn_18 : decode cX11_wordIn 18 = .ok (.iload_n 3, 1) := by decide +kernel
theorem dX11_wordIn_19 : decode cX11_wordIn 19 = .ok (.iadd, 1) := by decide +kernel
theorem dX11_wordIn_20 : decode cX11_wordIn 20 = .ok (.baload, 1) := by decide +kernel
theorem dX11_wordIn_21 : decode cX11_wordIn 21 = .ok (.sipush 255, 3) := by decide +kernel
theorem dX11_wordIn_24 : decode cX11_wordIn 24 = .ok (.iand, 1) := by decide +kernel
theorem dX11_wordIn_25 : decode cX11_wordIn 25 = .ok (.ior, 1) := by decide +kernel
theorem dX11_wordIn_26 : decode cX11_wordIn 26 = .ok (.istore_n 2, 1) := by decide +kernel
theorem dX11_wordIn_27 : decode cX11_wordIn 27 = .ok (.iinc 3 1, 3) := by decide +kernel
theorem dX11_wordIn_30 : decode cX11_wordIn 30 = .ok (.goto (-26), 3) := by decide +kernel
theorem dX11_wordIn_33 : decode cX11_wordIn 33 = .ok (.iload_n 2, 1) := by decide +kernel
theorem dX11_wordIn_34 : decode cX11_wordIn 34 = .ok (.ireturn, 1) := by decide +kernel
theorem dX11_put_0 : decode cX11_put 0 = .ok (.iconst 0, 1) := by decide +kernel
theorem dX11_put_1 : decode cX11_put 1 = .ok (.istore 4, 2) := by decide +kernel
theorem dX11_put_3 : decode cX11_put 3 = .ok (.iload 4, 2) := by decide +kernel
theorem dX11_put_5 : decode cX11_put 5 = .ok (.iload_n 3, 1) := by decide +kernel
theorem dX11_put_6 : decode cX11_put 6 = .ok (.if_icmp .ge 30, 3) := by decide +kernel
theorem dX11_put_9 : decode cX11_put 9 = .ok (.aload_n 0, 1) := by decide +kernel
theorem dX11_put_10 : decode cX11_put 10 = .ok (.getfield 8, 3) := by decide +kernel
theorem dX11_put_13 : decode cX11_put 13 = .ok (.iload_n 1, 1) := by decide +kernel
theorem dX11_put_14 : decode cX11_put 14 = .ok (.iload 4, 2) := by decide +kernel
theorem dX11_put_16 : decode cX11_put 16 = .ok (.iadd, 1) := by decide +kernel
theorem dX11_put_17 : decode cX11_put 17 = .ok (.iload_n 2, 1) := by decide +kernel
theorem dX11_put_18 : decode cX11_put 18 = .ok (.bipush 8, 2) := by decide +kernel
theorem dX11_put_20 : decode cX11_put 20 = .ok (.iload_n 3, 1) := by decide +kernel
theorem dX11_put_21 : decode cX11_put 21 = .ok (.iconst 1, 1) := by decide +kernel
theorem dX11_put_22 : decode cX11_put 22 = .ok (.isub, 1) := by decide +kernel
theorem dX11_put_23 : decode cX11_put 23 = .ok (.iload 4, 2) := by decide +kernel
theorem dX11_put_25 : decode cX11_put 25 = .ok (.isub, 1) := by decide +kernel
theorem dX11_put_26 : decode cX11_put 26 = .ok (.imul, 1) := by decide +kernel
theorem dX11_put_27 : decode cX11_put 27 = .ok (.ishr, 1) := by decide +kernel
theorem dX11_put_28 : decode cX11_put 28 = .ok (.i2b, 1) := by decide +kernel
theorem dX11_put_29 : decode cX11_put 29 = .ok (.bastore, 1) := by decide +kernel
theorem dX11_put_30 : decode cX11_put 30 = .ok (.iinc 4 1, 3) := by decide +kernel
theorem dX11_put_33 : decode cX11_put 33 = .ok (.goto (-30), 3) := by decide +kernel
theorem dX11_put_36 : decode cX11_put 36 = .ok (.return_, 1) := by decide +kernel
theorem dX11_has_0 : decode cX11_has 0 = .ok (.aload_n 0, 1) := by decide +kernel
theorem dX11_has_1 : decode cX11_has 1 = .ok (.getfield 18, 3) := by decide +kernel
theorem dX11_has_4 : decode cX11_has 4 = .ok (.iconst 0, 1) := by decide +kernel
theorem dX11_has_5 : decode cX11_has 5 = .ok (.iaload, 1) := by decide +kernel
theorem dX11_has_6 : decode cX11_has 6 = .ok (.iload_n 1, 1) := by decide +kernel
theorem dX11_has_7 : decode cX11_has 7 = .ok (.iand, 1) := by decide +kernel
theorem dX11_has_8 : decode cX11_has 8 = .ok (.ifCond .eq 7, 3) := by decide +kernel
theorem dX11_has_11 : decode cX11_has 11 = .ok (.iconst 1, 1) := by decide +kernel
theorem dX11_has_12 : decode cX11_has 12 = .ok (.goto 4, 3) := by decide +kernel
theorem dX11_has_15 : decode cX11_has 15 = .ok (.iconst 0, 1) := by decide +kernel
theorem dX11_has_16 : decode cX11_has 16 = .ok (.ireturn, 1) := by decide +kernel
theorem dX11_mapped_0 : decode cX11_mapped 0 = .ok (.iload_n 1, 1) := by decide +kernel
theorem dX11_mapped_1 : decode cX11_mapped 1 = .ok (.bipush 10, 2) := by decide +kernel
theorem dX11_mapped_3 : decode cX11_mapped 3 = .ok (.iushr, 1) := by decide +kernel
theorem dX11_mapped_4 : decode cX11_mapped 4 = .ok (.istore 4, 2) := by decide +kernel
theorem dX11_mapped_6 : decode cX11_mapped 6 = .ok (.aload_n 0, 1) := by decide +kernel
theorem dX11_mapped_7 : decode cX11_mapped 7 = .ok (.getfield 21, 3) := by decide +kernel
theorem dX11_mapped_10 : decode cX11_mapped 10 = .ok (.iload_n 2, 1) := by decide +kernel
theorem dX11_mapped_11 : decode cX11_mapped 11 = .ok (.iload 4, 2) := by decide +kernel
theorem dX11_mapped_13 : decode cX11_mapped 13 = .ok (.aload_n 0, 1) := by decide +kernel
theorem dX11_mapped_14 : decode cX11_mapped 14 = .ok (.getfield 42, 3) := by decide +kernel
theorem dX11_mapped_17 : decode cX11_mapped 17 = .ok (.irem, 1) := by decide +kernel
theorem dX11_mapped_18 : decode cX11_mapped 18 = .ok (.iadd, 1) := by decide +kernel
theorem dX11_mapped_19 : decode cX11_mapped 19 = .ok (.iaload, 1) := by decide +kernel
theorem dX11_mapped_20 : decode cX11_mapped 20 = .ok (.istore 5, 2) := by decide +kernel
theorem dX11_mapped_22 : decode cX11_mapped 22 = .ok (.aload_n 0, 1) := by decide +kernel
theorem dX11_mapped_23 : decode cX11_mapped 23 = .ok (.getfield 21, 3) := by decide +kernel
theorem dX11_mapped_26 : decode cX11_mapped 26 = .ok (.iload_n 2, 1) := by decide +kernel
theorem dX11_mapped_27 : decode cX11_mapped 27 = .ok (.sipush 128, 3) := by decide +kernel
theorem dX11_mapped_30 : decode cX11_mapped 30 = .ok (.iadd, 1) := by decide +kernel
theorem dX11_mapped_31 : decode cX11_mapped 31 = .ok (.iload 4, 2) := by decide +kernel
theorem dX11_mapped_33 : decode cX11_mapped 33 = .ok (.aload_n 0, 1) := by decide +kernel
theorem dX11_mapped_34 : decode cX11_mapped 34 = .ok (.getfield 42, 3) := by decide +kernel
theorem dX11_mapped_37 : decode cX11_mapped 37 = .ok (.irem, 1) := by decide +kernel
theorem dX11_mapped_38 : decode cX11_mapped 38 = .ok (.iadd, 1) := by decide +kernel
theorem dX11_mapped_39 : decode cX11_mapped 39 = .ok (.iaload, 1) := by decide +kernel
theorem dX11_mapped_40 : decode cX11_mapped 40 = .ok (.istore 6, 2) := by decide +kernel
theorem dX11_mapped_42 : decode cX11_mapped 42 = .ok (.iload 5, 2) := by decide +kernel
theorem dX11_mapped_44 : decode cX11_mapped 44 = .ok (.iconst 2, 1) := by decide +kernel
theorem dX11_mapped_45 : decode cX11_mapped 45 = .ok (.irem, 1) := by decide +kernel
theorem dX11_mapped_46 : decode cX11_mapped 46 = .ok (.ifCond .eq 13, 3) := by decide +kernel
theorem dX11_mapped_49 : decode cX11_mapped 49 = .ok (.iload 5, 2) := by decide +kernel
theorem dX11_mapped_51 : decode cX11_mapped 51 = .ok (.bipush 10, 2) := by decide +kernel
theorem dX11_mapped_53 : decode cX11_mapped 53 = .ok (.iushr, 1) := by decide +kernel
theorem dX11_mapped_54 : decode cX11_mapped 54 = .ok (.iload 4, 2) := by decide +kernel
theorem dX11_mapped_56 : decode cX11_mapped 56 = .ok (.if_icmp .eq 7, 3) := by decide +kernel
theorem dX11_mapped_59 : decode cX11_mapped 59 = .ok (.ldc2_w 113, 3) := by decide +kernel
theorem dX11_mapped_62 : decode cX11_mapped 62 = .ok (.lreturn, 1) := by decide +kernel
theorem dX11_mapped_63 : decode cX11_mapped 63 = .ok (.iload 6, 2) := by decide +kernel
theorem dX11_mapped_65 : decode cX11_mapped 65 = .ok (.iload_n 3, 1) := by decide +kernel
theorem dX11_mapped_66 : decode cX11_mapped 66 = .ok (.iand, 1) := by decide +kernel
theorem dX11_mapped_67 : decode cX11_mapped 67 = .ok (.ifCond .ne 9, 3) := by decide +kernel
theorem dX11_mapped_70 : decode cX11_mapped 70 = .ok (.ldc2_w 115, 3) := by decide +kernel
theorem dX11_mapped_73 : decode cX11_mapped 73 = .ok (.goto 20, 3) := by decide +kernel
theorem dX11_mapped_76 : decode cX11_mapped 76 = .ok (.iload 6, 2) := by decide +kernel
theorem dX11_mapped_78 : decode cX11_mapped 78 = .ok (.bipush 10, 2) := by decide +kernel
theorem dX11_mapped_80 : decode cX11_mapped 80 = .ok (.iushr, 1) := by decide +kernel
theorem dX11_mapped_81 : decode cX11_mapped 81 = .ok (.i2l, 1) := by decide +kernel
theorem dX11_mapped_82 : decode cX11_mapped 82 = .ok (.ldc2_w 117, 3) := by decide +kernel
theorem dX11_mapped_85 : decode cX11_mapped 85 = .ok (.lmul, 1) := by decide +kernel
theorem dX11_mapped_86 : decode cX11_mapped 86 = .ok (.iload_n 1, 1) := by decide +kernel
theorem dX11_mapped_87 : decode cX11_mapped 87 = .ok (.sipush 1023, 3) := by decide +kernel
theorem dX11_mapped_90 : decode cX11_mapped 90 = .ok (.iand, 1) := by decide +kernel
theorem dX11_mapped_91 : decode cX11_mapped 91 = .ok (.i2l, 1) := by decide +kernel
theorem dX11_mapped_92 : decode cX11_mapped 92 = .ok (.ladd, 1) := by decide +kernel
theorem dX11_mapped_93 : decode cX11_mapped 93 = .ok (.lreturn, 1) := by decide +kernel
set_option maxRecDepth 1000000 in
theorem ggX11_codeAt_X11_has : GoodIn wsX11_codeAt wsX11_has := goodIn_r _ [10, 11, 19, 20, 21, 22, 23, 24, 25, 26, 27, 28, 29, 30, 31, 32, 33, 34, 35, 36, 37, 38, 39, 40, 41, 42, 43, 44, 45, 46, 47, 48, 49, 50, 51, 52, 53, 54, 55, 56, 57, 58, 59, 60, 61, 62, 63, 64, 65, 66, 67, 68, 69, 70, 71, 72, 73, 74, 75, 76, 77, 78] rfl (by decide +kernel)
set_option maxRecDepth 1000000 in
theorem gX11_codeAt_X11_has : GoodIn wsX11_codeAt (wsV RX11 122 RX11 yX11_has wsX11_has) := goodIn_app (goodIn_of _ (by decide +kernel)) ggX11_codeAt_X11_has
set_option maxRecDepth 1000000 in
theorem ggX11_codeAt_X11_mapped : GoodIn wsX11_codeAt wsX11_mapped := goodIn_r _ [15, 16, 17, 3, 4, 18, 19, 20, 21, 22, 23, 24, 25, 26, 27, 28, 29, 30, 31, 32, 33, 34, 35, 36, 37, 38, 39, 40, 41, 42, 43, 44, 45, 46, 47, 48, 49, 50, 51, 52, 53, 54, 55, 56, 57, 58, 59, 60, 61, 62, 63, 64, 65, 66, 67, 68, 69, 70, 71, 72, 73, 74, 75, 76, 77, 78] rfl (by decide +kernel)
set_option maxRecDepth 1000000 in
theorem gX11_codeAt_X11_mapped : GoodIn wsX11_codeAt (wsV RX11 126 RX11 yX11_mapped wsX11_mapped) := goodIn_app (goodIn_of _ (by decide +kernel)) ggX11_codeAt_X11_mapped
theorem dX11_codeAt_0 : decode cX11_codeAt 0 = .ok (.aload_n 0, 1) := by decide +kernel
theorem dX11_codeAt_1 : decode cX11_codeAt 1 = .ok (.iconst 0, 1) := by decide +kernel
theorem dX11_codeAt_2 : decode cX11_codeAt 2 = .ok (.putfield 119, 3) := by decide +kernel
theorem dX11_codeAt_5 : decode cX11_codeAt 5 = .ok (.iload_n 1, 1) := by decide +kernel
theorem dX11_codeAt_6 : decode cX11_codeAt 6 = .ok (.iconst 3, 1) := by decide +kernel
theorem dX11_codeAt_7 : decode cX11_codeAt 7 = .ok (.iand, 1) := by decide +kernel
theorem dX11_codeAt_8 : decode cX11_codeAt 8 = .ok (.ifCond .eq 11, 3) := by decide +kernel
theorem dX11_codeAt_11 : decode cX11_codeAt 11 = .ok (.aload_n 0, 1) := by decide +kernel
theorem dX11_codeAt_12 : decode cX11_codeAt 12 = .ok (.bipush 6, 2) := by decide +kernel
theorem dX11_codeAt_14 : decode cX11_codeAt 14 = .ok (.putfield 119, 3) := by decide +kernel
theorem dX11_codeAt_17 : decode cX11_codeAt 17 = .ok (.iconst 0, 1) := by decide +kernel
theorem dX11_codeAt_18 : decode cX11_codeAt 18 = .ok (.ireturn, 1) := by decide +kernel
theorem dX11_codeAt_19 : decode cX11_codeAt 19 = .ok (.aload_n 0, 1) := by decide +kernel
theorem dX11_codeAt_20 : decode cX11_codeAt 20 = .ok (.bipush 16, 2) := by decide +kernel
theorem dX11_codeAt_22 : decode cX11_codeAt 22 = .ok (.invokevirtual 122, 3) := by decide +kernel
theorem dX11_codeAt_25 : decode cX11_codeAt 25 = .ok (.ifCond .eq 25, 3) := by decide +kernel
theorem dX11_codeAt_28 : decode cX11_codeAt 28 = .ok (.aload_n 0, 1) := by decide +kernel
theorem dX11_codeAt_29 : decode cX11_codeAt 29 = .ok (.iload_n 1, 1) := by decide +kernel
theorem dX11_codeAt_30 : decode cX11_codeAt 30 = .ok (.iconst 0, 1) := by decide +kernel
theorem dX11_codeAt_31 : decode cX11_codeAt 31 = .ok (.aload_n 0, 1) := by decide +kernel
theorem dX11_codeAt_32 : decode cX11_codeAt 32 = .ok (.iconst 1, 1) := by decide +kernel
theorem dX11_codeAt_33 : decode cX11_codeAt 33 = .ok (.invokevirtual 122, 3) := by decide +kernel
theorem dX11_codeAt_36 : decode cX11_codeAt 36 = .ok (.ifCond .eq 7, 3) := by decide +kernel
theorem dX11_codeAt_39 : decode cX11_codeAt 39 = .ok (.iconst 4, 1) := by decide +kernel
theorem dX11_codeAt_40 : decode cX11_codeAt 40 = .ok (.goto 4, 3) := by decide +kernel
theorem dX11_codeAt_43 : decode cX11_codeAt 43 = .ok (.iconst 1, 1) := by decide +kernel
theorem dX11_codeAt_44 : decode cX11_codeAt 44 = .ok (.invokevirtual 126, 3) := by decide +kernel
theorem dX11_codeAt_47 : decode cX11_codeAt 47 = .ok (.goto 9, 3) := by decide +kernel
theorem dX11_codeAt_50 : decode cX11_codeAt 50 = .ok (.iload_n 1, 1) := by decide +kernel
theorem dX11_codeAt_51 : decode cX11_codeAt 51 = .ok (.i2l, 1) := by decide +kernel
theorem dX11_codeAt_52 : decode cX11_codeAt 52 = .ok (.ldc2_w 130, 3) := by decide +kernel
theorem dX11_codeAt_55 : decode cX11_codeAt 55 = .ok (.land, 1) := by decide +kernel
theorem dX11_codeAt_56 : decode cX11_codeAt 56 = .ok (.lstore_n 2, 1) := by decide +kernel
theorem dX11_codeAt_57 : decode cX11_codeAt 57 = .ok (.aload_n 0, 1) := by decide +kernel
theorem dX11_codeAt_58 : decode cX11_codeAt 58 = .ok (.lload_n 2, 1) := by decide +kernel
theorem dX11_codeAt_59 : decode cX11_codeAt 59 = .ok (.ldc2_w 113, 3) := by decide +kernel
theorem dX11_codeAt_62 : decode cX11_codeAt 62 = .ok (.lcmp, 1) := by decide +kernel
theorem dX11_codeAt_63 : decode cX11_codeAt 63 = .ok (.ifCond .ne 8, 3) := by decide +kernel
theorem dX11_codeAt_66 : decode cX11_codeAt 66 = .ok (.bipush 10, 2) := by decide +kernel
theorem dX11_codeAt_68 : decode cX11_codeAt 68 = .ok (.goto 28, 3) := by decide +kernel
theorem dX11_codeAt_71 : decode cX11_codeAt 71 = .ok (.lload_n 2, 1) := by decide +kernel
theorem dX11_codeAt_72 : decode cX11_codeAt 72 = .ok (.ldc2_w 115, 3) := by decide +kernel
theorem dX11_codeAt_75 : decode cX11_codeAt 75 = .ok (.lcmp, 1) := by decide +kernel
theorem dX11_codeAt_76 : decode cX11_codeAt 76 = .ok (.ifCond .ne 7, 3) := by decide +kernel
theorem dX11_codeAt_79 : decode cX11_codeAt 79 = .ok (.iconst 4, 1) := by decide +kernel
theorem dX11_codeAt_80 : decode cX11_codeAt 80 = .ok (.goto 16, 3) := by decide +kernel
theorem dX11_codeAt_83 : decode cX11_codeAt 83 = .ok (.lload_n 2, 1) := by decide +kernel
theorem dX11_codeAt_84 : decode cX11_codeAt 84 = .ok (.ldc2_w 132, 3) := by decide +kernel
theorem dX11_codeAt_87 : decode cX11_codeAt 87 = .ok (.lcmp, 1) := by decide +kernel
theorem dX11_codeAt_88 : decode cX11_codeAt 88 = .ok (.ifCond .le 7, 3) := by decide +kernel
theorem dX11_codeAt_91 : decode cX11_codeAt 91 = .ok (.iconst 2, 1) := by decide +kernel
theorem dX11_codeAt_92 : decode cX11_codeAt 92 = .ok (.goto 4, 3) := by decide +kernel
theorem dX11_codeAt_95 : decode cX11_codeAt 95 = .ok (.iconst 0, 1) := by decide +kernel
theorem dX11_codeAt_96 : decode cX11_codeAt 96 = .ok (.putfield 119, 3) := by decide +kernel
theorem dX11_codeAt_99 : decode cX11_codeAt 99 = .ok (.aload_n 0, 1) := by decide +kernel
theorem dX11_codeAt_100 : decode cX11_codeAt 100 = .ok (.getfield 119, 3) := by decide +kernel
theorem dX11_codeAt_103 : decode cX11_codeAt 103 = .ok (.ifCond .le 7, 3) := by decide +kernel
theorem dX11_codeAt_106 : decode cX11_codeAt 106 = .ok (.iconst 0, 1) := by decide +kernel
theorem dX11_codeAt_107 : decode cX11_codeAt 107 = .ok (.goto 5, 3) := by decide +kernel
theorem dX11_codeAt_110 : decode cX11_codeAt 110 = .ok (.lload_n 2, 1) := by decide +kernel
theorem dX11_codeAt_111 : decode cX11_codeAt 111 = .ok (.l2i, 1) := by decide +kernel
theorem dX11_codeAt_112 : decode cX11_codeAt 112 = .ok (.ireturn, 1) := by decide +kernel
set_option maxRecDepth 1000000 in
theorem ggX11_dataAt_X11_has : GoodIn wsX11_dataAt wsX11_has := goodIn_r _ [9, 10, 19, 20, 21, 22, 23, 24, 25, 26, 27, 28, 29, 30, 31, 32, 33, 34, 35, 36, 37, 38, 39, 40, 41, 42, 43, 44, 45, 46, 47, 48, 49, 50, 51, 52, 53, 54, 55, 56, 57, 58, 59, 60, 61, 62, 63, 64, 65, 66, 67, 68, 69, 70, 71, 72, 73, 74, 75, 76, 77, 78] rfl (by decide +kernel)
set_option maxRecDepth 1000000 in
theorem gX11_dataAt_X11_has : GoodIn wsX11_dataAt (wsV RX11 122 RX11 yX11_has wsX11_has) := goodIn_app (goodIn_of _ (by decide +kernel)) ggX11_dataAt_X11_has
set_option maxRecDepth 1000000 in
theorem ggX11_dataAt_X11_mapped : GoodIn wsX11_dataAt wsX11_mapped := goodIn_r _ [14, 15, 16, 2, 17, 18, 19, 20, 21, 22, 23, 24, 25, 26, 27, 28, 29, 30, 31, 32, 33, 34, 35, 36, 37, 38, 39, 40, 41, 42, 43, 44, 45, 46, 47, 48, 49, 50, 51, 52, 53, 54, 55, 56, 57, 58, 59, 60, 61, 62, 63, 64, 65, 66, 67, 68, 69, 70, 71, 72, 73, 74, 75, 76, 77, 78] rfl (by decide +kernel)
set_option maxRecDepth 1000000 in
theorem gX11_dataAt_X11_mapped : GoodIn wsX11_dataAt (wsV RX11 126 RX11 yX11_mapped wsX11_mapped) := goodIn_app (goodIn_of _ (by decide +kernel)) ggX11_dataAt_X11_mapped
theorem dX11_dataAt_0 : decode cX11_dataAt 0 = .ok (.iload_n 1, 1) := by decide +kernel
theorem dX11_dataAt_1 : decode cX11_dataAt 1 = .ok (.iload_n 2, 1) := by decide +kernel
theorem dX11_dataAt_2 : decode cX11_dataAt 2 = .ok (.iconst 1, 1) := by decide +kernel
theorem dX11_dataAt_3 : decode cX11_dataAt 3 = .ok (.isub, 1) := by decide +kernel
theorem dX11_dataAt_4 : decode cX11_dataAt 4 = .ok (.iand, 1) := by decide +kernel
theorem dX11_dataAt_5 : decode cX11_dataAt 5 = .ok (.ifCond .eq 6, 3) := by decide +kernel
theorem dX11_dataAt_8 : decode cX11_dataAt 8 = .ok (.bipush (-6), 2) := by decide +kernel
theorem dX11_dataAt_10 : decode cX11_dataAt 10 = .ok (.ireturn, 1) := by decide +kernel
theorem dX11_dataAt_11 : decode cX11_dataAt 11 = .ok (.iload_n 3, 1) := by decide +kernel
theorem dX11_dataAt_12 : decode cX11_dataAt 12 = .ok (.ifCond .eq 20, 3) := by decide +kernel
theorem dX11_dataAt_15 : decode cX11_dataAt 15 = .ok (.aload_n 0, 1) := by decide +kernel
theorem dX11_dataAt_16 : decode cX11_dataAt 16 = .ok (.iconst 1, 1) := by decide +kernel
theorem dX11_dataAt_17 : decode cX11_dataAt 17 = .ok (.invokevirtual 122, 3) := by decide +kernel
theorem dX11_dataAt_20 : decode cX11_dataAt 20 = .ok (.ifCond .eq 8, 3) := by decide +kernel
theorem dX11_dataAt_23 : decode cX11_dataAt 23 = .ok (.bipush 8, 2) := by decide +kernel
theorem dX11_dataAt_25 : decode cX11_dataAt 25 = .ok (.goto 20, 3) := by decide +kernel
theorem dX11_dataAt_28 : decode cX11_dataAt 28 = .ok (.iconst 2, 1) := by decide +kernel
theorem dX11_dataAt_29 : decode cX11_dataAt 29 = .ok (.goto 16, 3) := by decide +kernel
theorem dX11_dataAt_32 : decode cX11_dataAt 32 = .ok (.aload_n 0, 1) := by decide +kernel
theorem dX11_dataAt_33 : decode cX11_dataAt 33 = .ok (.iconst 1, 1) := by decide +kernel
theorem dX11_dataAt_34 : decode cX11_dataAt 34 = .ok (.invokevirtual 122, 3) := by decide +kernel
theorem dX11_dataAt_37 : decode cX11_dataAt 37 = .ok (.ifCond .eq 7, 3) := by decide +kernel
theorem dX11_dataAt_40 : decode cX11_dataAt 40 = .ok (.iconst 4, 1) := by decide +kernel
theorem dX11_dataAt_41 : decode cX11_dataAt 41 = .ok (.goto 4, 3) := by decide +kernel
theorem dX11_dataAt_44 : decode cX11_dataAt 44 = .ok (.iconst 1, 1) := by decide +kernel
theorem dX11_dataAt_45 : decode cX11_dataAt 45 = .ok (.istore 4, 2) := by decide +kernel
theorem dX11_dataAt_47 : decode cX11_dataAt 47 = .ok (.aload_n 0, 1) := by decide +kernel
theorem dX11_dataAt_48 : decode cX11_dataAt 48 = .ok (.bipush 8, 2) := by decide +kernel
theorem dX11_dataAt_50 : decode cX11_dataAt 50 = .ok (.invokevirtual 122, 3) := by decide +kernel
theorem dX11_dataAt_53 : decode cX11_dataAt 53 = .ok (.ifCond .eq 16, 3) := by decide +kernel
theorem dX11_dataAt_56 : decode cX11_dataAt 56 = .ok (.aload_n 0, 1) := by decide +kernel
theorem dX11_dataAt_57 : decode cX11_dataAt 57 = .ok (.iload_n 1, 1) := by decide +kernel
theorem dX11_dataAt_58 : decode cX11_dataAt 58 = .ok (.sipush 256, 3) := by decide +kernel
theorem dX11_dataAt_61 : decode cX11_dataAt 61 = .ok (.iload 4, 2) := by decide +kernel
theorem dX11_dataAt_63 : decode cX11_dataAt 63 = .ok (.invokevirtual 126, 3) := by decide +kernel
theorem dX11_dataAt_66 : decode cX11_dataAt 66 = .ok (.goto 9, 3) := by decide +kernel
theorem dX11_dataAt_69 : decode cX11_dataAt 69 = .ok (.iload_n 1, 1) := by decide +kernel
theorem dX11_dataAt_70 : decode cX11_dataAt 70 = .ok (.i2l, 1) := by decide +kernel
theorem dX11_dataAt_71 : decode cX11_dataAt 71 = .ok (.ldc2_w 130, 3) := by decide +kernel
theorem dX11_dataAt_74 : decode cX11_dataAt 74 = .ok (.land, 1) := by decide +kernel
theorem dX11_dataAt_75 : decode cX11_dataAt 75 = .ok (.lstore 5, 2) := by decide +kernel
theorem dX11_dataAt_77 : decode cX11_dataAt 77 = .ok (.lload 5, 2) := by decide +kernel
theorem dX11_dataAt_79 : decode cX11_dataAt 79 = .ok (.lconst 0, 1) := by decide +kernel
theorem dX11_dataAt_80 : decode cX11_dataAt 80 = .ok (.lcmp, 1) := by decide +kernel
theorem dX11_dataAt_81 : decode cX11_dataAt 81 = .ok (.ifCond .ge 20, 3) := by decide +kernel
theorem dX11_dataAt_84 : decode cX11_dataAt 84 = .ok (.lload 5, 2) := by decide +kernel
theorem dX11_dataAt_86 : decode cX11_dataAt 86 = .ok (.ldc2_w 113, 3) := by decide +kernel
theorem dX11_dataAt_89 : decode cX11_dataAt 89 = .ok (.lcmp, 1) := by decide +kernel
theorem dX11_dataAt_90 : decode cX11_dataAt 90 = .ok (.ifCond .ne 8, 3) := by decide +kernel
theorem dX11_dataAt_93 : decode cX11_dataAt 93 = .ok (.bipush (-9), 2) := by decide +kernel
theorem dX11_dataAt_95 : decode cX11_dataAt 95 = .ok (.goto 5, 3) := by decide +kernel
theorem dX11_dataAt_98 : decode cX11_dataAt 98 = .ok (.bipush (-3), 2) := by decide +kernel
theorem dX11_dataAt_100 : decode cX11_dataAt 100 = .ok (.ireturn, 1) := by decide +kernel
theorem dX11_dataAt_101 : decode cX11_dataAt 101 = .ok (.lload 5, 2) := by decide +kernel
theorem dX11_dataAt_103 : decode cX11_dataAt 103 = .ok (.ldc2_w 134, 3) := by decide +kernel
theorem dX11_dataAt_106 : decode cX11_dataAt 106 = .ok (.lcmp, 1) := by decide +kernel
theorem dX11_dataAt_107 : decode cX11_dataAt 107 = .ok (.ifCond .gt 16, 3) := by decide +kernel
theorem dX11_dataAt_110 : decode cX11_dataAt 110 = .ok (.iload_n 3, 1) := by decide +kernel
theorem dX11_dataAt_111 : decode cX11_dataAt 111 = .ok (.ifCond .eq 17, 3) := by decide +kernel
theorem dX11_dataAt_114 : decode cX11_dataAt 114 = .ok (.lload 5, 2) := by decide +kernel
theorem dX11_dataAt_116 : decode cX11_dataAt 116 = .ok (.ldc2_w 136, 3) := by decide +kernel
theorem dX11_dataAt_119 : decode cX11_dataAt 119 = .ok (.lcmp, 1) := by decide +kernel
theorem dX11_dataAt_120 : decode cX11_dataAt 120 = .ok (.ifCond .ge 8, 3) := by decide +kernel
theorem dX11_dataAt_123 : decode cX11_dataAt 123 = .ok (.bipush (-2), 2) := by decide +kernel
theorem dX11_dataAt_125 : decode cX11_dataAt 125 = .ok (.goto 6, 3) := by decide +kernel
theorem dX11_dataAt_128 : decode cX11_dataAt 128 = .ok (.lload 5, 2) := by decide +kernel
theorem dX11_dataAt_130 : decode cX11_dataAt 130 = .ok (.l2i, 1) := by decide +kernel
theorem dX11_dataAt_131 : decode cX11_dataAt 131 = .ok (.ireturn, 1) := by decide +kernel
theorem dX11_linesNow_0 : decode cX11_linesNow 0 = .ok (.iconst 0, 1) := by decide +kernel
theorem dX11_linesNow_1 : decode cX11_linesNow 1 = .ok (.istore_n 1, 1) := by decide +kernel
theorem dX11_linesNow_2 : decode cX11_linesNow 2 = .ok (.iconst 0, 1) := by decide +kernel
theorem dX11_linesNow_3 : decode cX11_linesNow 3 = .ok (.istore_n 2, 1) := by decide +kernel
theorem dX11_linesNow_4 : decode cX11_linesNow 4 = .ok (.iload_n 2, 1) := by decide +kernel
theorem dX11_linesNow_5 : decode cX11_linesNow 5 = .ok (.aload_n 0, 1) := by decide +kernel
theorem dX11_linesNow_6 : decode cX11_linesNow 6 = .ok (.getfield 72, 3) := by decide +kernel
theorem dX11_linesNow_9 : decode cX11_linesNow 9 = .ok (.if_icmp .ge 33, 3) := by decide +kernel
theorem dX11_linesNow_12 : decode cX11_linesNow 12 = .ok (.aload_n 0, 1) := by decide +kernel
theorem dX11_linesNow_13 : decode cX11_linesNow 13 = .ok (.getfield 24, 3) := by decide +kernel
theorem dX11_linesNow_16 : decode cX11_linesNow 16 = .ok (.iload_n 2, 1) := by decide +kernel
theorem dX11_linesNow_17 : decode cX11_linesNow 17 = .ok (.iaload, 1) := by decide +kernel
theorem dX11_linesNow_18 : decode cX11_linesNow 18 = .ok (.aload_n 0, 1) := by decide +kernel
theorem dX11_linesNow_19 : decode cX11_linesNow 19 = .ok (.getfield 69, 3) := by decide +kernel
theorem dX11_linesNow_22 : decode cX11_linesNow 22 = .ok (.if_icmp .gt 12, 3) := by decide +kernel
theorem dX11_linesNow_25 : decode cX11_linesNow 25 = .ok (.aload_n 0, 1) := by decide +kernel
theorem dX11_linesNow_26 : decode cX11_linesNow 26 = .ok (.getfield 27, 3) := by decide +kernel
theorem dX11_linesNow_29 : decode cX11_linesNow 29 = .ok (.iload_n 2, 1) := by decide +kernel
theorem dX11_linesNow_30 : decode cX11_linesNow 30 = .ok (.iaload, 1) := by decide +kernel
theorem dX11_linesNow_31 : decode cX11_linesNow 31 = .ok (.goto 4, 3) := by decide +kernel
theorem dX11_linesNow_34 : decode cX11_linesNow 34 = .ok (.iload_n 1, 1) := by decide +kernel
theorem dX11_linesNow_35 : decode cX11_linesNow 35 = .ok (.istore_n 1, 1) := by decide +kernel
theorem dX11_linesNow_36 : decode cX11_linesNow 36 = .ok (.iinc 2 1, 3) := by decide +kernel
theorem dX11_linesNow_39 : decode cX11_linesNow 39 = .ok (.goto (-35), 3) := by decide +kernel
theorem dX11_linesNow_42 : decode cX11_linesNow 42 = .ok (.iload_n 1, 1) := by decide +kernel
theorem dX11_linesNow_43 : decode cX11_linesNow 43 = .ok (.ireturn, 1) := by decide +kernel
theorem dX11_op_0 : decode cX11_op 0 = .ok (.iload_n 0, 1) := by decide +kernel
theorem dX11_op_1 : decode cX11_op 1 = .ok (.bipush 26, 2) := by decide +kernel
theorem dX11_op_3 : decode cX11_op 3 = .ok (.iushr, 1) := by decide +kernel
theorem dX11_op_4 : decode cX11_op 4 = .ok (.ireturn, 1) := by decide +kernel
set_option maxRecDepth 1000000 in
theorem ggX11_isNone_X11_op : GoodIn wsX11_isNone wsX11_op := goodIn_r _ [4] (by decide +kernel) (by decide +kernel)
set_option maxRecDepth 1000000 in
theorem gX11_isNone_X11_op : GoodIn wsX11_isNone (va_wsS RX11 138 yX11_op wsX11_op) := goodIn_app (goodIn_of _ (by decide +kernel)) ggX11_isNone_X11_op
theorem dX11_isNone_0 : decode cX11_isNone 0 = .ok (.iload_n 0, 1) := by decide +kernel
theorem dX11_isNone_1 : decode cX11_isNone 1 = .ok (.invokestatic 138, 3) := by decide +kernel
theorem dX11_isNone_4 : decode cX11_isNone 4 = .ok (.bipush 57, 2) := by decide +kernel
theorem dX11_isNone_6 : decode cX11_isNone 6 = .ok (.if_icmp .gt 33, 3) := by decide +kernel
theorem dX11_isNone_9 : decode cX11_isNone 9 = .ok (.iload_n 0, 1) := by decide +kernel
theorem dX11_isNone_10 : decode cX11_isNone 10 = .ok (.invokestatic 138, 3) := by decide +kernel
theorem dX11_isNone_13 : decode cX11_isNone 13 = .ok (.bipush 18, 2) := by decide +kernel
theorem dX11_isNone_15 : decode cX11_isNone 15 = .ok (.if_icmp .eq 12, 3) := by decide +kernel
theorem dX11_isNone_18 : decode cX11_isNone 18 = .ok (.iload_n 0, 1) := by decide +kernel
theorem dX11_isNone_19 : decode cX11_isNone 19 = .ok (.invokestatic 138, 3) := by decide +kernel
theorem dX11_isNone_22 : decode cX11_isNone 22 = .ok (.bipush 19, 2) := by decide +kernel
theorem dX11_isNone_24 : decode cX11_isNone 24 = .ok (.if_icmp .ne 19, 3) := by decide +kernel
theorem dX11_isNone_27 : decode cX11_isNone 27 = .ok (.iload_n 0, 1) := by decide +kernel
theorem dX11_isNone_28 : decode cX11_isNone 28 = .ok (.bipush 21, 2) := by decide +kernel
theorem dX11_isNone_30 : decode cX11_isNone 30 = .ok (.ishr, 1) := by decide +kernel
theorem dX11_isNone_31 : decode cX11_isNone 31 = .ok (.bipush 31, 2) := by decide +kernel
theorem dX11_isNone_33 : decode cX11_isNone 33 = .ok (.iand, 1) := by decide +kernel
theorem dX11_isNone_34 : decode cX11_isNone 34 = .ok (.bipush 9, 2) := by decide +kernel
theorem dX11_isNone_36 : decode cX11_isNone 36 = .ok (.if_icmp .le 7, 3) := by decide +kernel
theorem dX11_isNone_39 : decode cX11_isNone 39 = .ok (.iconst 1, 1) := by decide +kernel
theorem dX11_isNone_40 : decode cX11_isNone 40 = .ok (.goto 4, 3) := by decide +kernel
theorem dX11_isNone_43 : decode cX11_isNone 43 = .ok (.iconst 0, 1) := by decide +kernel
theorem dX11_isNone_44 : decode cX11_isNone 44 = .ok (.ireturn, 1) := by decide +kernel
set_option maxRecDepth 1000000 in
theorem ggX11_isSingle_X11_isNone : GoodIn wsX11_isSingle wsX11_isNone := goodIn_r _ [4, 5, 6, 3, 7] (by decide +kernel) (by decide +kernel)
set_option maxRecDepth 1000000 in
theorem gX11_isSingle_X11_isNone : GoodIn wsX11_isSingle (va_wsS RX11 142 yX11_isNone wsX11_isNone) := goodIn_app (goodIn_of _ (by decide +kernel)) ggX11_isSingle_X11_isNone
set_option maxRecDepth 1000000 in
theorem ggX11_isSingle_X11_op : GoodIn wsX11_isSingle wsX11_op := goodIn_r _ [7] (by decide +kernel) (by decide +kernel)
set_option maxRecDepth 1000000 in
theorem gX11_isSingle_X11_op : GoodIn wsX11_isSingle (va_wsS RX11 138 yX11_op wsX11_op) := goodIn_app (goodIn_of _ (by decide +kernel)) ggX11_isSingle_X11_op
theorem dX11_isSingle_0 : decode cX11_isSingle 0 = .ok (.iload_n 0, 1) := by decide +kernel
theorem dX11_isSingle_1 : decode cX11_isSingle 1 = .ok (.invokestatic 142, 3) := by decide +kernel
theorem dX11_isSingle_4 : decode cX11_isSingle 4 = .ok (.ifCond .ne 30, 3) := by decide +kernel
theorem dX11_isSingle_7 : decode cX11_isSingle 7 = .ok (.iload_n 0, 1) := by decide +kernel
theorem dX11_isSingle_8 : decode cX11_isSingle 8 = .ok (.invokestatic 138, 3) := by decide +kernel
theorem dX11_isSingle_11 : decode cX11_isSingle 11 = .ok (.bipush 29, 2) := by decide +kernel
theorem dX11_isSingle_13 : decode cX11_isSingle 13 = .ok (.if_icmp .le 12, 3) := by decide +kernel
theorem dX11_isSingle_16 : decode cX11_isSingle 16 = .ok (.iload_n 0, 1) := by decide +kernel
theorem dX11_isSingle_17 : decode cX11_isSingle 17 = .ok (.invokestatic 138, 3) := by decide +kernel
theorem dX11_isSingle_20 : decode cX11_isSingle 20 = .ok (.bipush 34, 2) := by decide +kernel
theorem dX11_isSingle_22 : decode cX11_isSingle 22 = .ok (.if_icmp .lt 12, 3) := by decide +kernel
theorem dX11_isSingle_25 : decode cX11_isSingle 25 = .ok (.iload_n 0, 1) := by decide +kernel
theorem dX11_isSingle_26 : decode cX11_isSingle 26 = .ok (.invokestatic 138, 3) := by decide +kernel
theorem dX11_isSingle_29 : decode cX11_isSingle 29 = .ok (.bipush 56, 2) := by decide +kernel
theorem dX11_isSingle_31 : decode cX11_isSingle 31 = .ok (.if_icmp .ne 7, 3) := by decide +kernel
theorem dX11_isSingle_34 : decode cX11_isSingle 34 = .ok (.iconst 1, 1) := by decide +kernel
theorem dX11_isSingle_35 : decode cX11_isSingle 35 = .ok (.goto 4, 3) := by decide +kernel
theorem dX11_isSingle_38 : decode cX11_isSingle 38 = .ok (.iconst 0, 1) := by decide +kernel
theorem dX11_isSingle_39 : decode cX11_isSingle 39 = .ok (.ireturn, 1) := by decide +kernel
set_option maxRecDepth 1000000 in
theorem ggX11_isBranch_X11_op : GoodIn wsX11_isBranch wsX11_op := goodIn_r _ [4] (by decide +kernel) (by decide +kernel)
set_option maxRecDepth 1000000 in
theorem gX11_isBranch_X11_op : GoodIn wsX11_isBranch (va_wsS RX11 138 yX11_op wsX11_op) := goodIn_app (goodIn_of _ (by decide +kernel)) ggX11_isBranch_X11_op
theorem dX11_isBranch_0 : decode cX11_isBranch 0 = .ok (.iload_n 0, 1) := by decide +kernel
theorem dX11_isBranch_1 : decode cX11_isBranch 1 = .ok (.invokestatic 138, 3) := by decide +kernel
theorem dX11_isBranch_4 : decode cX11_isBranch 4 = .ok (.bipush 20, 2) := by decide +kernel
theorem dX11_isBranch_6 : decode cX11_isBranch 6 = .ok (.if_icmp .lt 16, 3) := by decide +kernel
theorem dX11_isBranch_9 : decode cX11_isBranch 9 = .ok (.iload_n 0, 1) := by decide +kernel
theorem dX11_isBranch_10 : decode cX11_isBranch 10 = .ok (.invokestatic 138, 3) := by decide +kernel
theorem dX11_isBranch_13 : decode cX11_isBranch 13 = .ok (.bipush 25, 2) := by decide +kernel
theorem dX11_isBranch_15 : decode cX11_isBranch 15 = .ok (.if_icmp .gt 7, 3) := by decide +kernel
theorem dX11_isBranch_18 : decode cX11_isBranch 18 = .ok (.iconst 1, 1) := by decide +kernel
theorem dX11_isBranch_19 : decode cX11_isBranch 19 = .ok (.goto 4, 3) := by decide +kernel
theorem dX11_isBranch_22 : decode cX11_isBranch 22 = .ok (.iconst 0, 1) := by decide +kernel
theorem dX11_isBranch_23 : decode cX11_isBranch 23 = .ok (.ireturn, 1) := by decide +kernel
set_option maxRecDepth 1000000 in
theorem ggX11_isMemory_X11_op : GoodIn wsX11_isMemory wsX11_op := goodIn_r _ [4] (by decide +kernel) (by decide +kernel)
set_option maxRecDepth 1000000 in
theorem gX11_isMemory_X11_op : GoodIn wsX11_isMemory (va_wsS RX11 138 yX11_op wsX11_op) := goodIn_app (goodIn_of _ (by decide +kernel)) ggX11_isMemory_X11_op
theorem dX11_isMemory_0 : decode cX11_isMemory 0 = .ok (.iload_n 0, 1) := by decide +kernel
theorem dX11_isMemory_1 : decode cX11_isMemory 1 = .ok (.invokestatic 138, 3) := by decide +kernel
theorem dX11_isMemory_4 : decode cX11_isMemory 4 = .ok (.bipush 26, 2) := by decide +kernel
theorem dX11_isMemory_6 : decode cX11_isMemory 6 = .ok (.if_icmp .lt 12, 3) := by decide +kernel
theorem dX11_isMemory_9 : decode cX11_isMemory 9 = .ok (.iload_n 0, 1) := by decide +kernel
theorem dX11_isMemory_10 : decode cX11_isMemory 10 = .ok (.invokestatic 138, 3) := by decide +kernel
theorem dX11_isMemory_13 : decode cX11_isMemory 13 = .ok (.bipush 29, 2) := by decide +kernel
theorem dX11_isMemory_15 : decode cX11_isMemory 15 = .ok (.if_icmp .le 21, 3) := by decide +kernel
theorem dX11_isMemory_18 : decode cX11_isMemory 18 = .ok (.iload_n 0, 1) := by decide +kernel
theorem dX11_isMemory_19 : decode cX11_isMemory 19 = .ok (.invokestatic 138, 3) := by decide +kernel
theorem dX11_isMemory_22 : decode cX11_isMemory 22 = .ok (.bipush 50, 2) := by decide +kernel
theorem dX11_isMemory_24 : decode cX11_isMemory 24 = .ok (.if_icmp .le 16, 3) := by decide +kernel
theorem dX11_isMemory_27 : decode cX11_isMemory 27 = .ok (.iload_n 0, 1) := by decide +kernel
theorem dX11_isMemory_28 : decode cX11_isMemory 28 = .ok (.invokestatic 138, 3) := by decide +kernel
theorem dX11_isMemory_31 : decode cX11_isMemory 31 = .ok (.bipush 55, 2) := by decide +kernel
theorem dX11_isMemory_33 : decode cX11_isMemory 33 = .ok (.if_icmp .ge 7, 3) := by decide +kernel
theorem dX11_isMemory_36 : decode cX11_isMemory 36 = .ok (.iconst 1, 1) := by decide +kernel
theorem dX11_isMemory_37 : decode cX11_isMemory 37 = .ok (.goto 4, 3) := by decide +kernel
theorem dX11_isMemory_40 : decode cX11_isMemory 40 = .ok (.iconst 0, 1) := by decide +kernel
theorem dX11_isMemory_41 : decode cX11_isMemory 41 = .ok (.ireturn, 1) := by decide +kernel
set_option maxRecDepth 1000000 in
theorem ggX11_isStore_X11_op : GoodIn wsX11_isStore wsX11_op := goodIn_r _ [4] (by decide +kernel) (by decide +kernel)
set_option maxRecDepth 1000000 in
theorem gX11_isStore_X11_op : GoodIn wsX11_isStore (va_wsS RX11 138 yX11_op wsX11_op) := goodIn_app (goodIn_of _ (by decide +kernel)) ggX11_isStore_X11_op
theorem dX11_isStore_0 : decode cX11_isStore 0 = .ok (.iload_n 0, 1) := by decide +kernel
theorem dX11_isStore_1 : decode cX11_isStore 1 = .ok (.invokestatic 138, 3) := by decide +kernel
theorem dX11_isStore_4 : decode cX11_isStore 4 = .ok (.bipush 28, 2) := by decide +kernel
theorem dX11_isStore_6 : decode cX11_isStore 6 = .ok (.if_icmp .eq 21, 3) := by decide +kernel
theorem dX11_isStore_9 : decode cX11_isStore 9 = .ok (.iload_n 0, 1) := by decide +kernel
theorem dX11_isStore_10 : decode cX11_isStore 10 = .ok (.invokestatic 138, 3) := by decide +kernel
theorem dX11_isStore_13 : decode cX11_isStore 13 = .ok (.bipush 29, 2) := by decide +kernel
theorem dX11_isStore_15 : decode cX11_isStore 15 = .ok (.if_icmp .eq 12, 3) := by decide +kernel
theorem dX11_isStore_18 : decode cX11_isStore 18 = .ok (.iload_n 0, 1) := by decide +kernel
theorem dX11_isStore_19 : decode cX11_isStore 19 = .ok (.invokestatic 138, 3) := by decide +kernel
theorem dX11_isStore_22 : decode cX11_isStore 22 = .ok (.bipush 54, 2) := by decide +kernel
theorem dX11_isStore_24 : decode cX11_isStore 24 = .ok (.if_icmp .ne 7, 3) := by decide +kernel
theorem dX11_isStore_27 : decode cX11_isStore 27 = .ok (.iconst 1, 1) := by decide +kernel
theorem dX11_isStore_28 : decode cX11_isStore 28 = .ok (.goto 4, 3) := by decide +kernel
theorem dX11_isStore_31 : decode cX11_isStore 31 = .ok (.iconst 0, 1) := by decide +kernel
theorem dX11_isStore_32 : decode cX11_isStore 32 = .ok (.ireturn, 1) := by decide +kernel
set_option maxRecDepth 1000000 in
theorem ggX11_isDivide_X11_op : GoodIn wsX11_isDivide wsX11_op := goodIn_r _ [4] (by decide +kernel) (by decide +kernel)
set_option maxRecDepth 1000000 in
theorem gX11_isDivide_X11_op : GoodIn wsX11_isDivide (va_wsS RX11 138 yX11_op wsX11_op) := goodIn_app (goodIn_of _ (by decide +kernel)) ggX11_isDivide_X11_op
theorem dX11_isDivide_0 : decode cX11_isDivide 0 = .ok (.iload_n 0, 1) := by decide +kernel
theorem dX11_isDivide_1 : decode cX11_isDivide 1 = .ok (.invokestatic 138, 3) := by decide +kernel
theorem dX11_isDivide_4 : decode cX11_isDivide 4 = .ok (.bipush 9, 2) := by decide +kernel
theorem dX11_isDivide_6 : decode cX11_isDivide 6 = .ok (.if_icmp .eq 12, 3) := by decide +kernel
theorem dX11_isDivide_9 : decode cX11_isDivide 9 = .ok (.iload_n 0, 1) := by decide +kernel
theorem dX11_isDivide_10 : decode cX11_isDivide 10 = .ok (.invokestatic 138, 3) := by decide +kernel
theorem dX11_isDivide_13 : decode cX11_isDivide 13 = .ok (.bipush 37, 2) := by decide +kernel
theorem dX11_isDivide_15 : decode cX11_isDivide 15 = .ok (.if_icmp .ne 7, 3) := by decide +kernel
theorem dX11_isDivide_18 : decode cX11_isDivide 18 = .ok (.iconst 1, 1) := by decide +kernel
theorem dX11_isDivide_19 : decode cX11_isDivide 19 = .ok (.goto 4, 3) := by decide +kernel
theorem dX11_isDivide_22 : decode cX11_isDivide 22 = .ok (.iconst 0, 1) := by decide +kernel
theorem dX11_isDivide_23 : decode cX11_isDivide 23 = .ok (.ireturn, 1) := by decide +kernel
set_option maxRecDepth 1000000 in
theorem ggX11_isSum_X11_op : GoodIn wsX11_isSum wsX11_op := goodIn_r _ [4] (by decide +kernel) (by decide +kernel)
set_option maxRecDepth 1000000 in
theorem gX11_isSum_X11_op : GoodIn wsX11_isSum (va_wsS RX11 138 yX11_op wsX11_op) := goodIn_app (goodIn_of _ (by decide +kernel)) ggX11_isSum_X11_op
theorem dX11_isSum_0 : decode cX11_isSum 0 = .ok (.iload_n 0, 1) := by decide +kernel
theorem dX11_isSum_1 : decode cX11_isSum 1 = .ok (.invokestatic 138, 3) := by decide +kernel
theorem dX11_isSum_4 : decode cX11_isSum 4 = .ok (.bipush 37, 2) := by decide +kernel
theorem dX11_isSum_6 : decode cX11_isSum 6 = .ok (.if_icmp .le 16, 3) := by decide +kernel
theorem dX11_isSum_9 : decode cX11_isSum 9 = .ok (.iload_n 0, 1) := by decide +kernel
theorem dX11_isSum_10 : decode cX11_isSum 10 = .ok (.invokestatic 138, 3) := by decide +kernel
theorem dX11_isSum_13 : decode cX11_isSum 13 = .ok (.bipush 41, 2) := by decide +kernel
theorem dX11_isSum_15 : decode cX11_isSum 15 = .ok (.if_icmp .ge 7, 3) := by decide +kernel
theorem dX11_isSum_18 : decode cX11_isSum 18 = .ok (.iconst 1, 1) := by decide +kernel
theorem dX11_isSum_19 : decode cX11_isSum 19 = .ok (.goto 4, 3) := by decide +kernel
theorem dX11_isSum_22 : decode cX11_isSum 22 = .ok (.iconst 0, 1) := by decide +kernel
theorem dX11_isSum_23 : decode cX11_isSum 23 = .ok (.ireturn, 1) := by decide +kernel
set_option maxRecDepth 1000000 in
theorem ggX11_isMultiply_X11_op : GoodIn wsX11_isMultiply wsX11_op := goodIn_r _ [4] (by decide +kernel) (by decide +kernel)
set_option maxRecDepth 1000000 in
theorem gX11_isMultiply_X11_op : GoodIn wsX11_isMultiply (va_wsS RX11 138 yX11_op wsX11_op) := goodIn_app (goodIn_of _ (by decide +kernel)) ggX11_isMultiply_X11_op
set_option maxRecDepth 1000000 in
theorem ggX11_isMultiply_X11_isSum : GoodIn wsX11_isMultiply wsX11_isSum := goodIn_r _ [7, 1, 2, 3, 4] (by decide +kernel) (by decide +kernel)
set_option maxRecDepth 1000000 in
theorem gX11_isMultiply_X11_isSum : GoodIn wsX11_isMultiply (va_wsS RX11 145 yX11_isSum wsX11_isSum) := goodIn_app (goodIn_of _ (by decide +kernel)) ggX11_isMultiply_X11_isSum
theorem dX11_isMultiply_0 : decode cX11_isMultiply 0 = .ok (.iload_n 0, 1) := by decide +kernel
theorem dX11_isMultiply_1 : decode cX11_isMultiply 1 = .ok (.invokestatic 138, 3) := by decide +kernel
theorem dX11_isMultiply_4 : decode cX11_isMultiply 4 = .ok (.bipush 8, 2) := by decide +kernel
theorem dX11_isMultiply_6 : decode cX11_isMultiply 6 = .ok (.if_icmp .eq 28, 3) := by decide +kernel
theorem dX11_isMultiply_9 : decode cX11_isMultiply 9 = .ok (.iload_n 0, 1) := by decide +kernel
theorem dX11_isMultiply_10 : decode cX11_isMultiply 10 = .ok (.invokestatic 138, 3) := by decide +kernel
theorem dX11_isMultiply_13 : decode cX11_isMultiply 13 = .ok (.bipush 36, 2) := by decide +kernel
theorem dX11_isMultiply_15 : decode cX11_isMultiply 15 = .ok (.if_icmp .eq 19, 3) := by decide +kernel
theorem dX11_isMultiply_18 : decode cX11_isMultiply 18 = .ok (.iload_n 0, 1) := by decide +kernel
theorem dX11_isMultiply_19 : decode cX11_isMultiply 19 = .ok (.invokestatic 138, 3) := by decide +kernel
theorem dX11_isMultiply_22 : decode cX11_isMultiply 22 = .ok (.bipush 57, 2) := by decide +kernel
theorem dX11_isMultiply_24 : decode cX11_isMultiply 24 = .ok (.if_icmp .eq 10, 3) := by decide +kernel
theorem dX11_isMultiply_27 : decode cX11_isMultiply 27 = .ok (.iload_n 0, 1) := by decide +kernel
theorem dX11_isMultiply_28 : decode cX11_isMultiply 28 = .ok (.invokestatic 145, 3) := by decide +kernel
theorem dX11_isMultiply_31 : decode cX11_isMultiply 31 = .ok (.ifCond .eq 7, 3) := by decide +kernel
theorem dX11_isMultiply_34 : decode cX11_isMultiply 34 = .ok (.iconst 1, 1) := by decide +kernel
theorem dX11_isMultiply_35 : decode cX11_isMultiply 35 = .ok (.goto 4, 3) := by decide +kernel
theorem dX11_isMultiply_38 : decode cX11_isMultiply 38 = .ok (.iconst 0, 1) := by decide +kernel
theorem dX11_isMultiply_39 : decode cX11_isMultiply 39 = .ok (.ireturn, 1) := by decide +kernel
set_option maxRecDepth 1000000 in
theorem ggX11_isSlow_X11_isMultiply : GoodIn wsX11_isSlow wsX11_isMultiply := goodIn_r _ [4, 5, 6, 3, 7, 8, 9, 10] (by decide +kernel) (by decide +kernel)
set_option maxRecDepth 1000000 in
theorem gX11_isSlow_X11_isMultiply : GoodIn wsX11_isSlow (va_wsS RX11 148 yX11_isMultiply wsX11_isMultiply) := goodIn_app (goodIn_of _ (by decide +kernel)) ggX11_isSlow_X11_isMultiply
set_option maxRecDepth 1000000 in
theorem ggX11_isSlow_X11_isDivide : GoodIn wsX11_isSlow wsX11_isDivide := goodIn_r _ [13, 5, 6, 3, 7] (by decide +kernel) (by decide +kernel)
set_option maxRecDepth 1000000 in
theorem gX11_isSlow_X11_isDivide : GoodIn wsX11_isSlow (va_wsS RX11 151 yX11_isDivide wsX11_isDivide) := goodIn_app (goodIn_of _ (by decide +kernel)) ggX11_isSlow_X11_isDivide
theorem dX11_isSlow_0 : decode cX11_isSlow 0 = .ok (.iload_n 0, 1) := by decide +kernel
theorem dX11_isSlow_1 : decode cX11_isSlow 1 = .ok (.invokestatic 148, 3) := by decide +kernel
theorem dX11_isSlow_4 : decode cX11_isSlow 4 = .ok (.ifCond .ne 10, 3) := by decide +kernel
theorem dX11_isSlow_7 : decode cX11_isSlow 7 = .ok (.iload_n 0, 1) := by decide +kernel
theorem dX11_isSlow_8 : decode cX11_isSlow 8 = .ok (.invokestatic 151, 3) := by decide +kernel
theorem dX11_isSlow_11 : decode cX11_isSlow 11 = .ok (.ifCond .eq 7, 3) := by decide +kernel
theorem dX11_isSlow_14 : decode cX11_isSlow 14 = .ok (.iconst 1, 1) := by decide +kernel
theorem dX11_isSlow_15 : decode cX11_isSlow 15 = .ok (.goto 4, 3) := by decide +kernel
theorem dX11_isSlow_18 : decode cX11_isSlow 18 = .ok (.iconst 0, 1) := by decide +kernel
theorem dX11_isSlow_19 : decode cX11_isSlow 19 = .ok (.ireturn, 1) := by decide +kernel
set_option maxRecDepth 1000000 in
theorem ggX11_writesCarry_X11_op : GoodIn wsX11_writesCarry wsX11_op := goodIn_r _ [4] (by decide +kernel) (by decide +kernel)
set_option maxRecDepth 1000000 in
theorem gX11_writesCarry_X11_op : GoodIn wsX11_writesCarry (va_wsS RX11 138 yX11_op wsX11_op) := goodIn_app (goodIn_of _ (by decide +kernel)) ggX11_writesCarry_X11_op
theorem dX11_writesCarry_0 : decode cX11_writesCarry 0 = .ok (.iload_n 0, 1) := by decide +kernel
theorem dX11_writesCarry_1 : decode cX11_writesCarry 1 = .ok (.invokestatic 138, 3) := by decide +kernel
theorem dX11_writesCarry_4 : decode cX11_writesCarry 4 = .ok (.istore_n 1, 1) := by decide +kernel
theorem dX11_writesCarry_5 : decode cX11_writesCarry 5 = .ok (.iload_n 1, 1) := by decide +kernel
theorem dX11_writesCarry_6 : decode cX11_writesCarry 6 = .ok (.iconst 2, 1) := by decide +kernel
theorem dX11_writesCarry_7 : decode cX11_writesCarry 7 = .ok (.if_icmp .lt 21, 3) := by decide +kernel
theorem dX11_writesCarry_10 : decode cX11_writesCarry 10 = .ok (.iload_n 1, 1) := by decide +kernel
theorem dX11_writesCarry_11 : decode cX11_writesCarry 11 = .ok (.bipush 10, 2) := by decide +kernel
theorem dX11_writesCarry_13 : decode cX11_writesCarry 13 = .ok (.if_icmp .eq 15, 3) := by decide +kernel
theorem dX11_writesCarry_16 : decode cX11_writesCarry 16 = .ok (.iload_n 1, 1) := by decide +kernel
theorem dX11_writesCarry_17 : decode cX11_writesCarry 17 = .ok (.bipush 33, 2) := by decide +kernel
theorem dX11_writesCarry_19 : decode cX11_writesCarry 19 = .ok (.if_icmp .le 13, 3) := by decide +kernel
theorem dX11_writesCarry_22 : decode cX11_writesCarry 22 = .ok (.iload_n 1, 1) := by decide +kernel
theorem dX11_writesCarry_23 : decode cX11_writesCarry 23 = .ok (.bipush 38, 2) := by decide +kernel
theorem dX11_writesCarry_25 : decode cX11_writesCarry 25 = .ok (.if_icmp .ge 7, 3) := by decide +kernel
theorem dX11_writesCarry_28 : decode cX11_writesCarry 28 = .ok (.iconst 1, 1) := by decide +kernel
theorem dX11_writesCarry_29 : decode cX11_writesCarry 29 = .ok (.goto 4, 3) := by decide +kernel
theorem dX11_writesCarry_32 : decode cX11_writesCarry 32 = .ok (.iconst 0, 1) := by decide +kernel
theorem dX11_writesCarry_33 : decode cX11_writesCarry 33 = .ok (.ireturn, 1) := by decide +kernel
set_option maxRecDepth 1000000 in
theorem ggX11_readsCarry_X11_op : GoodIn wsX11_readsCarry wsX11_op := goodIn_r _ [4] (by decide +kernel) (by decide +kernel)
set_option maxRecDepth 1000000 in
theorem gX11_readsCarry_X11_op : GoodIn wsX11_readsCarry (va_wsS RX11 138 yX11_op wsX11_op) := goodIn_app (goodIn_of _ (by decide +kernel)) ggX11_readsCarry_X11_op
theorem dX11_readsCarry_0 : decode cX11_readsCarry 0 = .ok (.iload_n 0, 1) := by decide +kernel
theorem dX11_readsCarry_1 : decode cX11_readsCarry 1 = .ok (.invokestatic 138, 3) := by decide +kernel
theorem dX11_readsCarry_4 : decode cX11_readsCarry 4 = .ok (.bipush 34, 2) := by decide +kernel
theorem dX11_readsCarry_6 : decode cX11_readsCarry 6 = .ok (.if_icmp .eq 12, 3) := by decide +kernel
theorem dX11_readsCarry_9 : decode cX11_readsCarry 9 = .ok (.iload_n 0, 1) := by decide +kernel
theorem dX11_readsCarry_10 : decode cX11_readsCarry 10 = .ok (.invokestatic 138, 3) := by decide +kernel
theorem dX11_readsCarry_13 : decode cX11_readsCarry 13 = .ok (.bipush 35, 2) := by decide +kernel
theorem dX11_readsCarry_15 : decode cX11_readsCarry 15 = .ok (.if_icmp .ne 7, 3) := by decide +kernel
theorem dX11_readsCarry_18 : decode cX11_readsCarry 18 = .ok (.iconst 1, 1) := by decide +kernel
theorem dX11_readsCarry_19 : decode cX11_readsCarry 19 = .ok (.goto 4, 3) := by decide +kernel
theorem dX11_readsCarry_22 : decode cX11_readsCarry 22 = .ok (.iconst 0, 1) := by decide +kernel
theorem dX11_readsCarry_23 : decode cX11_readsCarry 23 = .ok (.ireturn, 1) := by decide +kernel
set_option maxRecDepth 1000000 in
theorem ggX11_writes_X11_op : GoodIn wsX11_writes wsX11_op := goodIn_r _ [4] (by decide +kernel) (by decide +kernel)
set_option maxRecDepth 1000000 in
theorem gX11_writes_X11_op : GoodIn wsX11_writes (va_wsS RX11 138 yX11_op wsX11_op) := goodIn_app (goodIn_of _ (by decide +kernel)) ggX11_writes_X11_op
set_option maxRecDepth 1000000 in
theorem ggX11_writes_X11_isMemory : GoodIn wsX11_writes wsX11_isMemory := goodIn_r _ [7, 1, 2, 3, 4] (by decide +kernel) (by decide +kernel)
set_option maxRecDepth 1000000 in
theorem gX11_writes_X11_isMemory : GoodIn wsX11_writes (va_wsS RX11 154 yX11_isMemory wsX11_isMemory) := goodIn_app (goodIn_of _ (by decide +kernel)) ggX11_writes_X11_isMemory
set_option maxRecDepth 1000000 in
theorem ggX11_writes_X11_isStore : GoodIn wsX11_writes wsX11_isStore := goodIn_r _ [10, 1, 2, 3, 4] (by decide +kernel) (by decide +kernel)
set_option maxRecDepth 1000000 in
theorem gX11_writes_X11_isStore : GoodIn wsX11_writes (va_wsS RX11 157 yX11_isStore wsX11_isStore) := goodIn_app (goodIn_of _ (by decide +kernel)) ggX11_writes_X11_isStore
set_option maxRecDepth 1000000 in
theorem ggX11_writes_X11_isSum : GoodIn wsX11_writes wsX11_isSum := goodIn_r _ [13, 1, 2, 3, 4] (by decide +kernel) (by decide +kernel)
set_option maxRecDepth 1000000 in
theorem gX11_writes_X11_isSum : GoodIn wsX11_writes (va_wsS RX11 145 yX11_isSum wsX11_isSum) := goodIn_app (goodIn_of _ (by decide +kernel)) ggX11_writes_X11_isSum
set_option maxRecDepth 1000000 in
theorem ggX11_writes_X11_isNone : GoodIn wsX11_writes wsX11_isNone := goodIn_r _ [16, 1, 2, 3, 4] (by decide +kernel) (by decide +kernel)
set_option maxRecDepth 1000000 in
theorem gX11_writes_X11_isNone : GoodIn wsX11_writes (va_wsS RX11 142 yX11_isNone wsX11_isNone) := goodIn_app (goodIn_of _ (by decide +kernel)) ggX11_writes_X11_isNone
theorem dX11_writes_0 : decode cX11_writes 0 = .ok (.iload_n 0, 1) := by decide +kernel
theorem dX11_writes_1 : decode cX11_writes 1 = .ok (.invokestatic 138, 3) := by decide +kernel
theorem dX11_writes_4 : decode cX11_writes 4 = .ok (.istore_n 1, 1) := by decide +kernel
theorem dX11_writes_5 : decode cX11_writes 5 = .ok (.iload_n 1, 1) := by decide +kernel
theorem dX11_writes_6 : decode cX11_writes 6 = .ok (.bipush 18, 2) := by decide +kernel
theorem dX11_writes_8 : decode cX11_writes 8 = .ok (.if_icmp .lt 48, 3) := by decide +kernel
theorem dX11_writes_11 : decode cX11_writes 11 = .ok (.iload_n 0, 1) := by decide +kernel
theorem dX11_writes_12 : decode cX11_writes 12 = .ok (.invokestatic 154, 3) := by decide +kernel
theorem dX11_writes_15 : decode cX11_writes 15 = .ok (.ifCond .eq 10, 3) := by decide +kernel
theorem dX11_writes_18 : decode cX11_writes 18 = .ok (.iload_n 0, 1) := by decide +kernel
theorem dX11_writes_19 : decode cX11_writes 19 = .ok (.invokestatic 157, 3) := by decide +kernel
theorem dX11_writes_22 : decode cX11_writes 22 = .ok (.ifCond .eq 34, 3) := by decide +kernel
theorem dX11_writes_25 : decode cX11_writes 25 = .ok (.iload_n 1, 1) := by decide +kernel
theorem dX11_writes_26 : decode cX11_writes 26 = .ok (.bipush 30, 2) := by decide +kernel
theorem dX11_writes_28 : decode cX11_writes 28 = .ok (.if_icmp .eq 28, 3) := by decide +kernel
theorem dX11_writes_31 : decode cX11_writes 31 = .ok (.iload_n 1, 1) := by decide +kernel
theorem dX11_writes_32 : decode cX11_writes 32 = .ok (.bipush 33, 2) := by decide +kernel
theorem dX11_writes_34 : decode cX11_writes 34 = .ok (.if_icmp .le 16, 3) := by decide +kernel
theorem dX11_writes_37 : decode cX11_writes 37 = .ok (.iload_n 1, 1) := by decide +kernel
theorem dX11_writes_38 : decode cX11_writes 38 = .ok (.bipush 51, 2) := by decide +kernel
theorem dX11_writes_40 : decode cX11_writes 40 = .ok (.if_icmp .ge 10, 3) := by decide +kernel
theorem dX11_writes_43 : decode cX11_writes 43 = .ok (.iload_n 0, 1) := by decide +kernel
theorem dX11_writes_44 : decode cX11_writes 44 = .ok (.invokestatic 145, 3) := by decide +kernel
theorem dX11_writes_47 : decode cX11_writes 47 = .ok (.ifCond .eq 9, 3) := by decide +kernel
theorem dX11_writes_50 : decode cX11_writes 50 = .ok (.iload_n 1, 1) := by decide +kernel
theorem dX11_writes_51 : decode cX11_writes 51 = .ok (.bipush 57, 2) := by decide +kernel
theorem dX11_writes_53 : decode cX11_writes 53 = .ok (.if_icmp .ne 7, 3) := by decide +kernel
theorem dX11_writes_56 : decode cX11_writes 56 = .ok (.iconst 1, 1) := by decide +kernel
theorem dX11_writes_57 : decode cX11_writes 57 = .ok (.goto 4, 3) := by decide +kernel
theorem dX11_writes_60 : decode cX11_writes 60 = .ok (.iconst 0, 1) := by decide +kernel
theorem dX11_writes_61 : decode cX11_writes 61 = .ok (.istore_n 2, 1) := by decide +kernel
theorem dX11_writes_62 : decode cX11_writes 62 = .ok (.iload_n 0, 1) := by decide +kernel
theorem dX11_writes_63 : decode cX11_writes 63 = .ok (.invokestatic 142, 3) := by decide +kernel
theorem dX11_writes_66 : decode cX11_writes 66 = .ok (.ifCond .eq 7, 3) := by decide +kernel
theorem dX11_writes_69 : decode cX11_writes 69 = .ok (.iconst 0, 1) := by decide +kernel
theorem dX11_writes_70 : decode cX11_writes 70 = .ok (.goto 35, 3) := by decide +kernel
theorem dX11_writes_73 : decode cX11_writes 73 = .ok (.iload_n 2, 1) := by decide +kernel
theorem dX11_writes_74 : decode cX11_writes 74 = .ok (.ifCond .eq 13, 3) := by decide +kernel
theorem dX11_writes_77 : decode cX11_writes 77 = .ok (.iload_n 0, 1) := by decide +kernel
theorem dX11_writes_78 : decode cX11_writes 78 = .ok (.bipush 21, 2) := by decide +kernel
theorem dX11_writes_80 : decode cX11_writes 80 = .ok (.ishr, 1) := by decide +kernel
theorem dX11_writes_81 : decode cX11_writes 81 = .ok (.bipush 31, 2) := by decide +kernel
theorem dX11_writes_83 : decode cX11_writes 83 = .ok (.iand, 1) := by decide +kernel
theorem dX11_writes_84 : decode cX11_writes 84 = .ok (.goto 21, 3) := by decide +kernel
theorem dX11_writes_87 : decode cX11_writes 87 = .ok (.iload_n 1, 1) := by decide +kernel
theorem dX11_writes_88 : decode cX11_writes 88 = .ok (.bipush 21, 2) := by decide +kernel
theorem dX11_writes_90 : decode cX11_writes 90 = .ok (.if_icmp .eq 9, 3) := by decide +kernel
theorem dX11_writes_93 : decode cX11_writes 93 = .ok (.iload_n 1, 1) := by decide +kernel
theorem dX11_writes_94 : decode cX11_writes 94 = .ok (.bipush 25, 2) := by decide +kernel
theorem dX11_writes_96 : decode cX11_writes 96 = .ok (.if_icmp .ne 8, 3) := by decide +kernel
theorem dX11_writes_99 : decode cX11_writes 99 = .ok (.bipush 31, 2) := by decide +kernel
theorem dX11_writes_101 : decode cX11_writes 101 = .ok (.goto 4, 3) := by decide +kernel
theorem dX11_writes_104 : decode cX11_writes 104 = .ok (.iconst 0, 1) := by decide +kernel
theorem dX11_writes_105 : decode cX11_writes 105 = .ok (.ireturn, 1) := by decide +kernel
set_option maxRecDepth 1000000 in
theorem ggX11_writesFlag_X11_isNone : GoodIn wsX11_writesFlag wsX11_isNone := goodIn_r _ [4, 5, 6, 3, 7] (by decide +kernel) (by decide +kernel)
set_option maxRecDepth 1000000 in
theorem gX11_writesFlag_X11_isNone : GoodIn wsX11_writesFlag (va_wsS RX11 142 yX11_isNone wsX11_isNone) := goodIn_app (goodIn_of _ (by decide +kernel)) ggX11_writesFlag_X11_isNone
set_option maxRecDepth 1000000 in
theorem ggX11_writesFlag_X11_op : GoodIn wsX11_writesFlag wsX11_op := goodIn_r _ [7] (by decide +kernel) (by decide +kernel)
set_option maxRecDepth 1000000 in
theorem gX11_writesFlag_X11_op : GoodIn wsX11_writesFlag (va_wsS RX11 138 yX11_op wsX11_op) := goodIn_app (goodIn_of _ (by decide +kernel)) ggX11_writesFlag_X11_op
theorem dX11_writesFlag_0 : decode cX11_writesFlag 0 = .ok (.iload_n 0, 1) := by decide +kernel
theorem dX11_writesFlag_1 : decode cX11_writesFlag 1 = .ok (.invokestatic 142, 3) := by decide +kernel
theorem dX11_writesFlag_4 : decode cX11_writesFlag 4 = .ok (.ifCond .ne 25, 3) := by decide +kernel
theorem dX11_writesFlag_7 : decode cX11_writesFlag 7 = .ok (.iload_n 0, 1) := by decide +kernel
theorem dX11_writesFlag_8 : decode cX11_writesFlag 8 = .ok (.invokestatic 138, 3) := by decide +kernel
theorem dX11_writesFlag_11 : decode cX11_writesFlag 11 = .ok (.bipush 18, 2) := by decide +kernel
theorem dX11_writesFlag_13 : decode cX11_writesFlag 13 = .ok (.if_icmp .eq 12, 3) := by decide +kernel
theorem dX11_writesFlag_16 : decode cX11_writesFlag 16 = .ok (.iload_n 0, 1) := by decide +kernel
theorem dX11_writesFlag_17 : decode cX11_writesFlag 17 = .ok (.invokestatic 138, 3) := by decide +kernel
theorem dX11_writesFlag_20 : decode cX11_writesFlag 20 = .ok (.bipush 19, 2) := by decide +kernel
theorem dX11_writesFlag_22 : decode cX11_writesFlag 22 = .ok (.if_icmp .ne 7, 3) := by decide +kernel
theorem dX11_writesFlag_25 : decode cX11_writesFlag 25 = .ok (.iconst 1, 1) := by decide +kernel
theorem dX11_writesFlag_26 : decode cX11_writesFlag 26 = .ok (.goto 4, 3) := by decide +kernel
theorem dX11_writesFlag_29 : decode cX11_writesFlag 29 = .ok (.iconst 0, 1) := by decide +kernel
theorem dX11_writesFlag_30 : decode cX11_writesFlag 30 = .ok (.ireturn, 1) := by decide +kernel
set_option maxRecDepth 1000000 in
theorem ggX11_reads_X11_op : GoodIn wsX11_reads wsX11_op := goodIn_r _ [4] (by decide +kernel) (by decide +kernel)
set_option maxRecDepth 1000000 in
theorem gX11_reads_X11_op : GoodIn wsX11_reads (va_wsS RX11 138 yX11_op wsX11_op) := goodIn_app (goodIn_of _ (by decide +kernel)) ggX11_reads_X11_op
set_option maxRecDepth 1000000 in
theorem ggX11_reads_X11_isNone : GoodIn wsX11_reads wsX11_isNone := goodIn_r _ [7, 1, 2, 3, 4] (by decide +kernel) (by decide +kernel)
set_option maxRecDepth 1000000 in
theorem gX11_reads_X11_isNone : GoodIn wsX11_reads (va_wsS RX11 142 yX11_isNone wsX11_isNone) := goodIn_app (goodIn_of _ (by decide +kernel)) ggX11_reads_X11_isNone
set_option maxRecDepth 1000000 in
theorem ggX11_reads_X11_isMemory : GoodIn wsX11_reads wsX11_isMemory := goodIn_r _ [10, 1, 2, 3, 4] (by decide +kernel) (by decide +kernel)
set_option maxRecDepth 1000000 in
theorem gX11_reads_X11_isMemory : GoodIn wsX11_reads (va_wsS RX11 154 yX11_isMemory wsX11_isMemory) := goodIn_app (goodIn_of _ (by decide +kernel)) ggX11_reads_X11_isMemory
set_option maxRecDepth 1000000 in
theorem ggX11_reads_X11_isStore : GoodIn wsX11_reads wsX11_isStore := goodIn_r _ [13, 1, 2, 3, 4] (by decide +kernel) (by decide +kernel)
set_option maxRecDepth 1000000 in
theorem gX11_reads_X11_isStore : GoodIn wsX11_reads (va_wsS RX11 157 yX11_isStore wsX11_isStore) := goodIn_app (goodIn_of _ (by decide +kernel)) ggX11_reads_X11_isStore
theorem dX11_reads_0 : decode cX11_reads 0 = .ok (.iload_n 0, 1) := by decide +kernel
theorem dX11_reads_1 : decode cX11_reads 1 = .ok (.invokestatic 138, 3) := by decide +kernel
theorem dX11_reads_4 : decode cX11_reads 4 = .ok (.istore_n 2, 1) := by decide +kernel
theorem dX11_reads_5 : decode cX11_reads 5 = .ok (.iload_n 1, 1) := by decide +kernel
theorem dX11_reads_6 : decode cX11_reads 6 = .ok (.ifCond .eq 10, 3) := by decide +kernel
theorem dX11_reads_9 : decode cX11_reads 9 = .ok (.iload_n 0, 1) := by decide +kernel
theorem dX11_reads_10 : decode cX11_reads 10 = .ok (.invokestatic 142, 3) := by decide +kernel
theorem dX11_reads_13 : decode cX11_reads 13 = .ok (.ifCond .eq 5, 3) := by decide +kernel
theorem dX11_reads_16 : decode cX11_reads 16 = .ok (.iconst 0, 1) := by decide +kernel
theorem dX11_reads_17 : decode cX11_reads 17 = .ok (.ireturn, 1) := by decide +kernel
theorem dX11_reads_18 : decode cX11_reads 18 = .ok (.iload_n 2, 1) := by decide +kernel
theorem dX11_reads_19 : decode cX11_reads 19 = .ok (.bipush 14, 2) := by decide +kernel
theorem dX11_reads_21 : decode cX11_reads 21 = .ok (.if_icmp .lt 52, 3) := by decide +kernel
theorem dX11_reads_24 : decode cX11_reads 24 = .ok (.iload_n 2, 1) := by decide +kernel
theorem dX11_reads_25 : decode cX11_reads 25 = .ok (.bipush 14, 2) := by decide +kernel
theorem dX11_reads_27 : decode cX11_reads 27 = .ok (.if_icmp .le 9, 3) := by decide +kernel
theorem dX11_reads_30 : decode cX11_reads 30 = .ok (.iload_n 2, 1) := by decide +kernel
theorem dX11_reads_31 : decode cX11_reads 31 = .ok (.bipush 20, 2) := by decide +kernel
theorem dX11_reads_33 : decode cX11_reads 33 = .ok (.if_icmp .lt 40, 3) := by decide +kernel
theorem dX11_reads_36 : decode cX11_reads 36 = .ok (.iload_n 0, 1) := by decide +kernel
theorem dX11_reads_37 : decode cX11_reads 37 = .ok (.invokestatic 154, 3) := by decide +kernel
theorem dX11_reads_40 : decode cX11_reads 40 = .ok (.ifCond .ne 33, 3) := by decide +kernel
theorem dX11_reads_43 : decode cX11_reads 43 = .ok (.iload_n 2, 1) := by decide +kernel
theorem dX11_reads_44 : decode cX11_reads 44 = .ok (.bipush 31, 2) := by decide +kernel
theorem dX11_reads_46 : decode cX11_reads 46 = .ok (.if_icmp .eq 27, 3) := by decide +kernel
theorem dX11_reads_49 : decode cX11_reads 49 = .ok (.iload_n 2, 1) := by decide +kernel
theorem dX11_reads_50 : decode cX11_reads 50 = .ok (.bipush 33, 2) := by decide +kernel
theorem dX11_reads_52 : decode cX11_reads 52 = .ok (.if_icmp .le 15, 3) := by decide +kernel
theorem dX11_reads_55 : decode cX11_reads 55 = .ok (.iload_n 2, 1) := by decide +kernel
theorem dX11_reads_56 : decode cX11_reads 56 = .ok (.bipush 51, 2) := by decide +kernel
theorem dX11_reads_58 : decode cX11_reads 58 = .ok (.if_icmp .ge 9, 3) := by decide +kernel
theorem dX11_reads_61 : decode cX11_reads 61 = .ok (.iload_n 2, 1) := by decide +kernel
theorem dX11_reads_62 : decode cX11_reads 62 = .ok (.bipush 41, 2) := by decide +kernel
theorem dX11_reads_64 : decode cX11_reads 64 = .ok (.if_icmp .ne 9, 3) := by decide +kernel
theorem dX11_reads_67 : decode cX11_reads 67 = .ok (.iload_n 2, 1) := by decide +kernel
theorem dX11_reads_68 : decode cX11_reads 68 = .ok (.bipush 57, 2) := by decide +kernel
theorem dX11_reads_70 : decode cX11_reads 70 = .ok (.if_icmp .ne 7, 3) := by decide +kernel
theorem dX11_reads_73 : decode cX11_reads 73 = .ok (.iconst 1, 1) := by decide +kernel
theorem dX11_reads_74 : decode cX11_reads 74 = .ok (.goto 4, 3) := by decide +kernel
theorem dX11_reads_77 : decode cX11_reads 77 = .ok (.iconst 0, 1) := by decide +kernel
theorem dX11_reads_78 : decode cX11_reads 78 = .ok (.istore_n 3, 1) := by decide +kernel
theorem dX11_reads_79 : decode cX11_reads 79 = .ok (.iload_n 2, 1) := by decide +kernel
theorem dX11_reads_80 : decode cX11_reads 80 = .ok (.bipush 10, 2) := by decide +kernel
theorem dX11_reads_82 : decode cX11_reads 82 = .ok (.if_icmp .lt 57, 3) := by decide +kernel
theorem dX11_reads_85 : decode cX11_reads 85 = .ok (.iload_n 2, 1) := by decide +kernel
theorem dX11_reads_86 : decode cX11_reads 86 = .ok (.bipush 18, 2) := by decide +kernel
theorem dX11_reads_88 : decode cX11_reads 88 = .ok (.if_icmp .eq 51, 3) := by decide +kernel
theorem dX11_reads_91 : decode cX11_reads 91 = .ok (.iload_n 2, 1) := by decide +kernel
theorem dX11_reads_92 : decode cX11_reads 92 = .ok (.bipush 24, 2) := by decide +kernel
theorem dX11_reads_94 : decode cX11_reads 94 = .ok (.if_icmp .eq 45, 3) := by decide +kernel
theorem dX11_reads_97 : decode cX11_reads 97 = .ok (.iload_n 2, 1) := by decide +kernel
theorem dX11_reads_98 : decode cX11_reads 98 = .ok (.bipush 25, 2) := by decide +kernel
theorem dX11_reads_100 : decode cX11_reads 100 = .ok (.if_icmp .eq 39, 3) := by decide +kernel
