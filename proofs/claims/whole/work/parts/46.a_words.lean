/-! ===== the words of the law among the tables, in pieces ===== -/
set_option maxRecDepth 1000000 in
theorem in_wsL_law_r1 : ∀ w ∈ wsL_law_r1, w ∈ lw_tbl := fun w h => (goodIn_p wsL_law_r1 [882, 80, 83] rfl (by decide +kernel) w h).1
set_option maxRecDepth 1000000 in
theorem in_wsL_law_r2 : ∀ w ∈ wsL_law_r2, w ∈ lw_tbl := fun w h => (goodIn_p wsL_law_r2 [88, 142, 171, 174] rfl (by decide +kernel) w h).1
set_option maxRecDepth 1000000 in
theorem in_wsL_law_r3 : ∀ w ∈ wsL_law_r3, w ∈ lw_tbl := fun w h => (goodIn_p wsL_law_r3 [180, 192, 234] rfl (by decide +kernel) w h).1
set_option maxRecDepth 1000000 in
theorem in_wsL_law_r4 : ∀ w ∈ wsL_law_r4, w ∈ lw_tbl := fun w h => (goodIn_p wsL_law_r4 [288, 294] rfl (by decide +kernel) w h).1
set_option maxRecDepth 1000000 in
theorem in_wsL_law_r5 : ∀ w ∈ wsL_law_r5, w ∈ lw_tbl := fun w h => (goodIn_p wsL_law_r5 [300, 320, 887] rfl (by decide +kernel) w h).1
set_option maxRecDepth 1000000 in
theorem in_wsL_law_r6 : ∀ w ∈ wsL_law_r6, w ∈ lw_tbl := fun w h => (goodIn_p wsL_law_r6 [893] rfl (by decide +kernel) w h).1
set_option maxRecDepth 1000000 in
theorem in_wsL_law_r7 : ∀ w ∈ wsL_law_r7, w ∈ lw_tbl := fun w h => (goodIn_p wsL_law_r7 [453, 456, 461, 464, 467] rfl (by decide +kernel) w h).1
set_option maxRecDepth 1000000 in
theorem in_wsL_law_r8 : ∀ w ∈ wsL_law_r8, w ∈ lw_tbl := fun w h => (goodIn_p wsL_law_r8 [1079, 1084, 471, 1088, 475] rfl (by decide +kernel) w h).1
set_option maxRecDepth 1000000 in
theorem in_wsL_law_r9 : ∀ w ∈ wsL_law_r9, w ∈ lw_tbl := fun w h => (goodIn_p wsL_law_r9 [479, 1092, 483, 487, 490] rfl (by decide +kernel) w h).1
set_option maxRecDepth 1000000 in
theorem in_wsL_law_r10 : ∀ w ∈ wsL_law_r10, w ∈ lw_tbl := fun w h => (goodIn_p wsL_law_r10 [494, 498, 503] rfl (by decide +kernel) w h).1
set_option maxRecDepth 1000000 in
theorem in_wsL_law_r11 : ∀ w ∈ wsL_law_r11, w ∈ lw_tbl := fun w h => (goodIn_p wsL_law_r11 [507, 512] rfl (by decide +kernel) w h).1
set_option maxRecDepth 1000000 in
theorem in_wsL_law_r12 : ∀ w ∈ wsL_law_r12, w ∈ lw_tbl := fun w h => (goodIn_p wsL_law_r12 [1096, 516, 521, 525] rfl (by decide +kernel) w h).1
set_option maxRecDepth 1000000 in
theorem in_wsL_law_r13 : ∀ w ∈ wsL_law_r13, w ∈ lw_tbl := fun w h => (goodIn_p wsL_law_r13 [529, 533, 536, 539] rfl (by decide +kernel) w h).1
set_option maxRecDepth 1000000 in
theorem in_wsL_law_r14 : ∀ w ∈ wsL_law_r14, w ∈ lw_tbl := fun w h => (goodIn_p wsL_law_r14 [544, 548, 552, 559] rfl (by decide +kernel) w h).1
set_option maxRecDepth 1000000 in
theorem in_wsL_law_r15 : ∀ w ∈ wsL_law_r15, w ∈ lw_tbl := fun w h => (goodIn_p wsL_law_r15 [564, 569, 573, 577, 581] rfl (by decide +kernel) w h).1
set_option maxRecDepth 1000000 in
theorem in_wsL_law_r16 : ∀ w ∈ wsL_law_r16, w ∈ lw_tbl := fun w h => (goodIn_p wsL_law_r16 [585, 589, 596] rfl (by decide +kernel) w h).1
set_option maxRecDepth 1000000 in
theorem in_wsL_law_r17 : ∀ w ∈ wsL_law_r17, w ∈ lw_tbl := fun w h => (goodIn_p wsL_law_r17 [600, 603, 607, 611, 615] rfl (by decide +kernel) w h).1
set_option maxRecDepth 1000000 in
theorem in_wsL_law_r18 : ∀ w ∈ wsL_law_r18, w ∈ lw_tbl := fun w h => (goodIn_p wsL_law_r18 [619, 624, 628, 632, 636, 640] rfl (by decide +kernel) w h).1
set_option maxRecDepth 1000000 in
theorem in_wsL_law_r19 : ∀ w ∈ wsL_law_r19, w ∈ lw_tbl := fun w h => (goodIn_p wsL_law_r19 [644, 647, 651, 655, 659, 663] rfl (by decide +kernel) w h).1
set_option maxRecDepth 1000000 in
theorem in_wsL_law_r20 : ∀ w ∈ wsL_law_r20, w ∈ lw_tbl := fun w h => (goodIn_p wsL_law_r20 [667, 672, 677, 681, 685] rfl (by decide +kernel) w h).1
set_option maxRecDepth 1000000 in
theorem in_wsL_law_r21 : ∀ w ∈ wsL_law_r21, w ∈ lw_tbl := fun w h => (goodIn_p wsL_law_r21 [689, 694, 698, 702, 706, 710] rfl (by decide +kernel) w h).1
set_option maxRecDepth 1000000 in
theorem in_wsL_law_r22 : ∀ w ∈ wsL_law_r22, w ∈ lw_tbl := fun w h => (goodIn_p wsL_law_r22 [713, 717, 721, 725, 732] rfl (by decide +kernel) w h).1
set_option maxRecDepth 1000000 in
theorem in_wsL_law_r23 : ∀ w ∈ wsL_law_r23, w ∈ lw_tbl := fun w h => (goodIn_p wsL_law_r23 [729, 736, 740, 745, 750] rfl (by decide +kernel) w h).1
set_option maxRecDepth 1000000 in
theorem in_wsL_law_r24 : ∀ w ∈ wsL_law_r24, w ∈ lw_tbl := fun w h => (goodIn_p wsL_law_r24 [754, 757, 761, 766] rfl (by decide +kernel) w h).1
set_option maxRecDepth 1000000 in
theorem in_wsL_law_r25 : ∀ w ∈ wsL_law_r25, w ∈ lw_tbl := fun w h => (goodIn_p wsL_law_r25 [770, 774, 778, 784] rfl (by decide +kernel) w h).1
set_option maxRecDepth 1000000 in
theorem in_wsL_law_r26 : ∀ w ∈ wsL_law_r26, w ∈ lw_tbl := fun w h => (goodIn_p wsL_law_r26 [790, 794, 799] rfl (by decide +kernel) w h).1
set_option maxRecDepth 1000000 in
theorem in_wsL_law_r27 : ∀ w ∈ wsL_law_r27, w ∈ lw_tbl := fun w h => (goodIn_p wsL_law_r27 [804, 812, 816, 820, 824] rfl (by decide +kernel) w h).1
set_option maxRecDepth 1000000 in
theorem in_wsL_law_r28 : ∀ w ∈ wsL_law_r28, w ∈ lw_tbl := fun w h => (goodIn_p wsL_law_r28 [828, 832, 837, 1100] rfl (by decide +kernel) w h).1
set_option maxRecDepth 1000000 in
theorem in_wsL_law_r29 : ∀ w ∈ wsL_law_r29, w ∈ lw_tbl := fun w h => (goodIn_p wsL_law_r29 [1105, 1109] rfl (by decide +kernel) w h).1
set_option maxRecDepth 1000000 in
theorem in_wsL_law_r30 : ∀ w ∈ wsL_law_r30, w ∈ lw_tbl := fun w h => (goodIn_p wsL_law_r30 [1113, 1117, 1126, 1130, 1134] rfl (by decide +kernel) w h).1
set_option maxRecDepth 1000000 in
theorem in_wsL_law_r31 : ∀ w ∈ wsL_law_r31, w ∈ lw_tbl := fun w h => (goodIn_p wsL_law_r31 [1137, 1140, 1143, 1147, 1152, 1155] rfl (by decide +kernel) w h).1
set_option maxRecDepth 1000000 in
theorem in_wsL_law_r32 : ∀ w ∈ wsL_law_r32, w ∈ lw_tbl := fun w h => (goodIn_p wsL_law_r32 [1159, 1162, 1166, 1169, 1172, 1176, 1179] rfl (by decide +kernel) w h).1
set_option maxRecDepth 1000000 in
theorem in_wsL_law_r33 : ∀ w ∈ wsL_law_r33, w ∈ lw_tbl := fun w h => (goodIn_p wsL_law_r33 [1183, 1187, 1190, 1194, 1199, 1203] rfl (by decide +kernel) w h).1
set_option maxRecDepth 1000000 in
theorem in_wsL_law_r34 : ∀ w ∈ wsL_law_r34, w ∈ lw_tbl := fun w h => (goodIn_p wsL_law_r34 [1207, 1211, 1215, 1218] rfl (by decide +kernel) w h).1
set_option maxRecDepth 1000000 in
theorem in_wsL_law_r35 : ∀ w ∈ wsL_law_r35, w ∈ lw_tbl := fun w h => (goodIn_p wsL_law_r35 [1222, 1225, 1228, 1231, 1234, 1237, 1240, 1243] rfl (by decide +kernel) w h).1
set_option maxRecDepth 1000000 in
theorem in_wsL_law_r36 : ∀ w ∈ wsL_law_r36, w ∈ lw_tbl := fun w h => (goodIn_p wsL_law_r36 [1246, 1249, 1253, 1257, 1261, 1265] rfl (by decide +kernel) w h).1
set_option maxRecDepth 1000000 in
theorem in_wsL_law_r37 : ∀ w ∈ wsL_law_r37, w ∈ lw_tbl := fun w h => (goodIn_p wsL_law_r37 [1269, 1273, 841, 1282] rfl (by decide +kernel) w h).1
set_option maxRecDepth 1000000 in
theorem in_wsL_law_r38 : ∀ w ∈ wsL_law_r38, w ∈ lw_tbl := fun w h => (goodIn_p wsL_law_r38 [845, 1286, 850, 1290, 855] rfl (by decide +kernel) w h).1
set_option maxRecDepth 1000000 in
theorem in_wsL_law_r39 : ∀ w ∈ wsL_law_r39, w ∈ lw_tbl := fun w h => (goodIn_p wsL_law_r39 [1294, 859, 863, 867, 1298, 1302] rfl (by decide +kernel) w h).1
set_option maxRecDepth 1000000 in
theorem in_wsL_law_r40 : ∀ w ∈ wsL_law_r40, w ∈ lw_tbl := fun w h => (goodIn_p wsL_law_r40 [871, 1306, 875, 879] rfl (by decide +kernel) w h).1
set_option maxRecDepth 1000000 in
theorem in_wsL_law_r41 : ∀ w ∈ wsL_law_r41, w ∈ lw_tbl := fun w h => (goodIn_p wsL_law_r41 [1310] rfl (by decide +kernel) w h).1
set_option maxRecDepth 1000000 in
theorem in_wsX100 : ∀ w ∈ wsX100, w ∈ lw_tbl := by decide +kernel
set_option maxRecDepth 1000000 in
theorem in_wsX110 : ∀ w ∈ wsX110, w ∈ lw_tbl := by decide +kernel
set_option maxRecDepth 1000000 in
theorem in_wsX70 : ∀ w ∈ wsX70, w ∈ lw_tbl := by decide +kernel
set_option maxRecDepth 1000000 in
theorem in_wsX10 : ∀ w ∈ wsX10, w ∈ lw_tbl := by decide +kernel
set_option maxRecDepth 1000000 in
theorem in_wsX20 : ∀ w ∈ wsX20, w ∈ lw_tbl := by decide +kernel
set_option maxRecDepth 1000000 in
theorem in_wsX60 : ∀ w ∈ wsX60, w ∈ lw_tbl := by decide +kernel
set_option maxRecDepth 1000000 in
theorem in_wsX30 : ∀ w ∈ wsX30, w ∈ lw_tbl := by decide +kernel
set_option maxRecDepth 1000000 in
theorem in_wsX00 : ∀ w ∈ wsX00, w ∈ lw_tbl := by decide +kernel
set_option maxRecDepth 1000000 in
theorem in_wsX90 : ∀ w ∈ wsX90, w ∈ lw_tbl := by decide +kernel
set_option maxRecDepth 1000000 in
theorem in_wsX80 : ∀ w ∈ wsX80, w ∈ lw_tbl := by decide +kernel
set_option maxRecDepth 1000000 in
theorem in_wsX40 : ∀ w ∈ wsX40, w ∈ lw_tbl := by decide +kernel
set_option maxRecDepth 1000000 in
theorem in_wsX50 : ∀ w ∈ wsX50, w ∈ lw_tbl := by decide +kernel
theorem app_in {a b t : List Cond} (ha : ∀ w ∈ a, w ∈ t) (hb : ∀ w ∈ b, w ∈ t) : ∀ w ∈ a ++ b, w ∈ t := fun w h => (List.mem_append.mp h).elim (ha w) (hb w)
theorem wsL_law_in : ∀ w ∈ wsL_law, w ∈ lw_tbl := app_in (app_in (app_in (app_in (app_in (app_in (app_in (app_in (app_in (app_in (app_in (app_in (app_in (app_in in_wsL_law_r1 (app_in in_wsL_law_r2 (app_in in_wsL_law_r3 (app_in in_wsL_law_r4 (app_in in_wsL_law_r5 (app_in in_wsL_law_r6 (app_in in_wsL_law_r7 (app_in in_wsL_law_r8 (app_in in_wsL_law_r9 (app_in in_wsL_law_r10 (app_in in_wsL_law_r11 (app_in in_wsL_law_r12 (app_in in_wsL_law_r13 (app_in in_wsL_law_r14 (app_in in_wsL_law_r15 (app_in in_wsL_law_r16 (app_in in_wsL_law_r17 (app_in in_wsL_law_r18 (app_in in_wsL_law_r19 (app_in in_wsL_law_r20 (app_in in_wsL_law_r21 (app_in in_wsL_law_r22 (app_in in_wsL_law_r23 (app_in in_wsL_law_r24 (app_in in_wsL_law_r25 (app_in in_wsL_law_r26 (app_in in_wsL_law_r27 (app_in in_wsL_law_r28 (app_in in_wsL_law_r29 (app_in in_wsL_law_r30 (app_in in_wsL_law_r31 (app_in in_wsL_law_r32 (app_in in_wsL_law_r33 (app_in in_wsL_law_r34 (app_in in_wsL_law_r35 (app_in in_wsL_law_r36 (app_in in_wsL_law_r37 (app_in in_wsL_law_r38 (app_in in_wsL_law_r39 (app_in in_wsL_law_r40 (in_wsL_law_r41))))))))))))))))))))))))))))))))))))))))) in_wsX100) in_wsX110) in_wsX70) in_wsX10) in_wsX20) in_wsX60) in_wsX30) in_wsX00) in_wsX90) in_wsX80) in_wsX40) in_wsX50) (fun _ h => absurd h List.not_mem_nil)
theorem inX10 : ∀ w ∈ wsX100, w ∈ lw_tbl := in_wsX100
theorem inX11 : ∀ w ∈ wsX110, w ∈ lw_tbl := in_wsX110
theorem inX7 : ∀ w ∈ wsX70, w ∈ lw_tbl := in_wsX70
theorem inX1 : ∀ w ∈ wsX10, w ∈ lw_tbl := in_wsX10
theorem inX2 : ∀ w ∈ wsX20, w ∈ lw_tbl := in_wsX20
theorem inX6 : ∀ w ∈ wsX60, w ∈ lw_tbl := in_wsX60
theorem inX3 : ∀ w ∈ wsX30, w ∈ lw_tbl := in_wsX30
theorem inX0 : ∀ w ∈ wsX00, w ∈ lw_tbl := in_wsX00
theorem inX9 : ∀ w ∈ wsX90, w ∈ lw_tbl := in_wsX90
theorem inX8 : ∀ w ∈ wsX80, w ∈ lw_tbl := in_wsX80
theorem inX4 : ∀ w ∈ wsX40, w ∈ lw_tbl := in_wsX40
theorem inX5 : ∀ w ∈ wsX50, w ∈ lw_tbl := in_wsX50
