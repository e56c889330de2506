theorem dJ9_min_7cf53_0 : decode cJ9_min_7cf53 0 = .ok (.iload_n 0, 1) := by decide +kernel
theorem dJ9_min_7cf53_1 : decode cJ9_min_7cf53 1 = .ok (.iload_n 1, 1) := by decide +kernel
theorem dJ9_min_7cf53_2 : decode cJ9_min_7cf53 2 = .ok (.if_icmp .gt 7, 3) := by decide +kernel
theorem dJ9_min_7cf53_5 : decode cJ9_min_7cf53 5 = .ok (.iload_n 0, 1) := by decide +kernel
theorem dJ9_min_7cf53_6 : decode cJ9_min_7cf53 6 = .ok (.goto 4, 3) := by decide +kernel
theorem dJ9_min_7cf53_9 : decode cJ9_min_7cf53 9 = .ok (.iload_n 1, 1) := by decide +kernel
theorem dJ9_min_7cf53_10 : decode cJ9_min_7cf53 10 = .ok (.ireturn, 1) := by decide +kernel
theorem dL_below_0 : decode cL_below 0 = .ok (.iload_n 0, 1) := by decide +kernel
theorem dL_below_1 : decode cL_below 1 = .ok (.ldc 7, 2) := by decide +kernel
theorem dL_below_3 : decode cL_below 3 = .ok (.iand, 1) := by decide +kernel
theorem dL_below_4 : decode cL_below 4 = .ok (.iload_n 1, 1) := by decide +kernel
theorem dL_below_5 : decode cL_below 5 = .ok (.irem, 1) := by decide +kernel
theorem dL_below_6 : decode cL_below 6 = .ok (.ireturn, 1) := by decide +kernel
theorem dL_cell_0 : decode cL_cell 0 = .ok (.iload_n 1, 1) := by decide +kernel
theorem dL_cell_1 : decode cL_cell 1 = .ok (.aload_n 0, 1) := by decide +kernel
theorem dL_cell_2 : decode cL_cell 2 = .ok (.arraylength, 1) := by decide +kernel
theorem dL_cell_3 : decode cL_cell 3 = .ok (.if_icmp .ge 9, 3) := by decide +kernel
theorem dL_cell_6 : decode cL_cell 6 = .ok (.aload_n 0, 1) := by decide +kernel
theorem dL_cell_7 : decode cL_cell 7 = .ok (.iload_n 1, 1) := by decide +kernel
theorem dL_cell_8 : decode cL_cell 8 = .ok (.iaload, 1) := by decide +kernel
theorem dL_cell_9 : decode cL_cell 9 = .ok (.goto 9, 3) := by decide +kernel
theorem dL_cell_12 : decode cL_cell 12 = .ok (.ldc 8, 2) := by decide +kernel
theorem dL_cell_14 : decode cL_cell 14 = .ok (.iload_n 1, 1) := by decide +kernel
theorem dL_cell_15 : decode cL_cell 15 = .ok (.iconst 3, 1) := by decide +kernel
theorem dL_cell_16 : decode cL_cell 16 = .ok (.iadd, 1) := by decide +kernel
theorem dL_cell_17 : decode cL_cell 17 = .ok (.imul, 1) := by decide +kernel
theorem dL_cell_18 : decode cL_cell 18 = .ok (.ireturn, 1) := by decide +kernel
set_option maxRecDepth 20000 in
theorem ggL_act_L_below : GoodIn wsL_act wsL_below := goodIn_r _ [20, 21] (by decide +kernel) (by decide +kernel)
set_option maxRecDepth 20000 in
theorem gL_act_L_below : GoodIn wsL_act (va_wsS RL 15 yL_below wsL_below) := goodIn_app (goodIn_of _ (by decide +kernel)) ggL_act_L_below
set_option maxRecDepth 20000 in
theorem ggL_act_X3_init : GoodIn wsL_act wsX3_init := goodIn_r _ [23, 24, 25, 26, 27, 280, 281, 282, 283, 284, 285, 286, 287, 288, 289, 290] (by decide +kernel) (by decide +kernel)
set_option maxRecDepth 20000 in
theorem gL_act_X3_init_n23 : GoodIn wsL_act (wsX3_init) := ggL_act_X3_init
set_option maxRecDepth 20000 in
theorem ggL_act_X2_addHill : GoodIn wsL_act wsX2_addHill := goodIn_ca (goodIn_ca (goodIn_r _ [32, 33, 34, 35, 36, 37, 38, 31, 39, 40, 41, 42, 43, 44, 45, 46, 47, 48, 49, 50, 51, 52, 53, 54, 55, 56, 291, 292, 293, 294, 295, 296, 297, 298, 299, 300, 301, 302, 303, 304, 305, 306, 307, 308, 309, 310, 311, 312] (by decide +kernel) (by decide +kernel)) (goodIn_sub (fun _ h => List.mem_cons_of_mem _ (List.mem_append_left _ (List.mem_append_left _ (List.mem_append_right _ h)))) (by decide +kernel))) (goodIn_sub (fun _ h => List.mem_cons_of_mem _ (List.mem_append_left _ (List.mem_append_right _ h))) (by decide +kernel))
set_option maxRecDepth 20000 in
theorem gL_act_X2_addHill : GoodIn wsL_act (wsV RL 37 RX2 yX2_addHill wsX2_addHill) := goodIn_app (goodIn_of _ (by decide +kernel)) ggL_act_X2_addHill
set_option maxRecDepth 20000 in
theorem ggL_act_X2_setSight : GoodIn wsL_act wsX2_setSight := goodIn_ca (goodIn_ca (goodIn_r _ [60, 40, 41, 35, 61, 62, 63, 31, 64, 65, 66, 36, 37, 38, 39, 67, 68, 69, 45, 70, 71, 72, 73, 74, 75, 291, 292, 293, 294, 295, 296, 297, 298, 299, 300, 301] (by decide +kernel) (by decide +kernel)) (goodIn_sub (fun _ h => List.mem_cons_of_mem _ (List.mem_append_left _ (List.mem_append_right _ h))) (by decide +kernel))) (goodIn_sub (fun _ h => List.mem_cons_of_mem _ (List.mem_append_right _ h)) (by decide +kernel))
set_option maxRecDepth 20000 in
theorem gL_act_X2_setSight : GoodIn wsL_act (wsV RL 47 RX2 yX2_setSight wsX2_setSight) := goodIn_app (goodIn_of _ (by decide +kernel)) ggL_act_X2_setSight
set_option maxRecDepth 20000 in
theorem ggL_act_X2_turnEast : GoodIn wsL_act wsX2_turnEast := goodIn_ca (goodIn_r _ [79, 80, 81, 82, 83, 31, 84, 35, 61, 62, 63, 64, 65, 66, 36, 85, 52, 53, 45, 54, 55, 56, 302, 303, 304, 305, 306, 307, 308, 309, 310, 311, 312, 291, 292, 293, 294, 295, 296, 297, 298, 299, 300, 301] (by decide +kernel) (by decide +kernel)) (goodIn_sub (fun _ h => List.mem_cons_of_mem _ (List.mem_append_right _ h)) (by decide +kernel))
set_option maxRecDepth 20000 in
theorem gL_act_X2_turnEast : GoodIn wsL_act (wsV RL 54 RX2 yX2_turnEast wsX2_turnEast) := goodIn_app (goodIn_of _ (by decide +kernel)) ggL_act_X2_turnEast
set_option maxRecDepth 20000 in
theorem ggL_act_X2_turnPost : GoodIn wsL_act wsX2_turnPost := goodIn_ca (goodIn_r _ [89, 90, 81, 82, 83, 31, 84, 35, 61, 62, 63, 64, 65, 66, 36, 85, 52, 53, 45, 54, 55, 56, 302, 303, 304, 305, 306, 307, 308, 309, 310, 311, 312, 291, 292, 293, 294, 295, 296, 297, 298, 299, 300, 301] (by decide +kernel) (by decide +kernel)) (goodIn_sub (fun _ h => List.mem_cons_of_mem _ (List.mem_append_right _ h)) (by decide +kernel))
set_option maxRecDepth 20000 in
theorem gL_act_X2_turnPost : GoodIn wsL_act (wsV RL 61 RX2 yX2_turnPost wsX2_turnPost) := goodIn_app (goodIn_of _ (by decide +kernel)) ggL_act_X2_turnPost
set_option maxRecDepth 20000 in
theorem ggL_act_X2_bringWood : GoodIn wsL_act wsX2_bringWood := goodIn_ca (goodIn_ca (goodIn_r _ [94, 95, 96, 97, 98, 99, 81, 82, 83, 31, 84, 35, 61, 62, 63, 64, 65, 66, 36, 85, 52, 53, 45, 54, 55, 56, 37, 38, 39, 40, 41, 302, 303, 304, 305, 306, 307, 308, 309, 310, 311, 312, 291, 292, 293, 294, 295, 296, 297, 298, 299, 300, 301] (by decide +kernel) (by decide +kernel)) (goodIn_sub (fun _ h => List.mem_cons_of_mem _ (List.mem_append_right _ h)) (by decide +kernel))) (goodIn_sub (fun _ h => List.mem_cons_of_mem _ (List.mem_append_left _ (List.mem_append_right _ h))) (by decide +kernel))
set_option maxRecDepth 20000 in
theorem gL_act_X2_bringWood : GoodIn wsL_act (wsV RL 64 RX2 yX2_bringWood wsX2_bringWood) := goodIn_app (goodIn_of _ (by decide +kernel)) ggL_act_X2_bringWood
set_option maxRecDepth 20000 in
theorem ggL_act_X2_setDamp : GoodIn wsL_act wsX2_setDamp := goodIn_ca (goodIn_ca (goodIn_r _ [103, 104, 81, 82, 83, 31, 84, 35, 61, 62, 63, 64, 65, 66, 36, 85, 52, 53, 45, 54, 55, 56, 37, 38, 39, 40, 41, 302, 303, 304, 305, 306, 307, 308, 309, 310, 311, 312, 291, 292, 293, 294, 295, 296, 297, 298, 299, 300, 301] (by decide +kernel) (by decide +kernel)) (goodIn_sub (fun _ h => List.mem_cons_of_mem _ (List.mem_append_right _ h)) (by decide +kernel))) (goodIn_sub (fun _ h => List.mem_cons_of_mem _ (List.mem_append_left _ (List.mem_append_right _ h))) (by decide +kernel))
set_option maxRecDepth 20000 in
theorem gL_act_X2_setDamp : GoodIn wsL_act (wsV RL 67 RX2 yX2_setDamp wsX2_setDamp) := goodIn_app (goodIn_of _ (by decide +kernel)) ggL_act_X2_setDamp
set_option maxRecDepth 20000 in
theorem ggL_act_X2_setHaze : GoodIn wsL_act wsX2_setHaze := goodIn_ca (goodIn_r _ [108, 35, 109, 37, 38, 31, 39, 40, 41, 291, 292, 293, 294, 295, 296, 297, 298, 299, 300, 301] (by decide +kernel) (by decide +kernel)) (goodIn_sub (fun _ h => List.mem_cons_of_mem _ (List.mem_append_left _ (List.mem_append_right _ h))) (by decide +kernel))
set_option maxRecDepth 20000 in
theorem gL_act_X2_setHaze : GoodIn wsL_act (wsV RL 73 RX2 yX2_setHaze wsX2_setHaze) := goodIn_app (goodIn_of _ (by decide +kernel)) ggL_act_X2_setHaze
set_option maxRecDepth 20000 in
theorem ggL_act_X2_light : GoodIn wsL_act wsX2_light := goodIn_ca (goodIn_ca (goodIn_r _ [113, 35, 114, 115, 116, 117, 31, 118, 33, 34, 81, 82, 83, 84, 61, 62, 63, 64, 65, 66, 36, 85, 52, 53, 45, 54, 55, 56, 119, 120, 121, 122, 123, 124, 125, 126, 127, 128, 129, 130, 131, 132, 133, 134, 135, 136, 51, 137, 138, 139, 140, 141, 142, 143, 144, 291, 292, 302, 303, 304, 305, 306, 307, 308, 309, 310, 311, 312, 293, 294, 295, 296, 297, 298, 299, 300, 301] (by decide +kernel) (by decide +kernel)) (goodIn_sub (fun _ h => List.mem_cons_of_mem _ (List.mem_append_left _ (List.mem_append_left _ (List.mem_append_right _ h)))) (by decide +kernel))) (goodIn_sub (fun _ h => List.mem_cons_of_mem _ (List.mem_append_right _ h)) (by decide +kernel))
set_option maxRecDepth 20000 in
theorem gL_act_X2_light : GoodIn wsL_act (wsV RL 83 RX2 yX2_light wsX2_light) := goodIn_app (goodIn_of _ (by decide +kernel)) ggL_act_X2_light
set_option maxRecDepth 20000 in
theorem ggL_act_X4_light : GoodIn wsL_act wsX4_light := goodIn_r _ [149, 150, 151, 152, 153, 154, 155, 156, 157, 280, 281, 282, 283, 284, 285, 286, 287, 288, 289, 290, 273, 274, 275, 276, 277, 278, 279] (by decide +kernel) (by decide +kernel)
set_option maxRecDepth 20000 in
theorem gL_act_X4_light : GoodIn wsL_act (wsV RL 86 RX4 yX4_light wsX4_light) := goodIn_app (goodIn_of _ (by decide +kernel)) ggL_act_X4_light
set_option maxRecDepth 20000 in
theorem ggL_act_X3_dark : GoodIn wsL_act wsX3_dark := goodIn_r _ [161, 162, 163, 27, 280, 281, 282, 283, 284, 285, 286, 287, 288, 289, 290] (by decide +kernel) (by decide +kernel)
set_option maxRecDepth 20000 in
theorem gL_act_X3_dark : GoodIn wsL_act (wsV RL 89 RX3 yX3_dark wsX3_dark) := goodIn_app (goodIn_of _ (by decide +kernel)) ggL_act_X3_dark
set_option maxRecDepth 20000 in
theorem ggL_act_X2_douse : GoodIn wsL_act wsX2_douse := goodIn_ca (goodIn_ca (goodIn_r _ [167, 95, 168, 169, 170, 31, 171, 33, 34, 172, 81, 82, 83, 84, 35, 61, 62, 63, 64, 65, 66, 36, 85, 52, 53, 45, 54, 55, 56, 173, 174, 175, 122, 176, 124, 143, 144, 302, 303, 304, 305, 306, 307, 308, 309, 310, 311, 312, 291, 292, 293, 294, 295, 296, 297, 298, 299, 300, 301] (by decide +kernel) (by decide +kernel)) (goodIn_sub (fun _ h => List.mem_cons_of_mem _ (List.mem_append_left _ (List.mem_append_left _ (List.mem_append_right _ h)))) (by decide +kernel))) (goodIn_sub (fun _ h => List.mem_cons_of_mem _ (List.mem_append_right _ h)) (by decide +kernel))
set_option maxRecDepth 20000 in
theorem gL_act_X2_douse : GoodIn wsL_act (wsV RL 92 RX2 yX2_douse wsX2_douse) := goodIn_app (goodIn_of _ (by decide +kernel)) ggL_act_X2_douse
set_option maxRecDepth 20000 in
theorem ggL_act_X2_glow : GoodIn wsL_act wsX2_glow := goodIn_ca (goodIn_r _ [180, 35, 181, 37, 38, 31, 39, 40, 41, 291, 292, 293, 294, 295, 296, 297, 298, 299, 300, 301] (by decide +kernel) (by decide +kernel)) (goodIn_sub (fun _ h => List.mem_cons_of_mem _ (List.mem_append_left _ (List.mem_append_right _ h))) (by decide +kernel))
set_option maxRecDepth 20000 in
theorem gL_act_X2_glow : GoodIn wsL_act (wsV RL 98 RX2 yX2_glow wsX2_glow) := goodIn_app (goodIn_of _ (by decide +kernel)) ggL_act_X2_glow
set_option maxRecDepth 20000 in
theorem ggL_act_X4_pass : GoodIn wsL_act wsX4_pass := goodIn_r _ [185, 186, 187, 152, 155, 188, 189, 150, 190, 191, 151, 192, 154, 193, 194, 195, 196, 197, 198, 148, 199, 200, 201, 146, 147, 149, 153, 156, 157, 202, 159, 160, 4, 161, 162, 163, 27, 273, 274, 275, 276, 277, 278, 279, 280, 281, 282, 283, 284, 285, 286, 287, 288, 289, 290] (by decide +kernel) (by decide +kernel)
set_option maxRecDepth 20000 in
theorem gL_act_X4_pass : GoodIn wsL_act (wsV RL 103 RX4 yX4_pass wsX4_pass) := goodIn_app (goodIn_of _ (by decide +kernel)) ggL_act_X4_pass
set_option maxRecDepth 20000 in
theorem ggL_act_X2_passMinutes : GoodIn wsL_act wsX2_passMinutes := goodIn_ca (goodIn_r _ [206, 35, 207, 37, 38, 31, 39, 40, 41, 208, 209, 210, 45, 211, 212, 213, 214, 215, 216, 217, 218, 219, 220, 221, 47, 222, 223, 51, 52, 53, 54, 55, 56, 224, 225, 226, 227, 228, 229, 120, 121, 122, 123, 124, 125, 230, 231, 232, 233, 234, 235, 236, 237, 238, 239, 68, 69, 70, 71, 240, 241, 242, 243, 244, 245, 246, 247, 248, 50, 249, 250, 251, 252, 253, 131, 132, 133, 134, 135, 136, 137, 138, 139, 140, 141, 142, 143, 144, 254, 255, 256, 257, 258, 259, 260, 261, 262, 263, 130, 264, 265, 266, 267, 268, 269, 270, 271, 272, 174, 175, 176, 291, 292, 293, 294, 295, 296, 297, 298, 299, 300, 301, 302, 303, 304, 305, 306, 307, 308, 309, 310, 311, 312] (by decide +kernel) (by decide +kernel)) (goodIn_sub (fun _ h => List.mem_cons_of_mem _ (List.mem_append_left _ (List.mem_append_right _ h))) (by decide +kernel))
set_option maxRecDepth 20000 in
theorem gL_act_X2_passMinutes : GoodIn wsL_act (wsV RL 106 RX2 yX2_passMinutes wsX2_passMinutes) := goodIn_app (goodIn_of _ (by decide +kernel)) ggL_act_X2_passMinutes
theorem dL_act_0 : decode cL_act 0 = .ok (.aload_n 1, 1) := by decide +kernel
theorem dL_act_1 : decode cL_act 1 = .ok (.getfield 9, 3) := by decide +kernel
theorem dL_act_4 : decode cL_act 4 = .ok (.arraylength, 1) := by decide +kernel
theorem dL_act_5 : decode cL_act 5 = .ok (.istore_n 3, 1) := by decide +kernel
theorem dL_act_6 : decode cL_act 6 = .ok (.iload_n 2, 1) := by decide +kernel
theorem dL_act_7 : decode cL_act 7 = .ok (.bipush 9, 2) := by decide +kernel
theorem dL_act_9 : decode cL_act 9 = .ok (.ishr, 1) := by decide +kernel
theorem dL_act_10 : decode cL_act 10 = .ok (.bipush 24, 2) := by decide +kernel
theorem dL_act_12 : decode cL_act 12 = .ok (.invokestatic 15, 3) := by decide +kernel
theorem dL_act_15 : decode cL_act 15 = .ok (.istore 4, 2) := by decide +kernel
theorem dL_act_17 : decode cL_act 17 = .ok (.iload_n 3, 1) := by decide +kernel
theorem dL_act_18 : decode cL_act 18 = .ok (.iconst 2, 1) := by decide +kernel
theorem dL_act_19 : decode cL_act 19 = .ok (.if_icmp .lt 9, 3) := by decide +kernel
theorem dL_act_22 : decode cL_act 22 = .ok (.iload 4, 2) := by decide +kernel
theorem dL_act_24 : decode cL_act 24 = .ok (.iconst 3, 1) := by decide +kernel
theorem dL_act_25 : decode cL_act 25 = .ok (.if_icmp .ge 154, 3) := by decide +kernel
theorem dL_act_28 : decode cL_act 28 = .ok (.iload_n 3, 1) := by decide +kernel
theorem dL_act_29 : decode cL_act 29 = .ok (.bipush 10, 2) := by decide +kernel
theorem dL_act_31 : decode cL_act 31 = .ok (.if_icmp .ne 5, 3) := by decide +kernel
theorem dL_act_34 : decode cL_act 34 = .ok (.iconst 1, 1) := by decide +kernel
theorem dL_act_35 : decode cL_act 35 = .ok (.ireturn, 1) := by decide +kernel
theorem dL_act_36 : decode cL_act 36 = .ok (.iload_n 3, 1) := by decide +kernel
theorem dL_act_37 : decode cL_act 37 = .ok (.iconst 1, 1) := by decide +kernel
theorem dL_act_38 : decode cL_act 38 = .ok (.iadd, 1) := by decide +kernel
theorem dL_act_39 : decode cL_act 39 = .ok (.anewarray 21, 3) := by decide +kernel
theorem dL_act_42 : decode cL_act 42 = .ok (.astore 5, 2) := by decide +kernel
theorem dL_act_44 : decode cL_act 44 = .ok (.iconst 0, 1) := by decide +kernel
theorem dL_act_45 : decode cL_act 45 = .ok (.istore 6, 2) := by decide +kernel
theorem dL_act_47 : decode cL_act 47 = .ok (.iload 6, 2) := by decide +kernel
theorem dL_act_49 : decode cL_act 49 = .ok (.iload_n 3, 1) := by decide +kernel
theorem dL_act_50 : decode cL_act 50 = .ok (.if_icmp .ge 21, 3) := by decide +kernel
theorem dL_act_53 : decode cL_act 53 = .ok (.aload 5, 2) := by decide +kernel
theorem dL_act_55 : decode cL_act 55 = .ok (.iload 6, 2) := by decide +kernel
theorem dL_act_57 : decode cL_act 57 = .ok (.aload_n 1, 1) := by decide +kernel
theorem dL_act_58 : decode cL_act 58 = .ok (.getfield 9, 3) := by decide +kernel
theorem dL_act_61 : decode cL_act 61 = .ok (.iload 6, 2) := by decide +kernel
theorem dL_act_63 : decode cL_act 63 = .ok (.aaload, 1) := by decide +kernel
theorem dL_act_64 : decode cL_act 64 = .ok (.aastore, 1) := by decide +kernel
theorem dL_act_65 : decode cL_act 65 = .ok (.iinc 6 1, 3) := by decide +kernel
theorem dL_act_68 : decode cL_act 68 = .ok (.goto (-21), 3) := by decide +kernel
theorem dL_act_71 : decode cL_act 71 = .ok (.new 21, 3) := by decide +kernel
theorem dL_act_74 : decode cL_act 74 = .ok (.dup, 1) := by decide +kernel
theorem dL_act_75 : decode cL_act 75 = .ok (.invokespecial 23, 3) := by decide +kernel
theorem dL_act_78 : decode cL_act 78 = .ok (.astore 6, 2) := by decide +kernel
theorem dL_act_80 : decode cL_act 80 = .ok (.aload 6, 2) := by decide +kernel
theorem dL_act_82 : decode cL_act 82 = .ok (.iload_n 3, 1) := by decide +kernel
theorem dL_act_83 : decode cL_act 83 = .ok (.putfield 24, 3) := by decide +kernel
theorem dL_act_86 : decode cL_act 86 = .ok (.aload 6, 2) := by decide +kernel
theorem dL_act_88 : decode cL_act 88 = .ok (.iload_n 2, 1) := by decide +kernel
theorem dL_act_89 : decode cL_act 89 = .ok (.iconst 1, 1) := by decide +kernel
theorem dL_act_90 : decode cL_act 90 = .ok (.ishr, 1) := by decide +kernel
theorem dL_act_91 : decode cL_act 91 = .ok (.bipush 31, 2) := by decide +kernel
theorem dL_act_93 : decode cL_act 93 = .ok (.invokestatic 15, 3) := by decide +kernel
theorem dL_act_96 : decode cL_act 96 = .ok (.putfield 28, 3) := by decide +kernel
theorem dL_act_99 : decode cL_act 99 = .ok (.aload 6, 2) := by decide +kernel
theorem dL_act_101 : decode cL_act 101 = .ok (.iload_n 2, 1) := by decide +kernel
theorem dL_act_102 : decode cL_act 102 = .ok (.iconst 3, 1) := by decide +kernel
theorem dL_act_103 : decode cL_act 103 = .ok (.ishr, 1) := by decide +kernel
theorem dL_act_104 : decode cL_act 104 = .ok (.iload_n 2, 1) := by decide +kernel
theorem dL_act_105 : decode cL_act 105 = .ok (.iconst 2, 1) := by decide +kernel
theorem dL_act_106 : decode cL_act 106 = .ok (.invokestatic 15, 3) := by decide +kernel
theorem dL_act_109 : decode cL_act 109 = .ok (.ifCond .ne 8, 3) := by decide +kernel
theorem dL_act_112 : decode cL_act 112 = .ok (.bipush 10, 2) := by decide +kernel
theorem dL_act_114 : decode cL_act 114 = .ok (.goto 4, 3) := by decide +kernel
theorem dL_act_117 : decode cL_act 117 = .ok (.iconst 3, 1) := by decide +kernel
theorem dL_act_118 : decode cL_act 118 = .ok (.invokestatic 15, 3) := by decide +kernel
theorem dL_act_121 : decode cL_act 121 = .ok (.putfield 31, 3) := by decide +kernel
theorem dL_act_124 : decode cL_act 124 = .ok (.aload 6, 2) := by decide +kernel
theorem dL_act_126 : decode cL_act 126 = .ok (.iconst 1, 1) := by decide +kernel
theorem dL_act_127 : decode cL_act 127 = .ok (.iload_n 2, 1) := by decide +kernel
theorem dL_act_128 : decode cL_act 128 = .ok (.iconst 5, 1) := by decide +kernel
theorem dL_act_129 : decode cL_act 129 = .ok (.ishr, 1) := by decide +kernel
theorem dL_act_130 : decode cL_act 130 = .ok (.iconst 5, 1) := by decide +kernel
theorem dL_act_131 : decode cL_act 131 = .ok (.invokestatic 15, 3) := by decide +kernel
theorem dL_act_134 : decode cL_act 134 = .ok (.iadd, 1) := by decide +kernel
theorem dL_act_135 : decode cL_act 135 = .ok (.putfield 34, 3) := by decide +kernel
theorem dL_act_138 : decode cL_act 138 = .ok (.aload 5, 2) := by decide +kernel
theorem dL_act_140 : decode cL_act 140 = .ok (.iload_n 3, 1) := by decide +kernel
theorem dL_act_141 : decode cL_act 141 = .ok (.aload 6, 2) := by decide +kernel
theorem dL_act_143 : decode cL_act 143 = .ok (.aastore, 1) := by decide +kernel
theorem dL_act_144 : decode cL_act 144 = .ok (.aload_n 1, 1) := by decide +kernel
theorem dL_act_145 : decode cL_act 145 = .ok (.aload 5, 2) := by decide +kernel
theorem dL_act_147 : decode cL_act 147 = .ok (.putfield 9, 3) := by decide +kernel
theorem dL_act_150 : decode cL_act 150 = .ok (.aload_n 0, 1) := by decide +kernel
theorem dL_act_151 : decode cL_act 151 = .ok (.aload 6, 2) := by decide +kernel
theorem dL_act_153 : decode cL_act 153 = .ok (.getfield 28, 3) := by decide +kernel
theorem dL_act_156 : decode cL_act 156 = .ok (.aload 6, 2) := by decide +kernel
theorem dL_act_158 : decode cL_act 158 = .ok (.getfield 31, 3) := by decide +kernel
theorem dL_act_161 : decode cL_act 161 = .ok (.aload 6, 2) := by decide +kernel
theorem dL_act_163 : decode cL_act 163 = .ok (.getfield 34, 3) := by decide +kernel
theorem dL_act_166 : decode cL_act 166 = .ok (.invokevirtual 37, 3) := by decide +kernel
theorem dL_act_169 : decode cL_act 169 = .ok (.iload_n 3, 1) := by decide +kernel
theorem dL_act_170 : decode cL_act 170 = .ok (.if_icmp .ne 7, 3) := by decide +kernel
theorem dL_act_173 : decode cL_act 173 = .ok (.iconst 1, 1) := by decide +kernel
theorem dL_act_174 : decode cL_act 174 = .ok (.goto 4, 3) := by decide +kernel
theorem dL_act_177 : decode cL_act 177 = .ok (.iconst 0, 1) := by decide +kernel
theorem dL_act_178 : decode cL_act 178 = .ok (.ireturn, 1) := by decide +kernel
theorem dL_act_179 : decode cL_act 179 = .ok (.iload_n 2, 1) := by decide +kernel
theorem dL_act_180 : decode cL_act 180 = .ok (.iconst 1, 1) := by decide +kernel
theorem dL_act_181 : decode cL_act 181 = .ok (.ishr, 1) := by decide +kernel
theorem dL_act_182 : decode cL_act 182 = .ok (.iload_n 3, 1) := by decide +kernel
theorem dL_act_183 : decode cL_act 183 = .ok (.invokestatic 15, 3) := by decide +kernel
theorem dL_act_186 : decode cL_act 186 = .ok (.istore 5, 2) := by decide +kernel
theorem dL_act_188 : decode cL_act 188 = .ok (.iload 5, 2) := by decide +kernel
theorem dL_act_190 : decode cL_act 190 = .ok (.iconst 1, 1) := by decide +kernel
theorem dL_act_191 : decode cL_act 191 = .ok (.iadd, 1) := by decide +kernel
theorem dL_act_192 : decode cL_act 192 = .ok (.iload_n 2, 1) := by decide +kernel
theorem dL_act_193 : decode cL_act 193 = .ok (.iconst 4, 1) := by decide +kernel
theorem dL_act_194 : decode cL_act 194 = .ok (.ishr, 1) := by decide +kernel
theorem dL_act_195 : decode cL_act 195 = .ok (.iload_n 3, 1) := by decide +kernel
theorem dL_act_196 : decode cL_act 196 = .ok (.iconst 1, 1) := by decide +kernel
theorem dL_act_197 : decode cL_act 197 = .ok (.isub, 1) := by decide +kernel
theorem dL_act_198 : decode cL_act 198 = .ok (.invokestatic 15, 3) := by decide +kernel
theorem dL_act_201 : decode cL_act 201 = .ok (.iadd, 1) := by decide +kernel
theorem dL_act_202 : decode cL_act 202 = .ok (.iload_n 3, 1) := by decide +kernel
theorem dL_act_203 : decode cL_act 203 = .ok (.irem, 1) := by decide +kernel
theorem dL_act_204 : decode cL_act 204 = .ok (.istore 6, 2) := by decide +kernel
theorem dL_act_206 : decode cL_act 206 = .ok (.aload_n 1, 1) := by decide +kernel
theorem dL_act_207 : decode cL_act 207 = .ok (.getfield 9, 3) := by decide +kernel
theorem dL_act_210 : decode cL_act 210 = .ok (.iload 5, 2) := by decide +kernel
theorem dL_act_212 : decode cL_act 212 = .ok (.aaload, 1) := by decide +kernel
theorem dL_act_213 : decode cL_act 213 = .ok (.astore 7, 2) := by decide +kernel
theorem dL_act_215 : decode cL_act 215 = .ok (.iload 4, 2) := by decide +kernel
theorem dL_act_217 : decode cL_act 217 = .ok (.tableswitch 518 3 18 #[79, 79, 79, 79, 79, 159, 197, 197, 235, 300, 342, 391, 391, 391, 438, 481], 79) := by decide +kernel
theorem dL_act_296 : decode cL_act 296 = .ok (.aload_n 1, 1) := by decide +kernel
theorem dL_act_297 : decode cL_act 297 = .ok (.getfield 43, 3) := by decide +kernel
theorem dL_act_300 : decode cL_act 300 = .ok (.iload 5, 2) := by decide +kernel
theorem dL_act_302 : decode cL_act 302 = .ok (.aaload, 1) := by decide +kernel
theorem dL_act_303 : decode cL_act 303 = .ok (.iload 6, 2) := by decide +kernel
theorem dL_act_305 : decode cL_act 305 = .ok (.iaload, 1) := by decide +kernel
theorem dL_act_306 : decode cL_act 306 = .ok (.istore 8, 2) := by decide +kernel
theorem dL_act_308 : decode cL_act 308 = .ok (.aload_n 1, 1) := by decide +kernel
theorem dL_act_309 : decode cL_act 309 = .ok (.getfield 43, 3) := by decide +kernel
theorem dL_act_312 : decode cL_act 312 = .ok (.iload 5, 2) := by decide +kernel
theorem dL_act_314 : decode cL_act 314 = .ok (.aaload, 1) := by decide +kernel
theorem dL_act_315 : decode cL_act 315 = .ok (.iload 6, 2) := by decide +kernel
theorem dL_act_317 : decode cL_act 317 = .ok (.iload_n 2, 1) := by decide +kernel
theorem dL_act_318 : decode cL_act 318 = .ok (.bipush 6, 2) := by decide +kernel
theorem dL_act_320 : decode cL_act 320 = .ok (.ishr, 1) := by decide +kernel
theorem dL_act_321 : decode cL_act 321 = .ok (.bipush 21, 2) := by decide +kernel
theorem dL_act_323 : decode cL_act 323 = .ok (.invokestatic 15, 3) := by decide +kernel
theorem dL_act_326 : decode cL_act 326 = .ok (.iastore, 1) := by decide +kernel
theorem dL_act_327 : decode cL_act 327 = .ok (.aload_n 1, 1) := by decide +kernel
theorem dL_act_328 : decode cL_act 328 = .ok (.getfield 43, 3) := by decide +kernel
theorem dL_act_331 : decode cL_act 331 = .ok (.iload 6, 2) := by decide +kernel
theorem dL_act_333 : decode cL_act 333 = .ok (.aaload, 1) := by decide +kernel
theorem dL_act_334 : decode cL_act 334 = .ok (.iload 5, 2) := by decide +kernel
theorem dL_act_336 : decode cL_act 336 = .ok (.aload_n 1, 1) := by decide +kernel
theorem dL_act_337 : decode cL_act 337 = .ok (.getfield 43, 3) := by decide +kernel
theorem dL_act_340 : decode cL_act 340 = .ok (.iload 5, 2) := by decide +kernel
theorem dL_act_342 : decode cL_act 342 = .ok (.aaload, 1) := by decide +kernel
theorem dL_act_343 : decode cL_act 343 = .ok (.iload 6, 2) := by decide +kernel
theorem dL_act_345 : decode cL_act 345 = .ok (.iaload, 1) := by decide +kernel
theorem dL_act_346 : decode cL_act 346 = .ok (.iastore, 1) := by decide +kernel
theorem dL_act_347 : decode cL_act 347 = .ok (.aload_n 0, 1) := by decide +kernel
theorem dL_act_348 : decode cL_act 348 = .ok (.iload 5, 2) := by decide +kernel
theorem dL_act_350 : decode cL_act 350 = .ok (.iload 6, 2) := by decide +kernel
theorem dL_act_352 : decode cL_act 352 = .ok (.aload_n 1, 1) := by decide +kernel
theorem dL_act_353 : decode cL_act 353 = .ok (.getfield 43, 3) := by decide +kernel
theorem dL_act_356 : decode cL_act 356 = .ok (.iload 5, 2) := by decide +kernel
theorem dL_act_358 : decode cL_act 358 = .ok (.aaload, 1) := by decide +kernel
theorem dL_act_359 : decode cL_act 359 = .ok (.iload 6, 2) := by decide +kernel
theorem dL_act_361 : decode cL_act 361 = .ok (.iaload, 1) := by decide +kernel
theorem dL_act_362 : decode cL_act 362 = .ok (.invokevirtual 47, 3) := by decide +kernel
theorem dL_act_365 : decode cL_act 365 = .ok (.iload 8, 2) := by decide +kernel
theorem dL_act_367 : decode cL_act 367 = .ok (.if_icmp .ne 7, 3) := by decide +kernel
theorem dL_act_370 : decode cL_act 370 = .ok (.iconst 1, 1) := by decide +kernel
theorem dL_act_371 : decode cL_act 371 = .ok (.goto 4, 3) := by decide +kernel
theorem dL_act_374 : decode cL_act 374 = .ok (.iconst 0, 1) := by decide +kernel
theorem dL_act_375 : decode cL_act 375 = .ok (.ireturn, 1) := by decide +kernel
theorem dL_act_376 : decode cL_act 376 = .ok (.aload 7, 2) := by decide +kernel
theorem dL_act_378 : decode cL_act 378 = .ok (.aload 7, 2) := by decide +kernel
theorem dL_act_380 : decode cL_act 380 = .ok (.getfield 50, 3) := by decide +kernel
theorem dL_act_383 : decode cL_act 383 = .ok (.ifCond .ne 7, 3) := by decide +kernel
theorem dL_act_386 : decode cL_act 386 = .ok (.iconst 1, 1) := by decide +kernel
theorem dL_act_387 : decode cL_act 387 = .ok (.goto 4, 3) := by decide +kernel
theorem dL_act_390 : decode cL_act 390 = .ok (.iconst 0, 1) := by decide +kernel
theorem dL_act_391 : decode cL_act 391 = .ok (.putfield 50, 3) := by decide +kernel
theorem dL_act_394 : decode cL_act 394 = .ok (.aload_n 0, 1) := by decide +kernel
theorem dL_act_395 : decode cL_act 395 = .ok (.iload 5, 2) := by decide +kernel
theorem dL_act_397 : decode cL_act 397 = .ok (.invokevirtual 54, 3) := by decide +kernel
theorem dL_act_400 : decode cL_act 400 = .ok (.aload 7, 2) := by decide +kernel
theorem dL_act_402 : decode cL_act 402 = .ok (.getfield 50, 3) := by decide +kernel
theorem dL_act_405 : decode cL_act 405 = .ok (.if_icmp .ne 7, 3) := by decide +kernel
theorem dL_act_408 : decode cL_act 408 = .ok (.iconst 1, 1) := by decide +kernel
theorem dL_act_409 : decode cL_act 409 = .ok (.goto 4, 3) := by decide +kernel
theorem dL_act_412 : decode cL_act 412 = .ok (.iconst 0, 1) := by decide +kernel
theorem dL_act_413 : decode cL_act 413 = .ok (.ireturn, 1) := by decide +kernel
theorem dL_act_414 : decode cL_act 414 = .ok (.aload 7, 2) := by decide +kernel
theorem dL_act_416 : decode cL_act 416 = .ok (.aload 7, 2) := by decide +kernel
theorem dL_act_418 : decode cL_act 418 = .ok (.getfield 58, 3) := by decide +kernel
theorem dL_act_421 : decode cL_act 421 = .ok (.ifCond .ne 7, 3) := by decide +kernel
theorem dL_act_424 : decode cL_act 424 = .ok (.iconst 1, 1) := by decide +kernel
theorem dL_act_425 : decode cL_act 425 = .ok (.goto 4, 3) := by decide +kernel
theorem dL_act_428 : decode cL_act 428 = .ok (.iconst 0, 1) := by decide +kernel
theorem dL_act_429 : decode cL_act 429 = .ok (.putfield 58, 3) := by decide +kernel
theorem dL_act_432 : decode cL_act 432 = .ok (.aload_n 0, 1) := by decide +kernel
theorem dL_act_433 : decode cL_act 433 = .ok (.iload 5, 2) := by decide +kernel
theorem dL_act_435 : decode cL_act 435 = .ok (.invokevirtual 61, 3) := by decide +kernel
theorem dL_act_438 : decode cL_act 438 = .ok (.aload 7, 2) := by decide +kernel
theorem dL_act_440 : decode cL_act 440 = .ok (.getfield 58, 3) := by decide +kernel
theorem dL_act_443 : decode cL_act 443 = .ok (.if_icmp .ne 7, 3) := by decide +kernel
theorem dL_act_446 : decode cL_act 446 = .ok (.iconst 1, 1) := by decide +kernel
theorem dL_act_447 : decode cL_act 447 = .ok (.goto 4, 3) := by decide +kernel
theorem dL_act_450 : decode cL_act 450 = .ok (.iconst 0, 1) := by decide +kernel
theorem dL_act_451 : decode cL_act 451 = .ok (.ireturn, 1) := by decide +kernel
theorem dL_act_452 : decode cL_act 452 = .ok (.iconst 1, 1) := by decide +kernel
theorem dL_act_453 : decode cL_act 453 = .ok (.iload_n 2, 1) := by decide +kernel
theorem dL_act_454 : decode cL_act 454 = .ok (.iconst 3, 1) := by decide +kernel
theorem dL_act_455 : decode cL_act 455 = .ok (.ishr, 1) := by decide +kernel
theorem dL_act_456 : decode cL_act 456 = .ok (.bipush 30, 2) := by decide +kernel
theorem dL_act_458 : decode cL_act 458 = .ok (.invokestatic 15, 3) := by decide +kernel
theorem dL_act_461 : decode cL_act 461 = .ok (.iadd, 1) := by decide +kernel
theorem dL_act_462 : decode cL_act 462 = .ok (.istore 9, 2) := by decide +kernel
theorem dL_act_464 : decode cL_act 464 = .ok (.aload 7, 2) := by decide +kernel
theorem dL_act_466 : decode cL_act 466 = .ok (.aload 7, 2) := by decide +kernel
theorem dL_act_468 : decode cL_act 468 = .ok (.getfield 28, 3) := by decide +kernel
theorem dL_act_471 : decode cL_act 471 = .ok (.iload 9, 2) := by decide +kernel
theorem dL_act_473 : decode cL_act 473 = .ok (.iadd, 1) := by decide +kernel
theorem dL_act_474 : decode cL_act 474 = .ok (.bipush 30, 2) := by decide +kernel
theorem dL_act_476 : decode cL_act 476 = .ok (.if_icmp .le 8, 3) := by decide +kernel
theorem dL_act_479 : decode cL_act 479 = .ok (.bipush 30, 2) := by decide +kernel
theorem dL_act_481 : decode cL_act 481 = .ok (.goto 11, 3) := by decide +kernel
theorem dL_act_484 : decode cL_act 484 = .ok (.aload 7, 2) := by decide +kernel
theorem dL_act_486 : decode cL_act 486 = .ok (.getfield 28, 3) := by decide +kernel
theorem dL_act_489 : decode cL_act 489 = .ok (.iload 9, 2) := by decide +kernel
theorem dL_act_491 : decode cL_act 491 = .ok (.iadd, 1) := by decide +kernel
theorem dL_act_492 : decode cL_act 492 = .ok (.putfield 28, 3) := by decide +kernel
theorem dL_act_495 : decode cL_act 495 = .ok (.aload_n 0, 1) := by decide +kernel
theorem dL_act_496 : decode cL_act 496 = .ok (.iload 5, 2) := by decide +kernel
theorem dL_act_498 : decode cL_act 498 = .ok (.iload 9, 2) := by decide +kernel
theorem dL_act_500 : decode cL_act 500 = .ok (.invokevirtual 64, 3) := by decide +kernel
theorem dL_act_503 : decode cL_act 503 = .ok (.aload 7, 2) := by decide +kernel
theorem dL_act_505 : decode cL_act 505 = .ok (.getfield 28, 3) := by decide +kernel
theorem dL_act_508 : decode cL_act 508 = .ok (.if_icmp .ne 7, 3) := by decide +kernel
theorem dL_act_511 : decode cL_act 511 = .ok (.iconst 1, 1) := by decide +kernel
theorem dL_act_512 : decode cL_act 512 = .ok (.goto 4, 3) := by decide +kernel
theorem dL_act_515 : decode cL_act 515 = .ok (.iconst 0, 1) := by decide +kernel
theorem dL_act_516 : decode cL_act 516 = .ok (.ireturn, 1) := by decide +kernel
theorem dL_act_517 : decode cL_act 517 = .ok (.aload 7, 2) := by decide +kernel
theorem dL_act_519 : decode cL_act 519 = .ok (.getfield 31, 3) := by decide +kernel
theorem dL_act_522 : decode cL_act 522 = .ok (.istore 10, 2) := by decide +kernel
theorem dL_act_524 : decode cL_act 524 = .ok (.aload 7, 2) := by decide +kernel
theorem dL_act_526 : decode cL_act 526 = .ok (.iload_n 2, 1) := by decide +kernel
theorem dL_act_527 : decode cL_act 527 = .ok (.iconst 3, 1) := by decide +kernel
theorem dL_act_528 : decode cL_act 528 = .ok (.ishr, 1) := by decide +kernel
theorem dL_act_529 : decode cL_act 529 = .ok (.bipush 10, 2) := by decide +kernel
theorem dL_act_531 : decode cL_act 531 = .ok (.invokestatic 15, 3) := by decide +kernel
theorem dL_act_534 : decode cL_act 534 = .ok (.putfield 31, 3) := by decide +kernel
theorem dL_act_537 : decode cL_act 537 = .ok (.aload_n 0, 1) := by decide +kernel
theorem dL_act_538 : decode cL_act 538 = .ok (.iload 5, 2) := by decide +kernel
theorem dL_act_540 : decode cL_act 540 = .ok (.aload 7, 2) := by decide +kernel
theorem dL_act_542 : decode cL_act 542 = .ok (.getfield 31, 3) := by decide +kernel
theorem dL_act_545 : decode cL_act 545 = .ok (.invokevirtual 67, 3) := by decide +kernel
theorem dL_act_548 : decode cL_act 548 = .ok (.iload 10, 2) := by decide +kernel
theorem dL_act_550 : decode cL_act 550 = .ok (.if_icmp .ne 7, 3) := by decide +kernel
theorem dL_act_553 : decode cL_act 553 = .ok (.iconst 1, 1) := by decide +kernel
theorem dL_act_554 : decode cL_act 554 = .ok (.goto 4, 3) := by decide +kernel
theorem dL_act_557 : decode cL_act 557 = .ok (.iconst 0, 1) := by decide +kernel
theorem dL_act_558 : decode cL_act 558 = .ok (.ireturn, 1) := by decide +kernel
theorem dL_act_559 : decode cL_act 559 = .ok (.aload_n 1, 1) := by decide +kernel
theorem dL_act_560 : decode cL_act 560 = .ok (.getfield 70, 3) := by decide +kernel
theorem dL_act_563 : decode cL_act 563 = .ok (.istore 11, 2) := by decide +kernel
theorem dL_act_565 : decode cL_act 565 = .ok (.aload_n 1, 1) := by decide +kernel
theorem dL_act_566 : decode cL_act 566 = .ok (.iload_n 2, 1) := by decide +kernel
theorem dL_act_567 : decode cL_act 567 = .ok (.iconst 2, 1) := by decide +kernel
theorem dL_act_568 : decode cL_act 568 = .ok (.ishr, 1) := by decide +kernel
theorem dL_act_569 : decode cL_act 569 = .ok (.iload_n 2, 1) := by decide +kernel
theorem dL_act_570 : decode cL_act 570 = .ok (.iconst 2, 1) := by decide +kernel
theorem dL_act_571 : decode cL_act 571 = .ok (.invokestatic 15, 3) := by decide +kernel
theorem dL_act_574 : decode cL_act 574 = .ok (.ifCond .ne 8, 3) := by decide +kernel
theorem dL_act_577 : decode cL_act 577 = .ok (.bipush 10, 2) := by decide +kernel
theorem dL_act_579 : decode cL_act 579 = .ok (.goto 4, 3) := by decide +kernel
theorem dL_act_582 : decode cL_act 582 = .ok (.iconst 4, 1) := by decide +kernel
theorem dL_act_583 : decode cL_act 583 = .ok (.invokestatic 15, 3) := by decide +kernel
theorem dL_act_586 : decode cL_act 586 = .ok (.putfield 70, 3) := by decide +kernel
theorem dL_act_589 : decode cL_act 589 = .ok (.aload_n 0, 1) := by decide +kernel
theorem dL_act_590 : decode cL_act 590 = .ok (.aload_n 1, 1) := by decide +kernel
theorem dL_act_591 : decode cL_act 591 = .ok (.getfield 70, 3) := by decide +kernel
theorem dL_act_594 : decode cL_act 594 = .ok (.invokevirtual 73, 3) := by decide +kernel
theorem dL_act_597 : decode cL_act 597 = .ok (.iload 11, 2) := by decide +kernel
theorem dL_act_599 : decode cL_act 599 = .ok (.if_icmp .ne 7, 3) := by decide +kernel
theorem dL_act_602 : decode cL_act 602 = .ok (.iconst 1, 1) := by decide +kernel
theorem dL_act_603 : decode cL_act 603 = .ok (.goto 4, 3) := by decide +kernel
theorem dL_act_606 : decode cL_act 606 = .ok (.iconst 0, 1) := by decide +kernel
theorem dL_act_607 : decode cL_act 607 = .ok (.ireturn, 1) := by decide +kernel
theorem dL_act_608 : decode cL_act 608 = .ok (.aload 7, 2) := by decide +kernel
theorem dL_act_610 : decode cL_act 610 = .ok (.getfield 77, 3) := by decide +kernel
theorem dL_act_613 : decode cL_act 613 = .ok (.ifCond .ne 11, 3) := by decide +kernel
theorem dL_act_616 : decode cL_act 616 = .ok (.aload 7, 2) := by decide +kernel
theorem dL_act_618 : decode cL_act 618 = .ok (.getfield 28, 3) := by decide +kernel
theorem dL_act_621 : decode cL_act 621 = .ok (.ifCond .ne 5, 3) := by decide +kernel
theorem dL_act_624 : decode cL_act 624 = .ok (.iconst 1, 1) := by decide +kernel
theorem dL_act_625 : decode cL_act 625 = .ok (.ireturn, 1) := by decide +kernel
theorem dL_act_626 : decode cL_act 626 = .ok (.aload 7, 2) := by decide +kernel
theorem dL_act_628 : decode cL_act 628 = .ok (.iconst 0, 1) := by decide +kernel
theorem dL_act_629 : decode cL_act 629 = .ok (.putfield 80, 3) := by decide +kernel
theorem dL_act_632 : decode cL_act 632 = .ok (.aload_n 0, 1) := by decide +kernel
theorem dL_act_633 : decode cL_act 633 = .ok (.iload 5, 2) := by decide +kernel
theorem dL_act_635 : decode cL_act 635 = .ok (.invokevirtual 83, 3) := by decide +kernel
theorem dL_act_638 : decode cL_act 638 = .ok (.aload_n 1, 1) := by decide +kernel
theorem dL_act_639 : decode cL_act 639 = .ok (.aload 7, 2) := by decide +kernel
theorem dL_act_641 : decode cL_act 641 = .ok (.iload 5, 2) := by decide +kernel
theorem dL_act_643 : decode cL_act 643 = .ok (.invokevirtual 86, 3) := by decide +kernel
theorem dL_act_646 : decode cL_act 646 = .ok (.if_icmp .ne 7, 3) := by decide +kernel
theorem dL_act_649 : decode cL_act 649 = .ok (.iconst 1, 1) := by decide +kernel
theorem dL_act_650 : decode cL_act 650 = .ok (.goto 4, 3) := by decide +kernel
theorem dL_act_653 : decode cL_act 653 = .ok (.iconst 0, 1) := by decide +kernel
theorem dL_act_654 : decode cL_act 654 = .ok (.ireturn, 1) := by decide +kernel
theorem dL_act_655 : decode cL_act 655 = .ok (.aload 7, 2) := by decide +kernel
theorem dL_act_657 : decode cL_act 657 = .ok (.getfield 77, 3) := by decide +kernel
theorem dL_act_660 : decode cL_act 660 = .ok (.ifCond .eq 11, 3) := by decide +kernel
theorem dL_act_663 : decode cL_act 663 = .ok (.iload_n 2, 1) := by decide +kernel
theorem dL_act_664 : decode cL_act 664 = .ok (.iconst 2, 1) := by decide +kernel
theorem dL_act_665 : decode cL_act 665 = .ok (.invokestatic 15, 3) := by decide +kernel
theorem dL_act_668 : decode cL_act 668 = .ok (.ifCond .ne 5, 3) := by decide +kernel
theorem dL_act_671 : decode cL_act 671 = .ok (.iconst 1, 1) := by decide +kernel
theorem dL_act_672 : decode cL_act 672 = .ok (.ireturn, 1) := by decide +kernel
theorem dL_act_673 : decode cL_act 673 = .ok (.aload 7, 2) := by decide +kernel
theorem dL_act_675 : decode cL_act 675 = .ok (.invokevirtual 89, 3) := by decide +kernel
theorem dL_act_678 : decode cL_act 678 = .ok (.aload_n 0, 1) := by decide +kernel
theorem dL_act_679 : decode cL_act 679 = .ok (.iload 5, 2) := by decide +kernel
theorem dL_act_681 : decode cL_act 681 = .ok (.invokevirtual 92, 3) := by decide +kernel
theorem dL_act_684 : decode cL_act 684 = .ok (.aload 7, 2) := by decide +kernel
theorem dL_act_686 : decode cL_act 686 = .ok (.getfield 28, 3) := by decide +kernel
theorem dL_act_689 : decode cL_act 689 = .ok (.if_icmp .ne 7, 3) := by decide +kernel
theorem dL_act_692 : decode cL_act 692 = .ok (.iconst 1, 1) := by decide +kernel
theorem dL_act_693 : decode cL_act 693 = .ok (.goto 4, 3) := by decide +kernel
theorem dL_act_696 : decode cL_act 696 = .ok (.iconst 0, 1) := by decide +kernel
theorem dL_act_697 : decode cL_act 697 = .ok (.ireturn, 1) := by decide +kernel
theorem dL_act_698 : decode cL_act 698 = .ok (.aload_n 1, 1) := by decide +kernel
theorem dL_act_699 : decode cL_act 699 = .ok (.getfield 95, 3) := by decide +kernel
theorem dL_act_702 : decode cL_act 702 = .ok (.istore 12, 2) := by decide +kernel
theorem dL_act_704 : decode cL_act 704 = .ok (.aload_n 1, 1) := by decide +kernel
theorem dL_act_705 : decode cL_act 705 = .ok (.iload_n 2, 1) := by decide +kernel
theorem dL_act_706 : decode cL_act 706 = .ok (.iconst 3, 1) := by decide +kernel
theorem dL_act_707 : decode cL_act 707 = .ok (.ishr, 1) := by decide +kernel
theorem dL_act_708 : decode cL_act 708 = .ok (.bipush 31, 2) := by decide +kernel
theorem dL_act_710 : decode cL_act 710 = .ok (.invokestatic 15, 3) := by decide +kernel
theorem dL_act_713 : decode cL_act 713 = .ok (.putfield 95, 3) := by decide +kernel
theorem dL_act_716 : decode cL_act 716 = .ok (.aload_n 0, 1) := by decide +kernel
theorem dL_act_717 : decode cL_act 717 = .ok (.aload_n 1, 1) := by decide +kernel
theorem dL_act_718 : decode cL_act 718 = .ok (.getfield 95, 3) := by decide +kernel
theorem dL_act_721 : decode cL_act 721 = .ok (.invokevirtual 98, 3) := by decide +kernel
theorem dL_act_724 : decode cL_act 724 = .ok (.iload 12, 2) := by decide +kernel
theorem dL_act_726 : decode cL_act 726 = .ok (.if_icmp .ne 7, 3) := by decide +kernel
theorem dL_act_729 : decode cL_act 729 = .ok (.iconst 1, 1) := by decide +kernel
theorem dL_act_730 : decode cL_act 730 = .ok (.goto 4, 3) := by decide +kernel
theorem dL_act_733 : decode cL_act 733 = .ok (.iconst 0, 1) := by decide +kernel
theorem dL_act_734 : decode cL_act 734 = .ok (.ireturn, 1) := by decide +kernel
theorem dL_act_735 : decode cL_act 735 = .ok (.iconst 1, 1) := by decide +kernel
theorem dL_act_736 : decode cL_act 736 = .ok (.iload_n 2, 1) := by decide +kernel
theorem dL_act_737 : decode cL_act 737 = .ok (.iconst 2, 1) := by decide +kernel
theorem dL_act_738 : decode cL_act 738 = .ok (.ishr, 1) := by decide +kernel
theorem dL_act_739 : decode cL_act 739 = .ok (.iload_n 2, 1) := by decide +kernel
theorem dL_act_740 : decode cL_act 740 = .ok (.iconst 5, 1) := by decide +kernel
theorem dL_act_741 : decode cL_act 741 = .ok (.invokestatic 15, 3) := by decide +kernel
theorem dL_act_744 : decode cL_act 744 = .ok (.ifCond .ne 8, 3) := by decide +kernel
theorem dL_act_747 : decode cL_act 747 = .ok (.bipush 40, 2) := by decide +kernel
theorem dL_act_749 : decode cL_act 749 = .ok (.goto 4, 3) := by decide +kernel
theorem dL_act_752 : decode cL_act 752 = .ok (.iconst 4, 1) := by decide +kernel
theorem dL_act_753 : decode cL_act 753 = .ok (.invokestatic 15, 3) := by decide +kernel
theorem dL_act_756 : decode cL_act 756 = .ok (.iadd, 1) := by decide +kernel
theorem dL_act_757 : decode cL_act 757 = .ok (.istore 13, 2) := by decide +kernel
theorem dL_act_759 : decode cL_act 759 = .ok (.aload_n 1, 1) := by decide +kernel
theorem dL_act_760 : decode cL_act 760 = .ok (.getfield 100, 3) := by decide +kernel
theorem dL_act_763 : decode cL_act 763 = .ok (.istore 14, 2) := by decide +kernel
theorem dL_act_765 : decode cL_act 765 = .ok (.iconst 0, 1) := by decide +kernel
theorem dL_act_766 : decode cL_act 766 = .ok (.istore 15, 2) := by decide +kernel
theorem dL_act_768 : decode cL_act 768 = .ok (.iload 15, 2) := by decide +kernel
theorem dL_act_770 : decode cL_act 770 = .ok (.iload 13, 2) := by decide +kernel
theorem dL_act_772 : decode cL_act 772 = .ok (.if_icmp .ge 13, 3) := by decide +kernel
theorem dL_act_775 : decode cL_act 775 = .ok (.aload_n 1, 1) := by decide +kernel
theorem dL_act_776 : decode cL_act 776 = .ok (.invokevirtual 103, 3) := by decide +kernel
theorem dL_act_779 : decode cL_act 779 = .ok (.iinc 15 1, 3) := by decide +kernel
theorem dL_act_782 : decode cL_act 782 = .ok (.goto (-14), 3) := by decide +kernel
theorem dL_act_785 : decode cL_act 785 = .ok (.aload_n 0, 1) := by decide +kernel
theorem dL_act_786 : decode cL_act 786 = .ok (.iload 13, 2) := by decide +kernel
theorem dL_act_788 : decode cL_act 788 = .ok (.invokevirtual 106, 3) := by decide +kernel
theorem dL_act_791 : decode cL_act 791 = .ok (.aload_n 1, 1) := by decide +kernel
theorem dL_act_792 : decode cL_act 792 = .ok (.getfield 100, 3) := by decide +kernel
theorem dL_act_795 : decode cL_act 795 = .ok (.iload 14, 2) := by decide +kernel
theorem dL_act_797 : decode cL_act 797 = .ok (.isub, 1) := by decide +kernel
theorem dL_act_798 : decode cL_act 798 = .ok (.if_icmp .ne 7, 3) := by decide +kernel
theorem dL_act_801 : decode cL_act 801 = .ok (.iconst 1, 1) := by decide +kernel
theorem dL_act_802 : decode cL_act 802 = .ok (.goto 4, 3) := by decide +kernel
theorem dL_act_805 : decode cL_act 805 = .ok (.iconst 0, 1) := by decide +kernel
theorem dL_act_806 : decode cL_act 806 = .ok (.ireturn, 1) := by decide +kernel
