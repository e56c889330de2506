theorem dL_addHill_0 : decode cL_addHill 0 = .ok (.aload 4, 2) := by decide +kernel
theorem dL_addHill_2 : decode cL_addHill 2 = .ok (.iconst 0, 1) := by decide +kernel
theorem dL_addHill_3 : decode cL_addHill 3 = .ok (.aload_n 0, 1) := by decide +kernel
theorem dL_addHill_4 : decode cL_addHill 4 = .ok (.iload_n 1, 1) := by decide +kernel
theorem dL_addHill_5 : decode cL_addHill 5 = .ok (.iload_n 2, 1) := by decide +kernel
theorem dL_addHill_6 : decode cL_addHill 6 = .ok (.iload_n 3, 1) := by decide +kernel
theorem dL_addHill_7 : decode cL_addHill 7 = .ok (.invokevirtual 7, 3) := by decide +kernel
theorem dL_addHill_10 : decode cL_addHill 10 = .ok (.i2l, 1) := by decide +kernel
theorem dL_addHill_11 : decode cL_addHill 11 = .ok (.lastore, 1) := by decide +kernel
theorem dL_addHill_12 : decode cL_addHill 12 = .ok (.goto 11, 3) := by decide +kernel
theorem dL_addHill_15 : decode cL_addHill 15 = .ok (.astore 5, 2) := by decide +kernel
theorem dL_addHill_17 : decode cL_addHill 17 = .ok (.iconst 1, 1) := by decide +kernel
theorem dL_addHill_18 : decode cL_addHill 18 = .ok (.ireturn, 1) := by decide +kernel
theorem dL_addHill_19 : decode cL_addHill 19 = .ok (.astore 5, 2) := by decide +kernel
theorem dL_addHill_21 : decode cL_addHill 21 = .ok (.iconst 2, 1) := by decide +kernel
theorem dL_addHill_22 : decode cL_addHill 22 = .ok (.ireturn, 1) := by decide +kernel
theorem dL_addHill_23 : decode cL_addHill 23 = .ok (.iconst 0, 1) := by decide +kernel
theorem dL_addHill_24 : decode cL_addHill 24 = .ok (.ireturn, 1) := by decide +kernel
set_option maxRecDepth 20000 in
theorem ggL_setSight_X2_setSight : GoodIn wsL_setSight wsX2_setSight := goodIn_ca (goodIn_ca (goodIn_r _ [7, 8, 9, 10, 11, 12, 13, 6, 14, 15, 16, 17, 18, 19, 20, 21, 22, 23, 24, 25, 26, 27, 28, 29, 30, 31, 32, 33, 34, 35, 36, 37, 38, 39, 40, 41] (by decide +kernel) (by decide +kernel)) (goodIn_sub (fun _ h => List.mem_cons_of_mem _ (List.mem_append_left _ (List.mem_append_right _ h))) (by decide +kernel))) (goodIn_sub (fun _ h => List.mem_cons_of_mem _ (List.mem_append_right _ h)) (by decide +kernel))
set_option maxRecDepth 20000 in
theorem gL_setSight_X2_setSight : GoodIn wsL_setSight (wsV RL 17 RX2 yX2_setSight wsX2_setSight) := goodIn_app (goodIn_of _ (by decide +kernel)) ggL_setSight_X2_setSight
theorem dL_setSight_0 : decode cL_setSight 0 = .ok (.aload 4, 2) := by decide +kernel
theorem dL_setSight_2 : decode cL_setSight 2 = .ok (.iconst 0, 1) := by decide +kernel
theorem dL_setSight_3 : decode cL_setSight 3 = .ok (.aload_n 0, 1) := by decide +kernel
theorem dL_setSight_4 : decode cL_setSight 4 = .ok (.iload_n 1, 1) := by decide +kernel
theorem dL_setSight_5 : decode cL_setSight 5 = .ok (.iload_n 2, 1) := by decide +kernel
theorem dL_setSight_6 : decode cL_setSight 6 = .ok (.iload_n 3, 1) := by decide +kernel
theorem dL_setSight_7 : decode cL_setSight 7 = .ok (.invokevirtual 17, 3) := by decide +kernel
theorem dL_setSight_10 : decode cL_setSight 10 = .ok (.i2l, 1) := by decide +kernel
theorem dL_setSight_11 : decode cL_setSight 11 = .ok (.lastore, 1) := by decide +kernel
theorem dL_setSight_12 : decode cL_setSight 12 = .ok (.goto 11, 3) := by decide +kernel
theorem dL_setSight_15 : decode cL_setSight 15 = .ok (.astore 5, 2) := by decide +kernel
theorem dL_setSight_17 : decode cL_setSight 17 = .ok (.iconst 1, 1) := by decide +kernel
theorem dL_setSight_18 : decode cL_setSight 18 = .ok (.ireturn, 1) := by decide +kernel
theorem dL_setSight_19 : decode cL_setSight 19 = .ok (.astore 5, 2) := by decide +kernel
theorem dL_setSight_21 : decode cL_setSight 21 = .ok (.iconst 2, 1) := by decide +kernel
theorem dL_setSight_22 : decode cL_setSight 22 = .ok (.ireturn, 1) := by decide +kernel
theorem dL_setSight_23 : decode cL_setSight 23 = .ok (.iconst 0, 1) := by decide +kernel
theorem dL_setSight_24 : decode cL_setSight 24 = .ok (.ireturn, 1) := by decide +kernel
set_option maxRecDepth 20000 in
theorem ggL_turnEast_X2_turnEast : GoodIn wsL_turnEast wsX2_turnEast := goodIn_ca (goodIn_r _ [6, 7, 8, 9, 10, 5, 11, 12, 13, 14, 15, 16, 17, 18, 19, 20, 21, 22, 23, 24, 25, 26, 27, 28, 29, 30, 31, 32, 33, 34, 35, 36, 37, 38, 39, 40, 41, 42, 43, 44, 45, 46, 47, 48] (by decide +kernel) (by decide +kernel)) (goodIn_sub (fun _ h => List.mem_cons_of_mem _ (List.mem_append_right _ h)) (by decide +kernel))
set_option maxRecDepth 20000 in
theorem gL_turnEast_X2_turnEast : GoodIn wsL_turnEast (wsV RL 22 RX2 yX2_turnEast wsX2_turnEast) := goodIn_app (goodIn_of _ (by decide +kernel)) ggL_turnEast_X2_turnEast
theorem dL_turnEast_0 : decode cL_turnEast 0 = .ok (.aload_n 2, 1) := by decide +kernel
theorem dL_turnEast_1 : decode cL_turnEast 1 = .ok (.iconst 0, 1) := by decide +kernel
theorem dL_turnEast_2 : decode cL_turnEast 2 = .ok (.aload_n 0, 1) := by decide +kernel
theorem dL_turnEast_3 : decode cL_turnEast 3 = .ok (.iload_n 1, 1) := by decide +kernel
theorem dL_turnEast_4 : decode cL_turnEast 4 = .ok (.invokevirtual 22, 3) := by decide +kernel
theorem dL_turnEast_7 : decode cL_turnEast 7 = .ok (.ifCond .eq 7, 3) := by decide +kernel
theorem dL_turnEast_10 : decode cL_turnEast 10 = .ok (.lconst 1, 1) := by decide +kernel
theorem dL_turnEast_11 : decode cL_turnEast 11 = .ok (.goto 4, 3) := by decide +kernel
theorem dL_turnEast_14 : decode cL_turnEast 14 = .ok (.lconst 0, 1) := by decide +kernel
theorem dL_turnEast_15 : decode cL_turnEast 15 = .ok (.lastore, 1) := by decide +kernel
theorem dL_turnEast_16 : decode cL_turnEast 16 = .ok (.goto 6, 3) := by decide +kernel
theorem dL_turnEast_19 : decode cL_turnEast 19 = .ok (.astore_n 3, 1) := by decide +kernel
theorem dL_turnEast_20 : decode cL_turnEast 20 = .ok (.iconst 1, 1) := by decide +kernel
theorem dL_turnEast_21 : decode cL_turnEast 21 = .ok (.ireturn, 1) := by decide +kernel
theorem dL_turnEast_22 : decode cL_turnEast 22 = .ok (.iconst 0, 1) := by decide +kernel
theorem dL_turnEast_23 : decode cL_turnEast 23 = .ok (.ireturn, 1) := by decide +kernel
set_option maxRecDepth 20000 in
theorem ggL_turnPost_X2_turnPost : GoodIn wsL_turnPost wsX2_turnPost := goodIn_ca (goodIn_r _ [6, 7, 8, 9, 10, 5, 11, 12, 13, 14, 15, 16, 17, 18, 19, 20, 21, 22, 23, 24, 25, 26, 27, 28, 29, 30, 31, 32, 33, 34, 35, 36, 37, 38, 39, 40, 41, 42, 43, 44, 45, 46, 47, 48] (by decide +kernel) (by decide +kernel)) (goodIn_sub (fun _ h => List.mem_cons_of_mem _ (List.mem_append_right _ h)) (by decide +kernel))
set_option maxRecDepth 20000 in
theorem gL_turnPost_X2_turnPost : GoodIn wsL_turnPost (wsV RL 26 RX2 yX2_turnPost wsX2_turnPost) := goodIn_app (goodIn_of _ (by decide +kernel)) ggL_turnPost_X2_turnPost
theorem dL_turnPost_0 : decode cL_turnPost 0 = .ok (.aload_n 2, 1) := by decide +kernel
theorem dL_turnPost_1 : decode cL_turnPost 1 = .ok (.iconst 0, 1) := by decide +kernel
theorem dL_turnPost_2 : decode cL_turnPost 2 = .ok (.aload_n 0, 1) := by decide +kernel
theorem dL_turnPost_3 : decode cL_turnPost 3 = .ok (.iload_n 1, 1) := by decide +kernel
theorem dL_turnPost_4 : decode cL_turnPost 4 = .ok (.invokevirtual 26, 3) := by decide +kernel
theorem dL_turnPost_7 : decode cL_turnPost 7 = .ok (.ifCond .eq 7, 3) := by decide +kernel
theorem dL_turnPost_10 : decode cL_turnPost 10 = .ok (.lconst 1, 1) := by decide +kernel
theorem dL_turnPost_11 : decode cL_turnPost 11 = .ok (.goto 4, 3) := by decide +kernel
theorem dL_turnPost_14 : decode cL_turnPost 14 = .ok (.lconst 0, 1) := by decide +kernel
theorem dL_turnPost_15 : decode cL_turnPost 15 = .ok (.lastore, 1) := by decide +kernel
theorem dL_turnPost_16 : decode cL_turnPost 16 = .ok (.goto 6, 3) := by decide +kernel
theorem dL_turnPost_19 : decode cL_turnPost 19 = .ok (.astore_n 3, 1) := by decide +kernel
theorem dL_turnPost_20 : decode cL_turnPost 20 = .ok (.iconst 1, 1) := by decide +kernel
theorem dL_turnPost_21 : decode cL_turnPost 21 = .ok (.ireturn, 1) := by decide +kernel
theorem dL_turnPost_22 : decode cL_turnPost 22 = .ok (.iconst 0, 1) := by decide +kernel
theorem dL_turnPost_23 : decode cL_turnPost 23 = .ok (.ireturn, 1) := by decide +kernel
set_option maxRecDepth 20000 in
theorem ggL_bringWood_X2_bringWood : GoodIn wsL_bringWood wsX2_bringWood := goodIn_ca (goodIn_ca (goodIn_r _ [7, 8, 9, 10, 11, 12, 13, 14, 15, 6, 16, 17, 18, 19, 20, 21, 22, 23, 24, 25, 26, 27, 28, 29, 30, 31, 32, 33, 34, 35, 36, 37, 38, 39, 40, 41, 42, 43, 44, 45, 46, 47, 48, 49, 50, 51, 52, 53, 54, 55, 56, 57, 58] (by decide +kernel) (by decide +kernel)) (goodIn_sub (fun _ h => List.mem_cons_of_mem _ (List.mem_append_left _ (List.mem_append_right _ h))) (by decide +kernel))) (goodIn_sub (fun _ h => List.mem_cons_of_mem _ (List.mem_append_right _ h)) (by decide +kernel))
set_option maxRecDepth 20000 in
theorem gL_bringWood_X2_bringWood : GoodIn wsL_bringWood (wsV RL 29 RX2 yX2_bringWood wsX2_bringWood) := goodIn_app (goodIn_of _ (by decide +kernel)) ggL_bringWood_X2_bringWood
theorem dL_bringWood_0 : decode cL_bringWood 0 = .ok (.aload_n 3, 1) := by decide +kernel
theorem dL_bringWood_1 : decode cL_bringWood 1 = .ok (.iconst 0, 1) := by decide +kernel
theorem dL_bringWood_2 : decode cL_bringWood 2 = .ok (.aload_n 0, 1) := by decide +kernel
theorem dL_bringWood_3 : decode cL_bringWood 3 = .ok (.iload_n 1, 1) := by decide +kernel
theorem dL_bringWood_4 : decode cL_bringWood 4 = .ok (.iload_n 2, 1) := by decide +kernel
theorem dL_bringWood_5 : decode cL_bringWood 5 = .ok (.invokevirtual 29, 3) := by decide +kernel
theorem dL_bringWood_8 : decode cL_bringWood 8 = .ok (.i2l, 1) := by decide +kernel
theorem dL_bringWood_9 : decode cL_bringWood 9 = .ok (.lastore, 1) := by decide +kernel
theorem dL_bringWood_10 : decode cL_bringWood 10 = .ok (.goto 11, 3) := by decide +kernel
theorem dL_bringWood_13 : decode cL_bringWood 13 = .ok (.astore 4, 2) := by decide +kernel
theorem dL_bringWood_15 : decode cL_bringWood 15 = .ok (.iconst 1, 1) := by decide +kernel
theorem dL_bringWood_16 : decode cL_bringWood 16 = .ok (.ireturn, 1) := by decide +kernel
theorem dL_bringWood_17 : decode cL_bringWood 17 = .ok (.astore 4, 2) := by decide +kernel
theorem dL_bringWood_19 : decode cL_bringWood 19 = .ok (.iconst 2, 1) := by decide +kernel
theorem dL_bringWood_20 : decode cL_bringWood 20 = .ok (.ireturn, 1) := by decide +kernel
theorem dL_bringWood_21 : decode cL_bringWood 21 = .ok (.iconst 0, 1) := by decide +kernel
theorem dL_bringWood_22 : decode cL_bringWood 22 = .ok (.ireturn, 1) := by decide +kernel
set_option maxRecDepth 20000 in
theorem ggL_setDamp_X2_setDamp : GoodIn wsL_setDamp wsX2_setDamp := goodIn_ca (goodIn_ca (goodIn_r _ [7, 8, 9, 10, 11, 6, 12, 13, 14, 15, 16, 17, 18, 19, 20, 21, 22, 23, 24, 25, 26, 27, 28, 29, 30, 31, 32, 33, 34, 35, 36, 37, 38, 39, 40, 41, 42, 43, 44, 45, 46, 47, 48, 49, 50, 51, 52, 53, 54] (by decide +kernel) (by decide +kernel)) (goodIn_sub (fun _ h => List.mem_cons_of_mem _ (List.mem_append_left _ (List.mem_append_right _ h))) (by decide +kernel))) (goodIn_sub (fun _ h => List.mem_cons_of_mem _ (List.mem_append_right _ h)) (by decide +kernel))
set_option maxRecDepth 20000 in
theorem gL_setDamp_X2_setDamp : GoodIn wsL_setDamp (wsV RL 33 RX2 yX2_setDamp wsX2_setDamp) := goodIn_app (goodIn_of _ (by decide +kernel)) ggL_setDamp_X2_setDamp
theorem dL_setDamp_0 : decode cL_setDamp 0 = .ok (.aload_n 3, 1) := by decide +kernel
theorem dL_setDamp_1 : decode cL_setDamp 1 = .ok (.iconst 0, 1) := by decide +kernel
theorem dL_setDamp_2 : decode cL_setDamp 2 = .ok (.aload_n 0, 1) := by decide +kernel
theorem dL_setDamp_3 : decode cL_setDamp 3 = .ok (.iload_n 1, 1) := by decide +kernel
theorem dL_setDamp_4 : decode cL_setDamp 4 = .ok (.iload_n 2, 1) := by decide +kernel
theorem dL_setDamp_5 : decode cL_setDamp 5 = .ok (.invokevirtual 33, 3) := by decide +kernel
theorem dL_setDamp_8 : decode cL_setDamp 8 = .ok (.i2l, 1) := by decide +kernel
theorem dL_setDamp_9 : decode cL_setDamp 9 = .ok (.lastore, 1) := by decide +kernel
theorem dL_setDamp_10 : decode cL_setDamp 10 = .ok (.goto 11, 3) := by decide +kernel
theorem dL_setDamp_13 : decode cL_setDamp 13 = .ok (.astore 4, 2) := by decide +kernel
theorem dL_setDamp_15 : decode cL_setDamp 15 = .ok (.iconst 1, 1) := by decide +kernel
theorem dL_setDamp_16 : decode cL_setDamp 16 = .ok (.ireturn, 1) := by decide +kernel
theorem dL_setDamp_17 : decode cL_setDamp 17 = .ok (.astore 4, 2) := by decide +kernel
theorem dL_setDamp_19 : decode cL_setDamp 19 = .ok (.iconst 2, 1) := by decide +kernel
theorem dL_setDamp_20 : decode cL_setDamp 20 = .ok (.ireturn, 1) := by decide +kernel
theorem dL_setDamp_21 : decode cL_setDamp 21 = .ok (.iconst 0, 1) := by decide +kernel
theorem dL_setDamp_22 : decode cL_setDamp 22 = .ok (.ireturn, 1) := by decide +kernel
set_option maxRecDepth 20000 in
theorem ggL_setHaze_X2_setHaze : GoodIn wsL_setHaze wsX2_setHaze := goodIn_ca (goodIn_r _ [6, 7, 8, 9, 10, 5, 11, 12, 13, 14, 15, 16, 17, 18, 19, 20, 21, 22, 23, 24] (by decide +kernel) (by decide +kernel)) (goodIn_sub (fun _ h => List.mem_cons_of_mem _ (List.mem_append_right _ h)) (by decide +kernel))
set_option maxRecDepth 20000 in
theorem gL_setHaze_X2_setHaze : GoodIn wsL_setHaze (wsV RL 36 RX2 yX2_setHaze wsX2_setHaze) := goodIn_app (goodIn_of _ (by decide +kernel)) ggL_setHaze_X2_setHaze
theorem dL_setHaze_0 : decode cL_setHaze 0 = .ok (.aload_n 2, 1) := by decide +kernel
theorem dL_setHaze_1 : decode cL_setHaze 1 = .ok (.iconst 0, 1) := by decide +kernel
theorem dL_setHaze_2 : decode cL_setHaze 2 = .ok (.aload_n 0, 1) := by decide +kernel
theorem dL_setHaze_3 : decode cL_setHaze 3 = .ok (.iload_n 1, 1) := by decide +kernel
theorem dL_setHaze_4 : decode cL_setHaze 4 = .ok (.invokevirtual 36, 3) := by decide +kernel
theorem dL_setHaze_7 : decode cL_setHaze 7 = .ok (.i2l, 1) := by decide +kernel
theorem dL_setHaze_8 : decode cL_setHaze 8 = .ok (.lastore, 1) := by decide +kernel
theorem dL_setHaze_9 : decode cL_setHaze 9 = .ok (.goto 6, 3) := by decide +kernel
theorem dL_setHaze_12 : decode cL_setHaze 12 = .ok (.astore_n 3, 1) := by decide +kernel
theorem dL_setHaze_13 : decode cL_setHaze 13 = .ok (.iconst 1, 1) := by decide +kernel
theorem dL_setHaze_14 : decode cL_setHaze 14 = .ok (.ireturn, 1) := by decide +kernel
theorem dL_setHaze_15 : decode cL_setHaze 15 = .ok (.iconst 0, 1) := by decide +kernel
theorem dL_setHaze_16 : decode cL_setHaze 16 = .ok (.ireturn, 1) := by decide +kernel
set_option maxRecDepth 20000 in
theorem ggL_light_X2_light : GoodIn wsL_light wsX2_light := goodIn_ca (goodIn_ca (goodIn_r _ [7, 8, 9, 10, 11, 12, 6, 13, 14, 15, 16, 17, 18, 19, 20, 21, 22, 23, 24, 25, 26, 27, 28, 29, 30, 31, 32, 33, 34, 35, 36, 37, 38, 39, 40, 41, 42, 43, 44, 45, 46, 47, 48, 49, 50, 51, 52, 53, 54, 55, 56, 57, 58, 59, 60, 61, 62, 63, 64, 65, 66, 67, 68, 69, 70, 71, 72, 73, 74, 75, 76, 77, 78, 79, 80, 81, 82] (by decide +kernel) (by decide +kernel)) (goodIn_sub (fun _ h => List.mem_cons_of_mem _ (List.mem_append_left _ (List.mem_append_right _ h))) (by decide +kernel))) (goodIn_sub (fun _ h => List.mem_cons_of_mem _ (List.mem_append_right _ h)) (by decide +kernel))
set_option maxRecDepth 20000 in
theorem gL_light_X2_light : GoodIn wsL_light (wsV RL 40 RX2 yX2_light wsX2_light) := goodIn_app (goodIn_of _ (by decide +kernel)) ggL_light_X2_light
theorem dL_light_0 : decode cL_light 0 = .ok (.aload_n 2, 1) := by decide +kernel
theorem dL_light_1 : decode cL_light 1 = .ok (.iconst 0, 1) := by decide +kernel
theorem dL_light_2 : decode cL_light 2 = .ok (.aload_n 0, 1) := by decide +kernel
theorem dL_light_3 : decode cL_light 3 = .ok (.iload_n 1, 1) := by decide +kernel
theorem dL_light_4 : decode cL_light 4 = .ok (.invokevirtual 40, 3) := by decide +kernel
theorem dL_light_7 : decode cL_light 7 = .ok (.i2l, 1) := by decide +kernel
theorem dL_light_8 : decode cL_light 8 = .ok (.lastore, 1) := by decide +kernel
theorem dL_light_9 : decode cL_light 9 = .ok (.goto 9, 3) := by decide +kernel
theorem dL_light_12 : decode cL_light 12 = .ok (.astore_n 3, 1) := by decide +kernel
theorem dL_light_13 : decode cL_light 13 = .ok (.iconst 1, 1) := by decide +kernel
theorem dL_light_14 : decode cL_light 14 = .ok (.ireturn, 1) := by decide +kernel
theorem dL_light_15 : decode cL_light 15 = .ok (.astore_n 3, 1) := by decide +kernel
theorem dL_light_16 : decode cL_light 16 = .ok (.iconst 2, 1) := by decide +kernel
theorem dL_light_17 : decode cL_light 17 = .ok (.ireturn, 1) := by decide +kernel
theorem dL_light_18 : decode cL_light 18 = .ok (.iconst 0, 1) := by decide +kernel
theorem dL_light_19 : decode cL_light 19 = .ok (.ireturn, 1) := by decide +kernel
set_option maxRecDepth 20000 in
theorem ggL_douse_X2_douse : GoodIn wsL_douse wsX2_douse := goodIn_ca (goodIn_ca (goodIn_r _ [7, 8, 9, 10, 11, 6, 12, 13, 14, 15, 16, 17, 18, 19, 20, 21, 22, 23, 24, 25, 26, 27, 28, 29, 30, 31, 32, 33, 34, 35, 36, 37, 38, 39, 40, 41, 42, 43, 44, 45, 46, 47, 48, 49, 50, 51, 52, 53, 54, 55, 56, 57, 58, 59, 60, 61, 62, 63, 64] (by decide +kernel) (by decide +kernel)) (goodIn_sub (fun _ h => List.mem_cons_of_mem _ (List.mem_append_left _ (List.mem_append_right _ h))) (by decide +kernel))) (goodIn_sub (fun _ h => List.mem_cons_of_mem _ (List.mem_append_right _ h)) (by decide +kernel))
set_option maxRecDepth 20000 in
theorem gL_douse_X2_douse : GoodIn wsL_douse (wsV RL 43 RX2 yX2_douse wsX2_douse) := goodIn_app (goodIn_of _ (by decide +kernel)) ggL_douse_X2_douse
theorem dL_douse_0 : decode cL_douse 0 = .ok (.aload_n 2, 1) := by decide +kernel
theorem dL_douse_1 : decode cL_douse 1 = .ok (.iconst 0, 1) := by decide +kernel
theorem dL_douse_2 : decode cL_douse 2 = .ok (.aload_n 0, 1) := by decide +kernel
theorem dL_douse_3 : decode cL_douse 3 = .ok (.iload_n 1, 1) := by decide +kernel
theorem dL_douse_4 : decode cL_douse 4 = .ok (.invokevirtual 43, 3) := by decide +kernel
theorem dL_douse_7 : decode cL_douse 7 = .ok (.i2l, 1) := by decide +kernel
theorem dL_douse_8 : decode cL_douse 8 = .ok (.lastore, 1) := by decide +kernel
theorem dL_douse_9 : decode cL_douse 9 = .ok (.goto 9, 3) := by decide +kernel
theorem dL_douse_12 : decode cL_douse 12 = .ok (.astore_n 3, 1) := by decide +kernel
theorem dL_douse_13 : decode cL_douse 13 = .ok (.iconst 1, 1) := by decide +kernel
theorem dL_douse_14 : decode cL_douse 14 = .ok (.ireturn, 1) := by decide +kernel
theorem dL_douse_15 : decode cL_douse 15 = .ok (.astore_n 3, 1) := by decide +kernel
theorem dL_douse_16 : decode cL_douse 16 = .ok (.iconst 2, 1) := by decide +kernel
theorem dL_douse_17 : decode cL_douse 17 = .ok (.ireturn, 1) := by decide +kernel
theorem dL_douse_18 : decode cL_douse 18 = .ok (.iconst 0, 1) := by decide +kernel
theorem dL_douse_19 : decode cL_douse 19 = .ok (.ireturn, 1) := by decide +kernel
set_option maxRecDepth 20000 in
theorem ggL_glow_X2_glow : GoodIn wsL_glow wsX2_glow := goodIn_ca (goodIn_r _ [6, 7, 8, 9, 10, 5, 11, 12, 13, 14, 15, 16, 17, 18, 19, 20, 21, 22, 23, 24] (by decide +kernel) (by decide +kernel)) (goodIn_sub (fun _ h => List.mem_cons_of_mem _ (List.mem_append_right _ h)) (by decide +kernel))
set_option maxRecDepth 20000 in
theorem gL_glow_X2_glow : GoodIn wsL_glow (wsV RL 46 RX2 yX2_glow wsX2_glow) := goodIn_app (goodIn_of _ (by decide +kernel)) ggL_glow_X2_glow
theorem dL_glow_0 : decode cL_glow 0 = .ok (.aload_n 2, 1) := by decide +kernel
theorem dL_glow_1 : decode cL_glow 1 = .ok (.iconst 0, 1) := by decide +kernel
theorem dL_glow_2 : decode cL_glow 2 = .ok (.aload_n 0, 1) := by decide +kernel
theorem dL_glow_3 : decode cL_glow 3 = .ok (.iload_n 1, 1) := by decide +kernel
theorem dL_glow_4 : decode cL_glow 4 = .ok (.invokevirtual 46, 3) := by decide +kernel
theorem dL_glow_7 : decode cL_glow 7 = .ok (.i2l, 1) := by decide +kernel
theorem dL_glow_8 : decode cL_glow 8 = .ok (.lastore, 1) := by decide +kernel
theorem dL_glow_9 : decode cL_glow 9 = .ok (.goto 6, 3) := by decide +kernel
theorem dL_glow_12 : decode cL_glow 12 = .ok (.astore_n 3, 1) := by decide +kernel
theorem dL_glow_13 : decode cL_glow 13 = .ok (.iconst 1, 1) := by decide +kernel
theorem dL_glow_14 : decode cL_glow 14 = .ok (.ireturn, 1) := by decide +kernel
theorem dL_glow_15 : decode cL_glow 15 = .ok (.iconst 0, 1) := by decide +kernel
theorem dL_glow_16 : decode cL_glow 16 = .ok (.ireturn, 1) := by decide +kernel
set_option maxRecDepth 20000 in
theorem ggL_passMinutes_X2_passMinutes : GoodIn wsL_passMinutes wsX2_passMinutes := goodIn_ca (goodIn_r _ [6, 7, 8, 9, 10, 5, 11, 12, 13, 14, 15, 16, 17, 18, 19, 20, 21, 22, 23, 24, 25, 26, 27, 28, 29, 30, 31, 32, 33, 34, 35, 36, 37, 38, 39, 40, 41, 42, 43, 44, 45, 46, 47, 48, 49, 50, 51, 52, 53, 54, 55, 56, 57, 58, 59, 60, 61, 62, 63, 64, 65, 66, 67, 68, 69, 70, 71, 72, 73, 74, 75, 76, 77, 78, 79, 80, 81, 82, 83, 84, 85, 86, 87, 88, 89, 90, 91, 92, 93, 94, 95, 96, 97, 98, 99, 100, 101, 102, 103, 104, 105, 106, 107, 108, 109, 110, 111, 112, 113, 114, 115, 116, 117, 118, 119, 120, 121, 122, 123, 124, 125, 126, 127, 128, 129, 130, 131, 132, 133, 134, 135, 136, 137] (by decide +kernel) (by decide +kernel)) (goodIn_sub (fun _ h => List.mem_cons_of_mem _ (List.mem_append_right _ h)) (by decide +kernel))
set_option maxRecDepth 20000 in
theorem gL_passMinutes_X2_passMinutes : GoodIn wsL_passMinutes (wsV RL 49 RX2 yX2_passMinutes wsX2_passMinutes) := goodIn_app (goodIn_of _ (by decide +kernel)) ggL_passMinutes_X2_passMinutes
theorem dL_passMinutes_0 : decode cL_passMinutes 0 = .ok (.aload_n 2, 1) := by decide +kernel
theorem dL_passMinutes_1 : decode cL_passMinutes 1 = .ok (.iconst 0, 1) := by decide +kernel
theorem dL_passMinutes_2 : decode cL_passMinutes 2 = .ok (.aload_n 0, 1) := by decide +kernel
theorem dL_passMinutes_3 : decode cL_passMinutes 3 = .ok (.iload_n 1, 1) := by decide +kernel
theorem dL_passMinutes_4 : decode cL_passMinutes 4 = .ok (.invokevirtual 49, 3) := by decide +kernel
theorem dL_passMinutes_7 : decode cL_passMinutes 7 = .ok (.i2l, 1) := by decide +kernel
theorem dL_passMinutes_8 : decode cL_passMinutes 8 = .ok (.lastore, 1) := by decide +kernel
theorem dL_passMinutes_9 : decode cL_passMinutes 9 = .ok (.goto 6, 3) := by decide +kernel
theorem dL_passMinutes_12 : decode cL_passMinutes 12 = .ok (.astore_n 3, 1) := by decide +kernel
theorem dL_passMinutes_13 : decode cL_passMinutes 13 = .ok (.iconst 1, 1) := by decide +kernel
theorem dL_passMinutes_14 : decode cL_passMinutes 14 = .ok (.ireturn, 1) := by decide +kernel
theorem dL_passMinutes_15 : decode cL_passMinutes 15 = .ok (.iconst 0, 1) := by decide +kernel
theorem dL_passMinutes_16 : decode cL_passMinutes 16 = .ok (.ireturn, 1) := by decide +kernel
set_option maxRecDepth 20000 in
theorem ggL_woodOf_X2_woodOf : GoodIn wsL_woodOf wsX2_woodOf := goodIn_ca (goodIn_r _ [6, 7, 8, 9, 10, 5, 11, 12, 13, 14, 15, 16, 17, 18, 19, 20, 21, 22, 23, 24, 25, 26, 27, 28, 29, 30, 31, 32, 33, 34, 35, 36, 37, 38, 39, 40, 41, 42, 43, 44, 45, 46, 47, 48] (by decide +kernel) (by decide +kernel)) (goodIn_sub (fun _ h => List.mem_cons_of_mem _ (List.mem_append_right _ h)) (by decide +kernel))
set_option maxRecDepth 20000 in
theorem gL_woodOf_X2_woodOf : GoodIn wsL_woodOf (wsV RL 52 RX2 yX2_woodOf wsX2_woodOf) := goodIn_app (goodIn_of _ (by decide +kernel)) ggL_woodOf_X2_woodOf
theorem dL_woodOf_0 : decode cL_woodOf 0 = .ok (.aload_n 2, 1) := by decide +kernel
theorem dL_woodOf_1 : decode cL_woodOf 1 = .ok (.iconst 0, 1) := by decide +kernel
theorem dL_woodOf_2 : decode cL_woodOf 2 = .ok (.aload_n 0, 1) := by decide +kernel
theorem dL_woodOf_3 : decode cL_woodOf 3 = .ok (.iload_n 1, 1) := by decide +kernel
theorem dL_woodOf_4 : decode cL_woodOf 4 = .ok (.invokevirtual 52, 3) := by decide +kernel
theorem dL_woodOf_7 : decode cL_woodOf 7 = .ok (.i2l, 1) := by decide +kernel
theorem dL_woodOf_8 : decode cL_woodOf 8 = .ok (.lastore, 1) := by decide +kernel
theorem dL_woodOf_9 : decode cL_woodOf 9 = .ok (.goto 6, 3) := by decide +kernel
theorem dL_woodOf_12 : decode cL_woodOf 12 = .ok (.astore_n 3, 1) := by decide +kernel
theorem dL_woodOf_13 : decode cL_woodOf 13 = .ok (.iconst 1, 1) := by decide +kernel
theorem dL_woodOf_14 : decode cL_woodOf 14 = .ok (.ireturn, 1) := by decide +kernel
theorem dL_woodOf_15 : decode cL_woodOf 15 = .ok (.iconst 0, 1) := by decide +kernel
theorem dL_woodOf_16 : decode cL_woodOf 16 = .ok (.ireturn, 1) := by decide +kernel
set_option maxRecDepth 20000 in
theorem ggL_dampOf_X2_dampOf : GoodIn wsL_dampOf wsX2_dampOf := goodIn_ca (goodIn_r _ [6, 7, 8, 9, 10, 5, 11, 12, 13, 14, 15, 16, 17, 18, 19, 20, 21, 22, 23, 24, 25, 26, 27, 28, 29, 30, 31, 32, 33, 34, 35, 36, 37, 38, 39, 40, 41, 42, 43, 44, 45, 46, 47, 48] (by decide +kernel) (by decide +kernel)) (goodIn_sub (fun _ h => List.mem_cons_of_mem _ (List.mem_append_right _ h)) (by decide +kernel))
set_option maxRecDepth 20000 in
theorem gL_dampOf_X2_dampOf : GoodIn wsL_dampOf (wsV RL 55 RX2 yX2_dampOf wsX2_dampOf) := goodIn_app (goodIn_of _ (by decide +kernel)) ggL_dampOf_X2_dampOf
theorem dL_dampOf_0 : decode cL_dampOf 0 = .ok (.aload_n 2, 1) := by decide +kernel
theorem dL_dampOf_1 : decode cL_dampOf 1 = .ok (.iconst 0, 1) := by decide +kernel
theorem dL_dampOf_2 : decode cL_dampOf 2 = .ok (.aload_n 0, 1) := by decide +kernel
theorem dL_dampOf_3 : decode cL_dampOf 3 = .ok (.iload_n 1, 1) := by decide +kernel
theorem dL_dampOf_4 : decode cL_dampOf 4 = .ok (.invokevirtual 55, 3) := by decide +kernel
theorem dL_dampOf_7 : decode cL_dampOf 7 = .ok (.i2l, 1) := by decide +kernel
theorem dL_dampOf_8 : decode cL_dampOf 8 = .ok (.lastore, 1) := by decide +kernel
theorem dL_dampOf_9 : decode cL_dampOf 9 = .ok (.goto 6, 3) := by decide +kernel
theorem dL_dampOf_12 : decode cL_dampOf 12 = .ok (.astore_n 3, 1) := by decide +kernel
theorem dL_dampOf_13 : decode cL_dampOf 13 = .ok (.iconst 1, 1) := by decide +kernel
theorem dL_dampOf_14 : decode cL_dampOf 14 = .ok (.ireturn, 1) := by decide +kernel
theorem dL_dampOf_15 : decode cL_dampOf 15 = .ok (.iconst 0, 1) := by decide +kernel
theorem dL_dampOf_16 : decode cL_dampOf 16 = .ok (.ireturn, 1) := by decide +kernel
set_option maxRecDepth 20000 in
theorem ggL_watchOf_X2_watchOf : GoodIn wsL_watchOf wsX2_watchOf := goodIn_ca (goodIn_r _ [6, 7, 8, 9, 10, 5, 11, 12, 13, 14, 15, 16, 17, 18, 19, 20, 21, 22, 23, 24, 25, 26, 27, 28, 29, 30, 31, 32, 33, 34, 35, 36, 37, 38, 39, 40, 41, 42, 43, 44, 45, 46, 47, 48] (by decide +kernel) (by decide +kernel)) (goodIn_sub (fun _ h => List.mem_cons_of_mem _ (List.mem_append_right _ h)) (by decide +kernel))
set_option maxRecDepth 20000 in
theorem gL_watchOf_X2_watchOf : GoodIn wsL_watchOf (wsV RL 58 RX2 yX2_watchOf wsX2_watchOf) := goodIn_app (goodIn_of _ (by decide +kernel)) ggL_watchOf_X2_watchOf
theorem dL_watchOf_0 : decode cL_watchOf 0 = .ok (.aload_n 2, 1) := by decide +kernel
theorem dL_watchOf_1 : decode cL_watchOf 1 = .ok (.iconst 0, 1) := by decide +kernel
theorem dL_watchOf_2 : decode cL_watchOf 2 = .ok (.aload_n 0, 1) := by decide +kernel
theorem dL_watchOf_3 : decode cL_watchOf 3 = .ok (.iload_n 1, 1) := by decide +kernel
theorem dL_watchOf_4 : decode cL_watchOf 4 = .ok (.invokevirtual 58, 3) := by decide +kernel
theorem dL_watchOf_7 : decode cL_watchOf 7 = .ok (.i2l, 1) := by decide +kernel
theorem dL_watchOf_8 : decode cL_watchOf 8 = .ok (.lastore, 1) := by decide +kernel
theorem dL_watchOf_9 : decode cL_watchOf 9 = .ok (.goto 6, 3) := by decide +kernel
theorem dL_watchOf_12 : decode cL_watchOf 12 = .ok (.astore_n 3, 1) := by decide +kernel
theorem dL_watchOf_13 : decode cL_watchOf 13 = .ok (.iconst 1, 1) := by decide +kernel
theorem dL_watchOf_14 : decode cL_watchOf 14 = .ok (.ireturn, 1) := by decide +kernel
theorem dL_watchOf_15 : decode cL_watchOf 15 = .ok (.iconst 0, 1) := by decide +kernel
theorem dL_watchOf_16 : decode cL_watchOf 16 = .ok (.ireturn, 1) := by decide +kernel
set_option maxRecDepth 20000 in
theorem ggL_looksEast_X2_looksEast : GoodIn wsL_looksEast wsX2_looksEast := goodIn_ca (goodIn_r _ [6, 7, 8, 9, 10, 5, 11, 12, 13, 14, 15, 16, 17, 18, 19, 20, 21, 22, 23, 24, 25, 26, 27, 28, 29, 30, 31, 32, 33, 34, 35, 36, 37, 38, 39, 40, 41, 42, 43, 44, 45, 46, 47, 48] (by decide +kernel) (by decide +kernel)) (goodIn_sub (fun _ h => List.mem_cons_of_mem _ (List.mem_append_right _ h)) (by decide +kernel))
set_option maxRecDepth 20000 in
theorem gL_looksEast_X2_looksEast : GoodIn wsL_looksEast (wsV RL 61 RX2 yX2_looksEast wsX2_looksEast) := goodIn_app (goodIn_of _ (by decide +kernel)) ggL_looksEast_X2_looksEast
theorem dL_looksEast_0 : decode cL_looksEast 0 = .ok (.aload_n 2, 1) := by decide +kernel
theorem dL_looksEast_1 : decode cL_looksEast 1 = .ok (.iconst 0, 1) := by decide +kernel
theorem dL_looksEast_2 : decode cL_looksEast 2 = .ok (.aload_n 0, 1) := by decide +kernel
theorem dL_looksEast_3 : decode cL_looksEast 3 = .ok (.iload_n 1, 1) := by decide +kernel
theorem dL_looksEast_4 : decode cL_looksEast 4 = .ok (.invokevirtual 61, 3) := by decide +kernel
theorem dL_looksEast_7 : decode cL_looksEast 7 = .ok (.ifCond .eq 7, 3) := by decide +kernel
theorem dL_looksEast_10 : decode cL_looksEast 10 = .ok (.lconst 1, 1) := by decide +kernel
theorem dL_looksEast_11 : decode cL_looksEast 11 = .ok (.goto 4, 3) := by decide +kernel
theorem dL_looksEast_14 : decode cL_looksEast 14 = .ok (.lconst 0, 1) := by decide +kernel
theorem dL_looksEast_15 : decode cL_looksEast 15 = .ok (.lastore, 1) := by decide +kernel
theorem dL_looksEast_16 : decode cL_looksEast 16 = .ok (.goto 6, 3) := by decide +kernel
theorem dL_looksEast_19 : decode cL_looksEast 19 = .ok (.astore_n 3, 1) := by decide +kernel
theorem dL_looksEast_20 : decode cL_looksEast 20 = .ok (.iconst 1, 1) := by decide +kernel
theorem dL_looksEast_21 : decode cL_looksEast 21 = .ok (.ireturn, 1) := by decide +kernel
theorem dL_looksEast_22 : decode cL_looksEast 22 = .ok (.iconst 0, 1) := by decide +kernel
theorem dL_looksEast_23 : decode cL_looksEast 23 = .ok (.ireturn, 1) := by decide +kernel
set_option maxRecDepth 20000 in
theorem ggL_isPost_X2_isPost : GoodIn wsL_isPost wsX2_isPost := goodIn_ca (goodIn_r _ [6, 7, 8, 9, 10, 5, 11, 12, 13, 14, 15, 16, 17, 18, 19, 20, 21, 22, 23, 24, 25, 26, 27, 28, 29, 30, 31, 32, 33, 34, 35, 36, 37, 38, 39, 40, 41, 42, 43, 44, 45, 46, 47, 48] (by decide +kernel) (by decide +kernel)) (goodIn_sub (fun _ h => List.mem_cons_of_mem _ (List.mem_append_right _ h)) (by decide +kernel))
set_option maxRecDepth 20000 in
theorem gL_isPost_X2_isPost : GoodIn wsL_isPost (wsV RL 64 RX2 yX2_isPost wsX2_isPost) := goodIn_app (goodIn_of _ (by decide +kernel)) ggL_isPost_X2_isPost
theorem dL_isPost_0 : decode cL_isPost 0 = .ok (.aload_n 2, 1) := by decide +kernel
theorem dL_isPost_1 : decode cL_isPost 1 = .ok (.iconst 0, 1) := by decide +kernel
theorem dL_isPost_2 : decode cL_isPost 2 = .ok (.aload_n 0, 1) := by decide +kernel
theorem dL_isPost_3 : decode cL_isPost 3 = .ok (.iload_n 1, 1) := by decide +kernel
theorem dL_isPost_4 : decode cL_isPost 4 = .ok (.invokevirtual 64, 3) := by decide +kernel
theorem dL_isPost_7 : decode cL_isPost 7 = .ok (.ifCond .eq 7, 3) := by decide +kernel
theorem dL_isPost_10 : decode cL_isPost 10 = .ok (.lconst 1, 1) := by decide +kernel
theorem dL_isPost_11 : decode cL_isPost 11 = .ok (.goto 4, 3) := by decide +kernel
theorem dL_isPost_14 : decode cL_isPost 14 = .ok (.lconst 0, 1) := by decide +kernel
theorem dL_isPost_15 : decode cL_isPost 15 = .ok (.lastore, 1) := by decide +kernel
theorem dL_isPost_16 : decode cL_isPost 16 = .ok (.goto 6, 3) := by decide +kernel
theorem dL_isPost_19 : decode cL_isPost 19 = .ok (.astore_n 3, 1) := by decide +kernel
theorem dL_isPost_20 : decode cL_isPost 20 = .ok (.iconst 1, 1) := by decide +kernel
theorem dL_isPost_21 : decode cL_isPost 21 = .ok (.ireturn, 1) := by decide +kernel
theorem dL_isPost_22 : decode cL_isPost 22 = .ok (.iconst 0, 1) := by decide +kernel
theorem dL_isPost_23 : decode cL_isPost 23 = .ok (.ireturn, 1) := by decide +kernel
set_option maxRecDepth 20000 in
theorem ggL_milesBetween_X2_milesBetween : GoodIn wsL_milesBetween wsX2_milesBetween := goodIn_ca (goodIn_r _ [6, 7, 8, 9, 10, 5, 11, 12, 13, 14, 15, 16, 17, 18, 19, 20, 21, 22, 23, 24, 25, 26, 27, 28, 29, 30, 31] (by decide +kernel) (by decide +kernel)) (goodIn_sub (fun _ h => List.mem_cons_of_mem _ (List.mem_append_right _ h)) (by decide +kernel))
set_option maxRecDepth 20000 in
theorem gL_milesBetween_X2_milesBetween : GoodIn wsL_milesBetween (wsV RL 67 RX2 yX2_milesBetween wsX2_milesBetween) := goodIn_app (goodIn_of _ (by decide +kernel)) ggL_milesBetween_X2_milesBetween
theorem dL_milesBetween_0 : decode cL_milesBetween 0 = .ok (.aload_n 3, 1) := by decide +kernel
theorem dL_milesBetween_1 : decode cL_milesBetween 1 = .ok (.iconst 0, 1) := by decide +kernel
theorem dL_milesBetween_2 : decode cL_milesBetween 2 = .ok (.aload_n 0, 1) := by decide +kernel
theorem dL_milesBetween_3 : decode cL_milesBetween 3 = .ok (.iload_n 1, 1) := by decide +kernel
theorem dL_milesBetween_4 : decode cL_milesBetween 4 = .ok (.iload_n 2, 1) := by decide +kernel
theorem dL_milesBetween_5 : decode cL_milesBetween 5 = .ok (.invokevirtual 67, 3) := by decide +kernel
theorem dL_milesBetween_8 : decode cL_milesBetween 8 = .ok (.i2l, 1) := by decide +kernel
theorem dL_milesBetween_9 : decode cL_milesBetween 9 = .ok (.lastore, 1) := by decide +kernel
theorem dL_milesBetween_10 : decode cL_milesBetween 10 = .ok (.goto 7, 3) := by decide +kernel
theorem dL_milesBetween_13 : decode cL_milesBetween 13 = .ok (.astore 4, 2) := by decide +kernel
theorem dL_milesBetween_15 : decode cL_milesBetween 15 = .ok (.iconst 1, 1) := by decide +kernel
theorem dL_milesBetween_16 : decode cL_milesBetween 16 = .ok (.ireturn, 1) := by decide +kernel
theorem dL_milesBetween_17 : decode cL_milesBetween 17 = .ok (.iconst 0, 1) := by decide +kernel
theorem dL_milesBetween_18 : decode cL_milesBetween 18 = .ok (.ireturn, 1) := by decide +kernel
set_option maxRecDepth 20000 in
theorem ggL_canSee_X2_canSee : GoodIn wsL_canSee wsX2_canSee := goodIn_ca (goodIn_r _ [6, 7, 8, 9, 10, 5, 11, 12, 13, 14, 15, 16, 17, 18, 19, 20, 21, 22, 23, 24, 25, 26, 27, 28, 29, 30, 31, 32, 33, 34, 35, 36, 37, 38, 39, 40] (by decide +kernel) (by decide +kernel)) (goodIn_sub (fun _ h => List.mem_cons_of_mem _ (List.mem_append_right _ h)) (by decide +kernel))
set_option maxRecDepth 20000 in
theorem gL_canSee_X2_canSee : GoodIn wsL_canSee (wsV RL 70 RX2 yX2_canSee wsX2_canSee) := goodIn_app (goodIn_of _ (by decide +kernel)) ggL_canSee_X2_canSee
theorem dL_canSee_0 : decode cL_canSee 0 = .ok (.aload_n 3, 1) := by decide +kernel
theorem dL_canSee_1 : decode cL_canSee 1 = .ok (.iconst 0, 1) := by decide +kernel
theorem dL_canSee_2 : decode cL_canSee 2 = .ok (.aload_n 0, 1) := by decide +kernel
theorem dL_canSee_3 : decode cL_canSee 3 = .ok (.iload_n 1, 1) := by decide +kernel
theorem dL_canSee_4 : decode cL_canSee 4 = .ok (.iload_n 2, 1) := by decide +kernel
theorem dL_canSee_5 : decode cL_canSee 5 = .ok (.invokevirtual 70, 3) := by decide +kernel
theorem dL_canSee_8 : decode cL_canSee 8 = .ok (.ifCond .eq 7, 3) := by decide +kernel
theorem dL_canSee_11 : decode cL_canSee 11 = .ok (.lconst 1, 1) := by decide +kernel
theorem dL_canSee_12 : decode cL_canSee 12 = .ok (.goto 4, 3) := by decide +kernel
theorem dL_canSee_15 : decode cL_canSee 15 = .ok (.lconst 0, 1) := by decide +kernel
theorem dL_canSee_16 : decode cL_canSee 16 = .ok (.lastore, 1) := by decide +kernel
theorem dL_canSee_17 : decode cL_canSee 17 = .ok (.goto 7, 3) := by decide +kernel
theorem dL_canSee_20 : decode cL_canSee 20 = .ok (.astore 4, 2) := by decide +kernel
theorem dL_canSee_22 : decode cL_canSee 22 = .ok (.iconst 1, 1) := by decide +kernel
theorem dL_canSee_23 : decode cL_canSee 23 = .ok (.ireturn, 1) := by decide +kernel
theorem dL_canSee_24 : decode cL_canSee 24 = .ok (.iconst 0, 1) := by decide +kernel
theorem dL_canSee_25 : decode cL_canSee 25 = .ok (.ireturn, 1) := by decide +kernel
set_option maxRecDepth 20000 in
theorem ggL_fewestSteps_X2_fewestSteps : GoodIn wsL_fewestSteps wsX2_fewestSteps := goodIn_ca (goodIn_r _ [6, 7, 8, 9, 10, 5, 11, 12, 13, 14, 15, 16, 17, 18, 19, 20, 21, 22, 23, 24, 25, 26, 27, 28, 29, 30, 31, 32, 33, 34, 35, 36, 37, 38, 39, 40, 41, 42, 43, 44, 45, 46, 47, 48, 49, 50, 51, 52, 53, 54, 55, 56] (by decide +kernel) (by decide +kernel)) (goodIn_sub (fun _ h => List.mem_cons_of_mem _ (List.mem_append_right _ h)) (by decide +kernel))
set_option maxRecDepth 20000 in
theorem gL_fewestSteps_X2_fewestSteps : GoodIn wsL_fewestSteps (wsV RL 74 RX2 yX2_fewestSteps wsX2_fewestSteps) := goodIn_app (goodIn_of _ (by decide +kernel)) ggL_fewestSteps_X2_fewestSteps
theorem dL_fewestSteps_0 : decode cL_fewestSteps 0 = .ok (.aload_n 3, 1) := by decide +kernel
theorem dL_fewestSteps_1 : decode cL_fewestSteps 1 = .ok (.iconst 0, 1) := by decide +kernel
theorem dL_fewestSteps_2 : decode cL_fewestSteps 2 = .ok (.aload_n 0, 1) := by decide +kernel
theorem dL_fewestSteps_3 : decode cL_fewestSteps 3 = .ok (.iload_n 1, 1) := by decide +kernel
theorem dL_fewestSteps_4 : decode cL_fewestSteps 4 = .ok (.iload_n 2, 1) := by decide +kernel
theorem dL_fewestSteps_5 : decode cL_fewestSteps 5 = .ok (.invokevirtual 74, 3) := by decide +kernel
theorem dL_fewestSteps_8 : decode cL_fewestSteps 8 = .ok (.i2l, 1) := by decide +kernel
theorem dL_fewestSteps_9 : decode cL_fewestSteps 9 = .ok (.lastore, 1) := by decide +kernel
theorem dL_fewestSteps_10 : decode cL_fewestSteps 10 = .ok (.goto 7, 3) := by decide +kernel
theorem dL_fewestSteps_13 : decode cL_fewestSteps 13 = .ok (.astore 4, 2) := by decide +kernel
theorem dL_fewestSteps_15 : decode cL_fewestSteps 15 = .ok (.iconst 1, 1) := by decide +kernel
theorem dL_fewestSteps_16 : decode cL_fewestSteps 16 = .ok (.ireturn, 1) := by decide +kernel
theorem dL_fewestSteps_17 : decode cL_fewestSteps 17 = .ok (.iconst 0, 1) := by decide +kernel
theorem dL_fewestSteps_18 : decode cL_fewestSteps 18 = .ok (.ireturn, 1) := by decide +kernel
set_option maxRecDepth 20000 in
theorem ggL_isDark_X2_isDark : GoodIn wsL_isDark wsX2_isDark := goodIn_ca (goodIn_r _ [6, 7, 8, 9, 10, 5, 11, 12, 13, 14, 15, 16, 17, 18, 19, 20, 21, 22, 23, 24, 25, 26, 27, 28, 29, 30, 31, 32, 33, 34, 35, 36, 37, 38, 39, 40, 41, 42, 43, 44, 45, 46, 47, 48] (by decide +kernel) (by decide +kernel)) (goodIn_sub (fun _ h => List.mem_cons_of_mem _ (List.mem_append_right _ h)) (by decide +kernel))
set_option maxRecDepth 20000 in
theorem gL_isDark_X2_isDark : GoodIn wsL_isDark (wsV RL 77 RX2 yX2_isDark wsX2_isDark) := goodIn_app (goodIn_of _ (by decide +kernel)) ggL_isDark_X2_isDark
theorem dL_isDark_0 : decode cL_isDark 0 = .ok (.aload_n 2, 1) := by decide +kernel
theorem dL_isDark_1 : decode cL_isDark 1 = .ok (.iconst 0, 1) := by decide +kernel
theorem dL_isDark_2 : decode cL_isDark 2 = .ok (.aload_n 0, 1) := by decide +kernel
theorem dL_isDark_3 : decode cL_isDark 3 = .ok (.iload_n 1, 1) := by decide +kernel
theorem dL_isDark_4 : decode cL_isDark 4 = .ok (.invokevirtual 77, 3) := by decide +kernel
theorem dL_isDark_7 : decode cL_isDark 7 = .ok (.ifCond .eq 7, 3) := by decide +kernel
theorem dL_isDark_10 : decode cL_isDark 10 = .ok (.lconst 1, 1) := by decide +kernel
theorem dL_isDark_11 : decode cL_isDark 11 = .ok (.goto 4, 3) := by decide +kernel
theorem dL_isDark_14 : decode cL_isDark 14 = .ok (.lconst 0, 1) := by decide +kernel
theorem dL_isDark_15 : decode cL_isDark 15 = .ok (.lastore, 1) := by decide +kernel
theorem dL_isDark_16 : decode cL_isDark 16 = .ok (.goto 6, 3) := by decide +kernel
theorem dL_isDark_19 : decode cL_isDark 19 = .ok (.astore_n 3, 1) := by decide +kernel
theorem dL_isDark_20 : decode cL_isDark 20 = .ok (.iconst 1, 1) := by decide +kernel
theorem dL_isDark_21 : decode cL_isDark 21 = .ok (.ireturn, 1) := by decide +kernel
theorem dL_isDark_22 : decode cL_isDark 22 = .ok (.iconst 0, 1) := by decide +kernel
theorem dL_isDark_23 : decode cL_isDark 23 = .ok (.ireturn, 1) := by decide +kernel
set_option maxRecDepth 20000 in
theorem ggL_isBurning_X2_isBurning : GoodIn wsL_isBurning wsX2_isBurning := goodIn_ca (goodIn_r _ [6, 7, 8, 9, 10, 5, 11, 12, 13, 14, 15, 16, 17, 18, 19, 20, 21, 22, 23, 24, 25, 26, 27, 28, 29, 30, 31, 32, 33, 34, 35, 36, 37, 38, 39, 40, 41, 42, 43, 44, 45, 46, 47, 48] (by decide +kernel) (by decide +kernel)) (goodIn_sub (fun _ h => List.mem_cons_of_mem _ (List.mem_append_right _ h)) (by decide +kernel))
set_option maxRecDepth 20000 in
theorem gL_isBurning_X2_isBurning : GoodIn wsL_isBurning (wsV RL 80 RX2 yX2_isBurning wsX2_isBurning) := goodIn_app (goodIn_of _ (by decide +kernel)) ggL_isBurning_X2_isBurning
theorem dL_isBurning_0 : decode cL_isBurning 0 = .ok (.aload_n 2, 1) := by decide +kernel
theorem dL_isBurning_1 : decode cL_isBurning 1 = .ok (.iconst 0, 1) := by decide +kernel
theorem dL_isBurning_2 : decode cL_isBurning 2 = .ok (.aload_n 0, 1) := by decide +kernel
theorem dL_isBurning_3 : decode cL_isBurning 3 = .ok (.iload_n 1, 1) := by decide +kernel
theorem dL_isBurning_4 : decode cL_isBurning 4 = .ok (.invokevirtual 80, 3) := by decide +kernel
theorem dL_isBurning_7 : decode cL_isBurning 7 = .ok (.ifCond .eq 7, 3) := by decide +kernel
theorem dL_isBurning_10 : decode cL_isBurning 10 = .ok (.lconst 1, 1) := by decide +kernel
theorem dL_isBurning_11 : decode cL_isBurning 11 = .ok (.goto 4, 3) := by decide +kernel
theorem dL_isBurning_14 : decode cL_isBurning 14 = .ok (.lconst 0, 1) := by decide +kernel
theorem dL_isBurning_15 : decode cL_isBurning 15 = .ok (.lastore, 1) := by decide +kernel
theorem dL_isBurning_16 : decode cL_isBurning 16 = .ok (.goto 6, 3) := by decide +kernel
theorem dL_isBurning_19 : decode cL_isBurning 19 = .ok (.astore_n 3, 1) := by decide +kernel
theorem dL_isBurning_20 : decode cL_isBurning 20 = .ok (.iconst 1, 1) := by decide +kernel
theorem dL_isBurning_21 : decode cL_isBurning 21 = .ok (.ireturn, 1) := by decide +kernel
theorem dL_isBurning_22 : decode cL_isBurning 22 = .ok (.iconst 0, 1) := by decide +kernel
theorem dL_isBurning_23 : decode cL_isBurning 23 = .ok (.ireturn, 1) := by decide +kernel
set_option maxRecDepth 20000 in
theorem ggL_minutesToBurn_X2_minutesToBurn : GoodIn wsL_minutesToBurn wsX2_minutesToBurn := goodIn_ca (goodIn_r _ [6, 7, 8, 9, 10, 5, 11, 12, 13, 14, 15, 16, 17, 18, 19, 20, 21, 22, 23, 24, 25, 26, 27, 28, 29, 30, 31, 32, 33, 34, 35, 36, 37, 38, 39, 40, 41, 42, 43, 44, 45, 46, 47, 48] (by decide +kernel) (by decide +kernel)) (goodIn_sub (fun _ h => List.mem_cons_of_mem _ (List.mem_append_right _ h)) (by decide +kernel))
set_option maxRecDepth 20000 in
theorem gL_minutesToBurn_X2_minutesToBurn : GoodIn wsL_minutesToBurn (wsV RL 83 RX2 yX2_minutesToBurn wsX2_minutesToBurn) := goodIn_app (goodIn_of _ (by decide +kernel)) ggL_minutesToBurn_X2_minutesToBurn
theorem dL_minutesToBurn_0 : decode cL_minutesToBurn 0 = .ok (.aload_n 2, 1) := by decide +kernel
theorem dL_minutesToBurn_1 : decode cL_minutesToBurn 1 = .ok (.iconst 0, 1) := by decide +kernel
theorem dL_minutesToBurn_2 : decode cL_minutesToBurn 2 = .ok (.aload_n 0, 1) := by decide +kernel
theorem dL_minutesToBurn_3 : decode cL_minutesToBurn 3 = .ok (.iload_n 1, 1) := by decide +kernel
theorem dL_minutesToBurn_4 : decode cL_minutesToBurn 4 = .ok (.invokevirtual 83, 3) := by decide +kernel
theorem dL_minutesToBurn_7 : decode cL_minutesToBurn 7 = .ok (.i2l, 1) := by decide +kernel
theorem dL_minutesToBurn_8 : decode cL_minutesToBurn 8 = .ok (.lastore, 1) := by decide +kernel
theorem dL_minutesToBurn_9 : decode cL_minutesToBurn 9 = .ok (.goto 6, 3) := by decide +kernel
theorem dL_minutesToBurn_12 : decode cL_minutesToBurn 12 = .ok (.astore_n 3, 1) := by decide +kernel
theorem dL_minutesToBurn_13 : decode cL_minutesToBurn 13 = .ok (.iconst 1, 1) := by decide +kernel
theorem dL_minutesToBurn_14 : decode cL_minutesToBurn 14 = .ok (.ireturn, 1) := by decide +kernel
theorem dL_minutesToBurn_15 : decode cL_minutesToBurn 15 = .ok (.iconst 0, 1) := by decide +kernel
theorem dL_minutesToBurn_16 : decode cL_minutesToBurn 16 = .ok (.ireturn, 1) := by decide +kernel
set_option maxRecDepth 20000 in
theorem ggL_lookingFor_X2_lookingFor : GoodIn wsL_lookingFor wsX2_lookingFor := goodIn_ca (goodIn_r _ [6, 7, 8, 9, 10, 5, 11, 12, 13, 14, 15, 16, 17, 18, 19, 20, 21, 22, 23, 24, 25, 26, 27, 28, 29, 30, 31, 32, 33, 34, 35, 36, 37, 38, 39, 40, 41, 42, 43, 44, 45, 46, 47, 48] (by decide +kernel) (by decide +kernel)) (goodIn_sub (fun _ h => List.mem_cons_of_mem _ (List.mem_append_right _ h)) (by decide +kernel))
set_option maxRecDepth 20000 in
theorem gL_lookingFor_X2_lookingFor : GoodIn wsL_lookingFor (wsV RL 86 RX2 yX2_lookingFor wsX2_lookingFor) := goodIn_app (goodIn_of _ (by decide +kernel)) ggL_lookingFor_X2_lookingFor
theorem dL_lookingFor_0 : decode cL_lookingFor 0 = .ok (.aload_n 2, 1) := by decide +kernel
theorem dL_lookingFor_1 : decode cL_lookingFor 1 = .ok (.iconst 0, 1) := by decide +kernel
theorem dL_lookingFor_2 : decode cL_lookingFor 2 = .ok (.aload_n 0, 1) := by decide +kernel
theorem dL_lookingFor_3 : decode cL_lookingFor 3 = .ok (.iload_n 1, 1) := by decide +kernel
theorem dL_lookingFor_4 : decode cL_lookingFor 4 = .ok (.invokevirtual 86, 3) := by decide +kernel
theorem dL_lookingFor_7 : decode cL_lookingFor 7 = .ok (.i2l, 1) := by decide +kernel
theorem dL_lookingFor_8 : decode cL_lookingFor 8 = .ok (.lastore, 1) := by decide +kernel
theorem dL_lookingFor_9 : decode cL_lookingFor 9 = .ok (.goto 6, 3) := by decide +kernel
theorem dL_lookingFor_12 : decode cL_lookingFor 12 = .ok (.astore_n 3, 1) := by decide +kernel
theorem dL_lookingFor_13 : decode cL_lookingFor 13 = .ok (.iconst 1, 1) := by decide +kernel
theorem dL_lookingFor_14 : decode cL_lookingFor 14 = .ok (.ireturn, 1) := by decide +kernel
theorem dL_lookingFor_15 : decode cL_lookingFor 15 = .ok (.iconst 0, 1) := by decide +kernel
theorem dL_lookingFor_16 : decode cL_lookingFor 16 = .ok (.ireturn, 1) := by decide +kernel
set_option maxRecDepth 20000 in
theorem ggL_sourceOf_X2_sourceOf : GoodIn wsL_sourceOf wsX2_sourceOf := goodIn_ca (goodIn_ca (goodIn_r _ [7, 8, 9, 10, 11, 6, 12, 13, 14, 15, 16, 17, 18, 19, 20, 21, 22, 23, 24, 25, 26, 27, 28, 29, 30, 31, 32, 33, 34, 35, 36, 37, 38, 39, 40, 41, 42, 43, 44, 45, 46, 47, 48, 49, 50, 51, 52, 53, 54, 55, 56] (by decide +kernel) (by decide +kernel)) (goodIn_sub (fun _ h => List.mem_cons_of_mem _ (List.mem_append_left _ (List.mem_append_right _ h))) (by decide +kernel))) (goodIn_sub (fun _ h => List.mem_cons_of_mem _ (List.mem_append_right _ h)) (by decide +kernel))
set_option maxRecDepth 20000 in
theorem gL_sourceOf_X2_sourceOf : GoodIn wsL_sourceOf (wsV RL 89 RX2 yX2_sourceOf wsX2_sourceOf) := goodIn_app (goodIn_of _ (by decide +kernel)) ggL_sourceOf_X2_sourceOf
theorem dL_sourceOf_0 : decode cL_sourceOf 0 = .ok (.aload_n 2, 1) := by decide +kernel
theorem dL_sourceOf_1 : decode cL_sourceOf 1 = .ok (.iconst 0, 1) := by decide +kernel
theorem dL_sourceOf_2 : decode cL_sourceOf 2 = .ok (.aload_n 0, 1) := by decide +kernel
theorem dL_sourceOf_3 : decode cL_sourceOf 3 = .ok (.iload_n 1, 1) := by decide +kernel
theorem dL_sourceOf_4 : decode cL_sourceOf 4 = .ok (.invokevirtual 89, 3) := by decide +kernel
theorem dL_sourceOf_7 : decode cL_sourceOf 7 = .ok (.i2l, 1) := by decide +kernel
theorem dL_sourceOf_8 : decode cL_sourceOf 8 = .ok (.lastore, 1) := by decide +kernel
theorem dL_sourceOf_9 : decode cL_sourceOf 9 = .ok (.goto 9, 3) := by decide +kernel
theorem dL_sourceOf_12 : decode cL_sourceOf 12 = .ok (.astore_n 3, 1) := by decide +kernel
theorem dL_sourceOf_13 : decode cL_sourceOf 13 = .ok (.iconst 1, 1) := by decide +kernel
theorem dL_sourceOf_14 : decode cL_sourceOf 14 = .ok (.ireturn, 1) := by decide +kernel
theorem dL_sourceOf_15 : decode cL_sourceOf 15 = .ok (.astore_n 3, 1) := by decide +kernel
theorem dL_sourceOf_16 : decode cL_sourceOf 16 = .ok (.iconst 2, 1) := by decide +kernel
theorem dL_sourceOf_17 : decode cL_sourceOf 17 = .ok (.ireturn, 1) := by decide +kernel
theorem dL_sourceOf_18 : decode cL_sourceOf 18 = .ok (.iconst 0, 1) := by decide +kernel
theorem dL_sourceOf_19 : decode cL_sourceOf 19 = .ok (.ireturn, 1) := by decide +kernel
set_option maxRecDepth 20000 in
theorem ggL_isMistaken_X2_isMistaken : GoodIn wsL_isMistaken wsX2_isMistaken := goodIn_ca (goodIn_r _ [6, 7, 8, 9, 10, 5, 11, 12, 13, 14, 15, 16, 17, 18, 19, 20, 21, 22, 23, 24, 25, 26, 27, 28, 29, 30, 31, 32, 33, 34, 35, 36, 37, 38, 39, 40, 41, 42, 43, 44, 45, 46, 47, 48] (by decide +kernel) (by decide +kernel)) (goodIn_sub (fun _ h => List.mem_cons_of_mem _ (List.mem_append_right _ h)) (by decide +kernel))
set_option maxRecDepth 20000 in
theorem gL_isMistaken_X2_isMistaken : GoodIn wsL_isMistaken (wsV RL 92 RX2 yX2_isMistaken wsX2_isMistaken) := goodIn_app (goodIn_of _ (by decide +kernel)) ggL_isMistaken_X2_isMistaken
theorem dL_isMistaken_0 : decode cL_isMistaken 0 = .ok (.aload_n 2, 1) := by decide +kernel
theorem dL_isMistaken_1 : decode cL_isMistaken 1 = .ok (.iconst 0, 1) := by decide +kernel
theorem dL_isMistaken_2 : decode cL_isMistaken 2 = .ok (.aload_n 0, 1) := by decide +kernel
theorem dL_isMistaken_3 : decode cL_isMistaken 3 = .ok (.iload_n 1, 1) := by decide +kernel
theorem dL_isMistaken_4 : decode cL_isMistaken 4 = .ok (.invokevirtual 92, 3) := by decide +kernel
theorem dL_isMistaken_7 : decode cL_isMistaken 7 = .ok (.ifCond .eq 7, 3) := by decide +kernel
theorem dL_isMistaken_10 : decode cL_isMistaken 10 = .ok (.lconst 1, 1) := by decide +kernel
theorem dL_isMistaken_11 : decode cL_isMistaken 11 = .ok (.goto 4, 3) := by decide +kernel
theorem dL_isMistaken_14 : decode cL_isMistaken 14 = .ok (.lconst 0, 1) := by decide +kernel
theorem dL_isMistaken_15 : decode cL_isMistaken 15 = .ok (.lastore, 1) := by decide +kernel
theorem dL_isMistaken_16 : decode cL_isMistaken 16 = .ok (.goto 6, 3) := by decide +kernel
theorem dL_isMistaken_19 : decode cL_isMistaken 19 = .ok (.astore_n 3, 1) := by decide +kernel
theorem dL_isMistaken_20 : decode cL_isMistaken 20 = .ok (.iconst 1, 1) := by decide +kernel
theorem dL_isMistaken_21 : decode cL_isMistaken 21 = .ok (.ireturn, 1) := by decide +kernel
theorem dL_isMistaken_22 : decode cL_isMistaken 22 = .ok (.iconst 0, 1) := by decide +kernel
theorem dL_isMistaken_23 : decode cL_isMistaken 23 = .ok (.ireturn, 1) := by decide +kernel
set_option maxRecDepth 20000 in
theorem ggL_answersTo_X2_answersTo : GoodIn wsL_answersTo wsX2_answersTo := goodIn_ca (goodIn_r _ [6, 7, 8, 9, 10, 5, 11, 12, 13, 14, 15, 16, 17, 18, 19, 20, 21, 22, 23, 24, 25, 26, 27, 28, 29, 30, 31, 32, 33, 34, 35, 36, 37, 38, 39, 40, 41, 42, 43, 44, 45, 46, 47, 48] (by decide +kernel) (by decide +kernel)) (goodIn_sub (fun _ h => List.mem_cons_of_mem _ (List.mem_append_right _ h)) (by decide +kernel))
set_option maxRecDepth 20000 in
theorem gL_answersTo_X2_answersTo : GoodIn wsL_answersTo (wsV RL 95 RX2 yX2_answersTo wsX2_answersTo) := goodIn_app (goodIn_of _ (by decide +kernel)) ggL_answersTo_X2_answersTo
theorem dL_answersTo_0 : decode cL_answersTo 0 = .ok (.aload_n 2, 1) := by decide +kernel
theorem dL_answersTo_1 : decode cL_answersTo 1 = .ok (.iconst 0, 1) := by decide +kernel
theorem dL_answersTo_2 : decode cL_answersTo 2 = .ok (.aload_n 0, 1) := by decide +kernel
theorem dL_answersTo_3 : decode cL_answersTo 3 = .ok (.iload_n 1, 1) := by decide +kernel
theorem dL_answersTo_4 : decode cL_answersTo 4 = .ok (.invokevirtual 95, 3) := by decide +kernel
theorem dL_answersTo_7 : decode cL_answersTo 7 = .ok (.i2l, 1) := by decide +kernel
theorem dL_answersTo_8 : decode cL_answersTo 8 = .ok (.lastore, 1) := by decide +kernel
theorem dL_answersTo_9 : decode cL_answersTo 9 = .ok (.goto 6, 3) := by decide +kernel
theorem dL_answersTo_12 : decode cL_answersTo 12 = .ok (.astore_n 3, 1) := by decide +kernel
theorem dL_answersTo_13 : decode cL_answersTo 13 = .ok (.iconst 1, 1) := by decide +kernel
theorem dL_answersTo_14 : decode cL_answersTo 14 = .ok (.ireturn, 1) := by decide +kernel
theorem dL_answersTo_15 : decode cL_answersTo 15 = .ok (.iconst 0, 1) := by decide +kernel
theorem dL_answersTo_16 : decode cL_answersTo 16 = .ok (.ireturn, 1) := by decide +kernel
set_option maxRecDepth 20000 in
theorem ggL_minutesUntilBurning_X2_minutesUntilBurning : GoodIn wsL_minutesUntilBurning wsX2_minutesUntilBurning := goodIn_ca (goodIn_r _ [6, 7, 8, 9, 10, 11, 12, 5, 13, 14, 15, 16, 17, 18, 19, 20, 21, 22, 23, 24, 25, 26, 27, 28, 29, 30, 31, 32, 33, 34, 35, 36, 37, 38, 39, 40, 41, 42, 43, 44, 45, 46, 47, 48, 49, 50, 51, 52, 53, 54, 55, 56, 57, 58, 59, 60, 61, 62, 63, 64, 65, 66, 67, 68, 69, 70, 71, 72, 73, 74, 75, 76, 77, 78, 79, 80, 81, 82, 83, 84, 85, 86, 87, 88, 89, 90, 91, 92, 93, 94, 95, 96, 97, 98, 99, 100, 101, 102, 103, 104, 105, 106, 107, 108, 109, 110, 111, 112, 113, 114, 115, 116, 117, 118, 119, 120, 121, 122, 123, 124, 125, 126, 127, 128, 129, 130, 131, 132, 133, 134, 135, 136, 137, 138, 139, 140, 141, 142, 143, 144, 145, 146, 147, 148, 149, 150, 151, 152, 153] (by decide +kernel) (by decide +kernel)) (goodIn_sub (fun _ h => List.mem_cons_of_mem _ (List.mem_append_right _ h)) (by decide +kernel))
set_option maxRecDepth 20000 in
theorem gL_minutesUntilBurning_X2_minutesUntilBurning : GoodIn wsL_minutesUntilBurning (wsV RL 98 RX2 yX2_minutesUntilBurning wsX2_minutesUntilBurning) := goodIn_app (goodIn_of _ (by decide +kernel)) ggL_minutesUntilBurning_X2_minutesUntilBurning
theorem dL_minutesUntilBurning_0 : decode cL_minutesUntilBurning 0 = .ok (.aload_n 2, 1) := by decide +kernel
theorem dL_minutesUntilBurning_1 : decode cL_minutesUntilBurning 1 = .ok (.iconst 0, 1) := by decide +kernel
theorem dL_minutesUntilBurning_2 : decode cL_minutesUntilBurning 2 = .ok (.aload_n 0, 1) := by decide +kernel
theorem dL_minutesUntilBurning_3 : decode cL_minutesUntilBurning 3 = .ok (.iload_n 1, 1) := by decide +kernel
theorem dL_minutesUntilBurning_4 : decode cL_minutesUntilBurning 4 = .ok (.invokevirtual 98, 3) := by decide +kernel
theorem dL_minutesUntilBurning_7 : decode cL_minutesUntilBurning 7 = .ok (.i2l, 1) := by decide +kernel
theorem dL_minutesUntilBurning_8 : decode cL_minutesUntilBurning 8 = .ok (.lastore, 1) := by decide +kernel
theorem dL_minutesUntilBurning_9 : decode cL_minutesUntilBurning 9 = .ok (.goto 6, 3) := by decide +kernel
theorem dL_minutesUntilBurning_12 : decode cL_minutesUntilBurning 12 = .ok (.astore_n 3, 1) := by decide +kernel
theorem dL_minutesUntilBurning_13 : decode cL_minutesUntilBurning 13 = .ok (.iconst 1, 1) := by decide +kernel
theorem dL_minutesUntilBurning_14 : decode cL_minutesUntilBurning 14 = .ok (.ireturn, 1) := by decide +kernel
theorem dL_minutesUntilBurning_15 : decode cL_minutesUntilBurning 15 = .ok (.iconst 0, 1) := by decide +kernel
theorem dL_minutesUntilBurning_16 : decode cL_minutesUntilBurning 16 = .ok (.ireturn, 1) := by decide +kernel
set_option maxRecDepth 20000 in
theorem ggL_burningAfter_X2_burningAfter : GoodIn wsL_burningAfter wsX2_burningAfter := goodIn_ca (goodIn_r _ [6, 7, 8, 9, 10, 5, 11, 12, 13, 14, 15, 16, 17, 18, 19, 20, 21, 22, 23, 24, 25, 26, 27, 28, 29, 30, 31, 32, 33, 34, 35, 36, 37, 38, 39, 40, 41, 42, 43, 44, 45, 46, 47, 48, 49, 50, 51, 52, 53, 54, 55, 56, 57, 58, 59, 60, 61, 62, 63, 64, 65, 66, 67, 68, 69, 70, 71, 72, 73, 74, 75, 76, 77, 78, 79, 80, 81, 82, 83, 84, 85, 86, 87, 88, 89, 90, 91, 92, 93, 94, 95, 96, 97, 98, 99, 100, 101, 102, 103, 104, 105, 106, 107, 108, 109, 110, 111, 112, 113, 114, 115, 116, 117, 118, 119, 120, 121, 122, 123, 124, 125, 126, 127, 128, 129, 130, 131, 132, 133, 134, 135, 136, 137, 138, 139, 140, 141, 142, 143, 144, 145, 146, 147, 148, 149, 150, 151, 152, 153, 154, 155, 156, 157] (by decide +kernel) (by decide +kernel)) (goodIn_sub (fun _ h => List.mem_cons_of_mem _ (List.mem_append_right _ h)) (by decide +kernel))
set_option maxRecDepth 20000 in
theorem gL_burningAfter_X2_burningAfter : GoodIn wsL_burningAfter (wsV RL 101 RX2 yX2_burningAfter wsX2_burningAfter) := goodIn_app (goodIn_of _ (by decide +kernel)) ggL_burningAfter_X2_burningAfter
theorem dL_burningAfter_0 : decode cL_burningAfter 0 = .ok (.aload_n 2, 1) := by decide +kernel
theorem dL_burningAfter_1 : decode cL_burningAfter 1 = .ok (.iconst 0, 1) := by decide +kernel
theorem dL_burningAfter_2 : decode cL_burningAfter 2 = .ok (.aload_n 0, 1) := by decide +kernel
theorem dL_burningAfter_3 : decode cL_burningAfter 3 = .ok (.iload_n 1, 1) := by decide +kernel
theorem dL_burningAfter_4 : decode cL_burningAfter 4 = .ok (.invokevirtual 101, 3) := by decide +kernel
theorem dL_burningAfter_7 : decode cL_burningAfter 7 = .ok (.i2l, 1) := by decide +kernel
theorem dL_burningAfter_8 : decode cL_burningAfter 8 = .ok (.lastore, 1) := by decide +kernel
theorem dL_burningAfter_9 : decode cL_burningAfter 9 = .ok (.goto 6, 3) := by decide +kernel
theorem dL_burningAfter_12 : decode cL_burningAfter 12 = .ok (.astore_n 3, 1) := by decide +kernel
theorem dL_burningAfter_13 : decode cL_burningAfter 13 = .ok (.iconst 1, 1) := by decide +kernel
theorem dL_burningAfter_14 : decode cL_burningAfter 14 = .ok (.ireturn, 1) := by decide +kernel
theorem dL_burningAfter_15 : decode cL_burningAfter 15 = .ok (.iconst 0, 1) := by decide +kernel
theorem dL_burningAfter_16 : decode cL_burningAfter 16 = .ok (.ireturn, 1) := by decide +kernel
set_option maxRecDepth 20000 in
theorem ggL_reachOf_X2_reachOf : GoodIn wsL_reachOf wsX2_reachOf := goodIn_ca (goodIn_ca (goodIn_r _ [7, 8, 9, 10, 6, 11, 12, 13, 14, 15, 16, 17, 18, 19, 20, 21, 22, 23, 24, 25, 26, 27, 28, 29, 30, 31, 32, 33, 34, 35, 36, 37, 38, 39, 40, 41, 42, 43, 44, 45, 46, 47, 48, 49, 50, 51, 52, 53, 54, 55, 56, 57, 58, 59, 60, 61, 62, 63, 64, 65, 66, 67, 68, 69, 70, 71, 72, 73, 74, 75, 76, 77, 78, 79, 80, 81, 82, 83, 84, 85, 86, 87, 88, 89, 90, 91, 92, 93, 94, 95, 96, 97, 98, 99, 100, 101, 102, 103, 104, 105, 106, 107, 108, 109, 110, 111, 112, 113, 114, 115, 116, 117, 118, 119, 120, 121, 122, 123, 124, 125, 126, 127, 128, 129, 130, 131, 132, 133, 134, 135, 136, 137, 138, 139, 140, 141, 142, 143, 144, 145, 146, 147, 148, 149, 150, 151, 152, 153, 154, 155, 156, 157, 158, 159, 160, 161, 162, 163, 164, 165, 166, 167, 168, 169, 170, 171, 172, 173, 174, 175, 176, 177, 178, 179, 180, 181, 182, 183] (by decide +kernel) (by decide +kernel)) (goodIn_sub (fun _ h => List.mem_cons_of_mem _ (List.mem_append_left _ (List.mem_append_right _ h))) (by decide +kernel))) (goodIn_sub (fun _ h => List.mem_cons_of_mem _ (List.mem_append_right _ h)) (by decide +kernel))
set_option maxRecDepth 20000 in
theorem gL_reachOf_X2_reachOf : GoodIn wsL_reachOf (wsV RL 104 RX2 yX2_reachOf wsX2_reachOf) := goodIn_app (goodIn_of _ (by decide +kernel)) ggL_reachOf_X2_reachOf
theorem dL_reachOf_0 : decode cL_reachOf 0 = .ok (.aload_n 2, 1) := by decide +kernel
theorem dL_reachOf_1 : decode cL_reachOf 1 = .ok (.iconst 0, 1) := by decide +kernel
theorem dL_reachOf_2 : decode cL_reachOf 2 = .ok (.aload_n 0, 1) := by decide +kernel
theorem dL_reachOf_3 : decode cL_reachOf 3 = .ok (.iload_n 1, 1) := by decide +kernel
theorem dL_reachOf_4 : decode cL_reachOf 4 = .ok (.invokevirtual 104, 3) := by decide +kernel
theorem dL_reachOf_7 : decode cL_reachOf 7 = .ok (.i2l, 1) := by decide +kernel
theorem dL_reachOf_8 : decode cL_reachOf 8 = .ok (.lastore, 1) := by decide +kernel
theorem dL_reachOf_9 : decode cL_reachOf 9 = .ok (.goto 9, 3) := by decide +kernel
theorem dL_reachOf_12 : decode cL_reachOf 12 = .ok (.astore_n 3, 1) := by decide +kernel
theorem dL_reachOf_13 : decode cL_reachOf 13 = .ok (.iconst 1, 1) := by decide +kernel
theorem dL_reachOf_14 : decode cL_reachOf 14 = .ok (.ireturn, 1) := by decide +kernel
theorem dL_reachOf_15 : decode cL_reachOf 15 = .ok (.astore_n 3, 1) := by decide +kernel
theorem dL_reachOf_16 : decode cL_reachOf 16 = .ok (.iconst 2, 1) := by decide +kernel
theorem dL_reachOf_17 : decode cL_reachOf 17 = .ok (.ireturn, 1) := by decide +kernel
theorem dL_reachOf_18 : decode cL_reachOf 18 = .ok (.iconst 0, 1) := by decide +kernel
theorem dL_reachOf_19 : decode cL_reachOf 19 = .ok (.ireturn, 1) := by decide +kernel
set_option maxRecDepth 20000 in
theorem ggL_law_X2_init : GoodIn wsL_law wsX2_init := goodIn_r _ [9, 10, 11, 12, 13, 14, 15, 16, 17, 18, 19, 20, 21, 22, 23, 24, 25, 26, 27, 28, 29, 30, 31, 32, 33, 34, 802, 803, 804, 805, 806, 807, 808, 809, 810, 789, 790, 811, 812, 813, 814, 815, 816, 817, 818, 819, 820, 821] (by decide +kernel) (by decide +kernel)
set_option maxRecDepth 20000 in
theorem gL_law_X2_init : GoodIn wsL_law (wsX2_init) := ggL_law_X2_init
set_option maxRecDepth 20000 in
theorem ggL_law_X3_init : GoodIn wsL_law wsX3_init := goodIn_r _ [37, 38, 11, 12, 27, 39, 40, 41, 42, 43, 44, 45, 46, 47, 48, 791, 792, 793, 794, 795, 796, 797, 798, 799, 800, 801] (by decide +kernel) (by decide +kernel)
set_option maxRecDepth 20000 in
theorem gL_law_X3_init : GoodIn wsL_law (wsX3_init) := ggL_law_X3_init
set_option maxRecDepth 20000 in
theorem ggL_law_L_addHill : GoodIn wsL_law wsL_addHill := goodIn_ca (goodIn_ca (goodIn_r _ [52, 53, 54, 55, 56, 57, 2, 58, 59, 60, 16, 61, 62, 63, 64, 65, 66, 67, 68, 69, 15, 70, 71, 72, 73, 74, 75, 76, 77, 78, 23, 26, 789, 790, 802, 803, 804, 805, 806, 807, 808, 809, 810, 811, 812, 813, 814, 815, 816, 817, 818, 819, 820, 821] (by decide +kernel) (by decide +kernel)) (goodIn_sub (fun _ h => List.mem_append_left _ (List.mem_append_left _ (List.mem_append_right _ h))) (by decide +kernel))) (goodIn_sub (fun _ h => List.mem_append_left _ (List.mem_append_right _ h)) (by decide +kernel))
set_option maxRecDepth 20000 in
theorem gL_law_L_addHill : GoodIn wsL_law (va_wsS RL 111 yL_addHill wsL_addHill) := goodIn_app (goodIn_of _ (by decide +kernel)) ggL_law_L_addHill
set_option maxRecDepth 20000 in
theorem ggL_law_X3_addHill : GoodIn wsL_law wsX3_addHill := goodIn_r _ [82, 83, 84, 39, 85, 86, 5, 87, 88, 89, 90, 91, 92, 93, 94, 95, 44, 791, 792, 793, 794, 795, 796, 797, 798, 799, 800, 801] (by decide +kernel) (by decide +kernel)
set_option maxRecDepth 20000 in
theorem gL_law_X3_addHill : GoodIn wsL_law (wsV RL 116 RX3 yX3_addHill wsX3_addHill) := goodIn_app (goodIn_of _ (by decide +kernel)) ggL_law_X3_addHill
set_option maxRecDepth 20000 in
theorem ggL_law_X3_thrown : GoodIn wsL_law wsX3_thrown := goodIn_r _ [99, 83, 791, 792, 793, 794, 795, 796, 797, 798, 799, 800, 801] (by decide +kernel) (by decide +kernel)
set_option maxRecDepth 20000 in
theorem gL_law_X3_thrown : GoodIn wsL_law (wsV RL 117 RX3 yX3_thrown wsX3_thrown) := goodIn_app (goodIn_of _ (by decide +kernel)) ggL_law_X3_thrown
set_option maxRecDepth 20000 in
theorem ggL_law_L_setSight : GoodIn wsL_law wsL_setSight := goodIn_ca (goodIn_ca (goodIn_r _ [102, 103, 53, 104, 105, 106, 2, 107, 65, 66, 16, 108, 109, 110, 111, 112, 113, 61, 62, 63, 64, 114, 115, 116, 15, 117, 28, 118, 119, 120, 121, 789, 790, 802, 803, 804, 805, 806, 807, 808, 809, 810] (by decide +kernel) (by decide +kernel)) (goodIn_sub (fun _ h => List.mem_append_left _ (List.mem_append_right _ h)) (by decide +kernel))) (goodIn_sub (fun _ h => List.mem_append_right _ h) (by decide +kernel))
set_option maxRecDepth 20000 in
theorem gL_law_L_setSight : GoodIn wsL_law (va_wsS RL 121 yL_setSight wsL_setSight) := goodIn_app (goodIn_of _ (by decide +kernel)) ggL_law_L_setSight
set_option maxRecDepth 20000 in
theorem ggL_law_X3_setSight : GoodIn wsL_law wsX3_setSight := goodIn_r _ [125, 83, 43, 126, 127, 128, 5, 129, 84, 85, 86, 87, 88, 89, 90, 91, 791, 792, 793, 794, 795, 796, 797, 798, 799, 800, 801] (by decide +kernel) (by decide +kernel)
set_option maxRecDepth 20000 in
theorem gL_law_X3_setSight : GoodIn wsL_law (wsV RL 123 RX3 yX3_setSight wsX3_setSight) := goodIn_app (goodIn_of _ (by decide +kernel)) ggL_law_X3_setSight
set_option maxRecDepth 20000 in
theorem ggL_law_L_turnEast : GoodIn wsL_law wsL_turnEast := goodIn_ca (goodIn_r _ [132, 103, 133, 134, 135, 2, 136, 137, 138, 139, 140, 141, 16, 108, 109, 110, 111, 112, 113, 61, 142, 76, 77, 15, 78, 23, 26, 811, 812, 813, 814, 815, 816, 817, 818, 819, 820, 821, 789, 790, 802, 803, 804, 805, 806, 807, 808, 809, 810] (by decide +kernel) (by decide +kernel)) (goodIn_sub (fun _ h => List.mem_append_right _ h) (by decide +kernel))
set_option maxRecDepth 20000 in
theorem gL_law_L_turnEast : GoodIn wsL_law (va_wsS RL 124 yL_turnEast wsL_turnEast) := goodIn_app (goodIn_of _ (by decide +kernel)) ggL_law_L_turnEast
set_option maxRecDepth 20000 in
theorem ggL_law_X3_turnEast : GoodIn wsL_law wsX3_turnEast := goodIn_r _ [146, 83, 41, 126, 127, 128, 5, 129, 84, 85, 86, 87, 147, 148, 149, 150, 791, 792, 793, 794, 795, 796, 797, 798, 799, 800, 801] (by decide +kernel) (by decide +kernel)
set_option maxRecDepth 20000 in
theorem gL_law_X3_turnEast : GoodIn wsL_law (wsV RL 127 RX3 yX3_turnEast wsX3_turnEast) := goodIn_app (goodIn_of _ (by decide +kernel)) ggL_law_X3_turnEast
set_option maxRecDepth 20000 in
theorem ggL_law_L_turnPost : GoodIn wsL_law wsL_turnPost := goodIn_ca (goodIn_r _ [153, 103, 154, 155, 156, 2, 157, 158, 138, 139, 140, 141, 16, 108, 109, 110, 111, 112, 113, 61, 142, 76, 77, 15, 78, 23, 26, 811, 812, 813, 814, 815, 816, 817, 818, 819, 820, 821, 789, 790, 802, 803, 804, 805, 806, 807, 808, 809, 810] (by decide +kernel) (by decide +kernel)) (goodIn_sub (fun _ h => List.mem_append_right _ h) (by decide +kernel))
set_option maxRecDepth 20000 in
theorem gL_law_L_turnPost : GoodIn wsL_law (va_wsS RL 128 yL_turnPost wsL_turnPost) := goodIn_app (goodIn_of _ (by decide +kernel)) ggL_law_L_turnPost
set_option maxRecDepth 20000 in
theorem ggL_law_X3_turnPost : GoodIn wsL_law wsX3_turnPost := goodIn_r _ [162, 83, 42, 126, 127, 128, 5, 129, 84, 85, 86, 87, 147, 148, 149, 150, 791, 792, 793, 794, 795, 796, 797, 798, 799, 800, 801] (by decide +kernel) (by decide +kernel)
set_option maxRecDepth 20000 in
theorem gL_law_X3_turnPost : GoodIn wsL_law (wsV RL 130 RX3 yX3_turnPost wsX3_turnPost) := goodIn_app (goodIn_of _ (by decide +kernel)) ggL_law_X3_turnPost
set_option maxRecDepth 20000 in
theorem ggL_law_L_bringWood : GoodIn wsL_law wsL_bringWood := goodIn_ca (goodIn_ca (goodIn_r _ [165, 103, 53, 166, 167, 168, 2, 169, 170, 171, 172, 173, 174, 138, 139, 140, 141, 16, 108, 109, 110, 111, 112, 113, 61, 142, 76, 77, 15, 78, 23, 26, 62, 63, 64, 65, 66, 811, 812, 813, 814, 815, 816, 817, 818, 819, 820, 821, 789, 790, 802, 803, 804, 805, 806, 807, 808, 809, 810] (by decide +kernel) (by decide +kernel)) (goodIn_sub (fun _ h => List.mem_append_right _ h) (by decide +kernel))) (goodIn_sub (fun _ h => List.mem_append_left _ (List.mem_append_right _ h)) (by decide +kernel))
set_option maxRecDepth 20000 in
theorem gL_law_L_bringWood : GoodIn wsL_law (va_wsS RL 131 yL_bringWood wsL_bringWood) := goodIn_app (goodIn_of _ (by decide +kernel)) ggL_law_L_bringWood
set_option maxRecDepth 20000 in
theorem ggL_law_X3_bringWood : GoodIn wsL_law wsX3_bringWood := goodIn_r _ [178, 83, 179, 172, 173, 174, 126, 127, 128, 5, 129, 84, 85, 86, 87, 88, 89, 90, 91, 180, 181, 182, 183, 44, 92, 93, 94, 95, 791, 792, 793, 794, 795, 796, 797, 798, 799, 800, 801] (by decide +kernel) (by decide +kernel)
set_option maxRecDepth 20000 in
theorem gL_law_X3_bringWood : GoodIn wsL_law (wsV RL 134 RX3 yX3_bringWood wsX3_bringWood) := goodIn_app (goodIn_of _ (by decide +kernel)) ggL_law_X3_bringWood
set_option maxRecDepth 20000 in
theorem ggL_law_L_setDamp : GoodIn wsL_law wsL_setDamp := goodIn_ca (goodIn_ca (goodIn_r _ [186, 103, 53, 187, 188, 189, 2, 190, 191, 138, 139, 140, 141, 16, 108, 109, 110, 111, 112, 113, 61, 142, 76, 77, 15, 78, 23, 26, 62, 63, 64, 65, 66, 811, 812, 813, 814, 815, 816, 817, 818, 819, 820, 821, 789, 790, 802, 803, 804, 805, 806, 807, 808, 809, 810] (by decide +kernel) (by decide +kernel)) (goodIn_sub (fun _ h => List.mem_append_right _ h) (by decide +kernel))) (goodIn_sub (fun _ h => List.mem_append_left _ (List.mem_append_right _ h)) (by decide +kernel))
set_option maxRecDepth 20000 in
theorem gL_law_L_setDamp : GoodIn wsL_law (va_wsS RL 135 yL_setDamp wsL_setDamp) := goodIn_app (goodIn_of _ (by decide +kernel)) ggL_law_L_setDamp
set_option maxRecDepth 20000 in
theorem ggL_law_X3_setDamp : GoodIn wsL_law wsX3_setDamp := goodIn_r _ [195, 83, 126, 127, 128, 5, 129, 84, 85, 86, 87, 88, 89, 90, 91, 180, 181, 182, 183, 44, 92, 93, 94, 95, 791, 792, 793, 794, 795, 796, 797, 798, 799, 800, 801] (by decide +kernel) (by decide +kernel)
set_option maxRecDepth 20000 in
theorem gL_law_X3_setDamp : GoodIn wsL_law (wsV RL 137 RX3 yX3_setDamp wsX3_setDamp) := goodIn_app (goodIn_of _ (by decide +kernel)) ggL_law_X3_setDamp
set_option maxRecDepth 20000 in
theorem ggL_law_L_setHaze : GoodIn wsL_law wsL_setHaze := goodIn_ca (goodIn_r _ [198, 53, 199, 200, 201, 2, 202, 16, 203, 62, 63, 64, 65, 66, 789, 790, 802, 803, 804, 805, 806, 807, 808, 809, 810] (by decide +kernel) (by decide +kernel)) (goodIn_sub (fun _ h => List.mem_append_left _ (List.mem_append_right _ h)) (by decide +kernel))
set_option maxRecDepth 20000 in
theorem gL_law_L_setHaze : GoodIn wsL_law (va_wsS RL 138 yL_setHaze wsL_setHaze) := goodIn_app (goodIn_of _ (by decide +kernel)) ggL_law_L_setHaze
set_option maxRecDepth 20000 in
theorem ggL_law_X3_setHaze : GoodIn wsL_law wsX3_setHaze := goodIn_r _ [207, 83, 44, 85, 86, 5, 87, 88, 89, 90, 91, 791, 792, 793, 794, 795, 796, 797, 798, 799, 800, 801] (by decide +kernel) (by decide +kernel)
set_option maxRecDepth 20000 in
theorem gL_law_X3_setHaze : GoodIn wsL_law (wsV RL 140 RX3 yX3_setHaze wsX3_setHaze) := goodIn_app (goodIn_of _ (by decide +kernel)) ggL_law_X3_setHaze
set_option maxRecDepth 20000 in
theorem ggL_law_L_light : GoodIn wsL_law wsL_light := goodIn_ca (goodIn_ca (goodIn_r _ [210, 103, 54, 211, 212, 213, 2, 214, 16, 215, 216, 217, 218, 219, 59, 60, 138, 139, 140, 141, 108, 109, 110, 111, 112, 113, 61, 142, 76, 77, 15, 78, 23, 26, 220, 221, 222, 25, 223, 32, 224, 225, 226, 227, 228, 229, 230, 231, 232, 233, 234, 235, 75, 236, 237, 238, 239, 240, 241, 242, 34, 789, 790, 811, 812, 813, 814, 815, 816, 817, 818, 819, 820, 821, 802, 803, 804, 805, 806, 807, 808, 809, 810] (by decide +kernel) (by decide +kernel)) (goodIn_sub (fun _ h => List.mem_append_left _ (List.mem_append_left _ (List.mem_append_right _ h))) (by decide +kernel))) (goodIn_sub (fun _ h => List.mem_append_right _ h) (by decide +kernel))
set_option maxRecDepth 20000 in
theorem gL_law_L_light : GoodIn wsL_law (va_wsS RL 141 yL_light wsL_light) := goodIn_app (goodIn_of _ (by decide +kernel)) ggL_law_L_light
set_option maxRecDepth 20000 in
theorem ggL_law_X3_light : GoodIn wsL_law wsX3_light := goodIn_r _ [246, 247, 248, 249, 5, 250, 83, 126, 127, 128, 129, 84, 85, 86, 87, 180, 181, 182, 183, 44, 251, 252, 253, 254, 92, 93, 94, 95, 255, 256, 257, 258, 791, 792, 793, 794, 795, 796, 797, 798, 799, 800, 801] (by decide +kernel) (by decide +kernel)
set_option maxRecDepth 20000 in
theorem gL_law_X3_light : GoodIn wsL_law (wsV RL 143 RX3 yX3_light wsX3_light) := goodIn_app (goodIn_of _ (by decide +kernel)) ggL_law_X3_light
set_option maxRecDepth 20000 in
theorem ggL_law_L_douse : GoodIn wsL_law wsL_douse := goodIn_ca (goodIn_ca (goodIn_r _ [261, 103, 54, 262, 263, 264, 2, 265, 170, 266, 267, 268, 269, 59, 60, 270, 138, 139, 140, 141, 16, 108, 109, 110, 111, 112, 113, 61, 142, 76, 77, 15, 78, 23, 26, 271, 272, 273, 25, 274, 32, 242, 34, 811, 812, 813, 814, 815, 816, 817, 818, 819, 820, 821, 789, 790, 802, 803, 804, 805, 806, 807, 808, 809, 810] (by decide +kernel) (by decide +kernel)) (goodIn_sub (fun _ h => List.mem_append_left _ (List.mem_append_left _ (List.mem_append_right _ h))) (by decide +kernel))) (goodIn_sub (fun _ h => List.mem_append_right _ h) (by decide +kernel))
set_option maxRecDepth 20000 in
theorem gL_law_L_douse : GoodIn wsL_law (va_wsS RL 144 yL_douse wsL_douse) := goodIn_app (goodIn_of _ (by decide +kernel)) ggL_law_L_douse
set_option maxRecDepth 20000 in
theorem ggL_law_X3_douse : GoodIn wsL_law wsX3_douse := goodIn_r _ [278, 83, 126, 127, 128, 5, 129, 84, 85, 86, 87, 88, 89, 90, 91, 180, 181, 182, 183, 44, 279, 280, 281, 282, 92, 93, 94, 95, 791, 792, 793, 794, 795, 796, 797, 798, 799, 800, 801] (by decide +kernel) (by decide +kernel)
set_option maxRecDepth 20000 in
theorem gL_law_X3_douse : GoodIn wsL_law (wsV RL 146 RX3 yX3_douse wsX3_douse) := goodIn_app (goodIn_of _ (by decide +kernel)) ggL_law_X3_douse
set_option maxRecDepth 20000 in
theorem ggL_law_L_glow : GoodIn wsL_law wsL_glow := goodIn_ca (goodIn_r _ [285, 53, 286, 287, 288, 2, 289, 16, 290, 62, 63, 64, 65, 66, 789, 790, 802, 803, 804, 805, 806, 807, 808, 809, 810] (by decide +kernel) (by decide +kernel)) (goodIn_sub (fun _ h => List.mem_append_left _ (List.mem_append_right _ h)) (by decide +kernel))
set_option maxRecDepth 20000 in
theorem gL_law_L_glow : GoodIn wsL_law (va_wsS RL 147 yL_glow wsL_glow) := goodIn_app (goodIn_of _ (by decide +kernel)) ggL_law_L_glow
set_option maxRecDepth 20000 in
theorem ggL_law_X3_glow : GoodIn wsL_law wsX3_glow := goodIn_r _ [294, 83, 44, 85, 86, 5, 87, 88, 89, 90, 91, 791, 792, 793, 794, 795, 796, 797, 798, 799, 800, 801] (by decide +kernel) (by decide +kernel)
set_option maxRecDepth 20000 in
theorem gL_law_X3_glow : GoodIn wsL_law (wsV RL 149 RX3 yX3_glow wsX3_glow) := goodIn_app (goodIn_of _ (by decide +kernel)) ggL_law_X3_glow
set_option maxRecDepth 20000 in
theorem ggL_law_L_passMinutes : GoodIn wsL_law wsL_passMinutes := goodIn_ca (goodIn_r _ [297, 53, 298, 299, 300, 2, 301, 16, 302, 62, 63, 64, 65, 66, 303, 304, 305, 15, 306, 307, 308, 309, 310, 311, 312, 313, 314, 315, 316, 71, 317, 318, 75, 76, 77, 78, 23, 26, 319, 320, 321, 322, 323, 324, 221, 222, 25, 223, 32, 224, 325, 326, 327, 328, 329, 330, 331, 332, 333, 334, 115, 116, 117, 28, 335, 336, 337, 338, 339, 340, 341, 342, 343, 74, 344, 345, 346, 347, 348, 230, 231, 232, 233, 234, 235, 236, 237, 238, 239, 240, 241, 242, 34, 349, 350, 351, 352, 353, 354, 355, 356, 357, 358, 229, 359, 360, 361, 362, 363, 364, 365, 366, 367, 272, 273, 274, 789, 790, 802, 803, 804, 805, 806, 807, 808, 809, 810, 811, 812, 813, 814, 815, 816, 817, 818, 819, 820, 821] (by decide +kernel) (by decide +kernel)) (goodIn_sub (fun _ h => List.mem_append_left _ (List.mem_append_right _ h)) (by decide +kernel))
set_option maxRecDepth 20000 in
theorem gL_law_L_passMinutes : GoodIn wsL_law (va_wsS RL 150 yL_passMinutes wsL_passMinutes) := goodIn_app (goodIn_of _ (by decide +kernel)) ggL_law_L_passMinutes
set_option maxRecDepth 20000 in
theorem ggL_law_X3_passMinutes : GoodIn wsL_law wsX3_passMinutes := goodIn_r _ [371, 83, 44, 85, 86, 5, 87, 88, 89, 90, 91, 372, 373, 374, 375, 84, 46, 42, 376, 377, 173, 378, 180, 181, 182, 183, 379, 380, 381, 382, 41, 39, 383, 384, 385, 386, 43, 387, 388, 389, 390, 92, 93, 94, 95, 255, 256, 257, 258, 279, 280, 281, 282, 791, 792, 793, 794, 795, 796, 797, 798, 799, 800, 801] (by decide +kernel) (by decide +kernel)
set_option maxRecDepth 20000 in
theorem gL_law_X3_passMinutes : GoodIn wsL_law (wsV RL 152 RX3 yX3_passMinutes wsX3_passMinutes) := goodIn_app (goodIn_of _ (by decide +kernel)) ggL_law_X3_passMinutes
set_option maxRecDepth 20000 in
theorem ggL_law_L_woodOf : GoodIn wsL_law wsL_woodOf := goodIn_ca (goodIn_r _ [393, 103, 394, 395, 396, 2, 397, 170, 138, 139, 140, 141, 16, 108, 109, 110, 111, 112, 113, 61, 142, 76, 77, 15, 78, 23, 26, 811, 812, 813, 814, 815, 816, 817, 818, 819, 820, 821, 789, 790, 802, 803, 804, 805, 806, 807, 808, 809, 810] (by decide +kernel) (by decide +kernel)) (goodIn_sub (fun _ h => List.mem_append_right _ h) (by decide +kernel))
set_option maxRecDepth 20000 in
theorem gL_law_L_woodOf : GoodIn wsL_law (va_wsS RL 153 yL_woodOf wsL_woodOf) := goodIn_app (goodIn_of _ (by decide +kernel)) ggL_law_L_woodOf
set_option maxRecDepth 20000 in
theorem ggL_law_X3_woodOf : GoodIn wsL_law wsX3_woodOf := goodIn_r _ [401, 402, 403, 404, 5, 405, 83, 126, 127, 128, 129, 84, 85, 86, 87, 180, 181, 182, 183, 44, 88, 89, 90, 91, 791, 792, 793, 794, 795, 796, 797, 798, 799, 800, 801] (by decide +kernel) (by decide +kernel)
set_option maxRecDepth 20000 in
theorem gL_law_X3_woodOf : GoodIn wsL_law (wsV RL 155 RX3 yX3_woodOf wsX3_woodOf) := goodIn_app (goodIn_of _ (by decide +kernel)) ggL_law_X3_woodOf
set_option maxRecDepth 20000 in
theorem ggL_law_L_dampOf : GoodIn wsL_law wsL_dampOf := goodIn_ca (goodIn_r _ [408, 103, 409, 410, 411, 2, 412, 191, 138, 139, 140, 141, 16, 108, 109, 110, 111, 112, 113, 61, 142, 76, 77, 15, 78, 23, 26, 811, 812, 813, 814, 815, 816, 817, 818, 819, 820, 821, 789, 790, 802, 803, 804, 805, 806, 807, 808, 809, 810] (by decide +kernel) (by decide +kernel)) (goodIn_sub (fun _ h => List.mem_append_right _ h) (by decide +kernel))
set_option maxRecDepth 20000 in
theorem gL_law_L_dampOf : GoodIn wsL_law (va_wsS RL 156 yL_dampOf wsL_dampOf) := goodIn_app (goodIn_of _ (by decide +kernel)) ggL_law_L_dampOf
set_option maxRecDepth 20000 in
theorem ggL_law_X3_dampOf : GoodIn wsL_law wsX3_dampOf := goodIn_r _ [416, 402, 403, 404, 5, 405, 83, 126, 127, 128, 129, 84, 85, 86, 87, 180, 181, 182, 183, 44, 88, 89, 90, 91, 791, 792, 793, 794, 795, 796, 797, 798, 799, 800, 801] (by decide +kernel) (by decide +kernel)
set_option maxRecDepth 20000 in
theorem gL_law_X3_dampOf : GoodIn wsL_law (wsV RL 158 RX3 yX3_dampOf wsX3_dampOf) := goodIn_app (goodIn_of _ (by decide +kernel)) ggL_law_X3_dampOf
set_option maxRecDepth 20000 in
theorem ggL_law_L_watchOf : GoodIn wsL_law wsL_watchOf := goodIn_ca (goodIn_r _ [419, 103, 420, 421, 422, 2, 423, 424, 138, 139, 140, 141, 16, 108, 109, 110, 111, 112, 113, 61, 142, 76, 77, 15, 78, 23, 26, 811, 812, 813, 814, 815, 816, 817, 818, 819, 820, 821, 789, 790, 802, 803, 804, 805, 806, 807, 808, 809, 810] (by decide +kernel) (by decide +kernel)) (goodIn_sub (fun _ h => List.mem_append_right _ h) (by decide +kernel))
set_option maxRecDepth 20000 in
theorem gL_law_L_watchOf : GoodIn wsL_law (va_wsS RL 159 yL_watchOf wsL_watchOf) := goodIn_app (goodIn_of _ (by decide +kernel)) ggL_law_L_watchOf
set_option maxRecDepth 20000 in
theorem ggL_law_X3_watchOf : GoodIn wsL_law wsX3_watchOf := goodIn_r _ [428, 83, 39, 126, 127, 128, 5, 129, 84, 85, 86, 87, 88, 89, 90, 91, 791, 792, 793, 794, 795, 796, 797, 798, 799, 800, 801] (by decide +kernel) (by decide +kernel)
set_option maxRecDepth 20000 in
theorem gL_law_X3_watchOf : GoodIn wsL_law (wsV RL 161 RX3 yX3_watchOf wsX3_watchOf) := goodIn_app (goodIn_of _ (by decide +kernel)) ggL_law_X3_watchOf
set_option maxRecDepth 20000 in
theorem ggL_law_L_looksEast : GoodIn wsL_law wsL_looksEast := goodIn_ca (goodIn_r _ [431, 103, 432, 433, 434, 2, 435, 137, 138, 139, 140, 141, 16, 108, 109, 110, 111, 112, 113, 61, 142, 76, 77, 15, 78, 23, 26, 811, 812, 813, 814, 815, 816, 817, 818, 819, 820, 821, 789, 790, 802, 803, 804, 805, 806, 807, 808, 809, 810] (by decide +kernel) (by decide +kernel)) (goodIn_sub (fun _ h => List.mem_append_right _ h) (by decide +kernel))
set_option maxRecDepth 20000 in
theorem gL_law_L_looksEast : GoodIn wsL_law (va_wsS RL 162 yL_looksEast wsL_looksEast) := goodIn_app (goodIn_of _ (by decide +kernel)) ggL_law_L_looksEast
set_option maxRecDepth 20000 in
theorem ggL_law_X3_looksEast : GoodIn wsL_law wsX3_looksEast := goodIn_r _ [439, 83, 41, 126, 127, 128, 5, 129, 84, 85, 86, 87, 147, 148, 149, 150, 791, 792, 793, 794, 795, 796, 797, 798, 799, 800, 801] (by decide +kernel) (by decide +kernel)
set_option maxRecDepth 20000 in
theorem gL_law_X3_looksEast : GoodIn wsL_law (wsV RL 164 RX3 yX3_looksEast wsX3_looksEast) := goodIn_app (goodIn_of _ (by decide +kernel)) ggL_law_X3_looksEast
set_option maxRecDepth 20000 in
theorem ggL_law_L_isPost : GoodIn wsL_law wsL_isPost := goodIn_ca (goodIn_r _ [442, 103, 443, 444, 445, 2, 446, 158, 138, 139, 140, 141, 16, 108, 109, 110, 111, 112, 113, 61, 142, 76, 77, 15, 78, 23, 26, 811, 812, 813, 814, 815, 816, 817, 818, 819, 820, 821, 789, 790, 802, 803, 804, 805, 806, 807, 808, 809, 810] (by decide +kernel) (by decide +kernel)) (goodIn_sub (fun _ h => List.mem_append_right _ h) (by decide +kernel))
set_option maxRecDepth 20000 in
theorem gL_law_L_isPost : GoodIn wsL_law (va_wsS RL 165 yL_isPost wsL_isPost) := goodIn_app (goodIn_of _ (by decide +kernel)) ggL_law_L_isPost
set_option maxRecDepth 20000 in
theorem ggL_law_X3_isPost : GoodIn wsL_law wsX3_isPost := goodIn_r _ [450, 83, 42, 126, 127, 128, 5, 129, 84, 85, 86, 87, 147, 148, 149, 150, 791, 792, 793, 794, 795, 796, 797, 798, 799, 800, 801] (by decide +kernel) (by decide +kernel)
set_option maxRecDepth 20000 in
theorem gL_law_X3_isPost : GoodIn wsL_law (wsV RL 167 RX3 yX3_isPost wsX3_isPost) := goodIn_app (goodIn_of _ (by decide +kernel)) ggL_law_X3_isPost
set_option maxRecDepth 20000 in
theorem ggL_law_L_milesBetween : GoodIn wsL_law wsL_milesBetween := goodIn_ca (goodIn_r _ [453, 103, 454, 455, 456, 2, 457, 16, 108, 109, 110, 111, 112, 113, 61, 114, 115, 116, 15, 117, 28, 789, 790, 802, 803, 804, 805, 806, 807, 808, 809, 810] (by decide +kernel) (by decide +kernel)) (goodIn_sub (fun _ h => List.mem_append_right _ h) (by decide +kernel))
set_option maxRecDepth 20000 in
theorem gL_law_L_milesBetween : GoodIn wsL_law (va_wsS RL 168 yL_milesBetween wsL_milesBetween) := goodIn_app (goodIn_of _ (by decide +kernel)) ggL_law_L_milesBetween
set_option maxRecDepth 20000 in
theorem ggL_law_X3_milesBetween : GoodIn wsL_law wsX3_milesBetween := goodIn_r _ [461, 43, 462, 463, 464, 5, 465, 83, 126, 127, 128, 129, 84, 85, 86, 87, 791, 792, 793, 794, 795, 796, 797, 798, 799, 800, 801] (by decide +kernel) (by decide +kernel)
set_option maxRecDepth 20000 in
theorem gL_law_X3_milesBetween : GoodIn wsL_law (wsV RL 170 RX3 yX3_milesBetween wsX3_milesBetween) := goodIn_app (goodIn_of _ (by decide +kernel)) ggL_law_X3_milesBetween
set_option maxRecDepth 20000 in
theorem ggL_law_L_canSee : GoodIn wsL_law wsL_canSee := goodIn_ca (goodIn_r _ [468, 103, 469, 470, 471, 2, 472, 16, 108, 109, 110, 111, 112, 113, 61, 473, 474, 475, 15, 476, 334, 115, 116, 117, 28, 335, 336, 337, 338, 339, 789, 790, 802, 803, 804, 805, 806, 807, 808, 809, 810] (by decide +kernel) (by decide +kernel)) (goodIn_sub (fun _ h => List.mem_append_right _ h) (by decide +kernel))
set_option maxRecDepth 20000 in
theorem gL_law_L_canSee : GoodIn wsL_law (va_wsS RL 171 yL_canSee wsL_canSee) := goodIn_app (goodIn_of _ (by decide +kernel)) ggL_law_L_canSee
set_option maxRecDepth 20000 in
theorem ggL_law_X3_canSee : GoodIn wsL_law wsX3_canSee := goodIn_r _ [480, 462, 463, 464, 5, 465, 83, 126, 127, 128, 129, 84, 85, 86, 87, 387, 388, 389, 390, 43, 44, 791, 792, 793, 794, 795, 796, 797, 798, 799, 800, 801] (by decide +kernel) (by decide +kernel)
set_option maxRecDepth 20000 in
theorem gL_law_X3_canSee : GoodIn wsL_law (wsV RL 173 RX3 yX3_canSee wsX3_canSee) := goodIn_app (goodIn_of _ (by decide +kernel)) ggL_law_X3_canSee
set_option maxRecDepth 20000 in
theorem ggL_law_L_fewestSteps : GoodIn wsL_law wsL_fewestSteps := goodIn_ca (goodIn_r _ [483, 103, 484, 485, 486, 2, 487, 16, 108, 109, 110, 111, 112, 113, 61, 488, 489, 490, 15, 491, 492, 493, 494, 495, 496, 497, 498, 71, 499, 500, 501, 502, 503, 474, 475, 476, 334, 115, 116, 117, 28, 335, 336, 337, 338, 339, 789, 790, 802, 803, 804, 805, 806, 807, 808, 809, 810] (by decide +kernel) (by decide +kernel)) (goodIn_sub (fun _ h => List.mem_append_right _ h) (by decide +kernel))
set_option maxRecDepth 20000 in
theorem gL_law_L_fewestSteps : GoodIn wsL_law (va_wsS RL 174 yL_fewestSteps wsL_fewestSteps) := goodIn_app (goodIn_of _ (by decide +kernel)) ggL_law_L_fewestSteps
set_option maxRecDepth 20000 in
theorem ggL_law_X3_fewestSteps : GoodIn wsL_law wsX3_fewestSteps := goodIn_r _ [507, 84, 47, 48, 462, 463, 464, 5, 465, 83, 126, 127, 128, 129, 85, 86, 87, 387, 388, 389, 390, 43, 44, 791, 792, 793, 794, 795, 796, 797, 798, 799, 800, 801] (by decide +kernel) (by decide +kernel)
set_option maxRecDepth 20000 in
theorem gL_law_X3_fewestSteps : GoodIn wsL_law (wsV RL 176 RX3 yX3_fewestSteps wsX3_fewestSteps) := goodIn_app (goodIn_of _ (by decide +kernel)) ggL_law_X3_fewestSteps
set_option maxRecDepth 20000 in
theorem ggL_law_L_isDark : GoodIn wsL_law wsL_isDark := goodIn_ca (goodIn_r _ [510, 103, 511, 512, 513, 2, 514, 270, 138, 139, 140, 141, 16, 108, 109, 110, 111, 112, 113, 61, 142, 76, 77, 15, 78, 23, 26, 811, 812, 813, 814, 815, 816, 817, 818, 819, 820, 821, 789, 790, 802, 803, 804, 805, 806, 807, 808, 809, 810] (by decide +kernel) (by decide +kernel)) (goodIn_sub (fun _ h => List.mem_append_right _ h) (by decide +kernel))
set_option maxRecDepth 20000 in
theorem gL_law_L_isDark : GoodIn wsL_law (va_wsS RL 177 yL_isDark wsL_isDark) := goodIn_app (goodIn_of _ (by decide +kernel)) ggL_law_L_isDark
set_option maxRecDepth 20000 in
theorem ggL_law_X3_isDark : GoodIn wsL_law wsX3_isDark := goodIn_r _ [518, 83, 402, 403, 404, 5, 405, 126, 127, 128, 129, 84, 85, 86, 87, 180, 181, 182, 183, 44, 88, 89, 90, 91, 791, 792, 793, 794, 795, 796, 797, 798, 799, 800, 801] (by decide +kernel) (by decide +kernel)
set_option maxRecDepth 20000 in
theorem gL_law_X3_isDark : GoodIn wsL_law (wsV RL 179 RX3 yX3_isDark wsX3_isDark) := goodIn_app (goodIn_of _ (by decide +kernel)) ggL_law_X3_isDark
set_option maxRecDepth 20000 in
theorem ggL_law_L_isBurning : GoodIn wsL_law wsL_isBurning := goodIn_ca (goodIn_r _ [521, 103, 522, 523, 524, 2, 525, 270, 138, 139, 140, 141, 16, 108, 109, 110, 111, 112, 113, 61, 142, 76, 77, 15, 78, 23, 26, 811, 812, 813, 814, 815, 816, 817, 818, 819, 820, 821, 789, 790, 802, 803, 804, 805, 806, 807, 808, 809, 810] (by decide +kernel) (by decide +kernel)) (goodIn_sub (fun _ h => List.mem_append_right _ h) (by decide +kernel))
set_option maxRecDepth 20000 in
theorem gL_law_L_isBurning : GoodIn wsL_law (va_wsS RL 180 yL_isBurning wsL_isBurning) := goodIn_app (goodIn_of _ (by decide +kernel)) ggL_law_L_isBurning
set_option maxRecDepth 20000 in
theorem ggL_law_X3_isBurning : GoodIn wsL_law wsX3_isBurning := goodIn_r _ [529, 402, 403, 404, 5, 405, 83, 126, 127, 128, 129, 84, 85, 86, 87, 180, 181, 182, 183, 44, 88, 89, 90, 91, 791, 792, 793, 794, 795, 796, 797, 798, 799, 800, 801] (by decide +kernel) (by decide +kernel)
set_option maxRecDepth 20000 in
theorem gL_law_X3_isBurning : GoodIn wsL_law (wsV RL 182 RX3 yX3_isBurning wsX3_isBurning) := goodIn_app (goodIn_of _ (by decide +kernel)) ggL_law_X3_isBurning
set_option maxRecDepth 20000 in
theorem ggL_law_L_minutesToBurn : GoodIn wsL_law wsL_minutesToBurn := goodIn_ca (goodIn_r _ [532, 103, 533, 534, 535, 2, 536, 215, 138, 139, 140, 141, 16, 108, 109, 110, 111, 112, 113, 61, 142, 76, 77, 15, 78, 23, 26, 811, 812, 813, 814, 815, 816, 817, 818, 819, 820, 821, 789, 790, 802, 803, 804, 805, 806, 807, 808, 809, 810] (by decide +kernel) (by decide +kernel)) (goodIn_sub (fun _ h => List.mem_append_right _ h) (by decide +kernel))
set_option maxRecDepth 20000 in
theorem gL_law_L_minutesToBurn : GoodIn wsL_law (va_wsS RL 183 yL_minutesToBurn wsL_minutesToBurn) := goodIn_app (goodIn_of _ (by decide +kernel)) ggL_law_L_minutesToBurn
set_option maxRecDepth 20000 in
theorem ggL_law_X3_minutesToBurn : GoodIn wsL_law wsX3_minutesToBurn := goodIn_r _ [540, 402, 403, 404, 5, 405, 83, 126, 127, 128, 129, 84, 85, 86, 87, 180, 181, 182, 183, 44, 88, 89, 90, 91, 791, 792, 793, 794, 795, 796, 797, 798, 799, 800, 801] (by decide +kernel) (by decide +kernel)
set_option maxRecDepth 20000 in
theorem gL_law_X3_minutesToBurn : GoodIn wsL_law (wsV RL 185 RX3 yX3_minutesToBurn wsX3_minutesToBurn) := goodIn_app (goodIn_of _ (by decide +kernel)) ggL_law_X3_minutesToBurn
set_option maxRecDepth 20000 in
theorem ggL_law_L_lookingFor : GoodIn wsL_law wsL_lookingFor := goodIn_ca (goodIn_r _ [543, 103, 544, 545, 546, 2, 547, 548, 138, 139, 140, 141, 16, 108, 109, 110, 111, 112, 113, 61, 142, 76, 77, 15, 78, 23, 26, 811, 812, 813, 814, 815, 816, 817, 818, 819, 820, 821, 789, 790, 802, 803, 804, 805, 806, 807, 808, 809, 810] (by decide +kernel) (by decide +kernel)) (goodIn_sub (fun _ h => List.mem_append_right _ h) (by decide +kernel))
set_option maxRecDepth 20000 in
theorem gL_law_L_lookingFor : GoodIn wsL_law (va_wsS RL 186 yL_lookingFor wsL_lookingFor) := goodIn_app (goodIn_of _ (by decide +kernel)) ggL_law_L_lookingFor
set_option maxRecDepth 20000 in
theorem ggL_law_X3_lookingFor : GoodIn wsL_law wsX3_lookingFor := goodIn_r _ [552, 402, 403, 404, 5, 405, 83, 126, 127, 128, 129, 84, 85, 86, 87, 180, 181, 182, 183, 44, 88, 89, 90, 91, 791, 792, 793, 794, 795, 796, 797, 798, 799, 800, 801] (by decide +kernel) (by decide +kernel)
set_option maxRecDepth 20000 in
theorem gL_law_X3_lookingFor : GoodIn wsL_law (wsV RL 188 RX3 yX3_lookingFor wsX3_lookingFor) := goodIn_app (goodIn_of _ (by decide +kernel)) ggL_law_X3_lookingFor
set_option maxRecDepth 20000 in
theorem ggL_law_L_sourceOf : GoodIn wsL_law wsL_sourceOf := goodIn_ca (goodIn_ca (goodIn_r _ [555, 103, 54, 556, 557, 558, 2, 559, 560, 266, 267, 268, 269, 59, 60, 270, 138, 139, 140, 141, 16, 108, 109, 110, 111, 112, 113, 61, 142, 76, 77, 15, 78, 23, 26, 811, 812, 813, 814, 815, 816, 817, 818, 819, 820, 821, 789, 790, 802, 803, 804, 805, 806, 807, 808, 809, 810] (by decide +kernel) (by decide +kernel)) (goodIn_sub (fun _ h => List.mem_append_left _ (List.mem_append_left _ (List.mem_append_right _ h))) (by decide +kernel))) (goodIn_sub (fun _ h => List.mem_append_right _ h) (by decide +kernel))
set_option maxRecDepth 20000 in
theorem gL_law_L_sourceOf : GoodIn wsL_law (va_wsS RL 189 yL_sourceOf wsL_sourceOf) := goodIn_app (goodIn_of _ (by decide +kernel)) ggL_law_L_sourceOf
set_option maxRecDepth 20000 in
theorem ggL_law_X3_sourceOf : GoodIn wsL_law wsX3_sourceOf := goodIn_r _ [564, 83, 126, 127, 128, 5, 129, 84, 85, 86, 87, 88, 89, 90, 91, 180, 181, 182, 183, 44, 791, 792, 793, 794, 795, 796, 797, 798, 799, 800, 801] (by decide +kernel) (by decide +kernel)
set_option maxRecDepth 20000 in
theorem gL_law_X3_sourceOf : GoodIn wsL_law (wsV RL 191 RX3 yX3_sourceOf wsX3_sourceOf) := goodIn_app (goodIn_of _ (by decide +kernel)) ggL_law_X3_sourceOf
set_option maxRecDepth 20000 in
theorem ggL_law_L_isMistaken : GoodIn wsL_law wsL_isMistaken := goodIn_ca (goodIn_r _ [567, 103, 568, 569, 570, 2, 571, 560, 138, 139, 140, 141, 16, 108, 109, 110, 111, 112, 113, 61, 142, 76, 77, 15, 78, 23, 26, 811, 812, 813, 814, 815, 816, 817, 818, 819, 820, 821, 789, 790, 802, 803, 804, 805, 806, 807, 808, 809, 810] (by decide +kernel) (by decide +kernel)) (goodIn_sub (fun _ h => List.mem_append_right _ h) (by decide +kernel))
set_option maxRecDepth 20000 in
theorem gL_law_L_isMistaken : GoodIn wsL_law (va_wsS RL 192 yL_isMistaken wsL_isMistaken) := goodIn_app (goodIn_of _ (by decide +kernel)) ggL_law_L_isMistaken
set_option maxRecDepth 20000 in
theorem ggL_law_X3_isMistaken : GoodIn wsL_law wsX3_isMistaken := goodIn_r _ [575, 83, 126, 127, 128, 5, 129, 84, 85, 86, 87, 180, 181, 182, 183, 44, 147, 148, 149, 150, 791, 792, 793, 794, 795, 796, 797, 798, 799, 800, 801] (by decide +kernel) (by decide +kernel)
set_option maxRecDepth 20000 in
theorem gL_law_X3_isMistaken : GoodIn wsL_law (wsV RL 194 RX3 yX3_isMistaken wsX3_isMistaken) := goodIn_app (goodIn_of _ (by decide +kernel)) ggL_law_X3_isMistaken
set_option maxRecDepth 20000 in
theorem ggL_law_L_answersTo : GoodIn wsL_law wsL_answersTo := goodIn_ca (goodIn_r _ [578, 103, 579, 580, 581, 2, 582, 583, 138, 139, 140, 141, 16, 108, 109, 110, 111, 112, 113, 61, 142, 76, 77, 15, 78, 23, 26, 811, 812, 813, 814, 815, 816, 817, 818, 819, 820, 821, 789, 790, 802, 803, 804, 805, 806, 807, 808, 809, 810] (by decide +kernel) (by decide +kernel)) (goodIn_sub (fun _ h => List.mem_append_right _ h) (by decide +kernel))
set_option maxRecDepth 20000 in
theorem gL_law_L_answersTo : GoodIn wsL_law (va_wsS RL 195 yL_answersTo wsL_answersTo) := goodIn_app (goodIn_of _ (by decide +kernel)) ggL_law_L_answersTo
set_option maxRecDepth 20000 in
theorem ggL_law_X3_answersTo : GoodIn wsL_law wsX3_answersTo := goodIn_r _ [587, 402, 403, 404, 5, 405, 83, 126, 127, 128, 129, 84, 85, 86, 87, 180, 181, 182, 183, 44, 88, 89, 90, 91, 791, 792, 793, 794, 795, 796, 797, 798, 799, 800, 801] (by decide +kernel) (by decide +kernel)
set_option maxRecDepth 20000 in
theorem gL_law_X3_answersTo : GoodIn wsL_law (wsV RL 197 RX3 yX3_answersTo wsX3_answersTo) := goodIn_app (goodIn_of _ (by decide +kernel)) ggL_law_X3_answersTo
set_option maxRecDepth 20000 in
theorem ggL_law_X2_hills : GoodIn wsL_law wsX2_hills := goodIn_r _ [591, 16, 61, 789, 790, 802, 803, 804, 805, 806, 807, 808, 809, 810] (by decide +kernel) (by decide +kernel)
set_option maxRecDepth 20000 in
theorem gL_law_X2_hills : GoodIn wsL_law (wsV RL 198 RX2 yX2_hills wsX2_hills) := goodIn_app (goodIn_of _ (by decide +kernel)) ggL_law_X2_hills
set_option maxRecDepth 20000 in
theorem ggL_law_X3_hills : GoodIn wsL_law wsX3_hills := goodIn_r _ [595, 84, 596, 597, 598, 5, 599, 83, 791, 792, 793, 794, 795, 796, 797, 798, 799, 800, 801] (by decide +kernel) (by decide +kernel)
set_option maxRecDepth 20000 in
theorem gL_law_X3_hills : GoodIn wsL_law (wsV RL 201 RX3 yX3_hills wsX3_hills) := goodIn_app (goodIn_of _ (by decide +kernel)) ggL_law_X3_hills
set_option maxRecDepth 20000 in
theorem ggL_law_X2_minute : GoodIn wsL_law wsX2_minute := goodIn_r _ [603, 16, 604, 789, 790, 802, 803, 804, 805, 806, 807, 808, 809, 810] (by decide +kernel) (by decide +kernel)
set_option maxRecDepth 20000 in
theorem gL_law_X2_minute : GoodIn wsL_law (wsV RL 202 RX2 yX2_minute wsX2_minute) := goodIn_app (goodIn_of _ (by decide +kernel)) ggL_law_X2_minute
set_option maxRecDepth 20000 in
theorem ggL_law_X3_minute : GoodIn wsL_law wsX3_minute := goodIn_r _ [608, 44, 596, 597, 598, 5, 599, 83, 791, 792, 793, 794, 795, 796, 797, 798, 799, 800, 801] (by decide +kernel) (by decide +kernel)
set_option maxRecDepth 20000 in
theorem gL_law_X3_minute : GoodIn wsL_law (wsV RL 205 RX3 yX3_minute wsX3_minute) := goodIn_app (goodIn_of _ (by decide +kernel)) ggL_law_X3_minute
set_option maxRecDepth 20000 in
theorem ggL_law_X2_haze : GoodIn wsL_law wsX2_haze := goodIn_r _ [612, 16, 203, 789, 790, 802, 803, 804, 805, 806, 807, 808, 809, 810] (by decide +kernel) (by decide +kernel)
set_option maxRecDepth 20000 in
theorem gL_law_X2_haze : GoodIn wsL_law (wsV RL 206 RX2 yX2_haze wsX2_haze) := goodIn_app (goodIn_of _ (by decide +kernel)) ggL_law_X2_haze
set_option maxRecDepth 20000 in
theorem ggL_law_X3_haze : GoodIn wsL_law wsX3_haze := goodIn_r _ [616, 44, 596, 597, 598, 5, 599, 83, 791, 792, 793, 794, 795, 796, 797, 798, 799, 800, 801] (by decide +kernel) (by decide +kernel)
set_option maxRecDepth 20000 in
theorem gL_law_X3_haze : GoodIn wsL_law (wsV RL 209 RX3 yX3_haze wsX3_haze) := goodIn_app (goodIn_of _ (by decide +kernel)) ggL_law_X3_haze
set_option maxRecDepth 20000 in
theorem ggL_law_X2_glowLeft : GoodIn wsL_law wsX2_glowLeft := goodIn_r _ [620, 16, 290, 789, 790, 802, 803, 804, 805, 806, 807, 808, 809, 810] (by decide +kernel) (by decide +kernel)
set_option maxRecDepth 20000 in
theorem gL_law_X2_glowLeft : GoodIn wsL_law (wsV RL 210 RX2 yX2_glowLeft wsX2_glowLeft) := goodIn_app (goodIn_of _ (by decide +kernel)) ggL_law_X2_glowLeft
set_option maxRecDepth 20000 in
theorem ggL_law_X3_glowLeft : GoodIn wsL_law wsX3_glowLeft := goodIn_r _ [624, 44, 596, 597, 598, 5, 599, 83, 791, 792, 793, 794, 795, 796, 797, 798, 799, 800, 801] (by decide +kernel) (by decide +kernel)
set_option maxRecDepth 20000 in
theorem gL_law_X3_glowLeft : GoodIn wsL_law (wsV RL 213 RX3 yX3_glowLeft wsX3_glowLeft) := goodIn_app (goodIn_of _ (by decide +kernel)) ggL_law_X3_glowLeft
set_option maxRecDepth 20000 in
theorem ggL_law_X2_burningHills : GoodIn wsL_law wsX2_burningHills := goodIn_r _ [628, 16, 629, 630, 631, 15, 632, 71, 317, 75, 76, 77, 78, 23, 26, 789, 790, 802, 803, 804, 805, 806, 807, 808, 809, 810, 811, 812, 813, 814, 815, 816, 817, 818, 819, 820, 821] (by decide +kernel) (by decide +kernel)
set_option maxRecDepth 20000 in
theorem gL_law_X2_burningHills : GoodIn wsL_law (wsV RL 214 RX2 yX2_burningHills wsX2_burningHills) := goodIn_app (goodIn_of _ (by decide +kernel)) ggL_law_X2_burningHills
set_option maxRecDepth 20000 in
theorem ggL_law_X3_burningHills : GoodIn wsL_law wsX3_burningHills := goodIn_r _ [636, 637, 638, 639, 5, 640, 84, 180, 181, 182, 183, 44, 596, 597, 598, 599, 83, 791, 792, 793, 794, 795, 796, 797, 798, 799, 800, 801] (by decide +kernel) (by decide +kernel)
set_option maxRecDepth 20000 in
theorem gL_law_X3_burningHills : GoodIn wsL_law (wsV RL 217 RX3 yX3_burningHills wsX3_burningHills) := goodIn_app (goodIn_of _ (by decide +kernel)) ggL_law_X3_burningHills
set_option maxRecDepth 20000 in
theorem ggL_law_X2_timesLit : GoodIn wsL_law wsX2_timesLit := goodIn_r _ [644, 16, 302, 789, 790, 802, 803, 804, 805, 806, 807, 808, 809, 810] (by decide +kernel) (by decide +kernel)
set_option maxRecDepth 20000 in
theorem gL_law_X2_timesLit : GoodIn wsL_law (wsV RL 218 RX2 yX2_timesLit wsX2_timesLit) := goodIn_app (goodIn_of _ (by decide +kernel)) ggL_law_X2_timesLit
set_option maxRecDepth 20000 in
theorem ggL_law_X3_timesLit : GoodIn wsL_law wsX3_timesLit := goodIn_r _ [648, 44, 596, 597, 598, 5, 599, 83, 791, 792, 793, 794, 795, 796, 797, 798, 799, 800, 801] (by decide +kernel) (by decide +kernel)
set_option maxRecDepth 20000 in
theorem gL_law_X3_timesLit : GoodIn wsL_law (wsV RL 221 RX3 yX3_timesLit wsX3_timesLit) := goodIn_app (goodIn_of _ (by decide +kernel)) ggL_law_X3_timesLit
set_option maxRecDepth 20000 in
theorem ggL_law_X2_timesMistaken : GoodIn wsL_law wsX2_timesMistaken := goodIn_r _ [652, 16, 653, 789, 790, 802, 803, 804, 805, 806, 807, 808, 809, 810] (by decide +kernel) (by decide +kernel)
set_option maxRecDepth 20000 in
theorem gL_law_X2_timesMistaken : GoodIn wsL_law (wsV RL 222 RX2 yX2_timesMistaken wsX2_timesMistaken) := goodIn_app (goodIn_of _ (by decide +kernel)) ggL_law_X2_timesMistaken
set_option maxRecDepth 20000 in
theorem ggL_law_X3_timesMistaken : GoodIn wsL_law wsX3_timesMistaken := goodIn_r _ [657, 44, 596, 597, 598, 5, 599, 83, 791, 792, 793, 794, 795, 796, 797, 798, 799, 800, 801] (by decide +kernel) (by decide +kernel)
set_option maxRecDepth 20000 in
theorem gL_law_X3_timesMistaken : GoodIn wsL_law (wsV RL 225 RX3 yX3_timesMistaken wsX3_timesMistaken) := goodIn_app (goodIn_of _ (by decide +kernel)) ggL_law_X3_timesMistaken
set_option maxRecDepth 20000 in
theorem ggL_law_L_minutesUntilBurning : GoodIn wsL_law wsL_minutesUntilBurning := goodIn_ca (goodIn_r _ [660, 103, 661, 662, 663, 2, 664, 17, 16, 270, 108, 109, 110, 111, 112, 113, 61, 665, 666, 667, 15, 668, 71, 339, 311, 312, 234, 235, 75, 76, 77, 78, 23, 26, 669, 670, 671, 25, 672, 224, 241, 673, 674, 675, 32, 242, 240, 34, 676, 334, 115, 116, 117, 28, 677, 119, 120, 121, 142, 678, 308, 309, 310, 313, 314, 315, 316, 317, 318, 319, 320, 321, 322, 323, 324, 221, 222, 223, 325, 326, 327, 328, 329, 330, 331, 332, 333, 335, 336, 337, 338, 340, 341, 342, 343, 74, 344, 345, 346, 347, 348, 230, 231, 232, 233, 236, 237, 238, 239, 349, 350, 351, 352, 353, 354, 355, 356, 357, 358, 229, 359, 360, 361, 362, 363, 364, 365, 366, 367, 272, 273, 274, 789, 790, 811, 812, 813, 814, 815, 816, 817, 818, 819, 820, 821, 802, 803, 804, 805, 806, 807, 808, 809, 810] (by decide +kernel) (by decide +kernel)) (goodIn_sub (fun _ h => List.mem_append_right _ h) (by decide +kernel))
set_option maxRecDepth 20000 in
theorem gL_law_L_minutesUntilBurning : GoodIn wsL_law (va_wsS RL 226 yL_minutesUntilBurning wsL_minutesUntilBurning) := goodIn_app (goodIn_of _ (by decide +kernel)) ggL_law_L_minutesUntilBurning
set_option maxRecDepth 20000 in
theorem ggL_law_X3_minutesUntilBurning : GoodIn wsL_law wsX3_minutesUntilBurning := goodIn_r _ [682, 83, 126, 127, 128, 5, 129, 84, 85, 86, 87, 88, 89, 90, 91, 683, 684, 685, 686, 44, 45, 687, 688, 689, 690, 180, 181, 182, 183, 372, 373, 374, 375, 46, 42, 376, 377, 173, 378, 379, 380, 381, 382, 41, 39, 383, 384, 385, 386, 43, 387, 388, 389, 390, 92, 93, 94, 95, 255, 256, 257, 258, 279, 280, 281, 282, 691, 692, 693, 694, 791, 792, 793, 794, 795, 796, 797, 798, 799, 800, 801] (by decide +kernel) (by decide +kernel)
set_option maxRecDepth 20000 in
theorem gL_law_X3_minutesUntilBurning : GoodIn wsL_law (wsV RL 228 RX3 yX3_minutesUntilBurning wsX3_minutesUntilBurning) := goodIn_app (goodIn_of _ (by decide +kernel)) ggL_law_X3_minutesUntilBurning
set_option maxRecDepth 20000 in
theorem ggL_law_L_burningAfter : GoodIn wsL_law wsL_burningAfter := goodIn_ca (goodIn_r _ [697, 53, 698, 699, 700, 2, 701, 17, 16, 62, 63, 64, 65, 66, 665, 666, 667, 15, 668, 71, 339, 311, 312, 234, 235, 75, 76, 77, 78, 23, 26, 669, 670, 671, 25, 672, 224, 241, 673, 674, 675, 32, 242, 240, 34, 676, 334, 115, 116, 117, 28, 677, 119, 120, 121, 303, 304, 305, 306, 307, 308, 309, 310, 313, 314, 315, 316, 317, 318, 319, 320, 321, 322, 323, 324, 221, 222, 223, 325, 326, 327, 328, 329, 330, 331, 332, 333, 335, 336, 337, 338, 340, 341, 342, 343, 74, 344, 345, 346, 347, 348, 230, 231, 232, 233, 236, 237, 238, 239, 349, 350, 351, 352, 353, 354, 355, 356, 357, 358, 229, 359, 360, 361, 362, 363, 364, 365, 366, 367, 272, 273, 274, 629, 630, 631, 632, 789, 790, 802, 803, 804, 805, 806, 807, 808, 809, 810, 811, 812, 813, 814, 815, 816, 817, 818, 819, 820, 821] (by decide +kernel) (by decide +kernel)) (goodIn_sub (fun _ h => List.mem_append_left _ (List.mem_append_right _ h)) (by decide +kernel))
set_option maxRecDepth 20000 in
theorem gL_law_L_burningAfter : GoodIn wsL_law (va_wsS RL 229 yL_burningAfter wsL_burningAfter) := goodIn_app (goodIn_of _ (by decide +kernel)) ggL_law_L_burningAfter
set_option maxRecDepth 20000 in
theorem ggL_law_X3_burningAfter : GoodIn wsL_law wsX3_burningAfter := goodIn_r _ [705, 83, 85, 86, 5, 87, 88, 89, 90, 91, 683, 684, 685, 686, 44, 45, 687, 688, 689, 690, 372, 373, 374, 375, 84, 46, 42, 376, 377, 173, 378, 180, 181, 182, 183, 379, 380, 381, 382, 41, 39, 383, 384, 385, 386, 43, 387, 388, 389, 390, 92, 93, 94, 95, 255, 256, 257, 258, 279, 280, 281, 282, 637, 638, 639, 640, 691, 692, 693, 694, 791, 792, 793, 794, 795, 796, 797, 798, 799, 800, 801] (by decide +kernel) (by decide +kernel)
set_option maxRecDepth 20000 in
theorem gL_law_X3_burningAfter : GoodIn wsL_law (wsV RL 231 RX3 yX3_burningAfter wsX3_burningAfter) := goodIn_app (goodIn_of _ (by decide +kernel)) ggL_law_X3_burningAfter
set_option maxRecDepth 20000 in
theorem ggL_law_L_reachOf : GoodIn wsL_law wsL_reachOf := goodIn_ca (goodIn_ca (goodIn_r _ [708, 103, 54, 709, 710, 711, 2, 712, 216, 217, 218, 219, 59, 60, 138, 139, 140, 141, 16, 108, 109, 110, 111, 112, 113, 61, 142, 76, 77, 15, 78, 23, 26, 220, 221, 222, 25, 223, 32, 224, 713, 714, 715, 716, 17, 665, 666, 667, 668, 71, 339, 311, 312, 234, 235, 75, 669, 670, 671, 672, 241, 673, 674, 675, 242, 240, 34, 676, 334, 115, 116, 117, 28, 677, 119, 120, 121, 225, 226, 227, 228, 229, 230, 231, 232, 233, 236, 237, 238, 239, 678, 308, 309, 310, 313, 314, 315, 316, 317, 318, 319, 320, 321, 322, 323, 324, 325, 326, 327, 328, 329, 330, 331, 332, 333, 335, 336, 337, 338, 340, 341, 342, 343, 74, 344, 345, 346, 347, 348, 349, 350, 351, 352, 353, 354, 355, 356, 357, 358, 359, 360, 361, 362, 363, 364, 365, 366, 367, 272, 273, 274, 717, 718, 719, 720, 721, 722, 723, 724, 725, 726, 727, 789, 790, 802, 803, 804, 805, 806, 807, 808, 809, 810, 811, 812, 813, 814, 815, 816, 817, 818, 819, 820, 821] (by decide +kernel) (by decide +kernel)) (goodIn_sub (fun _ h => List.mem_append_left _ (List.mem_append_left _ (List.mem_append_right _ h))) (by decide +kernel))) (goodIn_sub (fun _ h => List.mem_append_right _ h) (by decide +kernel))
set_option maxRecDepth 20000 in
theorem gL_law_L_reachOf : GoodIn wsL_law (va_wsS RL 232 yL_reachOf wsL_reachOf) := goodIn_app (goodIn_of _ (by decide +kernel)) ggL_law_L_reachOf
set_option maxRecDepth 20000 in
theorem ggL_law_X3_reachOf : GoodIn wsL_law wsX3_reachOf := goodIn_r _ [731, 247, 248, 249, 5, 250, 83, 126, 127, 128, 129, 84, 85, 86, 87, 180, 181, 182, 183, 44, 732, 733, 734, 735, 683, 684, 685, 686, 45, 687, 688, 689, 690, 251, 252, 253, 254, 92, 93, 94, 95, 255, 256, 257, 258, 372, 373, 374, 375, 46, 42, 376, 377, 173, 378, 379, 380, 381, 382, 41, 39, 383, 384, 385, 386, 43, 387, 388, 389, 390, 279, 280, 281, 282, 691, 692, 693, 694, 791, 792, 793, 794, 795, 796, 797, 798, 799, 800, 801] (by decide +kernel) (by decide +kernel)
set_option maxRecDepth 20000 in
theorem gL_law_X3_reachOf : GoodIn wsL_law (wsV RL 234 RX3 yX3_reachOf wsX3_reachOf) := goodIn_app (goodIn_of _ (by decide +kernel)) ggL_law_X3_reachOf
set_option maxRecDepth 20000 in
theorem ggL_law_X2_bestHill : GoodIn wsL_law wsX2_bestHill := goodIn_r _ [739, 16, 61, 142, 76, 77, 15, 78, 23, 26, 220, 221, 222, 25, 223, 32, 224, 713, 714, 715, 2, 716, 17, 665, 666, 667, 668, 71, 339, 311, 312, 234, 235, 75, 669, 670, 671, 672, 241, 673, 674, 675, 242, 240, 34, 676, 334, 115, 116, 117, 28, 677, 119, 120, 121, 225, 226, 227, 228, 229, 230, 231, 232, 233, 236, 237, 238, 239, 678, 308, 309, 310, 313, 314, 315, 316, 317, 318, 319, 320, 321, 322, 323, 324, 325, 326, 327, 328, 329, 330, 331, 332, 333, 335, 336, 337, 338, 340, 341, 342, 343, 74, 344, 345, 346, 347, 348, 349, 350, 351, 352, 353, 354, 355, 356, 357, 358, 359, 360, 361, 362, 363, 364, 365, 366, 367, 272, 273, 274, 717, 718, 719, 720, 721, 722, 723, 724, 725, 726, 727, 789, 790, 802, 803, 804, 805, 806, 807, 808, 809, 810, 811, 812, 813, 814, 815, 816, 817, 818, 819, 820, 821] (by decide +kernel) (by decide +kernel)
set_option maxRecDepth 20000 in
theorem gL_law_X2_bestHill : GoodIn wsL_law (wsV RL 235 RX2 yX2_bestHill wsX2_bestHill) := goodIn_app (goodIn_of _ (by decide +kernel)) ggL_law_X2_bestHill
set_option maxRecDepth 20000 in
theorem ggL_law_X3_bestHill : GoodIn wsL_law wsX3_bestHill := goodIn_r _ [743, 83, 84, 180, 181, 182, 5, 183, 44, 732, 733, 734, 735, 683, 684, 685, 686, 45, 687, 688, 689, 690, 251, 252, 253, 254, 92, 93, 94, 95, 255, 256, 257, 258, 372, 373, 374, 375, 46, 42, 376, 377, 173, 378, 379, 380, 381, 382, 41, 39, 383, 384, 385, 386, 43, 387, 388, 389, 390, 279, 280, 281, 282, 691, 692, 693, 694, 791, 792, 793, 794, 795, 796, 797, 798, 799, 800, 801] (by decide +kernel) (by decide +kernel)
set_option maxRecDepth 20000 in
theorem gL_law_X3_bestHill : GoodIn wsL_law (wsV RL 238 RX3 yX3_bestHill wsX3_bestHill) := goodIn_app (goodIn_of _ (by decide +kernel)) ggL_law_X3_bestHill
set_option maxRecDepth 20000 in
theorem ggL_law_X2_meanWood : GoodIn wsL_law wsX2_meanWood := goodIn_r _ [747, 16, 61, 748, 749, 750, 15, 751, 71, 72, 75, 76, 77, 78, 23, 26, 789, 790, 802, 803, 804, 805, 806, 807, 808, 809, 810, 811, 812, 813, 814, 815, 816, 817, 818, 819, 820, 821] (by decide +kernel) (by decide +kernel)
set_option maxRecDepth 20000 in
theorem gL_law_X2_meanWood : GoodIn wsL_law (wsV RL 239 RX2 yX2_meanWood wsX2_meanWood) := goodIn_app (goodIn_of _ (by decide +kernel)) ggL_law_X2_meanWood
set_option maxRecDepth 20000 in
theorem ggL_law_X3_meanWood : GoodIn wsL_law wsX3_meanWood := goodIn_r _ [755, 83, 84, 180, 181, 182, 5, 183, 44, 791, 792, 793, 794, 795, 796, 797, 798, 799, 800, 801] (by decide +kernel) (by decide +kernel)
set_option maxRecDepth 20000 in
theorem gL_law_X3_meanWood : GoodIn wsL_law (wsV RL 243 RX3 yX3_meanWood wsX3_meanWood) := goodIn_app (goodIn_of _ (by decide +kernel)) ggL_law_X3_meanWood
set_option maxRecDepth 20000 in
theorem ggL_law_X2_digest : GoodIn wsL_law wsX2_digest := goodIn_r _ [759, 760, 761, 762, 763, 2, 764, 16, 61, 604, 203, 290, 302, 653, 765, 766, 767, 768, 629, 630, 631, 15, 632, 71, 317, 75, 76, 77, 78, 23, 26, 769, 770, 771, 772, 142, 773, 774, 775, 170, 191, 424, 137, 158, 270, 215, 548, 560, 583, 776, 777, 778, 779, 780, 781, 782, 114, 115, 116, 117, 28, 473, 474, 475, 476, 334, 335, 336, 337, 338, 339, 789, 790, 802, 803, 804, 805, 806, 807, 808, 809, 810, 811, 812, 813, 814, 815, 816, 817, 818, 819, 820, 821] (by decide +kernel) (by decide +kernel)
set_option maxRecDepth 20000 in
theorem gL_law_X2_digest : GoodIn wsL_law (wsV RL 244 RX2 yX2_digest wsX2_digest) := goodIn_app (goodIn_of _ (by decide +kernel)) ggL_law_X2_digest
set_option maxRecDepth 20000 in
theorem ggL_law_X3_digest : GoodIn wsL_law wsX3_digest := goodIn_r _ [786, 83, 27, 84, 44, 787, 788, 39, 41, 42, 43, 637, 638, 639, 5, 640, 180, 181, 182, 183, 387, 388, 389, 390, 791, 792, 793, 794, 795, 796, 797, 798, 799, 800, 801] (by decide +kernel) (by decide +kernel)
set_option maxRecDepth 20000 in
theorem gL_law_X3_digest : GoodIn wsL_law (wsV RL 248 RX3 yX3_digest wsX3_digest) := goodIn_app (goodIn_of _ (by decide +kernel)) ggL_law_X3_digest
theorem dL_law_0 : decode cL_law 0 = .ok (.new 8, 3) := by decide +kernel
theorem dL_law_3 : decode cL_law 3 = .ok (.dup, 1) := by decide +kernel
theorem dL_law_4 : decode cL_law 4 = .ok (.invokespecial 107, 3) := by decide +kernel
theorem dL_law_7 : decode cL_law 7 = .ok (.astore_n 1, 1) := by decide +kernel
theorem dL_law_8 : decode cL_law 8 = .ok (.new 108, 3) := by decide +kernel
theorem dL_law_11 : decode cL_law 11 = .ok (.dup, 1) := by decide +kernel
theorem dL_law_12 : decode cL_law 12 = .ok (.invokespecial 110, 3) := by decide +kernel
theorem dL_law_15 : decode cL_law 15 = .ok (.astore_n 2, 1) := by decide +kernel
theorem dL_law_16 : decode cL_law 16 = .ok (.iconst 1, 1) := by decide +kernel
theorem dL_law_17 : decode cL_law 17 = .ok (.newarray .long, 2) := by decide +kernel
theorem dL_law_19 : decode cL_law 19 = .ok (.astore_n 3, 1) := by decide +kernel
theorem dL_law_20 : decode cL_law 20 = .ok (.iconst 0, 1) := by decide +kernel
theorem dL_law_21 : decode cL_law 21 = .ok (.istore 4, 2) := by decide +kernel
theorem dL_law_23 : decode cL_law 23 = .ok (.iload 4, 2) := by decide +kernel
theorem dL_law_25 : decode cL_law 25 = .ok (.aload_n 0, 1) := by decide +kernel
theorem dL_law_26 : decode cL_law 26 = .ok (.arraylength, 1) := by decide +kernel
theorem dL_law_27 : decode cL_law 27 = .ok (.iconst 4, 1) := by decide +kernel
theorem dL_law_28 : decode cL_law 28 = .ok (.isub, 1) := by decide +kernel
theorem dL_law_29 : decode cL_law 29 = .ok (.if_icmp .gt 2132, 3) := by decide +kernel
theorem dL_law_32 : decode cL_law 32 = .ok (.aload_n 0, 1) := by decide +kernel
theorem dL_law_33 : decode cL_law 33 = .ok (.iload 4, 2) := by decide +kernel
theorem dL_law_35 : decode cL_law 35 = .ok (.iaload, 1) := by decide +kernel
theorem dL_law_36 : decode cL_law 36 = .ok (.bipush 63, 2) := by decide +kernel
theorem dL_law_38 : decode cL_law 38 = .ok (.iand, 1) := by decide +kernel
theorem dL_law_39 : decode cL_law 39 = .ok (.tableswitch 2116 0 38 #[169, 249, 329, 392, 455, 523, 591, 647, 703, 759, 815, 871, 927, 983, 1039, 1102, 1165, 1233, 1308, 1376, 1439, 1502, 1558, 1614, 1670, 1733, 1789, 1802, 1815, 1828, 1841, 1854, 1867, 1880, 1936, 1992, 2048, 2061, 2102], 169) := by decide +kernel
theorem dL_law_208 : decode cL_law 208 = .ok (.aload_n 1, 1) := by decide +kernel
theorem dL_law_209 : decode cL_law 209 = .ok (.aload_n 0, 1) := by decide +kernel
theorem dL_law_210 : decode cL_law 210 = .ok (.iload 4, 2) := by decide +kernel
theorem dL_law_212 : decode cL_law 212 = .ok (.iconst 1, 1) := by decide +kernel
theorem dL_law_213 : decode cL_law 213 = .ok (.iadd, 1) := by decide +kernel
theorem dL_law_214 : decode cL_law 214 = .ok (.iaload, 1) := by decide +kernel
theorem dL_law_215 : decode cL_law 215 = .ok (.aload_n 0, 1) := by decide +kernel
theorem dL_law_216 : decode cL_law 216 = .ok (.iload 4, 2) := by decide +kernel
theorem dL_law_218 : decode cL_law 218 = .ok (.iconst 2, 1) := by decide +kernel
theorem dL_law_219 : decode cL_law 219 = .ok (.iadd, 1) := by decide +kernel
theorem dL_law_220 : decode cL_law 220 = .ok (.iaload, 1) := by decide +kernel
theorem dL_law_221 : decode cL_law 221 = .ok (.aload_n 0, 1) := by decide +kernel
theorem dL_law_222 : decode cL_law 222 = .ok (.iload 4, 2) := by decide +kernel
theorem dL_law_224 : decode cL_law 224 = .ok (.iconst 3, 1) := by decide +kernel
theorem dL_law_225 : decode cL_law 225 = .ok (.iadd, 1) := by decide +kernel
theorem dL_law_226 : decode cL_law 226 = .ok (.iaload, 1) := by decide +kernel
theorem dL_law_227 : decode cL_law 227 = .ok (.aload_n 3, 1) := by decide +kernel
theorem dL_law_228 : decode cL_law 228 = .ok (.invokestatic 111, 3) := by decide +kernel
theorem dL_law_231 : decode cL_law 231 = .ok (.istore 5, 2) := by decide +kernel
theorem dL_law_233 : decode cL_law 233 = .ok (.aload_n 2, 1) := by decide +kernel
theorem dL_law_234 : decode cL_law 234 = .ok (.aload_n 0, 1) := by decide +kernel
theorem dL_law_235 : decode cL_law 235 = .ok (.iload 4, 2) := by decide +kernel
theorem dL_law_237 : decode cL_law 237 = .ok (.iconst 1, 1) := by decide +kernel
theorem dL_law_238 : decode cL_law 238 = .ok (.iadd, 1) := by decide +kernel
theorem dL_law_239 : decode cL_law 239 = .ok (.iaload, 1) := by decide +kernel
theorem dL_law_240 : decode cL_law 240 = .ok (.aload_n 0, 1) := by decide +kernel
theorem dL_law_241 : decode cL_law 241 = .ok (.iload 4, 2) := by decide +kernel
theorem dL_law_243 : decode cL_law 243 = .ok (.iconst 2, 1) := by decide +kernel
theorem dL_law_244 : decode cL_law 244 = .ok (.iadd, 1) := by decide +kernel
theorem dL_law_245 : decode cL_law 245 = .ok (.iaload, 1) := by decide +kernel
theorem dL_law_246 : decode cL_law 246 = .ok (.aload_n 0, 1) := by decide +kernel
theorem dL_law_247 : decode cL_law 247 = .ok (.iload 4, 2) := by decide +kernel
theorem dL_law_249 : decode cL_law 249 = .ok (.iconst 3, 1) := by decide +kernel
theorem dL_law_250 : decode cL_law 250 = .ok (.iadd, 1) := by decide +kernel
theorem dL_law_251 : decode cL_law 251 = .ok (.iaload, 1) := by decide +kernel
theorem dL_law_252 : decode cL_law 252 = .ok (.invokevirtual 116, 3) := by decide +kernel
theorem dL_law_255 : decode cL_law 255 = .ok (.istore 6, 2) := by decide +kernel
theorem dL_law_257 : decode cL_law 257 = .ok (.aload_n 2, 1) := by decide +kernel
theorem dL_law_258 : decode cL_law 258 = .ok (.invokevirtual 117, 3) := by decide +kernel
theorem dL_law_261 : decode cL_law 261 = .ok (.iload 5, 2) := by decide +kernel
theorem dL_law_263 : decode cL_law 263 = .ok (.if_icmp .eq 5, 3) := by decide +kernel
theorem dL_law_266 : decode cL_law 266 = .ok (.iconst 0, 1) := by decide +kernel
theorem dL_law_267 : decode cL_law 267 = .ok (.ireturn, 1) := by decide +kernel
theorem dL_law_268 : decode cL_law 268 = .ok (.iload 5, 2) := by decide +kernel
theorem dL_law_270 : decode cL_law 270 = .ok (.ifCond .ne 15, 3) := by decide +kernel
theorem dL_law_273 : decode cL_law 273 = .ok (.aload_n 3, 1) := by decide +kernel
theorem dL_law_274 : decode cL_law 274 = .ok (.iconst 0, 1) := by decide +kernel
theorem dL_law_275 : decode cL_law 275 = .ok (.laload, 1) := by decide +kernel
theorem dL_law_276 : decode cL_law 276 = .ok (.iload 6, 2) := by decide +kernel
theorem dL_law_278 : decode cL_law 278 = .ok (.i2l, 1) := by decide +kernel
theorem dL_law_279 : decode cL_law 279 = .ok (.lcmp, 1) := by decide +kernel
theorem dL_law_280 : decode cL_law 280 = .ok (.ifCond .eq 5, 3) := by decide +kernel
theorem dL_law_283 : decode cL_law 283 = .ok (.iconst 0, 1) := by decide +kernel
theorem dL_law_284 : decode cL_law 284 = .ok (.ireturn, 1) := by decide +kernel
theorem dL_law_285 : decode cL_law 285 = .ok (.goto 1870, 3) := by decide +kernel
theorem dL_law_288 : decode cL_law 288 = .ok (.aload_n 1, 1) := by decide +kernel
theorem dL_law_289 : decode cL_law 289 = .ok (.aload_n 0, 1) := by decide +kernel
theorem dL_law_290 : decode cL_law 290 = .ok (.iload 4, 2) := by decide +kernel
theorem dL_law_292 : decode cL_law 292 = .ok (.iconst 1, 1) := by decide +kernel
theorem dL_law_293 : decode cL_law 293 = .ok (.iadd, 1) := by decide +kernel
theorem dL_law_294 : decode cL_law 294 = .ok (.iaload, 1) := by decide +kernel
theorem dL_law_295 : decode cL_law 295 = .ok (.aload_n 0, 1) := by decide +kernel
theorem dL_law_296 : decode cL_law 296 = .ok (.iload 4, 2) := by decide +kernel
theorem dL_law_298 : decode cL_law 298 = .ok (.iconst 2, 1) := by decide +kernel
theorem dL_law_299 : decode cL_law 299 = .ok (.iadd, 1) := by decide +kernel
theorem dL_law_300 : decode cL_law 300 = .ok (.iaload, 1) := by decide +kernel
theorem dL_law_301 : decode cL_law 301 = .ok (.aload_n 0, 1) := by decide +kernel
theorem dL_law_302 : decode cL_law 302 = .ok (.iload 4, 2) := by decide +kernel
theorem dL_law_304 : decode cL_law 304 = .ok (.iconst 3, 1) := by decide +kernel
theorem dL_law_305 : decode cL_law 305 = .ok (.iadd, 1) := by decide +kernel
theorem dL_law_306 : decode cL_law 306 = .ok (.iaload, 1) := by decide +kernel
theorem dL_law_307 : decode cL_law 307 = .ok (.aload_n 3, 1) := by decide +kernel
theorem dL_law_308 : decode cL_law 308 = .ok (.invokestatic 121, 3) := by decide +kernel
theorem dL_law_311 : decode cL_law 311 = .ok (.istore 5, 2) := by decide +kernel
theorem dL_law_313 : decode cL_law 313 = .ok (.aload_n 2, 1) := by decide +kernel
theorem dL_law_314 : decode cL_law 314 = .ok (.aload_n 0, 1) := by decide +kernel
theorem dL_law_315 : decode cL_law 315 = .ok (.iload 4, 2) := by decide +kernel
theorem dL_law_317 : decode cL_law 317 = .ok (.iconst 1, 1) := by decide +kernel
theorem dL_law_318 : decode cL_law 318 = .ok (.iadd, 1) := by decide +kernel
theorem dL_law_319 : decode cL_law 319 = .ok (.iaload, 1) := by decide +kernel
theorem dL_law_320 : decode cL_law 320 = .ok (.aload_n 0, 1) := by decide +kernel
theorem dL_law_321 : decode cL_law 321 = .ok (.iload 4, 2) := by decide +kernel
theorem dL_law_323 : decode cL_law 323 = .ok (.iconst 2, 1) := by decide +kernel
theorem dL_law_324 : decode cL_law 324 = .ok (.iadd, 1) := by decide +kernel
theorem dL_law_325 : decode cL_law 325 = .ok (.iaload, 1) := by decide +kernel
theorem dL_law_326 : decode cL_law 326 = .ok (.aload_n 0, 1) := by decide +kernel
theorem dL_law_327 : decode cL_law 327 = .ok (.iload 4, 2) := by decide +kernel
theorem dL_law_329 : decode cL_law 329 = .ok (.iconst 3, 1) := by decide +kernel
theorem dL_law_330 : decode cL_law 330 = .ok (.iadd, 1) := by decide +kernel
theorem dL_law_331 : decode cL_law 331 = .ok (.iaload, 1) := by decide +kernel
theorem dL_law_332 : decode cL_law 332 = .ok (.invokevirtual 123, 3) := by decide +kernel
theorem dL_law_335 : decode cL_law 335 = .ok (.istore 6, 2) := by decide +kernel
theorem dL_law_337 : decode cL_law 337 = .ok (.aload_n 2, 1) := by decide +kernel
theorem dL_law_338 : decode cL_law 338 = .ok (.invokevirtual 117, 3) := by decide +kernel
theorem dL_law_341 : decode cL_law 341 = .ok (.iload 5, 2) := by decide +kernel
theorem dL_law_343 : decode cL_law 343 = .ok (.if_icmp .eq 5, 3) := by decide +kernel
theorem dL_law_346 : decode cL_law 346 = .ok (.iconst 0, 1) := by decide +kernel
theorem dL_law_347 : decode cL_law 347 = .ok (.ireturn, 1) := by decide +kernel
theorem dL_law_348 : decode cL_law 348 = .ok (.iload 5, 2) := by decide +kernel
theorem dL_law_350 : decode cL_law 350 = .ok (.ifCond .ne 15, 3) := by decide +kernel
theorem dL_law_353 : decode cL_law 353 = .ok (.aload_n 3, 1) := by decide +kernel
theorem dL_law_354 : decode cL_law 354 = .ok (.iconst 0, 1) := by decide +kernel
theorem dL_law_355 : decode cL_law 355 = .ok (.laload, 1) := by decide +kernel
theorem dL_law_356 : decode cL_law 356 = .ok (.iload 6, 2) := by decide +kernel
theorem dL_law_358 : decode cL_law 358 = .ok (.i2l, 1) := by decide +kernel
theorem dL_law_359 : decode cL_law 359 = .ok (.lcmp, 1) := by decide +kernel
theorem dL_law_360 : decode cL_law 360 = .ok (.ifCond .eq 5, 3) := by decide +kernel
theorem dL_law_363 : decode cL_law 363 = .ok (.iconst 0, 1) := by decide +kernel
theorem dL_law_364 : decode cL_law 364 = .ok (.ireturn, 1) := by decide +kernel
theorem dL_law_365 : decode cL_law 365 = .ok (.goto 1790, 3) := by decide +kernel
theorem dL_law_368 : decode cL_law 368 = .ok (.aload_n 1, 1) := by decide +kernel
theorem dL_law_369 : decode cL_law 369 = .ok (.aload_n 0, 1) := by decide +kernel
theorem dL_law_370 : decode cL_law 370 = .ok (.iload 4, 2) := by decide +kernel
theorem dL_law_372 : decode cL_law 372 = .ok (.iconst 1, 1) := by decide +kernel
theorem dL_law_373 : decode cL_law 373 = .ok (.iadd, 1) := by decide +kernel
theorem dL_law_374 : decode cL_law 374 = .ok (.iaload, 1) := by decide +kernel
theorem dL_law_375 : decode cL_law 375 = .ok (.aload_n 3, 1) := by decide +kernel
theorem dL_law_376 : decode cL_law 376 = .ok (.invokestatic 124, 3) := by decide +kernel
theorem dL_law_379 : decode cL_law 379 = .ok (.istore 5, 2) := by decide +kernel
theorem dL_law_381 : decode cL_law 381 = .ok (.aload_n 2, 1) := by decide +kernel
theorem dL_law_382 : decode cL_law 382 = .ok (.aload_n 0, 1) := by decide +kernel
theorem dL_law_383 : decode cL_law 383 = .ok (.iload 4, 2) := by decide +kernel
theorem dL_law_385 : decode cL_law 385 = .ok (.iconst 1, 1) := by decide +kernel
theorem dL_law_386 : decode cL_law 386 = .ok (.iadd, 1) := by decide +kernel
theorem dL_law_387 : decode cL_law 387 = .ok (.iaload, 1) := by decide +kernel
theorem dL_law_388 : decode cL_law 388 = .ok (.invokevirtual 127, 3) := by decide +kernel
theorem dL_law_391 : decode cL_law 391 = .ok (.istore 6, 2) := by decide +kernel
theorem dL_law_393 : decode cL_law 393 = .ok (.aload_n 2, 1) := by decide +kernel
theorem dL_law_394 : decode cL_law 394 = .ok (.invokevirtual 117, 3) := by decide +kernel
theorem dL_law_397 : decode cL_law 397 = .ok (.iload 5, 2) := by decide +kernel
theorem dL_law_399 : decode cL_law 399 = .ok (.if_icmp .eq 5, 3) := by decide +kernel
theorem dL_law_402 : decode cL_law 402 = .ok (.iconst 0, 1) := by decide +kernel
theorem dL_law_403 : decode cL_law 403 = .ok (.ireturn, 1) := by decide +kernel
theorem dL_law_404 : decode cL_law 404 = .ok (.iload 5, 2) := by decide +kernel
theorem dL_law_406 : decode cL_law 406 = .ok (.ifCond .ne 22, 3) := by decide +kernel
theorem dL_law_409 : decode cL_law 409 = .ok (.aload_n 3, 1) := by decide +kernel
theorem dL_law_410 : decode cL_law 410 = .ok (.iconst 0, 1) := by decide +kernel
theorem dL_law_411 : decode cL_law 411 = .ok (.laload, 1) := by decide +kernel
theorem dL_law_412 : decode cL_law 412 = .ok (.iload 6, 2) := by decide +kernel
theorem dL_law_414 : decode cL_law 414 = .ok (.ifCond .eq 7, 3) := by decide +kernel
theorem dL_law_417 : decode cL_law 417 = .ok (.lconst 1, 1) := by decide +kernel
theorem dL_law_418 : decode cL_law 418 = .ok (.goto 4, 3) := by decide +kernel
theorem dL_law_421 : decode cL_law 421 = .ok (.lconst 0, 1) := by decide +kernel
theorem dL_law_422 : decode cL_law 422 = .ok (.lcmp, 1) := by decide +kernel
theorem dL_law_423 : decode cL_law 423 = .ok (.ifCond .eq 5, 3) := by decide +kernel
theorem dL_law_426 : decode cL_law 426 = .ok (.iconst 0, 1) := by decide +kernel
theorem dL_law_427 : decode cL_law 427 = .ok (.ireturn, 1) := by decide +kernel
theorem dL_law_428 : decode cL_law 428 = .ok (.goto 1727, 3) := by decide +kernel
theorem dL_law_431 : decode cL_law 431 = .ok (.aload_n 1, 1) := by decide +kernel
theorem dL_law_432 : decode cL_law 432 = .ok (.aload_n 0, 1) := by decide +kernel
theorem dL_law_433 : decode cL_law 433 = .ok (.iload 4, 2) := by decide +kernel
theorem dL_law_435 : decode cL_law 435 = .ok (.iconst 1, 1) := by decide +kernel
theorem dL_law_436 : decode cL_law 436 = .ok (.iadd, 1) := by decide +kernel
theorem dL_law_437 : decode cL_law 437 = .ok (.iaload, 1) := by decide +kernel
theorem dL_law_438 : decode cL_law 438 = .ok (.aload_n 3, 1) := by decide +kernel
theorem dL_law_439 : decode cL_law 439 = .ok (.invokestatic 128, 3) := by decide +kernel
theorem dL_law_442 : decode cL_law 442 = .ok (.istore 5, 2) := by decide +kernel
theorem dL_law_444 : decode cL_law 444 = .ok (.aload_n 2, 1) := by decide +kernel
theorem dL_law_445 : decode cL_law 445 = .ok (.aload_n 0, 1) := by decide +kernel
theorem dL_law_446 : decode cL_law 446 = .ok (.iload 4, 2) := by decide +kernel
theorem dL_law_448 : decode cL_law 448 = .ok (.iconst 1, 1) := by decide +kernel
theorem dL_law_449 : decode cL_law 449 = .ok (.iadd, 1) := by decide +kernel
theorem dL_law_450 : decode cL_law 450 = .ok (.iaload, 1) := by decide +kernel
theorem dL_law_451 : decode cL_law 451 = .ok (.invokevirtual 130, 3) := by decide +kernel
theorem dL_law_454 : decode cL_law 454 = .ok (.istore 6, 2) := by decide +kernel
theorem dL_law_456 : decode cL_law 456 = .ok (.aload_n 2, 1) := by decide +kernel
theorem dL_law_457 : decode cL_law 457 = .ok (.invokevirtual 117, 3) := by decide +kernel
theorem dL_law_460 : decode cL_law 460 = .ok (.iload 5, 2) := by decide +kernel
theorem dL_law_462 : decode cL_law 462 = .ok (.if_icmp .eq 5, 3) := by decide +kernel
theorem dL_law_465 : decode cL_law 465 = .ok (.iconst 0, 1) := by decide +kernel
theorem dL_law_466 : decode cL_law 466 = .ok (.ireturn, 1) := by decide +kernel
theorem dL_law_467 : decode cL_law 467 = .ok (.iload 5, 2) := by decide +kernel
theorem dL_law_469 : decode cL_law 469 = .ok (.ifCond .ne 22, 3) := by decide +kernel
theorem dL_law_472 : decode cL_law 472 = .ok (.aload_n 3, 1) := by decide +kernel
theorem dL_law_473 : decode cL_law 473 = .ok (.iconst 0, 1) := by decide +kernel
theorem dL_law_474 : decode cL_law 474 = .ok (.laload, 1) := by decide +kernel
theorem dL_law_475 : decode cL_law 475 = .ok (.iload 6, 2) := by decide +kernel
theorem dL_law_477 : decode cL_law 477 = .ok (.ifCond .eq 7, 3) := by decide +kernel
theorem dL_law_480 : decode cL_law 480 = .ok (.lconst 1, 1) := by decide +kernel
theorem dL_law_481 : decode cL_law 481 = .ok (.goto 4, 3) := by decide +kernel
theorem dL_law_484 : decode cL_law 484 = .ok (.lconst 0, 1) := by decide +kernel
theorem dL_law_485 : decode cL_law 485 = .ok (.lcmp, 1) := by decide +kernel
theorem dL_law_486 : decode cL_law 486 = .ok (.ifCond .eq 5, 3) := by decide +kernel
theorem dL_law_489 : decode cL_law 489 = .ok (.iconst 0, 1) := by decide +kernel
theorem dL_law_490 : decode cL_law 490 = .ok (.ireturn, 1) := by decide +kernel
theorem dL_law_491 : decode cL_law 491 = .ok (.goto 1664, 3) := by decide +kernel
theorem dL_law_494 : decode cL_law 494 = .ok (.aload_n 1, 1) := by decide +kernel
theorem dL_law_495 : decode cL_law 495 = .ok (.aload_n 0, 1) := by decide +kernel
theorem dL_law_496 : decode cL_law 496 = .ok (.iload 4, 2) := by decide +kernel
theorem dL_law_498 : decode cL_law 498 = .ok (.iconst 1, 1) := by decide +kernel
theorem dL_law_499 : decode cL_law 499 = .ok (.iadd, 1) := by decide +kernel
theorem dL_law_500 : decode cL_law 500 = .ok (.iaload, 1) := by decide +kernel
theorem dL_law_501 : decode cL_law 501 = .ok (.aload_n 0, 1) := by decide +kernel
theorem dL_law_502 : decode cL_law 502 = .ok (.iload 4, 2) := by decide +kernel
theorem dL_law_504 : decode cL_law 504 = .ok (.iconst 2, 1) := by decide +kernel
theorem dL_law_505 : decode cL_law 505 = .ok (.iadd, 1) := by decide +kernel
theorem dL_law_506 : decode cL_law 506 = .ok (.iaload, 1) := by decide +kernel
theorem dL_law_507 : decode cL_law 507 = .ok (.aload_n 3, 1) := by decide +kernel
theorem dL_law_508 : decode cL_law 508 = .ok (.invokestatic 131, 3) := by decide +kernel
theorem dL_law_511 : decode cL_law 511 = .ok (.istore 5, 2) := by decide +kernel
theorem dL_law_513 : decode cL_law 513 = .ok (.aload_n 2, 1) := by decide +kernel
theorem dL_law_514 : decode cL_law 514 = .ok (.aload_n 0, 1) := by decide +kernel
theorem dL_law_515 : decode cL_law 515 = .ok (.iload 4, 2) := by decide +kernel
theorem dL_law_517 : decode cL_law 517 = .ok (.iconst 1, 1) := by decide +kernel
theorem dL_law_518 : decode cL_law 518 = .ok (.iadd, 1) := by decide +kernel
theorem dL_law_519 : decode cL_law 519 = .ok (.iaload, 1) := by decide +kernel
theorem dL_law_520 : decode cL_law 520 = .ok (.aload_n 0, 1) := by decide +kernel
theorem dL_law_521 : decode cL_law 521 = .ok (.iload 4, 2) := by decide +kernel
theorem dL_law_523 : decode cL_law 523 = .ok (.iconst 2, 1) := by decide +kernel
theorem dL_law_524 : decode cL_law 524 = .ok (.iadd, 1) := by decide +kernel
theorem dL_law_525 : decode cL_law 525 = .ok (.iaload, 1) := by decide +kernel
theorem dL_law_526 : decode cL_law 526 = .ok (.invokevirtual 134, 3) := by decide +kernel
theorem dL_law_529 : decode cL_law 529 = .ok (.istore 6, 2) := by decide +kernel
theorem dL_law_531 : decode cL_law 531 = .ok (.aload_n 2, 1) := by decide +kernel
theorem dL_law_532 : decode cL_law 532 = .ok (.invokevirtual 117, 3) := by decide +kernel
theorem dL_law_535 : decode cL_law 535 = .ok (.iload 5, 2) := by decide +kernel
theorem dL_law_537 : decode cL_law 537 = .ok (.if_icmp .eq 5, 3) := by decide +kernel
theorem dL_law_540 : decode cL_law 540 = .ok (.iconst 0, 1) := by decide +kernel
theorem dL_law_541 : decode cL_law 541 = .ok (.ireturn, 1) := by decide +kernel
theorem dL_law_542 : decode cL_law 542 = .ok (.iload 5, 2) := by decide +kernel
theorem dL_law_544 : decode cL_law 544 = .ok (.ifCond .ne 15, 3) := by decide +kernel
theorem dL_law_547 : decode cL_law 547 = .ok (.aload_n 3, 1) := by decide +kernel
theorem dL_law_548 : decode cL_law 548 = .ok (.iconst 0, 1) := by decide +kernel
theorem dL_law_549 : decode cL_law 549 = .ok (.laload, 1) := by decide +kernel
theorem dL_law_550 : decode cL_law 550 = .ok (.iload 6, 2) := by decide +kernel
theorem dL_law_552 : decode cL_law 552 = .ok (.i2l, 1) := by decide +kernel
theorem dL_law_553 : decode cL_law 553 = .ok (.lcmp, 1) := by decide +kernel
theorem dL_law_554 : decode cL_law 554 = .ok (.ifCond .eq 5, 3) := by decide +kernel
theorem dL_law_557 : decode cL_law 557 = .ok (.iconst 0, 1) := by decide +kernel
theorem dL_law_558 : decode cL_law 558 = .ok (.ireturn, 1) := by decide +kernel
theorem dL_law_559 : decode cL_law 559 = .ok (.goto 1596, 3) := by decide +kernel
theorem dL_law_562 : decode cL_law 562 = .ok (.aload_n 1, 1) := by decide +kernel
theorem dL_law_563 : decode cL_law 563 = .ok (.aload_n 0, 1) := by decide +kernel
theorem dL_law_564 : decode cL_law 564 = .ok (.iload 4, 2) := by decide +kernel
theorem dL_law_566 : decode cL_law 566 = .ok (.iconst 1, 1) := by decide +kernel
theorem dL_law_567 : decode cL_law 567 = .ok (.iadd, 1) := by decide +kernel
theorem dL_law_568 : decode cL_law 568 = .ok (.iaload, 1) := by decide +kernel
theorem dL_law_569 : decode cL_law 569 = .ok (.aload_n 0, 1) := by decide +kernel
theorem dL_law_570 : decode cL_law 570 = .ok (.iload 4, 2) := by decide +kernel
theorem dL_law_572 : decode cL_law 572 = .ok (.iconst 2, 1) := by decide +kernel
theorem dL_law_573 : decode cL_law 573 = .ok (.iadd, 1) := by decide +kernel
theorem dL_law_574 : decode cL_law 574 = .ok (.iaload, 1) := by decide +kernel
theorem dL_law_575 : decode cL_law 575 = .ok (.aload_n 3, 1) := by decide +kernel
theorem dL_law_576 : decode cL_law 576 = .ok (.invokestatic 135, 3) := by decide +kernel
theorem dL_law_579 : decode cL_law 579 = .ok (.istore 5, 2) := by decide +kernel
theorem dL_law_581 : decode cL_law 581 = .ok (.aload_n 2, 1) := by decide +kernel
theorem dL_law_582 : decode cL_law 582 = .ok (.aload_n 0, 1) := by decide +kernel
theorem dL_law_583 : decode cL_law 583 = .ok (.iload 4, 2) := by decide +kernel
theorem dL_law_585 : decode cL_law 585 = .ok (.iconst 1, 1) := by decide +kernel
theorem dL_law_586 : decode cL_law 586 = .ok (.iadd, 1) := by decide +kernel
theorem dL_law_587 : decode cL_law 587 = .ok (.iaload, 1) := by decide +kernel
theorem dL_law_588 : decode cL_law 588 = .ok (.aload_n 0, 1) := by decide +kernel
theorem dL_law_589 : decode cL_law 589 = .ok (.iload 4, 2) := by decide +kernel
theorem dL_law_591 : decode cL_law 591 = .ok (.iconst 2, 1) := by decide +kernel
theorem dL_law_592 : decode cL_law 592 = .ok (.iadd, 1) := by decide +kernel
theorem dL_law_593 : decode cL_law 593 = .ok (.iaload, 1) := by decide +kernel
theorem dL_law_594 : decode cL_law 594 = .ok (.invokevirtual 137, 3) := by decide +kernel
theorem dL_law_597 : decode cL_law 597 = .ok (.istore 6, 2) := by decide +kernel
theorem dL_law_599 : decode cL_law 599 = .ok (.aload_n 2, 1) := by decide +kernel
theorem dL_law_600 : decode cL_law 600 = .ok (.invokevirtual 117, 3) := by decide +kernel
theorem dL_law_603 : decode cL_law 603 = .ok (.iload 5, 2) := by decide +kernel
theorem dL_law_605 : decode cL_law 605 = .ok (.if_icmp .eq 5, 3) := by decide +kernel
theorem dL_law_608 : decode cL_law 608 = .ok (.iconst 0, 1) := by decide +kernel
theorem dL_law_609 : decode cL_law 609 = .ok (.ireturn, 1) := by decide +kernel
theorem dL_law_610 : decode cL_law 610 = .ok (.iload 5, 2) := by decide +kernel
theorem dL_law_612 : decode cL_law 612 = .ok (.ifCond .ne 15, 3) := by decide +kernel
theorem dL_law_615 : decode cL_law 615 = .ok (.aload_n 3, 1) := by decide +kernel
theorem dL_law_616 : decode cL_law 616 = .ok (.iconst 0, 1) := by decide +kernel
theorem dL_law_617 : decode cL_law 617 = .ok (.laload, 1) := by decide +kernel
theorem dL_law_618 : decode cL_law 618 = .ok (.iload 6, 2) := by decide +kernel
theorem dL_law_620 : decode cL_law 620 = .ok (.i2l, 1) := by decide +kernel
theorem dL_law_621 : decode cL_law 621 = .ok (.lcmp, 1) := by decide +kernel
theorem dL_law_622 : decode cL_law 622 = .ok (.ifCond .eq 5, 3) := by decide +kernel
theorem dL_law_625 : decode cL_law 625 = .ok (.iconst 0, 1) := by decide +kernel
theorem dL_law_626 : decode cL_law 626 = .ok (.ireturn, 1) := by decide +kernel
theorem dL_law_627 : decode cL_law 627 = .ok (.goto 1528, 3) := by decide +kernel
theorem dL_law_630 : decode cL_law 630 = .ok (.aload_n 1, 1) := by decide +kernel
theorem dL_law_631 : decode cL_law 631 = .ok (.aload_n 0, 1) := by decide +kernel
theorem dL_law_632 : decode cL_law 632 = .ok (.iload 4, 2) := by decide +kernel
theorem dL_law_634 : decode cL_law 634 = .ok (.iconst 1, 1) := by decide +kernel
theorem dL_law_635 : decode cL_law 635 = .ok (.iadd, 1) := by decide +kernel
theorem dL_law_636 : decode cL_law 636 = .ok (.iaload, 1) := by decide +kernel
theorem dL_law_637 : decode cL_law 637 = .ok (.aload_n 3, 1) := by decide +kernel
theorem dL_law_638 : decode cL_law 638 = .ok (.invokestatic 138, 3) := by decide +kernel
theorem dL_law_641 : decode cL_law 641 = .ok (.istore 5, 2) := by decide +kernel
theorem dL_law_643 : decode cL_law 643 = .ok (.aload_n 2, 1) := by decide +kernel
theorem dL_law_644 : decode cL_law 644 = .ok (.aload_n 0, 1) := by decide +kernel
theorem dL_law_645 : decode cL_law 645 = .ok (.iload 4, 2) := by decide +kernel
theorem dL_law_647 : decode cL_law 647 = .ok (.iconst 1, 1) := by decide +kernel
theorem dL_law_648 : decode cL_law 648 = .ok (.iadd, 1) := by decide +kernel
theorem dL_law_649 : decode cL_law 649 = .ok (.iaload, 1) := by decide +kernel
theorem dL_law_650 : decode cL_law 650 = .ok (.invokevirtual 140, 3) := by decide +kernel
theorem dL_law_653 : decode cL_law 653 = .ok (.istore 6, 2) := by decide +kernel
theorem dL_law_655 : decode cL_law 655 = .ok (.aload_n 2, 1) := by decide +kernel
theorem dL_law_656 : decode cL_law 656 = .ok (.invokevirtual 117, 3) := by decide +kernel
theorem dL_law_659 : decode cL_law 659 = .ok (.iload 5, 2) := by decide +kernel
theorem dL_law_661 : decode cL_law 661 = .ok (.if_icmp .eq 5, 3) := by decide +kernel
theorem dL_law_664 : decode cL_law 664 = .ok (.iconst 0, 1) := by decide +kernel
theorem dL_law_665 : decode cL_law 665 = .ok (.ireturn, 1) := by decide +kernel
theorem dL_law_666 : decode cL_law 666 = .ok (.iload 5, 2) := by decide +kernel
theorem dL_law_668 : decode cL_law 668 = .ok (.ifCond .ne 15, 3) := by decide +kernel
theorem dL_law_671 : decode cL_law 671 = .ok (.aload_n 3, 1) := by decide +kernel
theorem dL_law_672 : decode cL_law 672 = .ok (.iconst 0, 1) := by decide +kernel
theorem dL_law_673 : decode cL_law 673 = .ok (.laload, 1) := by decide +kernel
theorem dL_law_674 : decode cL_law 674 = .ok (.iload 6, 2) := by decide +kernel
theorem dL_law_676 : decode cL_law 676 = .ok (.i2l, 1) := by decide +kernel
theorem dL_law_677 : decode cL_law 677 = .ok (.lcmp, 1) := by decide +kernel
theorem dL_law_678 : decode cL_law 678 = .ok (.ifCond .eq 5, 3) := by decide +kernel
theorem dL_law_681 : decode cL_law 681 = .ok (.iconst 0, 1) := by decide +kernel
theorem dL_law_682 : decode cL_law 682 = .ok (.ireturn, 1) := by decide +kernel
theorem dL_law_683 : decode cL_law 683 = .ok (.goto 1472, 3) := by decide +kernel
theorem dL_law_686 : decode cL_law 686 = .ok (.aload_n 1, 1) := by decide +kernel
theorem dL_law_687 : decode cL_law 687 = .ok (.aload_n 0, 1) := by decide +kernel
theorem dL_law_688 : decode cL_law 688 = .ok (.iload 4, 2) := by decide +kernel
theorem dL_law_690 : decode cL_law 690 = .ok (.iconst 1, 1) := by decide +kernel
theorem dL_law_691 : decode cL_law 691 = .ok (.iadd, 1) := by decide +kernel
theorem dL_law_692 : decode cL_law 692 = .ok (.iaload, 1) := by decide +kernel
theorem dL_law_693 : decode cL_law 693 = .ok (.aload_n 3, 1) := by decide +kernel
theorem dL_law_694 : decode cL_law 694 = .ok (.invokestatic 141, 3) := by decide +kernel
theorem dL_law_697 : decode cL_law 697 = .ok (.istore 5, 2) := by decide +kernel
theorem dL_law_699 : decode cL_law 699 = .ok (.aload_n 2, 1) := by decide +kernel
theorem dL_law_700 : decode cL_law 700 = .ok (.aload_n 0, 1) := by decide +kernel
theorem dL_law_701 : decode cL_law 701 = .ok (.iload 4, 2) := by decide +kernel
theorem dL_law_703 : decode cL_law 703 = .ok (.iconst 1, 1) := by decide +kernel
theorem dL_law_704 : decode cL_law 704 = .ok (.iadd, 1) := by decide +kernel
theorem dL_law_705 : decode cL_law 705 = .ok (.iaload, 1) := by decide +kernel
theorem dL_law_706 : decode cL_law 706 = .ok (.invokevirtual 143, 3) := by decide +kernel
theorem dL_law_709 : decode cL_law 709 = .ok (.istore 6, 2) := by decide +kernel
theorem dL_law_711 : decode cL_law 711 = .ok (.aload_n 2, 1) := by decide +kernel
theorem dL_law_712 : decode cL_law 712 = .ok (.invokevirtual 117, 3) := by decide +kernel
theorem dL_law_715 : decode cL_law 715 = .ok (.iload 5, 2) := by decide +kernel
theorem dL_law_717 : decode cL_law 717 = .ok (.if_icmp .eq 5, 3) := by decide +kernel
theorem dL_law_720 : decode cL_law 720 = .ok (.iconst 0, 1) := by decide +kernel
theorem dL_law_721 : decode cL_law 721 = .ok (.ireturn, 1) := by decide +kernel
theorem dL_law_722 : decode cL_law 722 = .ok (.iload 5, 2) := by decide +kernel
theorem dL_law_724 : decode cL_law 724 = .ok (.ifCond .ne 15, 3) := by decide +kernel
theorem dL_law_727 : decode cL_law 727 = .ok (.aload_n 3, 1) := by decide +kernel
theorem dL_law_728 : decode cL_law 728 = .ok (.iconst 0, 1) := by decide +kernel
theorem dL_law_729 : decode cL_law 729 = .ok (.laload, 1) := by decide +kernel
theorem dL_law_730 : decode cL_law 730 = .ok (.iload 6, 2) := by decide +kernel
theorem dL_law_732 : decode cL_law 732 = .ok (.i2l, 1) := by decide +kernel
theorem dL_law_733 : decode cL_law 733 = .ok (.lcmp, 1) := by decide +kernel
theorem dL_law_734 : decode cL_law 734 = .ok (.ifCond .eq 5, 3) := by decide +kernel
theorem dL_law_737 : decode cL_law 737 = .ok (.iconst 0, 1) := by decide +kernel
theorem dL_law_738 : decode cL_law 738 = .ok (.ireturn, 1) := by decide +kernel
theorem dL_law_739 : decode cL_law 739 = .ok (.goto 1416, 3) := by decide +kernel
theorem dL_law_742 : decode cL_law 742 = .ok (.aload_n 1, 1) := by decide +kernel
theorem dL_law_743 : decode cL_law 743 = .ok (.aload_n 0, 1) := by decide +kernel
theorem dL_law_744 : decode cL_law 744 = .ok (.iload 4, 2) := by decide +kernel
theorem dL_law_746 : decode cL_law 746 = .ok (.iconst 1, 1) := by decide +kernel
theorem dL_law_747 : decode cL_law 747 = .ok (.iadd, 1) := by decide +kernel
theorem dL_law_748 : decode cL_law 748 = .ok (.iaload, 1) := by decide +kernel
theorem dL_law_749 : decode cL_law 749 = .ok (.aload_n 3, 1) := by decide +kernel
theorem dL_law_750 : decode cL_law 750 = .ok (.invokestatic 144, 3) := by decide +kernel
theorem dL_law_753 : decode cL_law 753 = .ok (.istore 5, 2) := by decide +kernel
theorem dL_law_755 : decode cL_law 755 = .ok (.aload_n 2, 1) := by decide +kernel
theorem dL_law_756 : decode cL_law 756 = .ok (.aload_n 0, 1) := by decide +kernel
theorem dL_law_757 : decode cL_law 757 = .ok (.iload 4, 2) := by decide +kernel
theorem dL_law_759 : decode cL_law 759 = .ok (.iconst 1, 1) := by decide +kernel
theorem dL_law_760 : decode cL_law 760 = .ok (.iadd, 1) := by decide +kernel
theorem dL_law_761 : decode cL_law 761 = .ok (.iaload, 1) := by decide +kernel
theorem dL_law_762 : decode cL_law 762 = .ok (.invokevirtual 146, 3) := by decide +kernel
theorem dL_law_765 : decode cL_law 765 = .ok (.istore 6, 2) := by decide +kernel
theorem dL_law_767 : decode cL_law 767 = .ok (.aload_n 2, 1) := by decide +kernel
theorem dL_law_768 : decode cL_law 768 = .ok (.invokevirtual 117, 3) := by decide +kernel
theorem dL_law_771 : decode cL_law 771 = .ok (.iload 5, 2) := by decide +kernel
theorem dL_law_773 : decode cL_law 773 = .ok (.if_icmp .eq 5, 3) := by decide +kernel
theorem dL_law_776 : decode cL_law 776 = .ok (.iconst 0, 1) := by decide +kernel
theorem dL_law_777 : decode cL_law 777 = .ok (.ireturn, 1) := by decide +kernel
theorem dL_law_778 : decode cL_law 778 = .ok (.iload 5, 2) := by decide +kernel
theorem dL_law_780 : decode cL_law 780 = .ok (.ifCond .ne 15, 3) := by decide +kernel
theorem dL_law_783 : decode cL_law 783 = .ok (.aload_n 3, 1) := by decide +kernel
theorem dL_law_784 : decode cL_law 784 = .ok (.iconst 0, 1) := by decide +kernel
theorem dL_law_785 : decode cL_law 785 = .ok (.laload, 1) := by decide +kernel
theorem dL_law_786 : decode cL_law 786 = .ok (.iload 6, 2) := by decide +kernel
theorem dL_law_788 : decode cL_law 788 = .ok (.i2l, 1) := by decide +kernel
theorem dL_law_789 : decode cL_law 789 = .ok (.lcmp, 1) := by decide +kernel
theorem dL_law_790 : decode cL_law 790 = .ok (.ifCond .eq 5, 3) := by decide +kernel
theorem dL_law_793 : decode cL_law 793 = .ok (.iconst 0, 1) := by decide +kernel
theorem dL_law_794 : decode cL_law 794 = .ok (.ireturn, 1) := by decide +kernel
theorem dL_law_795 : decode cL_law 795 = .ok (.goto 1360, 3) := by decide +kernel
theorem dL_law_798 : decode cL_law 798 = .ok (.aload_n 1, 1) := by decide +kernel
theorem dL_law_799 : decode cL_law 799 = .ok (.aload_n 0, 1) := by decide +kernel
theorem dL_law_800 : decode cL_law 800 = .ok (.iload 4, 2) := by decide +kernel
theorem dL_law_802 : decode cL_law 802 = .ok (.iconst 1, 1) := by decide +kernel
theorem dL_law_803 : decode cL_law 803 = .ok (.iadd, 1) := by decide +kernel
theorem dL_law_804 : decode cL_law 804 = .ok (.iaload, 1) := by decide +kernel
theorem dL_law_805 : decode cL_law 805 = .ok (.aload_n 3, 1) := by decide +kernel
theorem dL_law_806 : decode cL_law 806 = .ok (.invokestatic 147, 3) := by decide +kernel
theorem dL_law_809 : decode cL_law 809 = .ok (.istore 5, 2) := by decide +kernel
theorem dL_law_811 : decode cL_law 811 = .ok (.aload_n 2, 1) := by decide +kernel
theorem dL_law_812 : decode cL_law 812 = .ok (.aload_n 0, 1) := by decide +kernel
theorem dL_law_813 : decode cL_law 813 = .ok (.iload 4, 2) := by decide +kernel
theorem dL_law_815 : decode cL_law 815 = .ok (.iconst 1, 1) := by decide +kernel
theorem dL_law_816 : decode cL_law 816 = .ok (.iadd, 1) := by decide +kernel
theorem dL_law_817 : decode cL_law 817 = .ok (.iaload, 1) := by decide +kernel
theorem dL_law_818 : decode cL_law 818 = .ok (.invokevirtual 149, 3) := by decide +kernel
theorem dL_law_821 : decode cL_law 821 = .ok (.istore 6, 2) := by decide +kernel
theorem dL_law_823 : decode cL_law 823 = .ok (.aload_n 2, 1) := by decide +kernel
theorem dL_law_824 : decode cL_law 824 = .ok (.invokevirtual 117, 3) := by decide +kernel
theorem dL_law_827 : decode cL_law 827 = .ok (.iload 5, 2) := by decide +kernel
theorem dL_law_829 : decode cL_law 829 = .ok (.if_icmp .eq 5, 3) := by decide +kernel
theorem dL_law_832 : decode cL_law 832 = .ok (.iconst 0, 1) := by decide +kernel
theorem dL_law_833 : decode cL_law 833 = .ok (.ireturn, 1) := by decide +kernel
theorem dL_law_834 : decode cL_law 834 = .ok (.iload 5, 2) := by decide +kernel
theorem dL_law_836 : decode cL_law 836 = .ok (.ifCond .ne 15, 3) := by decide +kernel
theorem dL_law_839 : decode cL_law 839 = .ok (.aload_n 3, 1) := by decide +kernel
theorem dL_law_840 : decode cL_law 840 = .ok (.iconst 0, 1) := by decide +kernel
theorem dL_law_841 : decode cL_law 841 = .ok (.laload, 1) := by decide +kernel
theorem dL_law_842 : decode cL_law 842 = .ok (.iload 6, 2) := by decide +kernel
theorem dL_law_844 : decode cL_law 844 = .ok (.i2l, 1) := by decide +kernel
theorem dL_law_845 : decode cL_law 845 = .ok (.lcmp, 1) := by decide +kernel
theorem dL_law_846 : decode cL_law 846 = .ok (.ifCond .eq 5, 3) := by decide +kernel
theorem dL_law_849 : decode cL_law 849 = .ok (.iconst 0, 1) := by decide +kernel
theorem dL_law_850 : decode cL_law 850 = .ok (.ireturn, 1) := by decide +kernel
theorem dL_law_851 : decode cL_law 851 = .ok (.goto 1304, 3) := by decide +kernel
theorem dL_law_854 : decode cL_law 854 = .ok (.aload_n 1, 1) := by decide +kernel
theorem dL_law_855 : decode cL_law 855 = .ok (.aload_n 0, 1) := by decide +kernel
theorem dL_law_856 : decode cL_law 856 = .ok (.iload 4, 2) := by decide +kernel
theorem dL_law_858 : decode cL_law 858 = .ok (.iconst 1, 1) := by decide +kernel
theorem dL_law_859 : decode cL_law 859 = .ok (.iadd, 1) := by decide +kernel
theorem dL_law_860 : decode cL_law 860 = .ok (.iaload, 1) := by decide +kernel
theorem dL_law_861 : decode cL_law 861 = .ok (.aload_n 3, 1) := by decide +kernel
theorem dL_law_862 : decode cL_law 862 = .ok (.invokestatic 150, 3) := by decide +kernel
theorem dL_law_865 : decode cL_law 865 = .ok (.istore 5, 2) := by decide +kernel
theorem dL_law_867 : decode cL_law 867 = .ok (.aload_n 2, 1) := by decide +kernel
theorem dL_law_868 : decode cL_law 868 = .ok (.aload_n 0, 1) := by decide +kernel
theorem dL_law_869 : decode cL_law 869 = .ok (.iload 4, 2) := by decide +kernel
theorem dL_law_871 : decode cL_law 871 = .ok (.iconst 1, 1) := by decide +kernel
theorem dL_law_872 : decode cL_law 872 = .ok (.iadd, 1) := by decide +kernel
theorem dL_law_873 : decode cL_law 873 = .ok (.iaload, 1) := by decide +kernel
theorem dL_law_874 : decode cL_law 874 = .ok (.invokevirtual 152, 3) := by decide +kernel
theorem dL_law_877 : decode cL_law 877 = .ok (.istore 6, 2) := by decide +kernel
theorem dL_law_879 : decode cL_law 879 = .ok (.aload_n 2, 1) := by decide +kernel
theorem dL_law_880 : decode cL_law 880 = .ok (.invokevirtual 117, 3) := by decide +kernel
theorem dL_law_883 : decode cL_law 883 = .ok (.iload 5, 2) := by decide +kernel
theorem dL_law_885 : decode cL_law 885 = .ok (.if_icmp .eq 5, 3) := by decide +kernel
theorem dL_law_888 : decode cL_law 888 = .ok (.iconst 0, 1) := by decide +kernel
theorem dL_law_889 : decode cL_law 889 = .ok (.ireturn, 1) := by decide +kernel
theorem dL_law_890 : decode cL_law 890 = .ok (.iload 5, 2) := by decide +kernel
theorem dL_law_892 : decode cL_law 892 = .ok (.ifCond .ne 15, 3) := by decide +kernel
theorem dL_law_895 : decode cL_law 895 = .ok (.aload_n 3, 1) := by decide +kernel
theorem dL_law_896 : decode cL_law 896 = .ok (.iconst 0, 1) := by decide +kernel
theorem dL_law_897 : decode cL_law 897 = .ok (.laload, 1) := by decide +kernel
theorem dL_law_898 : decode cL_law 898 = .ok (.iload 6, 2) := by decide +kernel
theorem dL_law_900 : decode cL_law 900 = .ok (.i2l, 1) := by decide +kernel
theorem dL_law_901 : decode cL_law 901 = .ok (.lcmp, 1) := by decide +kernel
theorem dL_law_902 : decode cL_law 902 = .ok (.ifCond .eq 5, 3) := by decide +kernel
theorem dL_law_905 : decode cL_law 905 = .ok (.iconst 0, 1) := by decide +kernel
theorem dL_law_906 : decode cL_law 906 = .ok (.ireturn, 1) := by decide +kernel
theorem dL_law_907 : decode cL_law 907 = .ok (.goto 1248, 3) := by decide +kernel
theorem dL_law_910 : decode cL_law 910 = .ok (.aload_n 1, 1) := by decide +kernel
theorem dL_law_911 : decode cL_law 911 = .ok (.aload_n 0, 1) := by decide +kernel
theorem dL_law_912 : decode cL_law 912 = .ok (.iload 4, 2) := by decide +kernel
theorem dL_law_914 : decode cL_law 914 = .ok (.iconst 1, 1) := by decide +kernel
theorem dL_law_915 : decode cL_law 915 = .ok (.iadd, 1) := by decide +kernel
theorem dL_law_916 : decode cL_law 916 = .ok (.iaload, 1) := by decide +kernel
theorem dL_law_917 : decode cL_law 917 = .ok (.aload_n 3, 1) := by decide +kernel
theorem dL_law_918 : decode cL_law 918 = .ok (.invokestatic 153, 3) := by decide +kernel
theorem dL_law_921 : decode cL_law 921 = .ok (.istore 5, 2) := by decide +kernel
theorem dL_law_923 : decode cL_law 923 = .ok (.aload_n 2, 1) := by decide +kernel
theorem dL_law_924 : decode cL_law 924 = .ok (.aload_n 0, 1) := by decide +kernel
theorem dL_law_925 : decode cL_law 925 = .ok (.iload 4, 2) := by decide +kernel
theorem dL_law_927 : decode cL_law 927 = .ok (.iconst 1, 1) := by decide +kernel
theorem dL_law_928 : decode cL_law 928 = .ok (.iadd, 1) := by decide +kernel
theorem dL_law_929 : decode cL_law 929 = .ok (.iaload, 1) := by decide +kernel
theorem dL_law_930 : decode cL_law 930 = .ok (.invokevirtual 155, 3) := by decide +kernel
theorem dL_law_933 : decode cL_law 933 = .ok (.istore 6, 2) := by decide +kernel
theorem dL_law_935 : decode cL_law 935 = .ok (.aload_n 2, 1) := by decide +kernel
theorem dL_law_936 : decode cL_law 936 = .ok (.invokevirtual 117, 3) := by decide +kernel
theorem dL_law_939 : decode cL_law 939 = .ok (.iload 5, 2) := by decide +kernel
theorem dL_law_941 : decode cL_law 941 = .ok (.if_icmp .eq 5, 3) := by decide +kernel
theorem dL_law_944 : decode cL_law 944 = .ok (.iconst 0, 1) := by decide +kernel
theorem dL_law_945 : decode cL_law 945 = .ok (.ireturn, 1) := by decide +kernel
theorem dL_law_946 : decode cL_law 946 = .ok (.iload 5, 2) := by decide +kernel
theorem dL_law_948 : decode cL_law 948 = .ok (.ifCond .ne 15, 3) := by decide +kernel
theorem dL_law_951 : decode cL_law 951 = .ok (.aload_n 3, 1) := by decide +kernel
theorem dL_law_952 : decode cL_law 952 = .ok (.iconst 0, 1) := by decide +kernel
theorem dL_law_953 : decode cL_law 953 = .ok (.laload, 1) := by decide +kernel
theorem dL_law_954 : decode cL_law 954 = .ok (.iload 6, 2) := by decide +kernel
theorem dL_law_956 : decode cL_law 956 = .ok (.i2l, 1) := by decide +kernel
theorem dL_law_957 : decode cL_law 957 = .ok (.lcmp, 1) := by decide +kernel
theorem dL_law_958 : decode cL_law 958 = .ok (.ifCond .eq 5, 3) := by decide +kernel
theorem dL_law_961 : decode cL_law 961 = .ok (.iconst 0, 1) := by decide +kernel
theorem dL_law_962 : decode cL_law 962 = .ok (.ireturn, 1) := by decide +kernel
theorem dL_law_963 : decode cL_law 963 = .ok (.goto 1192, 3) := by decide +kernel
theorem dL_law_966 : decode cL_law 966 = .ok (.aload_n 1, 1) := by decide +kernel
theorem dL_law_967 : decode cL_law 967 = .ok (.aload_n 0, 1) := by decide +kernel
theorem dL_law_968 : decode cL_law 968 = .ok (.iload 4, 2) := by decide +kernel
theorem dL_law_970 : decode cL_law 970 = .ok (.iconst 1, 1) := by decide +kernel
theorem dL_law_971 : decode cL_law 971 = .ok (.iadd, 1) := by decide +kernel
theorem dL_law_972 : decode cL_law 972 = .ok (.iaload, 1) := by decide +kernel
theorem dL_law_973 : decode cL_law 973 = .ok (.aload_n 3, 1) := by decide +kernel
theorem dL_law_974 : decode cL_law 974 = .ok (.invokestatic 156, 3) := by decide +kernel
theorem dL_law_977 : decode cL_law 977 = .ok (.istore 5, 2) := by decide +kernel
theorem dL_law_979 : decode cL_law 979 = .ok (.aload_n 2, 1) := by decide +kernel
theorem dL_law_980 : decode cL_law 980 = .ok (.aload_n 0, 1) := by decide +kernel
theorem dL_law_981 : decode cL_law 981 = .ok (.iload 4, 2) := by decide +kernel
theorem dL_law_983 : decode cL_law 983 = .ok (.iconst 1, 1) := by decide +kernel
theorem dL_law_984 : decode cL_law 984 = .ok (.iadd, 1) := by decide +kernel
theorem dL_law_985 : decode cL_law 985 = .ok (.iaload, 1) := by decide +kernel
theorem dL_law_986 : decode cL_law 986 = .ok (.invokevirtual 158, 3) := by decide +kernel
theorem dL_law_989 : decode cL_law 989 = .ok (.istore 6, 2) := by decide +kernel
theorem dL_law_991 : decode cL_law 991 = .ok (.aload_n 2, 1) := by decide +kernel
theorem dL_law_992 : decode cL_law 992 = .ok (.invokevirtual 117, 3) := by decide +kernel
theorem dL_law_995 : decode cL_law 995 = .ok (.iload 5, 2) := by decide +kernel
theorem dL_law_997 : decode cL_law 997 = .ok (.if_icmp .eq 5, 3) := by decide +kernel
theorem dL_law_1000 : decode cL_law 1000 = .ok (.iconst 0, 1) := by decide +kernel
theorem dL_law_1001 : decode cL_law 1001 = .ok (.ireturn, 1) := by decide +kernel
theorem dL_law_1002 : decode cL_law 1002 = .ok (.iload 5, 2) := by decide +kernel
theorem dL_law_1004 : decode cL_law 1004 = .ok (.ifCond .ne 15, 3) := by decide +kernel
theorem dL_law_1007 : decode cL_law 1007 = .ok (.aload_n 3, 1) := by decide +kernel
theorem dL_law_1008 : decode cL_law 1008 = .ok (.iconst 0, 1) := by decide +kernel
theorem dL_law_1009 : decode cL_law 1009 = .ok (.laload, 1) := by decide +kernel
theorem dL_law_1010 : decode cL_law 1010 = .ok (.iload 6, 2) := by decide +kernel
theorem dL_law_1012 : decode cL_law 1012 = .ok (.i2l, 1) := by decide +kernel
theorem dL_law_1013 : decode cL_law 1013 = .ok (.lcmp, 1) := by decide +kernel
theorem dL_law_1014 : decode cL_law 1014 = .ok (.ifCond .eq 5, 3) := by decide +kernel
theorem dL_law_1017 : decode cL_law 1017 = .ok (.iconst 0, 1) := by decide +kernel
theorem dL_law_1018 : decode cL_law 1018 = .ok (.ireturn, 1) := by decide +kernel
theorem dL_law_1019 : decode cL_law 1019 = .ok (.goto 1136, 3) := by decide +kernel
theorem dL_law_1022 : decode cL_law 1022 = .ok (.aload_n 1, 1) := by decide +kernel
theorem dL_law_1023 : decode cL_law 1023 = .ok (.aload_n 0, 1) := by decide +kernel
theorem dL_law_1024 : decode cL_law 1024 = .ok (.iload 4, 2) := by decide +kernel
theorem dL_law_1026 : decode cL_law 1026 = .ok (.iconst 1, 1) := by decide +kernel
theorem dL_law_1027 : decode cL_law 1027 = .ok (.iadd, 1) := by decide +kernel
theorem dL_law_1028 : decode cL_law 1028 = .ok (.iaload, 1) := by decide +kernel
theorem dL_law_1029 : decode cL_law 1029 = .ok (.aload_n 3, 1) := by decide +kernel
theorem dL_law_1030 : decode cL_law 1030 = .ok (.invokestatic 159, 3) := by decide +kernel
theorem dL_law_1033 : decode cL_law 1033 = .ok (.istore 5, 2) := by decide +kernel
theorem dL_law_1035 : decode cL_law 1035 = .ok (.aload_n 2, 1) := by decide +kernel
theorem dL_law_1036 : decode cL_law 1036 = .ok (.aload_n 0, 1) := by decide +kernel
theorem dL_law_1037 : decode cL_law 1037 = .ok (.iload 4, 2) := by decide +kernel
theorem dL_law_1039 : decode cL_law 1039 = .ok (.iconst 1, 1) := by decide +kernel
theorem dL_law_1040 : decode cL_law 1040 = .ok (.iadd, 1) := by decide +kernel
theorem dL_law_1041 : decode cL_law 1041 = .ok (.iaload, 1) := by decide +kernel
theorem dL_law_1042 : decode cL_law 1042 = .ok (.invokevirtual 161, 3) := by decide +kernel
theorem dL_law_1045 : decode cL_law 1045 = .ok (.istore 6, 2) := by decide +kernel
theorem dL_law_1047 : decode cL_law 1047 = .ok (.aload_n 2, 1) := by decide +kernel
theorem dL_law_1048 : decode cL_law 1048 = .ok (.invokevirtual 117, 3) := by decide +kernel
theorem dL_law_1051 : decode cL_law 1051 = .ok (.iload 5, 2) := by decide +kernel
theorem dL_law_1053 : decode cL_law 1053 = .ok (.if_icmp .eq 5, 3) := by decide +kernel
theorem dL_law_1056 : decode cL_law 1056 = .ok (.iconst 0, 1) := by decide +kernel
theorem dL_law_1057 : decode cL_law 1057 = .ok (.ireturn, 1) := by decide +kernel
theorem dL_law_1058 : decode cL_law 1058 = .ok (.iload 5, 2) := by decide +kernel
theorem dL_law_1060 : decode cL_law 1060 = .ok (.ifCond .ne 15, 3) := by decide +kernel
theorem dL_law_1063 : decode cL_law 1063 = .ok (.aload_n 3, 1) := by decide +kernel
theorem dL_law_1064 : decode cL_law 1064 = .ok (.iconst 0, 1) := by decide +kernel
theorem dL_law_1065 : decode cL_law 1065 = .ok (.laload, 1) := by decide +kernel
theorem dL_law_1066 : decode cL_law 1066 = .ok (.iload 6, 2) := by decide +kernel
theorem dL_law_1068 : decode cL_law 1068 = .ok (.i2l, 1) := by decide +kernel
theorem dL_law_1069 : decode cL_law 1069 = .ok (.lcmp, 1) := by decide +kernel
theorem dL_law_1070 : decode cL_law 1070 = .ok (.ifCond .eq 5, 3) := by decide +kernel
theorem dL_law_1073 : decode cL_law 1073 = .ok (.iconst 0, 1) := by decide +kernel
theorem dL_law_1074 : decode cL_law 1074 = .ok (.ireturn, 1) := by decide +kernel
theorem dL_law_1075 : decode cL_law 1075 = .ok (.goto 1080, 3) := by decide +kernel
theorem dL_law_1078 : decode cL_law 1078 = .ok (.aload_n 1, 1) := by decide +kernel
theorem dL_law_1079 : decode cL_law 1079 = .ok (.aload_n 0, 1) := by decide +kernel
theorem dL_law_1080 : decode cL_law 1080 = .ok (.iload 4, 2) := by decide +kernel
theorem dL_law_1082 : decode cL_law 1082 = .ok (.iconst 1, 1) := by decide +kernel
theorem dL_law_1083 : decode cL_law 1083 = .ok (.iadd, 1) := by decide +kernel
theorem dL_law_1084 : decode cL_law 1084 = .ok (.iaload, 1) := by decide +kernel
theorem dL_law_1085 : decode cL_law 1085 = .ok (.aload_n 3, 1) := by decide +kernel
theorem dL_law_1086 : decode cL_law 1086 = .ok (.invokestatic 162, 3) := by decide +kernel
theorem dL_law_1089 : decode cL_law 1089 = .ok (.istore 5, 2) := by decide +kernel
theorem dL_law_1091 : decode cL_law 1091 = .ok (.aload_n 2, 1) := by decide +kernel
theorem dL_law_1092 : decode cL_law 1092 = .ok (.aload_n 0, 1) := by decide +kernel
theorem dL_law_1093 : decode cL_law 1093 = .ok (.iload 4, 2) := by decide +kernel
theorem dL_law_1095 : decode cL_law 1095 = .ok (.iconst 1, 1) := by decide +kernel
theorem dL_law_1096 : decode cL_law 1096 = .ok (.iadd, 1) := by decide +kernel
theorem dL_law_1097 : decode cL_law 1097 = .ok (.iaload, 1) := by decide +kernel
theorem dL_law_1098 : decode cL_law 1098 = .ok (.invokevirtual 164, 3) := by decide +kernel
theorem dL_law_1101 : decode cL_law 1101 = .ok (.istore 6, 2) := by decide +kernel
theorem dL_law_1103 : decode cL_law 1103 = .ok (.aload_n 2, 1) := by decide +kernel
theorem dL_law_1104 : decode cL_law 1104 = .ok (.invokevirtual 117, 3) := by decide +kernel
theorem dL_law_1107 : decode cL_law 1107 = .ok (.iload 5, 2) := by decide +kernel
theorem dL_law_1109 : decode cL_law 1109 = .ok (.if_icmp .eq 5, 3) := by decide +kernel
theorem dL_law_1112 : decode cL_law 1112 = .ok (.iconst 0, 1) := by decide +kernel
theorem dL_law_1113 : decode cL_law 1113 = .ok (.ireturn, 1) := by decide +kernel
theorem dL_law_1114 : decode cL_law 1114 = .ok (.iload 5, 2) := by decide +kernel
theorem dL_law_1116 : decode cL_law 1116 = .ok (.ifCond .ne 22, 3) := by decide +kernel
theorem dL_law_1119 : decode cL_law 1119 = .ok (.aload_n 3, 1) := by decide +kernel
theorem dL_law_1120 : decode cL_law 1120 = .ok (.iconst 0, 1) := by decide +kernel
theorem dL_law_1121 : decode cL_law 1121 = .ok (.laload, 1) := by decide +kernel
theorem dL_law_1122 : decode cL_law 1122 = .ok (.iload 6, 2) := by decide +kernel
theorem dL_law_1124 : decode cL_law 1124 = .ok (.ifCond .eq 7, 3) := by decide +kernel
theorem dL_law_1127 : decode cL_law 1127 = .ok (.lconst 1, 1) := by decide +kernel
theorem dL_law_1128 : decode cL_law 1128 = .ok (.goto 4, 3) := by decide +kernel
theorem dL_law_1131 : decode cL_law 1131 = .ok (.lconst 0, 1) := by decide +kernel
theorem dL_law_1132 : decode cL_law 1132 = .ok (.lcmp, 1) := by decide +kernel
theorem dL_law_1133 : decode cL_law 1133 = .ok (.ifCond .eq 5, 3) := by decide +kernel
theorem dL_law_1136 : decode cL_law 1136 = .ok (.iconst 0, 1) := by decide +kernel
theorem dL_law_1137 : decode cL_law 1137 = .ok (.ireturn, 1) := by decide +kernel
theorem dL_law_1138 : decode cL_law 1138 = .ok (.goto 1017, 3) := by decide +kernel
theorem dL_law_1141 : decode cL_law 1141 = .ok (.aload_n 1, 1) := by decide +kernel
theorem dL_law_1142 : decode cL_law 1142 = .ok (.aload_n 0, 1) := by decide +kernel
theorem dL_law_1143 : decode cL_law 1143 = .ok (.iload 4, 2) := by decide +kernel
theorem dL_law_1145 : decode cL_law 1145 = .ok (.iconst 1, 1) := by decide +kernel
theorem dL_law_1146 : decode cL_law 1146 = .ok (.iadd, 1) := by decide +kernel
theorem dL_law_1147 : decode cL_law 1147 = .ok (.iaload, 1) := by decide +kernel
theorem dL_law_1148 : decode cL_law 1148 = .ok (.aload_n 3, 1) := by decide +kernel
theorem dL_law_1149 : decode cL_law 1149 = .ok (.invokestatic 165, 3) := by decide +kernel
theorem dL_law_1152 : decode cL_law 1152 = .ok (.istore 5, 2) := by decide +kernel
theorem dL_law_1154 : decode cL_law 1154 = .ok (.aload_n 2, 1) := by decide +kernel
theorem dL_law_1155 : decode cL_law 1155 = .ok (.aload_n 0, 1) := by decide +kernel
theorem dL_law_1156 : decode cL_law 1156 = .ok (.iload 4, 2) := by decide +kernel
theorem dL_law_1158 : decode cL_law 1158 = .ok (.iconst 1, 1) := by decide +kernel
theorem dL_law_1159 : decode cL_law 1159 = .ok (.iadd, 1) := by decide +kernel
theorem dL_law_1160 : decode cL_law 1160 = .ok (.iaload, 1) := by decide +kernel
theorem dL_law_1161 : decode cL_law 1161 = .ok (.invokevirtual 167, 3) := by decide +kernel
theorem dL_law_1164 : decode cL_law 1164 = .ok (.istore 6, 2) := by decide +kernel
theorem dL_law_1166 : decode cL_law 1166 = .ok (.aload_n 2, 1) := by decide +kernel
theorem dL_law_1167 : decode cL_law 1167 = .ok (.invokevirtual 117, 3) := by decide +kernel
theorem dL_law_1170 : decode cL_law 1170 = .ok (.iload 5, 2) := by decide +kernel
theorem dL_law_1172 : decode cL_law 1172 = .ok (.if_icmp .eq 5, 3) := by decide +kernel
theorem dL_law_1175 : decode cL_law 1175 = .ok (.iconst 0, 1) := by decide +kernel
theorem dL_law_1176 : decode cL_law 1176 = .ok (.ireturn, 1) := by decide +kernel
theorem dL_law_1177 : decode cL_law 1177 = .ok (.iload 5, 2) := by decide +kernel
theorem dL_law_1179 : decode cL_law 1179 = .ok (.ifCond .ne 22, 3) := by decide +kernel
theorem dL_law_1182 : decode cL_law 1182 = .ok (.aload_n 3, 1) := by decide +kernel
theorem dL_law_1183 : decode cL_law 1183 = .ok (.iconst 0, 1) := by decide +kernel
theorem dL_law_1184 : decode cL_law 1184 = .ok (.laload, 1) := by decide +kernel
theorem dL_law_1185 : decode cL_law 1185 = .ok (.iload 6, 2) := by decide +kernel
theorem dL_law_1187 : decode cL_law 1187 = .ok (.ifCond .eq 7, 3) := by decide +kernel
theorem dL_law_1190 : decode cL_law 1190 = .ok (.lconst 1, 1) := by decide +kernel
theorem dL_law_1191 : decode cL_law 1191 = .ok (.goto 4, 3) := by decide +kernel
theorem dL_law_1194 : decode cL_law 1194 = .ok (.lconst 0, 1) := by decide +kernel
theorem dL_law_1195 : decode cL_law 1195 = .ok (.lcmp, 1) := by decide +kernel
theorem dL_law_1196 : decode cL_law 1196 = .ok (.ifCond .eq 5, 3) := by decide +kernel
theorem dL_law_1199 : decode cL_law 1199 = .ok (.iconst 0, 1) := by decide +kernel
theorem dL_law_1200 : decode cL_law 1200 = .ok (.ireturn, 1) := by decide +kernel
theorem dL_law_1201 : decode cL_law 1201 = .ok (.goto 954, 3) := by decide +kernel
theorem dL_law_1204 : decode cL_law 1204 = .ok (.aload_n 1, 1) := by decide +kernel
theorem dL_law_1205 : decode cL_law 1205 = .ok (.aload_n 0, 1) := by decide +kernel
theorem dL_law_1206 : decode cL_law 1206 = .ok (.iload 4, 2) := by decide +kernel
theorem dL_law_1208 : decode cL_law 1208 = .ok (.iconst 1, 1) := by decide +kernel
theorem dL_law_1209 : decode cL_law 1209 = .ok (.iadd, 1) := by decide +kernel
theorem dL_law_1210 : decode cL_law 1210 = .ok (.iaload, 1) := by decide +kernel
theorem dL_law_1211 : decode cL_law 1211 = .ok (.aload_n 0, 1) := by decide +kernel
theorem dL_law_1212 : decode cL_law 1212 = .ok (.iload 4, 2) := by decide +kernel
theorem dL_law_1214 : decode cL_law 1214 = .ok (.iconst 2, 1) := by decide +kernel
theorem dL_law_1215 : decode cL_law 1215 = .ok (.iadd, 1) := by decide +kernel
theorem dL_law_1216 : decode cL_law 1216 = .ok (.iaload, 1) := by decide +kernel
theorem dL_law_1217 : decode cL_law 1217 = .ok (.aload_n 3, 1) := by decide +kernel
theorem dL_law_1218 : decode cL_law 1218 = .ok (.invokestatic 168, 3) := by decide +kernel
theorem dL_law_1221 : decode cL_law 1221 = .ok (.istore 5, 2) := by decide +kernel
theorem dL_law_1223 : decode cL_law 1223 = .ok (.aload_n 2, 1) := by decide +kernel
theorem dL_law_1224 : decode cL_law 1224 = .ok (.aload_n 0, 1) := by decide +kernel
theorem dL_law_1225 : decode cL_law 1225 = .ok (.iload 4, 2) := by decide +kernel
theorem dL_law_1227 : decode cL_law 1227 = .ok (.iconst 1, 1) := by decide +kernel
theorem dL_law_1228 : decode cL_law 1228 = .ok (.iadd, 1) := by decide +kernel
theorem dL_law_1229 : decode cL_law 1229 = .ok (.iaload, 1) := by decide +kernel
theorem dL_law_1230 : decode cL_law 1230 = .ok (.aload_n 0, 1) := by decide +kernel
theorem dL_law_1231 : decode cL_law 1231 = .ok (.iload 4, 2) := by decide +kernel
theorem dL_law_1233 : decode cL_law 1233 = .ok (.iconst 2, 1) := by decide +kernel
theorem dL_law_1234 : decode cL_law 1234 = .ok (.iadd, 1) := by decide +kernel
theorem dL_law_1235 : decode cL_law 1235 = .ok (.iaload, 1) := by decide +kernel
theorem dL_law_1236 : decode cL_law 1236 = .ok (.invokevirtual 170, 3) := by decide +kernel
theorem dL_law_1239 : decode cL_law 1239 = .ok (.istore 6, 2) := by decide +kernel
theorem dL_law_1241 : decode cL_law 1241 = .ok (.aload_n 2, 1) := by decide +kernel
theorem dL_law_1242 : decode cL_law 1242 = .ok (.invokevirtual 117, 3) := by decide +kernel
theorem dL_law_1245 : decode cL_law 1245 = .ok (.iload 5, 2) := by decide +kernel
theorem dL_law_1247 : decode cL_law 1247 = .ok (.if_icmp .eq 5, 3) := by decide +kernel
theorem dL_law_1250 : decode cL_law 1250 = .ok (.iconst 0, 1) := by decide +kernel
theorem dL_law_1251 : decode cL_law 1251 = .ok (.ireturn, 1) := by decide +kernel
theorem dL_law_1252 : decode cL_law 1252 = .ok (.iload 5, 2) := by decide +kernel
theorem dL_law_1254 : decode cL_law 1254 = .ok (.ifCond .ne 15, 3) := by decide +kernel
theorem dL_law_1257 : decode cL_law 1257 = .ok (.aload_n 3, 1) := by decide +kernel
theorem dL_law_1258 : decode cL_law 1258 = .ok (.iconst 0, 1) := by decide +kernel
theorem dL_law_1259 : decode cL_law 1259 = .ok (.laload, 1) := by decide +kernel
theorem dL_law_1260 : decode cL_law 1260 = .ok (.iload 6, 2) := by decide +kernel
theorem dL_law_1262 : decode cL_law 1262 = .ok (.i2l, 1) := by decide +kernel
theorem dL_law_1263 : decode cL_law 1263 = .ok (.lcmp, 1) := by decide +kernel
theorem dL_law_1264 : decode cL_law 1264 = .ok (.ifCond .eq 5, 3) := by decide +kernel
theorem dL_law_1267 : decode cL_law 1267 = .ok (.iconst 0, 1) := by decide +kernel
theorem dL_law_1268 : decode cL_law 1268 = .ok (.ireturn, 1) := by decide +kernel
theorem dL_law_1269 : decode cL_law 1269 = .ok (.goto 886, 3) := by decide +kernel
theorem dL_law_1272 : decode cL_law 1272 = .ok (.aload_n 1, 1) := by decide +kernel
theorem dL_law_1273 : decode cL_law 1273 = .ok (.aload_n 0, 1) := by decide +kernel
theorem dL_law_1274 : decode cL_law 1274 = .ok (.iload 4, 2) := by decide +kernel
theorem dL_law_1276 : decode cL_law 1276 = .ok (.iconst 1, 1) := by decide +kernel
theorem dL_law_1277 : decode cL_law 1277 = .ok (.iadd, 1) := by decide +kernel
theorem dL_law_1278 : decode cL_law 1278 = .ok (.iaload, 1) := by decide +kernel
theorem dL_law_1279 : decode cL_law 1279 = .ok (.aload_n 0, 1) := by decide +kernel
theorem dL_law_1280 : decode cL_law 1280 = .ok (.iload 4, 2) := by decide +kernel
theorem dL_law_1282 : decode cL_law 1282 = .ok (.iconst 2, 1) := by decide +kernel
theorem dL_law_1283 : decode cL_law 1283 = .ok (.iadd, 1) := by decide +kernel
theorem dL_law_1284 : decode cL_law 1284 = .ok (.iaload, 1) := by decide +kernel
theorem dL_law_1285 : decode cL_law 1285 = .ok (.aload_n 3, 1) := by decide +kernel
theorem dL_law_1286 : decode cL_law 1286 = .ok (.invokestatic 171, 3) := by decide +kernel
theorem dL_law_1289 : decode cL_law 1289 = .ok (.istore 5, 2) := by decide +kernel
theorem dL_law_1291 : decode cL_law 1291 = .ok (.aload_n 2, 1) := by decide +kernel
theorem dL_law_1292 : decode cL_law 1292 = .ok (.aload_n 0, 1) := by decide +kernel
theorem dL_law_1293 : decode cL_law 1293 = .ok (.iload 4, 2) := by decide +kernel
theorem dL_law_1295 : decode cL_law 1295 = .ok (.iconst 1, 1) := by decide +kernel
theorem dL_law_1296 : decode cL_law 1296 = .ok (.iadd, 1) := by decide +kernel
theorem dL_law_1297 : decode cL_law 1297 = .ok (.iaload, 1) := by decide +kernel
theorem dL_law_1298 : decode cL_law 1298 = .ok (.aload_n 0, 1) := by decide +kernel
theorem dL_law_1299 : decode cL_law 1299 = .ok (.iload 4, 2) := by decide +kernel
theorem dL_law_1301 : decode cL_law 1301 = .ok (.iconst 2, 1) := by decide +kernel
theorem dL_law_1302 : decode cL_law 1302 = .ok (.iadd, 1) := by decide +kernel
theorem dL_law_1303 : decode cL_law 1303 = .ok (.iaload, 1) := by decide +kernel
theorem dL_law_1304 : decode cL_law 1304 = .ok (.invokevirtual 173, 3) := by decide +kernel
theorem dL_law_1307 : decode cL_law 1307 = .ok (.istore 6, 2) := by decide +kernel
theorem dL_law_1309 : decode cL_law 1309 = .ok (.aload_n 2, 1) := by decide +kernel
theorem dL_law_1310 : decode cL_law 1310 = .ok (.invokevirtual 117, 3) := by decide +kernel
theorem dL_law_1313 : decode cL_law 1313 = .ok (.iload 5, 2) := by decide +kernel
theorem dL_law_1315 : decode cL_law 1315 = .ok (.if_icmp .eq 5, 3) := by decide +kernel
theorem dL_law_1318 : decode cL_law 1318 = .ok (.iconst 0, 1) := by decide +kernel
theorem dL_law_1319 : decode cL_law 1319 = .ok (.ireturn, 1) := by decide +kernel
theorem dL_law_1320 : decode cL_law 1320 = .ok (.iload 5, 2) := by decide +kernel
theorem dL_law_1322 : decode cL_law 1322 = .ok (.ifCond .ne 22, 3) := by decide +kernel
theorem dL_law_1325 : decode cL_law 1325 = .ok (.aload_n 3, 1) := by decide +kernel
theorem dL_law_1326 : decode cL_law 1326 = .ok (.iconst 0, 1) := by decide +kernel
theorem dL_law_1327 : decode cL_law 1327 = .ok (.laload, 1) := by decide +kernel
theorem dL_law_1328 : decode cL_law 1328 = .ok (.iload 6, 2) := by decide +kernel
theorem dL_law_1330 : decode cL_law 1330 = .ok (.ifCond .eq 7, 3) := by decide +kernel
theorem dL_law_1333 : decode cL_law 1333 = .ok (.lconst 1, 1) := by decide +kernel
theorem dL_law_1334 : decode cL_law 1334 = .ok (.goto 4, 3) := by decide +kernel
theorem dL_law_1337 : decode cL_law 1337 = .ok (.lconst 0, 1) := by decide +kernel
theorem dL_law_1338 : decode cL_law 1338 = .ok (.lcmp, 1) := by decide +kernel
theorem dL_law_1339 : decode cL_law 1339 = .ok (.ifCond .eq 5, 3) := by decide +kernel
theorem dL_law_1342 : decode cL_law 1342 = .ok (.iconst 0, 1) := by decide +kernel
theorem dL_law_1343 : decode cL_law 1343 = .ok (.ireturn, 1) := by decide +kernel
theorem dL_law_1344 : decode cL_law 1344 = .ok (.goto 811, 3) := by decide +kernel
theorem dL_law_1347 : decode cL_law 1347 = .ok (.aload_n 1, 1) := by decide +kernel
theorem dL_law_1348 : decode cL_law 1348 = .ok (.aload_n 0, 1) := by decide +kernel
theorem dL_law_1349 : decode cL_law 1349 = .ok (.iload 4, 2) := by decide +kernel
theorem dL_law_1351 : decode cL_law 1351 = .ok (.iconst 1, 1) := by decide +kernel
theorem dL_law_1352 : decode cL_law 1352 = .ok (.iadd, 1) := by decide +kernel
theorem dL_law_1353 : decode cL_law 1353 = .ok (.iaload, 1) := by decide +kernel
theorem dL_law_1354 : decode cL_law 1354 = .ok (.aload_n 0, 1) := by decide +kernel
theorem dL_law_1355 : decode cL_law 1355 = .ok (.iload 4, 2) := by decide +kernel
theorem dL_law_1357 : decode cL_law 1357 = .ok (.iconst 2, 1) := by decide +kernel
theorem dL_law_1358 : decode cL_law 1358 = .ok (.iadd, 1) := by decide +kernel
theorem dL_law_1359 : decode cL_law 1359 = .ok (.iaload, 1) := by decide +kernel
theorem dL_law_1360 : decode cL_law 1360 = .ok (.aload_n 3, 1) := by decide +kernel
theorem dL_law_1361 : decode cL_law 1361 = .ok (.invokestatic 174, 3) := by decide +kernel
theorem dL_law_1364 : decode cL_law 1364 = .ok (.istore 5, 2) := by decide +kernel
theorem dL_law_1366 : decode cL_law 1366 = .ok (.aload_n 2, 1) := by decide +kernel
theorem dL_law_1367 : decode cL_law 1367 = .ok (.aload_n 0, 1) := by decide +kernel
theorem dL_law_1368 : decode cL_law 1368 = .ok (.iload 4, 2) := by decide +kernel
theorem dL_law_1370 : decode cL_law 1370 = .ok (.iconst 1, 1) := by decide +kernel
theorem dL_law_1371 : decode cL_law 1371 = .ok (.iadd, 1) := by decide +kernel
theorem dL_law_1372 : decode cL_law 1372 = .ok (.iaload, 1) := by decide +kernel
theorem dL_law_1373 : decode cL_law 1373 = .ok (.aload_n 0, 1) := by decide +kernel
theorem dL_law_1374 : decode cL_law 1374 = .ok (.iload 4, 2) := by decide +kernel
theorem dL_law_1376 : decode cL_law 1376 = .ok (.iconst 2, 1) := by decide +kernel
theorem dL_law_1377 : decode cL_law 1377 = .ok (.iadd, 1) := by decide +kernel
theorem dL_law_1378 : decode cL_law 1378 = .ok (.iaload, 1) := by decide +kernel
theorem dL_law_1379 : decode cL_law 1379 = .ok (.invokevirtual 176, 3) := by decide +kernel
theorem dL_law_1382 : decode cL_law 1382 = .ok (.istore 6, 2) := by decide +kernel
theorem dL_law_1384 : decode cL_law 1384 = .ok (.aload_n 2, 1) := by decide +kernel
theorem dL_law_1385 : decode cL_law 1385 = .ok (.invokevirtual 117, 3) := by decide +kernel
theorem dL_law_1388 : decode cL_law 1388 = .ok (.iload 5, 2) := by decide +kernel
theorem dL_law_1390 : decode cL_law 1390 = .ok (.if_icmp .eq 5, 3) := by decide +kernel
theorem dL_law_1393 : decode cL_law 1393 = .ok (.iconst 0, 1) := by decide +kernel
theorem dL_law_1394 : decode cL_law 1394 = .ok (.ireturn, 1) := by decide +kernel
theorem dL_law_1395 : decode cL_law 1395 = .ok (.iload 5, 2) := by decide +kernel
theorem dL_law_1397 : decode cL_law 1397 = .ok (.ifCond .ne 15, 3) := by decide +kernel
theorem dL_law_1400 : decode cL_law 1400 = .ok (.aload_n 3, 1) := by decide +kernel
theorem dL_law_1401 : decode cL_law 1401 = .ok (.iconst 0, 1) := by decide +kernel
theorem dL_law_1402 : decode cL_law 1402 = .ok (.laload, 1) := by decide +kernel
theorem dL_law_1403 : decode cL_law 1403 = .ok (.iload 6, 2) := by decide +kernel
theorem dL_law_1405 : decode cL_law 1405 = .ok (.i2l, 1) := by decide +kernel
theorem dL_law_1406 : decode cL_law 1406 = .ok (.lcmp, 1) := by decide +kernel
theorem dL_law_1407 : decode cL_law 1407 = .ok (.ifCond .eq 5, 3) := by decide +kernel
theorem dL_law_1410 : decode cL_law 1410 = .ok (.iconst 0, 1) := by decide +kernel
theorem dL_law_1411 : decode cL_law 1411 = .ok (.ireturn, 1) := by decide +kernel
theorem dL_law_1412 : decode cL_law 1412 = .ok (.goto 743, 3) := by decide +kernel
theorem dL_law_1415 : decode cL_law 1415 = .ok (.aload_n 1, 1) := by decide +kernel
theorem dL_law_1416 : decode cL_law 1416 = .ok (.aload_n 0, 1) := by decide +kernel
theorem dL_law_1417 : decode cL_law 1417 = .ok (.iload 4, 2) := by decide +kernel
theorem dL_law_1419 : decode cL_law 1419 = .ok (.iconst 1, 1) := by decide +kernel
theorem dL_law_1420 : decode cL_law 1420 = .ok (.iadd, 1) := by decide +kernel
theorem dL_law_1421 : decode cL_law 1421 = .ok (.iaload, 1) := by decide +kernel
theorem dL_law_1422 : decode cL_law 1422 = .ok (.aload_n 3, 1) := by decide +kernel
theorem dL_law_1423 : decode cL_law 1423 = .ok (.invokestatic 177, 3) := by decide +kernel
theorem dL_law_1426 : decode cL_law 1426 = .ok (.istore 5, 2) := by decide +kernel
theorem dL_law_1428 : decode cL_law 1428 = .ok (.aload_n 2, 1) := by decide +kernel
theorem dL_law_1429 : decode cL_law 1429 = .ok (.aload_n 0, 1) := by decide +kernel
theorem dL_law_1430 : decode cL_law 1430 = .ok (.iload 4, 2) := by decide +kernel
theorem dL_law_1432 : decode cL_law 1432 = .ok (.iconst 1, 1) := by decide +kernel
theorem dL_law_1433 : decode cL_law 1433 = .ok (.iadd, 1) := by decide +kernel
theorem dL_law_1434 : decode cL_law 1434 = .ok (.iaload, 1) := by decide +kernel
theorem dL_law_1435 : decode cL_law 1435 = .ok (.invokevirtual 179, 3) := by decide +kernel
theorem dL_law_1438 : decode cL_law 1438 = .ok (.istore 6, 2) := by decide +kernel
theorem dL_law_1440 : decode cL_law 1440 = .ok (.aload_n 2, 1) := by decide +kernel
theorem dL_law_1441 : decode cL_law 1441 = .ok (.invokevirtual 117, 3) := by decide +kernel
theorem dL_law_1444 : decode cL_law 1444 = .ok (.iload 5, 2) := by decide +kernel
theorem dL_law_1446 : decode cL_law 1446 = .ok (.if_icmp .eq 5, 3) := by decide +kernel
theorem dL_law_1449 : decode cL_law 1449 = .ok (.iconst 0, 1) := by decide +kernel
theorem dL_law_1450 : decode cL_law 1450 = .ok (.ireturn, 1) := by decide +kernel
theorem dL_law_1451 : decode cL_law 1451 = .ok (.iload 5, 2) := by decide +kernel
theorem dL_law_1453 : decode cL_law 1453 = .ok (.ifCond .ne 22, 3) := by decide +kernel
theorem dL_law_1456 : decode cL_law 1456 = .ok (.aload_n 3, 1) := by decide +kernel
theorem dL_law_1457 : decode cL_law 1457 = .ok (.iconst 0, 1) := by decide +kernel
theorem dL_law_1458 : decode cL_law 1458 = .ok (.laload, 1) := by decide +kernel
theorem dL_law_1459 : decode cL_law 1459 = .ok (.iload 6, 2) := by decide +kernel
theorem dL_law_1461 : decode cL_law 1461 = .ok (.ifCond .eq 7, 3) := by decide +kernel
theorem dL_law_1464 : decode cL_law 1464 = .ok (.lconst 1, 1) := by decide +kernel
theorem dL_law_1465 : decode cL_law 1465 = .ok (.goto 4, 3) := by decide +kernel
theorem dL_law_1468 : decode cL_law 1468 = .ok (.lconst 0, 1) := by decide +kernel
theorem dL_law_1469 : decode cL_law 1469 = .ok (.lcmp, 1) := by decide +kernel
theorem dL_law_1470 : decode cL_law 1470 = .ok (.ifCond .eq 5, 3) := by decide +kernel
theorem dL_law_1473 : decode cL_law 1473 = .ok (.iconst 0, 1) := by decide +kernel
theorem dL_law_1474 : decode cL_law 1474 = .ok (.ireturn, 1) := by decide +kernel
theorem dL_law_1475 : decode cL_law 1475 = .ok (.goto 680, 3) := by decide +kernel
theorem dL_law_1478 : decode cL_law 1478 = .ok (.aload_n 1, 1) := by decide +kernel
theorem dL_law_1479 : decode cL_law 1479 = .ok (.aload_n 0, 1) := by decide +kernel
theorem dL_law_1480 : decode cL_law 1480 = .ok (.iload 4, 2) := by decide +kernel
theorem dL_law_1482 : decode cL_law 1482 = .ok (.iconst 1, 1) := by decide +kernel
theorem dL_law_1483 : decode cL_law 1483 = .ok (.iadd, 1) := by decide +kernel
theorem dL_law_1484 : decode cL_law 1484 = .ok (.iaload, 1) := by decide +kernel
theorem dL_law_1485 : decode cL_law 1485 = .ok (.aload_n 3, 1) := by decide +kernel
theorem dL_law_1486 : decode cL_law 1486 = .ok (.invokestatic 180, 3) := by decide +kernel
theorem dL_law_1489 : decode cL_law 1489 = .ok (.istore 5, 2) := by decide +kernel
theorem dL_law_1491 : decode cL_law 1491 = .ok (.aload_n 2, 1) := by decide +kernel
theorem dL_law_1492 : decode cL_law 1492 = .ok (.aload_n 0, 1) := by decide +kernel
theorem dL_law_1493 : decode cL_law 1493 = .ok (.iload 4, 2) := by decide +kernel
theorem dL_law_1495 : decode cL_law 1495 = .ok (.iconst 1, 1) := by decide +kernel
theorem dL_law_1496 : decode cL_law 1496 = .ok (.iadd, 1) := by decide +kernel
theorem dL_law_1497 : decode cL_law 1497 = .ok (.iaload, 1) := by decide +kernel
theorem dL_law_1498 : decode cL_law 1498 = .ok (.invokevirtual 182, 3) := by decide +kernel
theorem dL_law_1501 : decode cL_law 1501 = .ok (.istore 6, 2) := by decide +kernel
theorem dL_law_1503 : decode cL_law 1503 = .ok (.aload_n 2, 1) := by decide +kernel
theorem dL_law_1504 : decode cL_law 1504 = .ok (.invokevirtual 117, 3) := by decide +kernel
theorem dL_law_1507 : decode cL_law 1507 = .ok (.iload 5, 2) := by decide +kernel
theorem dL_law_1509 : decode cL_law 1509 = .ok (.if_icmp .eq 5, 3) := by decide +kernel
theorem dL_law_1512 : decode cL_law 1512 = .ok (.iconst 0, 1) := by decide +kernel
theorem dL_law_1513 : decode cL_law 1513 = .ok (.ireturn, 1) := by decide +kernel
theorem dL_law_1514 : decode cL_law 1514 = .ok (.iload 5, 2) := by decide +kernel
theorem dL_law_1516 : decode cL_law 1516 = .ok (.ifCond .ne 22, 3) := by decide +kernel
theorem dL_law_1519 : decode cL_law 1519 = .ok (.aload_n 3, 1) := by decide +kernel
theorem dL_law_1520 : decode cL_law 1520 = .ok (.iconst 0, 1) := by decide +kernel
theorem dL_law_1521 : decode cL_law 1521 = .ok (.laload, 1) := by decide +kernel
theorem dL_law_1522 : decode cL_law 1522 = .ok (.iload 6, 2) := by decide +kernel
theorem dL_law_1524 : decode cL_law 1524 = .ok (.ifCond .eq 7, 3) := by decide +kernel
theorem dL_law_1527 : decode cL_law 1527 = .ok (.lconst 1, 1) := by decide +kernel
theorem dL_law_1528 : decode cL_law 1528 = .ok (.goto 4, 3) := by decide +kernel
theorem dL_law_1531 : decode cL_law 1531 = .ok (.lconst 0, 1) := by decide +kernel
theorem dL_law_1532 : decode cL_law 1532 = .ok (.lcmp, 1) := by decide +kernel
theorem dL_law_1533 : decode cL_law 1533 = .ok (.ifCond .eq 5, 3) := by decide +kernel
theorem dL_law_1536 : decode cL_law 1536 = .ok (.iconst 0, 1) := by decide +kernel
theorem dL_law_1537 : decode cL_law 1537 = .ok (.ireturn, 1) := by decide +kernel
theorem dL_law_1538 : decode cL_law 1538 = .ok (.goto 617, 3) := by decide +kernel
theorem dL_law_1541 : decode cL_law 1541 = .ok (.aload_n 1, 1) := by decide +kernel
theorem dL_law_1542 : decode cL_law 1542 = .ok (.aload_n 0, 1) := by decide +kernel
theorem dL_law_1543 : decode cL_law 1543 = .ok (.iload 4, 2) := by decide +kernel
theorem dL_law_1545 : decode cL_law 1545 = .ok (.iconst 1, 1) := by decide +kernel
theorem dL_law_1546 : decode cL_law 1546 = .ok (.iadd, 1) := by decide +kernel
theorem dL_law_1547 : decode cL_law 1547 = .ok (.iaload, 1) := by decide +kernel
theorem dL_law_1548 : decode cL_law 1548 = .ok (.aload_n 3, 1) := by decide +kernel
theorem dL_law_1549 : decode cL_law 1549 = .ok (.invokestatic 183, 3) := by decide +kernel
theorem dL_law_1552 : decode cL_law 1552 = .ok (.istore 5, 2) := by decide +kernel
theorem dL_law_1554 : decode cL_law 1554 = .ok (.aload_n 2, 1) := by decide +kernel
theorem dL_law_1555 : decode cL_law 1555 = .ok (.aload_n 0, 1) := by decide +kernel
theorem dL_law_1556 : decode cL_law 1556 = .ok (.iload 4, 2) := by decide +kernel
theorem dL_law_1558 : decode cL_law 1558 = .ok (.iconst 1, 1) := by decide +kernel
theorem dL_law_1559 : decode cL_law 1559 = .ok (.iadd, 1) := by decide +kernel
theorem dL_law_1560 : decode cL_law 1560 = .ok (.iaload, 1) := by decide +kernel
theorem dL_law_1561 : decode cL_law 1561 = .ok (.invokevirtual 185, 3) := by decide +kernel
theorem dL_law_1564 : decode cL_law 1564 = .ok (.istore 6, 2) := by decide +kernel
theorem dL_law_1566 : decode cL_law 1566 = .ok (.aload_n 2, 1) := by decide +kernel
theorem dL_law_1567 : decode cL_law 1567 = .ok (.invokevirtual 117, 3) := by decide +kernel
theorem dL_law_1570 : decode cL_law 1570 = .ok (.iload 5, 2) := by decide +kernel
theorem dL_law_1572 : decode cL_law 1572 = .ok (.if_icmp .eq 5, 3) := by decide +kernel
theorem dL_law_1575 : decode cL_law 1575 = .ok (.iconst 0, 1) := by decide +kernel
theorem dL_law_1576 : decode cL_law 1576 = .ok (.ireturn, 1) := by decide +kernel
theorem dL_law_1577 : decode cL_law 1577 = .ok (.iload 5, 2) := by decide +kernel
theorem dL_law_1579 : decode cL_law 1579 = .ok (.ifCond .ne 15, 3) := by decide +kernel
theorem dL_law_1582 : decode cL_law 1582 = .ok (.aload_n 3, 1) := by decide +kernel
theorem dL_law_1583 : decode cL_law 1583 = .ok (.iconst 0, 1) := by decide +kernel
theorem dL_law_1584 : decode cL_law 1584 = .ok (.laload, 1) := by decide +kernel
theorem dL_law_1585 : decode cL_law 1585 = .ok (.iload 6, 2) := by decide +kernel
theorem dL_law_1587 : decode cL_law 1587 = .ok (.i2l, 1) := by decide +kernel
theorem dL_law_1588 : decode cL_law 1588 = .ok (.lcmp, 1) := by decide +kernel
theorem dL_law_1589 : decode cL_law 1589 = .ok (.ifCond .eq 5, 3) := by decide +kernel
theorem dL_law_1592 : decode cL_law 1592 = .ok (.iconst 0, 1) := by decide +kernel
theorem dL_law_1593 : decode cL_law 1593 = .ok (.ireturn, 1) := by decide +kernel
theorem dL_law_1594 : decode cL_law 1594 = .ok (.goto 561, 3) := by decide +kernel
theorem dL_law_1597 : decode cL_law 1597 = .ok (.aload_n 1, 1) := by decide +kernel
theorem dL_law_1598 : decode cL_law 1598 = .ok (.aload_n 0, 1) := by decide +kernel
theorem dL_law_1599 : decode cL_law 1599 = .ok (.iload 4, 2) := by decide +kernel
theorem dL_law_1601 : decode cL_law 1601 = .ok (.iconst 1, 1) := by decide +kernel
theorem dL_law_1602 : decode cL_law 1602 = .ok (.iadd, 1) := by decide +kernel
theorem dL_law_1603 : decode cL_law 1603 = .ok (.iaload, 1) := by decide +kernel
theorem dL_law_1604 : decode cL_law 1604 = .ok (.aload_n 3, 1) := by decide +kernel
theorem dL_law_1605 : decode cL_law 1605 = .ok (.invokestatic 186, 3) := by decide +kernel
theorem dL_law_1608 : decode cL_law 1608 = .ok (.istore 5, 2) := by decide +kernel
theorem dL_law_1610 : decode cL_law 1610 = .ok (.aload_n 2, 1) := by decide +kernel
theorem dL_law_1611 : decode cL_law 1611 = .ok (.aload_n 0, 1) := by decide +kernel
theorem dL_law_1612 : decode cL_law 1612 = .ok (.iload 4, 2) := by decide +kernel
theorem dL_law_1614 : decode cL_law 1614 = .ok (.iconst 1, 1) := by decide +kernel
theorem dL_law_1615 : decode cL_law 1615 = .ok (.iadd, 1) := by decide +kernel
theorem dL_law_1616 : decode cL_law 1616 = .ok (.iaload, 1) := by decide +kernel
theorem dL_law_1617 : decode cL_law 1617 = .ok (.invokevirtual 188, 3) := by decide +kernel
theorem dL_law_1620 : decode cL_law 1620 = .ok (.istore 6, 2) := by decide +kernel
theorem dL_law_1622 : decode cL_law 1622 = .ok (.aload_n 2, 1) := by decide +kernel
theorem dL_law_1623 : decode cL_law 1623 = .ok (.invokevirtual 117, 3) := by decide +kernel
theorem dL_law_1626 : decode cL_law 1626 = .ok (.iload 5, 2) := by decide +kernel
theorem dL_law_1628 : decode cL_law 1628 = .ok (.if_icmp .eq 5, 3) := by decide +kernel
theorem dL_law_1631 : decode cL_law 1631 = .ok (.iconst 0, 1) := by decide +kernel
theorem dL_law_1632 : decode cL_law 1632 = .ok (.ireturn, 1) := by decide +kernel
theorem dL_law_1633 : decode cL_law 1633 = .ok (.iload 5, 2) := by decide +kernel
theorem dL_law_1635 : decode cL_law 1635 = .ok (.ifCond .ne 15, 3) := by decide +kernel
theorem dL_law_1638 : decode cL_law 1638 = .ok (.aload_n 3, 1) := by decide +kernel
theorem dL_law_1639 : decode cL_law 1639 = .ok (.iconst 0, 1) := by decide +kernel
theorem dL_law_1640 : decode cL_law 1640 = .ok (.laload, 1) := by decide +kernel
theorem dL_law_1641 : decode cL_law 1641 = .ok (.iload 6, 2) := by decide +kernel
theorem dL_law_1643 : decode cL_law 1643 = .ok (.i2l, 1) := by decide +kernel
theorem dL_law_1644 : decode cL_law 1644 = .ok (.lcmp, 1) := by decide +kernel
theorem dL_law_1645 : decode cL_law 1645 = .ok (.ifCond .eq 5, 3) := by decide +kernel
theorem dL_law_1648 : decode cL_law 1648 = .ok (.iconst 0, 1) := by decide +kernel
theorem dL_law_1649 : decode cL_law 1649 = .ok (.ireturn, 1) := by decide +kernel
theorem dL_law_1650 : decode cL_law 1650 = .ok (.goto 505, 3) := by decide +kernel
theorem dL_law_1653 : decode cL_law 1653 = .ok (.aload_n 1, 1) := by decide +kernel
theorem dL_law_1654 : decode cL_law 1654 = .ok (.aload_n 0, 1) := by decide +kernel
theorem dL_law_1655 : decode cL_law 1655 = .ok (.iload 4, 2) := by decide +kernel
theorem dL_law_1657 : decode cL_law 1657 = .ok (.iconst 1, 1) := by decide +kernel
theorem dL_law_1658 : decode cL_law 1658 = .ok (.iadd, 1) := by decide +kernel
theorem dL_law_1659 : decode cL_law 1659 = .ok (.iaload, 1) := by decide +kernel
theorem dL_law_1660 : decode cL_law 1660 = .ok (.aload_n 3, 1) := by decide +kernel
theorem dL_law_1661 : decode cL_law 1661 = .ok (.invokestatic 189, 3) := by decide +kernel
theorem dL_law_1664 : decode cL_law 1664 = .ok (.istore 5, 2) := by decide +kernel
theorem dL_law_1666 : decode cL_law 1666 = .ok (.aload_n 2, 1) := by decide +kernel
theorem dL_law_1667 : decode cL_law 1667 = .ok (.aload_n 0, 1) := by decide +kernel
theorem dL_law_1668 : decode cL_law 1668 = .ok (.iload 4, 2) := by decide +kernel
theorem dL_law_1670 : decode cL_law 1670 = .ok (.iconst 1, 1) := by decide +kernel
theorem dL_law_1671 : decode cL_law 1671 = .ok (.iadd, 1) := by decide +kernel
theorem dL_law_1672 : decode cL_law 1672 = .ok (.iaload, 1) := by decide +kernel
theorem dL_law_1673 : decode cL_law 1673 = .ok (.invokevirtual 191, 3) := by decide +kernel
theorem dL_law_1676 : decode cL_law 1676 = .ok (.istore 6, 2) := by decide +kernel
theorem dL_law_1678 : decode cL_law 1678 = .ok (.aload_n 2, 1) := by decide +kernel
theorem dL_law_1679 : decode cL_law 1679 = .ok (.invokevirtual 117, 3) := by decide +kernel
theorem dL_law_1682 : decode cL_law 1682 = .ok (.iload 5, 2) := by decide +kernel
theorem dL_law_1684 : decode cL_law 1684 = .ok (.if_icmp .eq 5, 3) := by decide +kernel
theorem dL_law_1687 : decode cL_law 1687 = .ok (.iconst 0, 1) := by decide +kernel
theorem dL_law_1688 : decode cL_law 1688 = .ok (.ireturn, 1) := by decide +kernel
theorem dL_law_1689 : decode cL_law 1689 = .ok (.iload 5, 2) := by decide +kernel
theorem dL_law_1691 : decode cL_law 1691 = .ok (.ifCond .ne 15, 3) := by decide +kernel
theorem dL_law_1694 : decode cL_law 1694 = .ok (.aload_n 3, 1) := by decide +kernel
theorem dL_law_1695 : decode cL_law 1695 = .ok (.iconst 0, 1) := by decide +kernel
theorem dL_law_1696 : decode cL_law 1696 = .ok (.laload, 1) := by decide +kernel
theorem dL_law_1697 : decode cL_law 1697 = .ok (.iload 6, 2) := by decide +kernel
theorem dL_law_1699 : decode cL_law 1699 = .ok (.i2l, 1) := by decide +kernel
theorem dL_law_1700 : decode cL_law 1700 = .ok (.lcmp, 1) := by decide +kernel
theorem dL_law_1701 : decode cL_law 1701 = .ok (.ifCond .eq 5, 3) := by decide +kernel
theorem dL_law_1704 : decode cL_law 1704 = .ok (.iconst 0, 1) := by decide +kernel
theorem dL_law_1705 : decode cL_law 1705 = .ok (.ireturn, 1) := by decide +kernel
theorem dL_law_1706 : decode cL_law 1706 = .ok (.goto 449, 3) := by decide +kernel
theorem dL_law_1709 : decode cL_law 1709 = .ok (.aload_n 1, 1) := by decide +kernel
theorem dL_law_1710 : decode cL_law 1710 = .ok (.aload_n 0, 1) := by decide +kernel
theorem dL_law_1711 : decode cL_law 1711 = .ok (.iload 4, 2) := by decide +kernel
theorem dL_law_1713 : decode cL_law 1713 = .ok (.iconst 1, 1) := by decide +kernel
theorem dL_law_1714 : decode cL_law 1714 = .ok (.iadd, 1) := by decide +kernel
theorem dL_law_1715 : decode cL_law 1715 = .ok (.iaload, 1) := by decide +kernel
theorem dL_law_1716 : decode cL_law 1716 = .ok (.aload_n 3, 1) := by decide +kernel
theorem dL_law_1717 : decode cL_law 1717 = .ok (.invokestatic 192, 3) := by decide +kernel
theorem dL_law_1720 : decode cL_law 1720 = .ok (.istore 5, 2) := by decide +kernel
theorem dL_law_1722 : decode cL_law 1722 = .ok (.aload_n 2, 1) := by decide +kernel
theorem dL_law_1723 : decode cL_law 1723 = .ok (.aload_n 0, 1) := by decide +kernel
theorem dL_law_1724 : decode cL_law 1724 = .ok (.iload 4, 2) := by decide +kernel
theorem dL_law_1726 : decode cL_law 1726 = .ok (.iconst 1, 1) := by decide +kernel
theorem dL_law_1727 : decode cL_law 1727 = .ok (.iadd, 1) := by decide +kernel
theorem dL_law_1728 : decode cL_law 1728 = .ok (.iaload, 1) := by decide +kernel
theorem dL_law_1729 : decode cL_law 1729 = .ok (.invokevirtual 194, 3) := by decide +kernel
theorem dL_law_1732 : decode cL_law 1732 = .ok (.istore 6, 2) := by decide +kernel
theorem dL_law_1734 : decode cL_law 1734 = .ok (.aload_n 2, 1) := by decide +kernel
theorem dL_law_1735 : decode cL_law 1735 = .ok (.invokevirtual 117, 3) := by decide +kernel
theorem dL_law_1738 : decode cL_law 1738 = .ok (.iload 5, 2) := by decide +kernel
theorem dL_law_1740 : decode cL_law 1740 = .ok (.if_icmp .eq 5, 3) := by decide +kernel
theorem dL_law_1743 : decode cL_law 1743 = .ok (.iconst 0, 1) := by decide +kernel
theorem dL_law_1744 : decode cL_law 1744 = .ok (.ireturn, 1) := by decide +kernel
theorem dL_law_1745 : decode cL_law 1745 = .ok (.iload 5, 2) := by decide +kernel
theorem dL_law_1747 : decode cL_law 1747 = .ok (.ifCond .ne 22, 3) := by decide +kernel
theorem dL_law_1750 : decode cL_law 1750 = .ok (.aload_n 3, 1) := by decide +kernel
theorem dL_law_1751 : decode cL_law 1751 = .ok (.iconst 0, 1) := by decide +kernel
theorem dL_law_1752 : decode cL_law 1752 = .ok (.laload, 1) := by decide +kernel
theorem dL_law_1753 : decode cL_law 1753 = .ok (.iload 6, 2) := by decide +kernel
theorem dL_law_1755 : decode cL_law 1755 = .ok (.ifCond .eq 7, 3) := by decide +kernel
theorem dL_law_1758 : decode cL_law 1758 = .ok (.lconst 1, 1) := by decide +kernel
theorem dL_law_1759 : decode cL_law 1759 = .ok (.goto 4, 3) := by decide +kernel
theorem dL_law_1762 : decode cL_law 1762 = .ok (.lconst 0, 1) := by decide +kernel
theorem dL_law_1763 : decode cL_law 1763 = .ok (.lcmp, 1) := by decide +kernel
theorem dL_law_1764 : decode cL_law 1764 = .ok (.ifCond .eq 5, 3) := by decide +kernel
theorem dL_law_1767 : decode cL_law 1767 = .ok (.iconst 0, 1) := by decide +kernel
theorem dL_law_1768 : decode cL_law 1768 = .ok (.ireturn, 1) := by decide +kernel
theorem dL_law_1769 : decode cL_law 1769 = .ok (.goto 386, 3) := by decide +kernel
theorem dL_law_1772 : decode cL_law 1772 = .ok (.aload_n 1, 1) := by decide +kernel
theorem dL_law_1773 : decode cL_law 1773 = .ok (.aload_n 0, 1) := by decide +kernel
theorem dL_law_1774 : decode cL_law 1774 = .ok (.iload 4, 2) := by decide +kernel
theorem dL_law_1776 : decode cL_law 1776 = .ok (.iconst 1, 1) := by decide +kernel
theorem dL_law_1777 : decode cL_law 1777 = .ok (.iadd, 1) := by decide +kernel
theorem dL_law_1778 : decode cL_law 1778 = .ok (.iaload, 1) := by decide +kernel
theorem dL_law_1779 : decode cL_law 1779 = .ok (.aload_n 3, 1) := by decide +kernel
theorem dL_law_1780 : decode cL_law 1780 = .ok (.invokestatic 195, 3) := by decide +kernel
theorem dL_law_1783 : decode cL_law 1783 = .ok (.istore 5, 2) := by decide +kernel
theorem dL_law_1785 : decode cL_law 1785 = .ok (.aload_n 2, 1) := by decide +kernel
theorem dL_law_1786 : decode cL_law 1786 = .ok (.aload_n 0, 1) := by decide +kernel
theorem dL_law_1787 : decode cL_law 1787 = .ok (.iload 4, 2) := by decide +kernel
theorem dL_law_1789 : decode cL_law 1789 = .ok (.iconst 1, 1) := by decide +kernel
theorem dL_law_1790 : decode cL_law 1790 = .ok (.iadd, 1) := by decide +kernel
theorem dL_law_1791 : decode cL_law 1791 = .ok (.iaload, 1) := by decide +kernel
theorem dL_law_1792 : decode cL_law 1792 = .ok (.invokevirtual 197, 3) := by decide +kernel
theorem dL_law_1795 : decode cL_law 1795 = .ok (.istore 6, 2) := by decide +kernel
theorem dL_law_1797 : decode cL_law 1797 = .ok (.aload_n 2, 1) := by decide +kernel
theorem dL_law_1798 : decode cL_law 1798 = .ok (.invokevirtual 117, 3) := by decide +kernel
theorem dL_law_1801 : decode cL_law 1801 = .ok (.iload 5, 2) := by decide +kernel
theorem dL_law_1803 : decode cL_law 1803 = .ok (.if_icmp .eq 5, 3) := by decide +kernel
theorem dL_law_1806 : decode cL_law 1806 = .ok (.iconst 0, 1) := by decide +kernel
theorem dL_law_1807 : decode cL_law 1807 = .ok (.ireturn, 1) := by decide +kernel
theorem dL_law_1808 : decode cL_law 1808 = .ok (.iload 5, 2) := by decide +kernel
theorem dL_law_1810 : decode cL_law 1810 = .ok (.ifCond .ne 15, 3) := by decide +kernel
theorem dL_law_1813 : decode cL_law 1813 = .ok (.aload_n 3, 1) := by decide +kernel
theorem dL_law_1814 : decode cL_law 1814 = .ok (.iconst 0, 1) := by decide +kernel
theorem dL_law_1815 : decode cL_law 1815 = .ok (.laload, 1) := by decide +kernel
theorem dL_law_1816 : decode cL_law 1816 = .ok (.iload 6, 2) := by decide +kernel
theorem dL_law_1818 : decode cL_law 1818 = .ok (.i2l, 1) := by decide +kernel
theorem dL_law_1819 : decode cL_law 1819 = .ok (.lcmp, 1) := by decide +kernel
theorem dL_law_1820 : decode cL_law 1820 = .ok (.ifCond .eq 5, 3) := by decide +kernel
theorem dL_law_1823 : decode cL_law 1823 = .ok (.iconst 0, 1) := by decide +kernel
theorem dL_law_1824 : decode cL_law 1824 = .ok (.ireturn, 1) := by decide +kernel
theorem dL_law_1825 : decode cL_law 1825 = .ok (.goto 330, 3) := by decide +kernel
theorem dL_law_1828 : decode cL_law 1828 = .ok (.aload_n 1, 1) := by decide +kernel
theorem dL_law_1829 : decode cL_law 1829 = .ok (.invokevirtual 198, 3) := by decide +kernel
theorem dL_law_1832 : decode cL_law 1832 = .ok (.aload_n 2, 1) := by decide +kernel
theorem dL_law_1833 : decode cL_law 1833 = .ok (.invokevirtual 201, 3) := by decide +kernel
theorem dL_law_1836 : decode cL_law 1836 = .ok (.if_icmp .eq 319, 3) := by decide +kernel
theorem dL_law_1839 : decode cL_law 1839 = .ok (.iconst 0, 1) := by decide +kernel
theorem dL_law_1840 : decode cL_law 1840 = .ok (.ireturn, 1) := by decide +kernel
theorem dL_law_1841 : decode cL_law 1841 = .ok (.aload_n 1, 1) := by decide +kernel
theorem dL_law_1842 : decode cL_law 1842 = .ok (.invokevirtual 202, 3) := by decide +kernel
theorem dL_law_1845 : decode cL_law 1845 = .ok (.aload_n 2, 1) := by decide +kernel
theorem dL_law_1846 : decode cL_law 1846 = .ok (.invokevirtual 205, 3) := by decide +kernel
theorem dL_law_1849 : decode cL_law 1849 = .ok (.if_icmp .eq 306, 3) := by decide +kernel
theorem dL_law_1852 : decode cL_law 1852 = .ok (.iconst 0, 1) := by decide +kernel
theorem dL_law_1853 : decode cL_law 1853 = .ok (.ireturn, 1) := by decide +kernel
theorem dL_law_1854 : decode cL_law 1854 = .ok (.aload_n 1, 1) := by decide +kernel
theorem dL_law_1855 : decode cL_law 1855 = .ok (.invokevirtual 206, 3) := by decide +kernel
theorem dL_law_1858 : decode cL_law 1858 = .ok (.aload_n 2, 1) := by decide +kernel
theorem dL_law_1859 : decode cL_law 1859 = .ok (.invokevirtual 209, 3) := by decide +kernel
theorem dL_law_1862 : decode cL_law 1862 = .ok (.if_icmp .eq 293, 3) := by decide +kernel
theorem dL_law_1865 : decode cL_law 1865 = .ok (.iconst 0, 1) := by decide +kernel
theorem dL_law_1866 : decode cL_law 1866 = .ok (.ireturn, 1) := by decide +kernel
theorem dL_law_1867 : decode cL_law 1867 = .ok (.aload_n 1, 1) := by decide +kernel
theorem dL_law_1868 : decode cL_law 1868 = .ok (.invokevirtual 210, 3) := by decide +kernel
theorem dL_law_1871 : decode cL_law 1871 = .ok (.aload_n 2, 1) := by decide +kernel
theorem dL_law_1872 : decode cL_law 1872 = .ok (.invokevirtual 213, 3) := by decide +kernel
theorem dL_law_1875 : decode cL_law 1875 = .ok (.if_icmp .eq 280, 3) := by decide +kernel
theorem dL_law_1878 : decode cL_law 1878 = .ok (.iconst 0, 1) := by decide +kernel
theorem dL_law_1879 : decode cL_law 1879 = .ok (.ireturn, 1) := by decide +kernel
theorem dL_law_1880 : decode cL_law 1880 = .ok (.aload_n 1, 1) := by decide +kernel
theorem dL_law_1881 : decode cL_law 1881 = .ok (.invokevirtual 214, 3) := by decide +kernel
theorem dL_law_1884 : decode cL_law 1884 = .ok (.aload_n 2, 1) := by decide +kernel
theorem dL_law_1885 : decode cL_law 1885 = .ok (.invokevirtual 217, 3) := by decide +kernel
theorem dL_law_1888 : decode cL_law 1888 = .ok (.if_icmp .eq 267, 3) := by decide +kernel
theorem dL_law_1891 : decode cL_law 1891 = .ok (.iconst 0, 1) := by decide +kernel
theorem dL_law_1892 : decode cL_law 1892 = .ok (.ireturn, 1) := by decide +kernel
theorem dL_law_1893 : decode cL_law 1893 = .ok (.aload_n 1, 1) := by decide +kernel
theorem dL_law_1894 : decode cL_law 1894 = .ok (.invokevirtual 218, 3) := by decide +kernel
theorem dL_law_1897 : decode cL_law 1897 = .ok (.aload_n 2, 1) := by decide +kernel
theorem dL_law_1898 : decode cL_law 1898 = .ok (.invokevirtual 221, 3) := by decide +kernel
theorem dL_law_1901 : decode cL_law 1901 = .ok (.if_icmp .eq 254, 3) := by decide +kernel
theorem dL_law_1904 : decode cL_law 1904 = .ok (.iconst 0, 1) := by decide +kernel
theorem dL_law_1905 : decode cL_law 1905 = .ok (.ireturn, 1) := by decide +kernel
theorem dL_law_1906 : decode cL_law 1906 = .ok (.aload_n 1, 1) := by decide +kernel
theorem dL_law_1907 : decode cL_law 1907 = .ok (.invokevirtual 222, 3) := by decide +kernel
theorem dL_law_1910 : decode cL_law 1910 = .ok (.aload_n 2, 1) := by decide +kernel
theorem dL_law_1911 : decode cL_law 1911 = .ok (.invokevirtual 225, 3) := by decide +kernel
theorem dL_law_1914 : decode cL_law 1914 = .ok (.if_icmp .eq 241, 3) := by decide +kernel
theorem dL_law_1917 : decode cL_law 1917 = .ok (.iconst 0, 1) := by decide +kernel
theorem dL_law_1918 : decode cL_law 1918 = .ok (.ireturn, 1) := by decide +kernel
theorem dL_law_1919 : decode cL_law 1919 = .ok (.aload_n 1, 1) := by decide +kernel
theorem dL_law_1920 : decode cL_law 1920 = .ok (.aload_n 0, 1) := by decide +kernel
theorem dL_law_1921 : decode cL_law 1921 = .ok (.iload 4, 2) := by decide +kernel
theorem dL_law_1923 : decode cL_law 1923 = .ok (.iconst 1, 1) := by decide +kernel
theorem dL_law_1924 : decode cL_law 1924 = .ok (.iadd, 1) := by decide +kernel
theorem dL_law_1925 : decode cL_law 1925 = .ok (.iaload, 1) := by decide +kernel
theorem dL_law_1926 : decode cL_law 1926 = .ok (.aload_n 3, 1) := by decide +kernel
theorem dL_law_1927 : decode cL_law 1927 = .ok (.invokestatic 226, 3) := by decide +kernel
theorem dL_law_1930 : decode cL_law 1930 = .ok (.istore 5, 2) := by decide +kernel
theorem dL_law_1932 : decode cL_law 1932 = .ok (.aload_n 2, 1) := by decide +kernel
theorem dL_law_1933 : decode cL_law 1933 = .ok (.aload_n 0, 1) := by decide +kernel
theorem dL_law_1934 : decode cL_law 1934 = .ok (.iload 4, 2) := by decide +kernel
theorem dL_law_1936 : decode cL_law 1936 = .ok (.iconst 1, 1) := by decide +kernel
theorem dL_law_1937 : decode cL_law 1937 = .ok (.iadd, 1) := by decide +kernel
theorem dL_law_1938 : decode cL_law 1938 = .ok (.iaload, 1) := by decide +kernel
theorem dL_law_1939 : decode cL_law 1939 = .ok (.invokevirtual 228, 3) := by decide +kernel
theorem dL_law_1942 : decode cL_law 1942 = .ok (.istore 6, 2) := by decide +kernel
theorem dL_law_1944 : decode cL_law 1944 = .ok (.aload_n 2, 1) := by decide +kernel
theorem dL_law_1945 : decode cL_law 1945 = .ok (.invokevirtual 117, 3) := by decide +kernel
theorem dL_law_1948 : decode cL_law 1948 = .ok (.iload 5, 2) := by decide +kernel
theorem dL_law_1950 : decode cL_law 1950 = .ok (.if_icmp .eq 5, 3) := by decide +kernel
theorem dL_law_1953 : decode cL_law 1953 = .ok (.iconst 0, 1) := by decide +kernel
theorem dL_law_1954 : decode cL_law 1954 = .ok (.ireturn, 1) := by decide +kernel
theorem dL_law_1955 : decode cL_law 1955 = .ok (.iload 5, 2) := by decide +kernel
theorem dL_law_1957 : decode cL_law 1957 = .ok (.ifCond .ne 15, 3) := by decide +kernel
theorem dL_law_1960 : decode cL_law 1960 = .ok (.aload_n 3, 1) := by decide +kernel
theorem dL_law_1961 : decode cL_law 1961 = .ok (.iconst 0, 1) := by decide +kernel
theorem dL_law_1962 : decode cL_law 1962 = .ok (.laload, 1) := by decide +kernel
theorem dL_law_1963 : decode cL_law 1963 = .ok (.iload 6, 2) := by decide +kernel
theorem dL_law_1965 : decode cL_law 1965 = .ok (.i2l, 1) := by decide +kernel
theorem dL_law_1966 : decode cL_law 1966 = .ok (.lcmp, 1) := by decide +kernel
theorem dL_law_1967 : decode cL_law 1967 = .ok (.ifCond .eq 5, 3) := by decide +kernel
theorem dL_law_1970 : decode cL_law 1970 = .ok (.iconst 0, 1) := by decide +kernel
theorem dL_law_1971 : decode cL_law 1971 = .ok (.ireturn, 1) := by decide +kernel
theorem dL_law_1972 : decode cL_law 1972 = .ok (.goto 183, 3) := by decide +kernel
theorem dL_law_1975 : decode cL_law 1975 = .ok (.aload_n 1, 1) := by decide +kernel
theorem dL_law_1976 : decode cL_law 1976 = .ok (.aload_n 0, 1) := by decide +kernel
theorem dL_law_1977 : decode cL_law 1977 = .ok (.iload 4, 2) := by decide +kernel
theorem dL_law_1979 : decode cL_law 1979 = .ok (.iconst 1, 1) := by decide +kernel
theorem dL_law_1980 : decode cL_law 1980 = .ok (.iadd, 1) := by decide +kernel
theorem dL_law_1981 : decode cL_law 1981 = .ok (.iaload, 1) := by decide +kernel
theorem dL_law_1982 : decode cL_law 1982 = .ok (.aload_n 3, 1) := by decide +kernel
theorem dL_law_1983 : decode cL_law 1983 = .ok (.invokestatic 229, 3) := by decide +kernel
theorem dL_law_1986 : decode cL_law 1986 = .ok (.istore 5, 2) := by decide +kernel
theorem dL_law_1988 : decode cL_law 1988 = .ok (.aload_n 2, 1) := by decide +kernel
theorem dL_law_1989 : decode cL_law 1989 = .ok (.aload_n 0, 1) := by decide +kernel
theorem dL_law_1990 : decode cL_law 1990 = .ok (.iload 4, 2) := by decide +kernel
theorem dL_law_1992 : decode cL_law 1992 = .ok (.iconst 1, 1) := by decide +kernel
theorem dL_law_1993 : decode cL_law 1993 = .ok (.iadd, 1) := by decide +kernel
theorem dL_law_1994 : decode cL_law 1994 = .ok (.iaload, 1) := by decide +kernel
theorem dL_law_1995 : decode cL_law 1995 = .ok (.invokevirtual 231, 3) := by decide +kernel
theorem dL_law_1998 : decode cL_law 1998 = .ok (.istore 6, 2) := by decide +kernel
theorem dL_law_2000 : decode cL_law 2000 = .ok (.aload_n 2, 1) := by decide +kernel
theorem dL_law_2001 : decode cL_law 2001 = .ok (.invokevirtual 117, 3) := by decide +kernel
theorem dL_law_2004 : decode cL_law 2004 = .ok (.iload 5, 2) := by decide +kernel
theorem dL_law_2006 : decode cL_law 2006 = .ok (.if_icmp .eq 5, 3) := by decide +kernel
theorem dL_law_2009 : decode cL_law 2009 = .ok (.iconst 0, 1) := by decide +kernel
theorem dL_law_2010 : decode cL_law 2010 = .ok (.ireturn, 1) := by decide +kernel
theorem dL_law_2011 : decode cL_law 2011 = .ok (.iload 5, 2) := by decide +kernel
theorem dL_law_2013 : decode cL_law 2013 = .ok (.ifCond .ne 15, 3) := by decide +kernel
theorem dL_law_2016 : decode cL_law 2016 = .ok (.aload_n 3, 1) := by decide +kernel
theorem dL_law_2017 : decode cL_law 2017 = .ok (.iconst 0, 1) := by decide +kernel
theorem dL_law_2018 : decode cL_law 2018 = .ok (.laload, 1) := by decide +kernel
theorem dL_law_2019 : decode cL_law 2019 = .ok (.iload 6, 2) := by decide +kernel
theorem dL_law_2021 : decode cL_law 2021 = .ok (.i2l, 1) := by decide +kernel
theorem dL_law_2022 : decode cL_law 2022 = .ok (.lcmp, 1) := by decide +kernel
theorem dL_law_2023 : decode cL_law 2023 = .ok (.ifCond .eq 5, 3) := by decide +kernel
theorem dL_law_2026 : decode cL_law 2026 = .ok (.iconst 0, 1) := by decide +kernel
theorem dL_law_2027 : decode cL_law 2027 = .ok (.ireturn, 1) := by decide +kernel
theorem dL_law_2028 : decode cL_law 2028 = .ok (.goto 127, 3) := by decide +kernel
theorem dL_law_2031 : decode cL_law 2031 = .ok (.aload_n 1, 1) := by decide +kernel
theorem dL_law_2032 : decode cL_law 2032 = .ok (.aload_n 0, 1) := by decide +kernel
theorem dL_law_2033 : decode cL_law 2033 = .ok (.iload 4, 2) := by decide +kernel
theorem dL_law_2035 : decode cL_law 2035 = .ok (.iconst 1, 1) := by decide +kernel
theorem dL_law_2036 : decode cL_law 2036 = .ok (.iadd, 1) := by decide +kernel
theorem dL_law_2037 : decode cL_law 2037 = .ok (.iaload, 1) := by decide +kernel
theorem dL_law_2038 : decode cL_law 2038 = .ok (.aload_n 3, 1) := by decide +kernel
theorem dL_law_2039 : decode cL_law 2039 = .ok (.invokestatic 232, 3) := by decide +kernel
theorem dL_law_2042 : decode cL_law 2042 = .ok (.istore 5, 2) := by decide +kernel
theorem dL_law_2044 : decode cL_law 2044 = .ok (.aload_n 2, 1) := by decide +kernel
theorem dL_law_2045 : decode cL_law 2045 = .ok (.aload_n 0, 1) := by decide +kernel
theorem dL_law_2046 : decode cL_law 2046 = .ok (.iload 4, 2) := by decide +kernel
theorem dL_law_2048 : decode cL_law 2048 = .ok (.iconst 1, 1) := by decide +kernel
theorem dL_law_2049 : decode cL_law 2049 = .ok (.iadd, 1) := by decide +kernel
theorem dL_law_2050 : decode cL_law 2050 = .ok (.iaload, 1) := by decide +kernel
theorem dL_law_2051 : decode cL_law 2051 = .ok (.invokevirtual 234, 3) := by decide +kernel
theorem dL_law_2054 : decode cL_law 2054 = .ok (.istore 6, 2) := by decide +kernel
theorem dL_law_2056 : decode cL_law 2056 = .ok (.aload_n 2, 1) := by decide +kernel
theorem dL_law_2057 : decode cL_law 2057 = .ok (.invokevirtual 117, 3) := by decide +kernel
theorem dL_law_2060 : decode cL_law 2060 = .ok (.iload 5, 2) := by decide +kernel
theorem dL_law_2062 : decode cL_law 2062 = .ok (.if_icmp .eq 5, 3) := by decide +kernel
theorem dL_law_2065 : decode cL_law 2065 = .ok (.iconst 0, 1) := by decide +kernel
theorem dL_law_2066 : decode cL_law 2066 = .ok (.ireturn, 1) := by decide +kernel
theorem dL_law_2067 : decode cL_law 2067 = .ok (.iload 5, 2) := by decide +kernel
theorem dL_law_2069 : decode cL_law 2069 = .ok (.ifCond .ne 15, 3) := by decide +kernel
theorem dL_law_2072 : decode cL_law 2072 = .ok (.aload_n 3, 1) := by decide +kernel
theorem dL_law_2073 : decode cL_law 2073 = .ok (.iconst 0, 1) := by decide +kernel
theorem dL_law_2074 : decode cL_law 2074 = .ok (.laload, 1) := by decide +kernel
theorem dL_law_2075 : decode cL_law 2075 = .ok (.iload 6, 2) := by decide +kernel
theorem dL_law_2077 : decode cL_law 2077 = .ok (.i2l, 1) := by decide +kernel
theorem dL_law_2078 : decode cL_law 2078 = .ok (.lcmp, 1) := by decide +kernel
theorem dL_law_2079 : decode cL_law 2079 = .ok (.ifCond .eq 5, 3) := by decide +kernel
theorem dL_law_2082 : decode cL_law 2082 = .ok (.iconst 0, 1) := by decide +kernel
theorem dL_law_2083 : decode cL_law 2083 = .ok (.ireturn, 1) := by decide +kernel
theorem dL_law_2084 : decode cL_law 2084 = .ok (.goto 71, 3) := by decide +kernel
theorem dL_law_2087 : decode cL_law 2087 = .ok (.aload_n 1, 1) := by decide +kernel
theorem dL_law_2088 : decode cL_law 2088 = .ok (.invokevirtual 235, 3) := by decide +kernel
theorem dL_law_2091 : decode cL_law 2091 = .ok (.aload_n 2, 1) := by decide +kernel
theorem dL_law_2092 : decode cL_law 2092 = .ok (.invokevirtual 238, 3) := by decide +kernel
theorem dL_law_2095 : decode cL_law 2095 = .ok (.if_icmp .eq 60, 3) := by decide +kernel
theorem dL_law_2098 : decode cL_law 2098 = .ok (.iconst 0, 1) := by decide +kernel
theorem dL_law_2099 : decode cL_law 2099 = .ok (.ireturn, 1) := by decide +kernel
theorem dL_law_2100 : decode cL_law 2100 = .ok (.aload_n 1, 1) := by decide +kernel
theorem dL_law_2101 : decode cL_law 2101 = .ok (.invokevirtual 239, 3) := by decide +kernel
theorem dL_law_2104 : decode cL_law 2104 = .ok (.dstore 5, 2) := by decide +kernel
theorem dL_law_2106 : decode cL_law 2106 = .ok (.aload_n 2, 1) := by decide +kernel
theorem dL_law_2107 : decode cL_law 2107 = .ok (.invokevirtual 243, 3) := by decide +kernel
theorem dL_law_2110 : decode cL_law 2110 = .ok (.dstore 7, 2) := by decide +kernel
theorem dL_law_2112 : decode cL_law 2112 = .ok (.dload 5, 2) := by decide +kernel
theorem dL_law_2114 : decode cL_law 2114 = .ok (.dload 7, 2) := by decide +kernel
theorem dL_law_2116 : decode cL_law 2116 = .ok (.dcmp .l, 1) := by decide +kernel
theorem dL_law_2117 : decode cL_law 2117 = .ok (.ifCond .eq 21, 3) := by decide +kernel
theorem dL_law_2120 : decode cL_law 2120 = .ok (.dload 5, 2) := by decide +kernel
theorem dL_law_2122 : decode cL_law 2122 = .ok (.dload 5, 2) := by decide +kernel
theorem dL_law_2124 : decode cL_law 2124 = .ok (.dcmp .l, 1) := by decide +kernel
theorem dL_law_2125 : decode cL_law 2125 = .ok (.ifCond .eq 11, 3) := by decide +kernel
theorem dL_law_2128 : decode cL_law 2128 = .ok (.dload 7, 2) := by decide +kernel
theorem dL_law_2130 : decode cL_law 2130 = .ok (.dload 7, 2) := by decide +kernel
theorem dL_law_2132 : decode cL_law 2132 = .ok (.dcmp .l, 1) := by decide +kernel
theorem dL_law_2133 : decode cL_law 2133 = .ok (.ifCond .ne 5, 3) := by decide +kernel
theorem dL_law_2136 : decode cL_law 2136 = .ok (.iconst 0, 1) := by decide +kernel
theorem dL_law_2137 : decode cL_law 2137 = .ok (.ireturn, 1) := by decide +kernel
theorem dL_law_2138 : decode cL_law 2138 = .ok (.goto 17, 3) := by decide +kernel
theorem dL_law_2141 : decode cL_law 2141 = .ok (.aload_n 1, 1) := by decide +kernel
theorem dL_law_2142 : decode cL_law 2142 = .ok (.invokevirtual 244, 3) := by decide +kernel
theorem dL_law_2145 : decode cL_law 2145 = .ok (.aload_n 2, 1) := by decide +kernel
theorem dL_law_2146 : decode cL_law 2146 = .ok (.invokevirtual 248, 3) := by decide +kernel
theorem dL_law_2149 : decode cL_law 2149 = .ok (.lcmp, 1) := by decide +kernel
theorem dL_law_2150 : decode cL_law 2150 = .ok (.ifCond .eq 5, 3) := by decide +kernel
theorem dL_law_2153 : decode cL_law 2153 = .ok (.iconst 0, 1) := by decide +kernel
theorem dL_law_2154 : decode cL_law 2154 = .ok (.ireturn, 1) := by decide +kernel
theorem dL_law_2155 : decode cL_law 2155 = .ok (.iinc 4 4, 3) := by decide +kernel
theorem dL_law_2158 : decode cL_law 2158 = .ok (.goto (-2135), 3) := by decide +kernel
theorem dL_law_2161 : decode cL_law 2161 = .ok (.iconst 1, 1) := by decide +kernel
theorem dL_law_2162 : decode cL_law 2162 = .ok (.ireturn, 1) := by decide +kernel

