set_option maxRecDepth 20000 in
theorem ggX2_init_X1_init : GoodIn wsX2_init wsX1_init := goodIn_r _ [11, 12, 2, 3, 13, 14, 15, 16, 17, 18, 19, 20, 21, 22, 23, 24, 25, 26, 27, 28, 29, 30, 31, 32, 33, 34, 37, 38, 39, 40, 41, 42, 43, 44, 45, 46, 47] (by decide +kernel) (by decide +kernel)
set_option maxRecDepth 20000 in
theorem gX2_init_X1_init : GoodIn wsX2_init (wsX1_init) := ggX2_init_X1_init
theorem dX2_init_0 : decode cX2_init 0 = .ok (.aload_n 0, 1) := by decide +kernel
theorem dX2_init_1 : decode cX2_init 1 = .ok (.invokespecial 1, 3) := by decide +kernel
theorem dX2_init_4 : decode cX2_init 4 = .ok (.aload_n 0, 1) := by decide +kernel
theorem dX2_init_5 : decode cX2_init 5 = .ok (.new 7, 3) := by decide +kernel
theorem dX2_init_8 : decode cX2_init 8 = .ok (.dup, 1) := by decide +kernel
theorem dX2_init_9 : decode cX2_init 9 = .ok (.invokespecial 9, 3) := by decide +kernel
theorem dX2_init_12 : decode cX2_init 12 = .ok (.putfield 10, 3) := by decide +kernel
theorem dX2_init_15 : decode cX2_init 15 = .ok (.aload_n 0, 1) := by decide +kernel
theorem dX2_init_16 : decode cX2_init 16 = .ok (.new 7, 3) := by decide +kernel
theorem dX2_init_19 : decode cX2_init 19 = .ok (.dup, 1) := by decide +kernel
theorem dX2_init_20 : decode cX2_init 20 = .ok (.invokespecial 9, 3) := by decide +kernel
theorem dX2_init_23 : decode cX2_init 23 = .ok (.putfield 16, 3) := by decide +kernel
theorem dX2_init_26 : decode cX2_init 26 = .ok (.return_, 1) := by decide +kernel
set_option maxRecDepth 20000 in
theorem ggX2_addHill_X2_requireBetween : GoodIn wsX2_addHill wsX2_requireBetween := goodIn_ca (goodIn_r _ [8, 9, 10] (by decide +kernel) (by decide +kernel)) (goodIn_sub (fun _ h => List.mem_cons_of_mem _ (List.mem_append_right _ h)) (by decide +kernel))
set_option maxRecDepth 20000 in
theorem gX2_addHill_X2_requireBetween : GoodIn wsX2_addHill (va_wsS RX2 19 yX2_requireBetween wsX2_requireBetween) := goodIn_app (goodIn_of _ (by decide +kernel)) ggX2_addHill_X2_requireBetween
set_option maxRecDepth 20000 in
theorem ggX2_addHill_X1_settle : GoodIn wsX2_addHill wsX1_settle := goodIn_r _ [15, 16, 17, 18, 19, 20, 21, 22, 14, 23, 24, 25, 28, 29, 30, 31, 32, 33, 34, 35, 36, 37, 38, 39, 40, 41, 42, 43, 44, 45, 46, 47] (by decide +kernel) (by decide +kernel)
set_option maxRecDepth 20000 in
theorem gX2_addHill_X1_settle : GoodIn wsX2_addHill (wsV RX2 34 RX1 yX1_settle wsX1_settle) := goodIn_app (goodIn_of _ (by decide +kernel)) ggX2_addHill_X1_settle
theorem dX2_addHill_0 : decode cX2_addHill 0 = .ok (.iload_n 1, 1) := by decide +kernel
theorem dX2_addHill_1 : decode cX2_addHill 1 = .ok (.iconst 0, 1) := by decide +kernel
theorem dX2_addHill_2 : decode cX2_addHill 2 = .ok (.bipush 30, 2) := by decide +kernel
theorem dX2_addHill_4 : decode cX2_addHill 4 = .ok (.invokestatic 19, 3) := by decide +kernel
theorem dX2_addHill_7 : decode cX2_addHill 7 = .ok (.iload_n 2, 1) := by decide +kernel
theorem dX2_addHill_8 : decode cX2_addHill 8 = .ok (.iconst 0, 1) := by decide +kernel
theorem dX2_addHill_9 : decode cX2_addHill 9 = .ok (.bipush 9, 2) := by decide +kernel
theorem dX2_addHill_11 : decode cX2_addHill 11 = .ok (.invokestatic 19, 3) := by decide +kernel
theorem dX2_addHill_14 : decode cX2_addHill 14 = .ok (.iload_n 3, 1) := by decide +kernel
theorem dX2_addHill_15 : decode cX2_addHill 15 = .ok (.iconst 1, 1) := by decide +kernel
theorem dX2_addHill_16 : decode cX2_addHill 16 = .ok (.iconst 5, 1) := by decide +kernel
theorem dX2_addHill_17 : decode cX2_addHill 17 = .ok (.invokestatic 19, 3) := by decide +kernel
theorem dX2_addHill_20 : decode cX2_addHill 20 = .ok (.aload_n 0, 1) := by decide +kernel
theorem dX2_addHill_21 : decode cX2_addHill 21 = .ok (.getfield 10, 3) := by decide +kernel
theorem dX2_addHill_24 : decode cX2_addHill 24 = .ok (.getfield 23, 3) := by decide +kernel
theorem dX2_addHill_27 : decode cX2_addHill 27 = .ok (.bipush 10, 2) := by decide +kernel
theorem dX2_addHill_29 : decode cX2_addHill 29 = .ok (.if_icmp .lt 13, 3) := by decide +kernel
theorem dX2_addHill_32 : decode cX2_addHill 32 = .ok (.new 27, 3) := by decide +kernel
theorem dX2_addHill_35 : decode cX2_addHill 35 = .ok (.dup, 1) := by decide +kernel
theorem dX2_addHill_36 : decode cX2_addHill 36 = .ok (.ldc 29, 2) := by decide +kernel
theorem dX2_addHill_38 : decode cX2_addHill 38 = .ok (.invokespecial 31, 3) := by decide +kernel
theorem dX2_addHill_41 : decode cX2_addHill 41 = .ok (.athrow, 1) := by decide +kernel
theorem dX2_addHill_42 : decode cX2_addHill 42 = .ok (.aload_n 0, 1) := by decide +kernel
theorem dX2_addHill_43 : decode cX2_addHill 43 = .ok (.getfield 10, 3) := by decide +kernel
theorem dX2_addHill_46 : decode cX2_addHill 46 = .ok (.iload_n 1, 1) := by decide +kernel
theorem dX2_addHill_47 : decode cX2_addHill 47 = .ok (.iload_n 2, 1) := by decide +kernel
theorem dX2_addHill_48 : decode cX2_addHill 48 = .ok (.iload_n 3, 1) := by decide +kernel
theorem dX2_addHill_49 : decode cX2_addHill 49 = .ok (.invokevirtual 34, 3) := by decide +kernel
theorem dX2_addHill_52 : decode cX2_addHill 52 = .ok (.ireturn, 1) := by decide +kernel
set_option maxRecDepth 20000 in
theorem ggX2_setSight_X2_requireHill : GoodIn wsX2_setSight wsX2_requireHill := goodIn_ca (goodIn_r _ [8, 9, 10, 3, 11, 25, 26, 27, 28, 29, 30, 31, 32, 33, 34, 35] (by decide +kernel) (by decide +kernel)) (goodIn_sub (fun _ h => List.mem_cons_of_mem _ (List.mem_append_right _ h)) (by decide +kernel))
set_option maxRecDepth 20000 in
theorem gX2_setSight_X2_requireHill : GoodIn wsX2_setSight (wsV RX2 38 RX2 yX2_requireHill wsX2_requireHill) := goodIn_app (goodIn_of _ (by decide +kernel)) ggX2_setSight_X2_requireHill
set_option maxRecDepth 20000 in
theorem ggX2_setSight_X2_requireBetween : GoodIn wsX2_setSight wsX2_requireBetween := goodIn_ca (goodIn_r _ [14, 1, 2] (by decide +kernel) (by decide +kernel)) (goodIn_sub (fun _ h => List.mem_cons_of_mem _ (List.mem_append_left _ (List.mem_append_right _ h))) (by decide +kernel))
set_option maxRecDepth 20000 in
theorem gX2_setSight_X2_requireBetween : GoodIn wsX2_setSight (va_wsS RX2 19 yX2_requireBetween wsX2_requireBetween) := goodIn_app (goodIn_of _ (by decide +kernel)) ggX2_setSight_X2_requireBetween
set_option maxRecDepth 20000 in
theorem ggX2_setSight_X1_milesFrom : GoodIn wsX2_setSight wsX1_milesFrom := goodIn_r _ [19, 20, 27, 28, 29, 30, 31, 32, 33, 34, 35] (by decide +kernel) (by decide +kernel)
set_option maxRecDepth 20000 in
theorem gX2_setSight_X1_milesFrom : GoodIn wsX2_setSight (wsV RX2 47 RX1 yX1_milesFrom wsX1_milesFrom) := goodIn_app (goodIn_of _ (by decide +kernel)) ggX2_setSight_X1_milesFrom
set_option maxRecDepth 20000 in
theorem ggX2_setSight_X1_putMiles : GoodIn wsX2_setSight wsX1_putMiles := goodIn_r _ [24, 20, 27, 28, 29, 30, 31, 32, 33, 34, 35] (by decide +kernel) (by decide +kernel)
set_option maxRecDepth 20000 in
theorem gX2_setSight_X1_putMiles : GoodIn wsX2_setSight (wsV RX2 51 RX1 yX1_putMiles wsX1_putMiles) := goodIn_app (goodIn_of _ (by decide +kernel)) ggX2_setSight_X1_putMiles
theorem dX2_setSight_0 : decode cX2_setSight 0 = .ok (.aload_n 0, 1) := by decide +kernel
theorem dX2_setSight_1 : decode cX2_setSight 1 = .ok (.iload_n 1, 1) := by decide +kernel
theorem dX2_setSight_2 : decode cX2_setSight 2 = .ok (.invokevirtual 38, 3) := by decide +kernel
theorem dX2_setSight_5 : decode cX2_setSight 5 = .ok (.aload_n 0, 1) := by decide +kernel
theorem dX2_setSight_6 : decode cX2_setSight 6 = .ok (.iload_n 2, 1) := by decide +kernel
theorem dX2_setSight_7 : decode cX2_setSight 7 = .ok (.invokevirtual 38, 3) := by decide +kernel
theorem dX2_setSight_10 : decode cX2_setSight 10 = .ok (.iload_n 1, 1) := by decide +kernel
theorem dX2_setSight_11 : decode cX2_setSight 11 = .ok (.iload_n 2, 1) := by decide +kernel
theorem dX2_setSight_12 : decode cX2_setSight 12 = .ok (.if_icmp .ne 13, 3) := by decide +kernel
theorem dX2_setSight_15 : decode cX2_setSight 15 = .ok (.new 42, 3) := by decide +kernel
theorem dX2_setSight_18 : decode cX2_setSight 18 = .ok (.dup, 1) := by decide +kernel
theorem dX2_setSight_19 : decode cX2_setSight 19 = .ok (.ldc 44, 2) := by decide +kernel
theorem dX2_setSight_21 : decode cX2_setSight 21 = .ok (.invokespecial 46, 3) := by decide +kernel
theorem dX2_setSight_24 : decode cX2_setSight 24 = .ok (.athrow, 1) := by decide +kernel
theorem dX2_setSight_25 : decode cX2_setSight 25 = .ok (.iload_n 3, 1) := by decide +kernel
theorem dX2_setSight_26 : decode cX2_setSight 26 = .ok (.iconst 0, 1) := by decide +kernel
theorem dX2_setSight_27 : decode cX2_setSight 27 = .ok (.bipush 20, 2) := by decide +kernel
theorem dX2_setSight_29 : decode cX2_setSight 29 = .ok (.invokestatic 19, 3) := by decide +kernel
theorem dX2_setSight_32 : decode cX2_setSight 32 = .ok (.aload_n 0, 1) := by decide +kernel
theorem dX2_setSight_33 : decode cX2_setSight 33 = .ok (.getfield 10, 3) := by decide +kernel
theorem dX2_setSight_36 : decode cX2_setSight 36 = .ok (.iload_n 1, 1) := by decide +kernel
theorem dX2_setSight_37 : decode cX2_setSight 37 = .ok (.iload_n 2, 1) := by decide +kernel
theorem dX2_setSight_38 : decode cX2_setSight 38 = .ok (.invokevirtual 47, 3) := by decide +kernel
theorem dX2_setSight_41 : decode cX2_setSight 41 = .ok (.istore 4, 2) := by decide +kernel
theorem dX2_setSight_43 : decode cX2_setSight 43 = .ok (.aload_n 0, 1) := by decide +kernel
theorem dX2_setSight_44 : decode cX2_setSight 44 = .ok (.getfield 10, 3) := by decide +kernel
theorem dX2_setSight_47 : decode cX2_setSight 47 = .ok (.iload_n 1, 1) := by decide +kernel
theorem dX2_setSight_48 : decode cX2_setSight 48 = .ok (.iload_n 2, 1) := by decide +kernel
theorem dX2_setSight_49 : decode cX2_setSight 49 = .ok (.iload_n 3, 1) := by decide +kernel
theorem dX2_setSight_50 : decode cX2_setSight 50 = .ok (.invokevirtual 51, 3) := by decide +kernel
theorem dX2_setSight_53 : decode cX2_setSight 53 = .ok (.aload_n 0, 1) := by decide +kernel
theorem dX2_setSight_54 : decode cX2_setSight 54 = .ok (.getfield 10, 3) := by decide +kernel
theorem dX2_setSight_57 : decode cX2_setSight 57 = .ok (.iload_n 2, 1) := by decide +kernel
theorem dX2_setSight_58 : decode cX2_setSight 58 = .ok (.iload_n 1, 1) := by decide +kernel
theorem dX2_setSight_59 : decode cX2_setSight 59 = .ok (.iload_n 3, 1) := by decide +kernel
theorem dX2_setSight_60 : decode cX2_setSight 60 = .ok (.invokevirtual 51, 3) := by decide +kernel
theorem dX2_setSight_63 : decode cX2_setSight 63 = .ok (.iload 4, 2) := by decide +kernel
theorem dX2_setSight_65 : decode cX2_setSight 65 = .ok (.ireturn, 1) := by decide +kernel
set_option maxRecDepth 20000 in
theorem ggX2_turnEast_X2_existing : GoodIn wsX2_turnEast wsX2_existing := goodIn_ca (goodIn_r _ [6, 7, 8, 9, 10, 5, 11, 12, 13, 14, 15, 16, 17, 18, 19, 20, 21, 33, 34, 35, 36, 37, 38, 39, 40, 41, 42, 43] (by decide +kernel) (by decide +kernel)) (goodIn_sub (fun _ h => List.mem_cons_of_mem _ (List.mem_append_right _ h)) (by decide +kernel))
set_option maxRecDepth 20000 in
theorem gX2_turnEast_X2_existing : GoodIn wsX2_turnEast (wsV RX2 54 RX2 yX2_existing wsX2_existing) := goodIn_app (goodIn_of _ (by decide +kernel)) ggX2_turnEast_X2_existing
theorem dX2_turnEast_0 : decode cX2_turnEast 0 = .ok (.aload_n 0, 1) := by decide +kernel
theorem dX2_turnEast_1 : decode cX2_turnEast 1 = .ok (.iload_n 1, 1) := by decide +kernel
theorem dX2_turnEast_2 : decode cX2_turnEast 2 = .ok (.invokevirtual 54, 3) := by decide +kernel
theorem dX2_turnEast_5 : decode cX2_turnEast 5 = .ok (.astore_n 2, 1) := by decide +kernel
theorem dX2_turnEast_6 : decode cX2_turnEast 6 = .ok (.aload_n 2, 1) := by decide +kernel
theorem dX2_turnEast_7 : decode cX2_turnEast 7 = .ok (.aload_n 2, 1) := by decide +kernel
theorem dX2_turnEast_8 : decode cX2_turnEast 8 = .ok (.getfield 58, 3) := by decide +kernel
theorem dX2_turnEast_11 : decode cX2_turnEast 11 = .ok (.ifCond .ne 7, 3) := by decide +kernel
theorem dX2_turnEast_14 : decode cX2_turnEast 14 = .ok (.iconst 1, 1) := by decide +kernel
theorem dX2_turnEast_15 : decode cX2_turnEast 15 = .ok (.goto 4, 3) := by decide +kernel
theorem dX2_turnEast_18 : decode cX2_turnEast 18 = .ok (.iconst 0, 1) := by decide +kernel
theorem dX2_turnEast_19 : decode cX2_turnEast 19 = .ok (.putfield 58, 3) := by decide +kernel
theorem dX2_turnEast_22 : decode cX2_turnEast 22 = .ok (.aload_n 2, 1) := by decide +kernel
theorem dX2_turnEast_23 : decode cX2_turnEast 23 = .ok (.getfield 58, 3) := by decide +kernel
theorem dX2_turnEast_26 : decode cX2_turnEast 26 = .ok (.ireturn, 1) := by decide +kernel
set_option maxRecDepth 20000 in
theorem ggX2_turnPost_X2_existing : GoodIn wsX2_turnPost wsX2_existing := goodIn_ca (goodIn_r _ [6, 7, 8, 9, 10, 5, 11, 12, 13, 14, 15, 16, 17, 18, 19, 20, 21, 33, 34, 35, 36, 37, 38, 39, 40, 41, 42, 43] (by decide +kernel) (by decide +kernel)) (goodIn_sub (fun _ h => List.mem_cons_of_mem _ (List.mem_append_right _ h)) (by decide +kernel))
set_option maxRecDepth 20000 in
theorem gX2_turnPost_X2_existing : GoodIn wsX2_turnPost (wsV RX2 54 RX2 yX2_existing wsX2_existing) := goodIn_app (goodIn_of _ (by decide +kernel)) ggX2_turnPost_X2_existing
theorem dX2_turnPost_0 : decode cX2_turnPost 0 = .ok (.aload_n 0, 1) := by decide +kernel
theorem dX2_turnPost_1 : decode cX2_turnPost 1 = .ok (.iload_n 1, 1) := by decide +kernel
theorem dX2_turnPost_2 : decode cX2_turnPost 2 = .ok (.invokevirtual 54, 3) := by decide +kernel
theorem dX2_turnPost_5 : decode cX2_turnPost 5 = .ok (.astore_n 2, 1) := by decide +kernel
theorem dX2_turnPost_6 : decode cX2_turnPost 6 = .ok (.aload_n 2, 1) := by decide +kernel
theorem dX2_turnPost_7 : decode cX2_turnPost 7 = .ok (.aload_n 2, 1) := by decide +kernel
theorem dX2_turnPost_8 : decode cX2_turnPost 8 = .ok (.getfield 64, 3) := by decide +kernel
theorem dX2_turnPost_11 : decode cX2_turnPost 11 = .ok (.ifCond .ne 7, 3) := by decide +kernel
theorem dX2_turnPost_14 : decode cX2_turnPost 14 = .ok (.iconst 1, 1) := by decide +kernel
theorem dX2_turnPost_15 : decode cX2_turnPost 15 = .ok (.goto 4, 3) := by decide +kernel
theorem dX2_turnPost_18 : decode cX2_turnPost 18 = .ok (.iconst 0, 1) := by decide +kernel
theorem dX2_turnPost_19 : decode cX2_turnPost 19 = .ok (.putfield 64, 3) := by decide +kernel
theorem dX2_turnPost_22 : decode cX2_turnPost 22 = .ok (.aload_n 2, 1) := by decide +kernel
theorem dX2_turnPost_23 : decode cX2_turnPost 23 = .ok (.getfield 64, 3) := by decide +kernel
theorem dX2_turnPost_26 : decode cX2_turnPost 26 = .ok (.ireturn, 1) := by decide +kernel
set_option maxRecDepth 20000 in
theorem ggX2_bringWood_X2_existing : GoodIn wsX2_bringWood wsX2_existing := goodIn_ca (goodIn_r _ [10, 11, 12, 13, 14, 9, 15, 16, 17, 18, 19, 20, 21, 22, 23, 24, 25, 42, 43, 44, 45, 46, 47, 48, 49, 50, 51, 52] (by decide +kernel) (by decide +kernel)) (goodIn_sub (fun _ h => List.mem_cons_of_mem _ (List.mem_append_left _ (List.mem_append_right _ h))) (by decide +kernel))
set_option maxRecDepth 20000 in
theorem gX2_bringWood_X2_existing : GoodIn wsX2_bringWood (wsV RX2 54 RX2 yX2_existing wsX2_existing) := goodIn_app (goodIn_of _ (by decide +kernel)) ggX2_bringWood_X2_existing
set_option maxRecDepth 20000 in
theorem ggX2_bringWood_X2_requireBetween : GoodIn wsX2_bringWood wsX2_requireBetween := goodIn_ca (goodIn_r _ [28, 29, 30] (by decide +kernel) (by decide +kernel)) (goodIn_sub (fun _ h => List.mem_cons_of_mem _ (List.mem_append_right _ h)) (by decide +kernel))
set_option maxRecDepth 20000 in
theorem gX2_bringWood_X2_requireBetween : GoodIn wsX2_bringWood (va_wsS RX2 19 yX2_requireBetween wsX2_requireBetween) := goodIn_app (goodIn_of _ (by decide +kernel)) ggX2_bringWood_X2_requireBetween
theorem dX2_bringWood_0 : decode cX2_bringWood 0 = .ok (.aload_n 0, 1) := by decide +kernel
theorem dX2_bringWood_1 : decode cX2_bringWood 1 = .ok (.iload_n 1, 1) := by decide +kernel
theorem dX2_bringWood_2 : decode cX2_bringWood 2 = .ok (.invokevirtual 54, 3) := by decide +kernel
theorem dX2_bringWood_5 : decode cX2_bringWood 5 = .ok (.astore_n 3, 1) := by decide +kernel
theorem dX2_bringWood_6 : decode cX2_bringWood 6 = .ok (.iload_n 2, 1) := by decide +kernel
theorem dX2_bringWood_7 : decode cX2_bringWood 7 = .ok (.iconst 1, 1) := by decide +kernel
theorem dX2_bringWood_8 : decode cX2_bringWood 8 = .ok (.bipush 30, 2) := by decide +kernel
theorem dX2_bringWood_10 : decode cX2_bringWood 10 = .ok (.invokestatic 19, 3) := by decide +kernel
theorem dX2_bringWood_13 : decode cX2_bringWood 13 = .ok (.aload_n 3, 1) := by decide +kernel
theorem dX2_bringWood_14 : decode cX2_bringWood 14 = .ok (.aload_n 3, 1) := by decide +kernel
theorem dX2_bringWood_15 : decode cX2_bringWood 15 = .ok (.getfield 67, 3) := by decide +kernel
theorem dX2_bringWood_18 : decode cX2_bringWood 18 = .ok (.iload_n 2, 1) := by decide +kernel
theorem dX2_bringWood_19 : decode cX2_bringWood 19 = .ok (.iadd, 1) := by decide +kernel
theorem dX2_bringWood_20 : decode cX2_bringWood 20 = .ok (.bipush 30, 2) := by decide +kernel
theorem dX2_bringWood_22 : decode cX2_bringWood 22 = .ok (.invokestatic 70, 3) := by decide +kernel
theorem dX2_bringWood_25 : decode cX2_bringWood 25 = .ok (.putfield 67, 3) := by decide +kernel
theorem dX2_bringWood_28 : decode cX2_bringWood 28 = .ok (.aload_n 3, 1) := by decide +kernel
theorem dX2_bringWood_29 : decode cX2_bringWood 29 = .ok (.getfield 67, 3) := by decide +kernel
theorem dX2_bringWood_32 : decode cX2_bringWood 32 = .ok (.ireturn, 1) := by decide +kernel
set_option maxRecDepth 20000 in
theorem ggX2_setDamp_X2_existing : GoodIn wsX2_setDamp wsX2_existing := goodIn_ca (goodIn_r _ [6, 7, 8, 9, 10, 5, 11, 12, 13, 14, 15, 16, 17, 18, 19, 20, 21, 38, 39, 40, 41, 42, 43, 44, 45, 46, 47, 48] (by decide +kernel) (by decide +kernel)) (goodIn_sub (fun _ h => List.mem_cons_of_mem _ (List.mem_append_left _ (List.mem_append_right _ h))) (by decide +kernel))
set_option maxRecDepth 20000 in
theorem gX2_setDamp_X2_existing : GoodIn wsX2_setDamp (wsV RX2 54 RX2 yX2_existing wsX2_existing) := goodIn_app (goodIn_of _ (by decide +kernel)) ggX2_setDamp_X2_existing
set_option maxRecDepth 20000 in
theorem ggX2_setDamp_X2_requireBetween : GoodIn wsX2_setDamp wsX2_requireBetween := goodIn_ca (goodIn_r _ [24, 25, 26] (by decide +kernel) (by decide +kernel)) (goodIn_sub (fun _ h => List.mem_cons_of_mem _ (List.mem_append_right _ h)) (by decide +kernel))
set_option maxRecDepth 20000 in
theorem gX2_setDamp_X2_requireBetween : GoodIn wsX2_setDamp (va_wsS RX2 19 yX2_requireBetween wsX2_requireBetween) := goodIn_app (goodIn_of _ (by decide +kernel)) ggX2_setDamp_X2_requireBetween
theorem dX2_setDamp_0 : decode cX2_setDamp 0 = .ok (.aload_n 0, 1) := by decide +kernel
theorem dX2_setDamp_1 : decode cX2_setDamp 1 = .ok (.iload_n 1, 1) := by decide +kernel
theorem dX2_setDamp_2 : decode cX2_setDamp 2 = .ok (.invokevirtual 54, 3) := by decide +kernel
theorem dX2_setDamp_5 : decode cX2_setDamp 5 = .ok (.astore_n 3, 1) := by decide +kernel
theorem dX2_setDamp_6 : decode cX2_setDamp 6 = .ok (.iload_n 2, 1) := by decide +kernel
theorem dX2_setDamp_7 : decode cX2_setDamp 7 = .ok (.iconst 0, 1) := by decide +kernel
theorem dX2_setDamp_8 : decode cX2_setDamp 8 = .ok (.bipush 9, 2) := by decide +kernel
theorem dX2_setDamp_10 : decode cX2_setDamp 10 = .ok (.invokestatic 19, 3) := by decide +kernel
theorem dX2_setDamp_13 : decode cX2_setDamp 13 = .ok (.aload_n 3, 1) := by decide +kernel
theorem dX2_setDamp_14 : decode cX2_setDamp 14 = .ok (.getfield 75, 3) := by decide +kernel
theorem dX2_setDamp_17 : decode cX2_setDamp 17 = .ok (.istore 4, 2) := by decide +kernel
theorem dX2_setDamp_19 : decode cX2_setDamp 19 = .ok (.aload_n 3, 1) := by decide +kernel
theorem dX2_setDamp_20 : decode cX2_setDamp 20 = .ok (.iload_n 2, 1) := by decide +kernel
theorem dX2_setDamp_21 : decode cX2_setDamp 21 = .ok (.putfield 75, 3) := by decide +kernel
theorem dX2_setDamp_24 : decode cX2_setDamp 24 = .ok (.iload 4, 2) := by decide +kernel
theorem dX2_setDamp_26 : decode cX2_setDamp 26 = .ok (.ireturn, 1) := by decide +kernel
set_option maxRecDepth 20000 in
theorem ggX2_setHaze_X2_requireBetween : GoodIn wsX2_setHaze wsX2_requireBetween := goodIn_ca (goodIn_r _ [6, 7, 8] (by decide +kernel) (by decide +kernel)) (goodIn_sub (fun _ h => List.mem_cons_of_mem _ (List.mem_append_right _ h)) (by decide +kernel))
set_option maxRecDepth 20000 in
theorem gX2_setHaze_X2_requireBetween : GoodIn wsX2_setHaze (va_wsS RX2 19 yX2_requireBetween wsX2_requireBetween) := goodIn_app (goodIn_of _ (by decide +kernel)) ggX2_setHaze_X2_requireBetween
theorem dX2_setHaze_0 : decode cX2_setHaze 0 = .ok (.iload_n 1, 1) := by decide +kernel
theorem dX2_setHaze_1 : decode cX2_setHaze 1 = .ok (.iconst 0, 1) := by decide +kernel
theorem dX2_setHaze_2 : decode cX2_setHaze 2 = .ok (.bipush 9, 2) := by decide +kernel
theorem dX2_setHaze_4 : decode cX2_setHaze 4 = .ok (.invokestatic 19, 3) := by decide +kernel
theorem dX2_setHaze_7 : decode cX2_setHaze 7 = .ok (.aload_n 0, 1) := by decide +kernel
theorem dX2_setHaze_8 : decode cX2_setHaze 8 = .ok (.getfield 10, 3) := by decide +kernel
theorem dX2_setHaze_11 : decode cX2_setHaze 11 = .ok (.getfield 78, 3) := by decide +kernel
theorem dX2_setHaze_14 : decode cX2_setHaze 14 = .ok (.istore_n 2, 1) := by decide +kernel
theorem dX2_setHaze_15 : decode cX2_setHaze 15 = .ok (.aload_n 0, 1) := by decide +kernel
theorem dX2_setHaze_16 : decode cX2_setHaze 16 = .ok (.getfield 10, 3) := by decide +kernel
theorem dX2_setHaze_19 : decode cX2_setHaze 19 = .ok (.iload_n 1, 1) := by decide +kernel
theorem dX2_setHaze_20 : decode cX2_setHaze 20 = .ok (.putfield 78, 3) := by decide +kernel
theorem dX2_setHaze_23 : decode cX2_setHaze 23 = .ok (.iload_n 2, 1) := by decide +kernel
theorem dX2_setHaze_24 : decode cX2_setHaze 24 = .ok (.ireturn, 1) := by decide +kernel
set_option maxRecDepth 20000 in
theorem ggX2_light_X2_requireReady : GoodIn wsX2_light wsX2_requireReady := goodIn_ca (goodIn_ca (goodIn_r _ [7, 8, 9, 10, 11, 12, 6, 13, 1, 14, 15, 16, 17, 18, 19, 20, 21, 22, 23, 24, 25, 26, 27, 28, 29, 30, 31, 32, 33, 34, 55, 56, 68, 69, 70, 71, 72, 73, 74, 75, 76, 57, 58, 59, 60, 61, 62, 63, 64, 65, 66, 67] (by decide +kernel) (by decide +kernel)) (goodIn_sub (fun _ h => List.mem_cons_of_mem _ (List.mem_append_left _ (List.mem_append_right _ h))) (by decide +kernel))) (goodIn_sub (fun _ h => List.mem_cons_of_mem _ (List.mem_append_right _ h)) (by decide +kernel))
set_option maxRecDepth 20000 in
theorem gX2_light_X2_requireReady : GoodIn wsX2_light (wsV RX2 81 RX2 yX2_requireReady wsX2_requireReady) := goodIn_app (goodIn_of _ (by decide +kernel)) ggX2_light_X2_requireReady
set_option maxRecDepth 20000 in
theorem ggX2_light_X1_kindleByHand : GoodIn wsX2_light wsX1_kindleByHand := goodIn_r _ [38, 39, 40, 41, 42, 24, 43, 44, 45, 46, 22, 23, 25, 26, 27, 47, 48, 49, 31, 50, 34, 51, 33, 52, 53, 54, 57, 58, 59, 60, 61, 62, 63, 64, 65, 66, 67, 68, 69, 70, 71, 72, 73, 74, 75, 76] (by decide +kernel) (by decide +kernel)
set_option maxRecDepth 20000 in
theorem gX2_light_X1_kindleByHand : GoodIn wsX2_light (wsV RX2 84 RX1 yX1_kindleByHand wsX1_kindleByHand) := goodIn_app (goodIn_of _ (by decide +kernel)) ggX2_light_X1_kindleByHand
set_option maxRecDepth 20000 in
theorem ggX2_light_X1_hillAt : GoodIn wsX2_light wsX1_hillAt := goodIn_r _ [25, 26, 27, 68, 69, 70, 71, 72, 73, 74, 75, 76] (by decide +kernel) (by decide +kernel)
set_option maxRecDepth 20000 in
theorem gX2_light_X1_hillAt : GoodIn wsX2_light (wsV RX2 87 RX1 yX1_hillAt wsX1_hillAt) := goodIn_app (goodIn_of _ (by decide +kernel)) ggX2_light_X1_hillAt
theorem dX2_light_0 : decode cX2_light 0 = .ok (.aload_n 0, 1) := by decide +kernel
theorem dX2_light_1 : decode cX2_light 1 = .ok (.iload_n 1, 1) := by decide +kernel
theorem dX2_light_2 : decode cX2_light 2 = .ok (.invokevirtual 81, 3) := by decide +kernel
theorem dX2_light_5 : decode cX2_light 5 = .ok (.aload_n 0, 1) := by decide +kernel
theorem dX2_light_6 : decode cX2_light 6 = .ok (.getfield 10, 3) := by decide +kernel
theorem dX2_light_9 : decode cX2_light 9 = .ok (.iload_n 1, 1) := by decide +kernel
theorem dX2_light_10 : decode cX2_light 10 = .ok (.invokevirtual 84, 3) := by decide +kernel
theorem dX2_light_13 : decode cX2_light 13 = .ok (.aload_n 0, 1) := by decide +kernel
theorem dX2_light_14 : decode cX2_light 14 = .ok (.getfield 10, 3) := by decide +kernel
theorem dX2_light_17 : decode cX2_light 17 = .ok (.iload_n 1, 1) := by decide +kernel
theorem dX2_light_18 : decode cX2_light 18 = .ok (.invokevirtual 87, 3) := by decide +kernel
theorem dX2_light_21 : decode cX2_light 21 = .ok (.getfield 90, 3) := by decide +kernel
theorem dX2_light_24 : decode cX2_light 24 = .ok (.ireturn, 1) := by decide +kernel
set_option maxRecDepth 20000 in
theorem ggX2_douse_X2_alight : GoodIn wsX2_douse wsX2_alight := goodIn_ca (goodIn_ca (goodIn_r _ [6, 7, 8, 9, 10, 11, 12, 5, 13, 14, 15, 16, 17, 18, 19, 20, 21, 22, 23, 24, 25, 26, 27, 28, 37, 38, 39, 40, 41, 42, 43, 44, 45, 46, 47, 48, 49, 50, 51, 52, 53, 54, 55, 56, 57, 58] (by decide +kernel) (by decide +kernel)) (goodIn_sub (fun _ h => List.mem_cons_of_mem _ (List.mem_append_left _ (List.mem_append_right _ h))) (by decide +kernel))) (goodIn_sub (fun _ h => List.mem_cons_of_mem _ (List.mem_append_right _ h)) (by decide +kernel))
set_option maxRecDepth 20000 in
theorem gX2_douse_X2_alight : GoodIn wsX2_douse (wsV RX2 93 RX2 yX2_alight wsX2_alight) := goodIn_app (goodIn_of _ (by decide +kernel)) ggX2_douse_X2_alight
set_option maxRecDepth 20000 in
theorem ggX2_douse_X0_goDark : GoodIn wsX2_douse wsX0_goDark := goodIn_r _ [33, 34, 35, 36, 37, 38, 39, 40, 41, 42, 43, 44, 45, 46, 47] (by decide +kernel) (by decide +kernel)
set_option maxRecDepth 20000 in
theorem gX2_douse_X0_goDark : GoodIn wsX2_douse (wsV RX2 96 RX0 yX0_goDark wsX0_goDark) := goodIn_app (goodIn_of _ (by decide +kernel)) ggX2_douse_X0_goDark
theorem dX2_douse_0 : decode cX2_douse 0 = .ok (.aload_n 0, 1) := by decide +kernel
theorem dX2_douse_1 : decode cX2_douse 1 = .ok (.iload_n 1, 1) := by decide +kernel
theorem dX2_douse_2 : decode cX2_douse 2 = .ok (.invokevirtual 93, 3) := by decide +kernel
theorem dX2_douse_5 : decode cX2_douse 5 = .ok (.astore_n 2, 1) := by decide +kernel
theorem dX2_douse_6 : decode cX2_douse 6 = .ok (.aload_n 2, 1) := by decide +kernel
theorem dX2_douse_7 : decode cX2_douse 7 = .ok (.invokevirtual 96, 3) := by decide +kernel
theorem dX2_douse_10 : decode cX2_douse 10 = .ok (.aload_n 2, 1) := by decide +kernel
theorem dX2_douse_11 : decode cX2_douse 11 = .ok (.getfield 67, 3) := by decide +kernel
theorem dX2_douse_14 : decode cX2_douse 14 = .ok (.ireturn, 1) := by decide +kernel
set_option maxRecDepth 20000 in
theorem ggX2_glow_X2_requireBetween : GoodIn wsX2_glow wsX2_requireBetween := goodIn_ca (goodIn_r _ [6, 7, 8] (by decide +kernel) (by decide +kernel)) (goodIn_sub (fun _ h => List.mem_cons_of_mem _ (List.mem_append_right _ h)) (by decide +kernel))
set_option maxRecDepth 20000 in
theorem gX2_glow_X2_requireBetween : GoodIn wsX2_glow (va_wsS RX2 19 yX2_requireBetween wsX2_requireBetween) := goodIn_app (goodIn_of _ (by decide +kernel)) ggX2_glow_X2_requireBetween
theorem dX2_glow_0 : decode cX2_glow 0 = .ok (.iload_n 1, 1) := by decide +kernel
theorem dX2_glow_1 : decode cX2_glow 1 = .ok (.iconst 0, 1) := by decide +kernel
theorem dX2_glow_2 : decode cX2_glow 2 = .ok (.bipush 30, 2) := by decide +kernel
theorem dX2_glow_4 : decode cX2_glow 4 = .ok (.invokestatic 19, 3) := by decide +kernel
theorem dX2_glow_7 : decode cX2_glow 7 = .ok (.aload_n 0, 1) := by decide +kernel
theorem dX2_glow_8 : decode cX2_glow 8 = .ok (.getfield 10, 3) := by decide +kernel
theorem dX2_glow_11 : decode cX2_glow 11 = .ok (.getfield 99, 3) := by decide +kernel
theorem dX2_glow_14 : decode cX2_glow 14 = .ok (.istore_n 2, 1) := by decide +kernel
theorem dX2_glow_15 : decode cX2_glow 15 = .ok (.aload_n 0, 1) := by decide +kernel
theorem dX2_glow_16 : decode cX2_glow 16 = .ok (.getfield 10, 3) := by decide +kernel
theorem dX2_glow_19 : decode cX2_glow 19 = .ok (.iload_n 1, 1) := by decide +kernel
theorem dX2_glow_20 : decode cX2_glow 20 = .ok (.putfield 99, 3) := by decide +kernel
theorem dX2_glow_23 : decode cX2_glow 23 = .ok (.iload_n 2, 1) := by decide +kernel
theorem dX2_glow_24 : decode cX2_glow 24 = .ok (.ireturn, 1) := by decide +kernel
set_option maxRecDepth 20000 in
theorem ggX2_passMinutes_X2_requireBetween : GoodIn wsX2_passMinutes wsX2_requireBetween := goodIn_ca (goodIn_r _ [6, 7, 8] (by decide +kernel) (by decide +kernel)) (goodIn_sub (fun _ h => List.mem_cons_of_mem _ (List.mem_append_right _ h)) (by decide +kernel))
set_option maxRecDepth 20000 in
theorem gX2_passMinutes_X2_requireBetween : GoodIn wsX2_passMinutes (va_wsS RX2 19 yX2_requireBetween wsX2_requireBetween) := goodIn_app (goodIn_of _ (by decide +kernel)) ggX2_passMinutes_X2_requireBetween
set_option maxRecDepth 20000 in
theorem ggX2_passMinutes_X1_passMany : GoodIn wsX2_passMinutes wsX1_passMany := goodIn_r _ [13, 14, 15, 16, 12, 17, 18, 19, 20, 21, 22, 23, 24, 25, 26, 27, 28, 29, 30, 31, 32, 33, 34, 35, 36, 37, 38, 39, 40, 41, 42, 43, 44, 45, 46, 47, 48, 49, 50, 51, 52, 53, 54, 55, 56, 57, 58, 59, 60, 61, 62, 63, 64, 65, 66, 67, 68, 69, 70, 71, 72, 73, 74, 75, 76, 77, 78, 79, 80, 81, 82, 83, 84, 85, 86, 87, 88, 89, 90, 91, 92, 93, 94, 95, 96, 97, 98, 99, 100, 101, 102, 103, 104, 105, 106, 107, 108, 109, 110, 113, 114, 115, 116, 117, 118, 119, 120, 121, 122, 123, 124, 125, 126, 127, 128, 129, 130, 131, 132] (by decide +kernel) (by decide +kernel)
set_option maxRecDepth 20000 in
theorem gX2_passMinutes_X1_passMany : GoodIn wsX2_passMinutes (wsV RX2 105 RX1 yX1_passMany wsX1_passMany) := goodIn_app (goodIn_of _ (by decide +kernel)) ggX2_passMinutes_X1_passMany
theorem dX2_passMinutes_0 : decode cX2_passMinutes 0 = .ok (.iload_n 1, 1) := by decide +kernel
theorem dX2_passMinutes_1 : decode cX2_passMinutes 1 = .ok (.iconst 1, 1) := by decide +kernel
theorem dX2_passMinutes_2 : decode cX2_passMinutes 2 = .ok (.bipush 100, 2) := by decide +kernel
theorem dX2_passMinutes_4 : decode cX2_passMinutes 4 = .ok (.invokestatic 19, 3) := by decide +kernel
theorem dX2_passMinutes_7 : decode cX2_passMinutes 7 = .ok (.aload_n 0, 1) := by decide +kernel
theorem dX2_passMinutes_8 : decode cX2_passMinutes 8 = .ok (.getfield 10, 3) := by decide +kernel
theorem dX2_passMinutes_11 : decode cX2_passMinutes 11 = .ok (.getfield 102, 3) := by decide +kernel
theorem dX2_passMinutes_14 : decode cX2_passMinutes 14 = .ok (.istore_n 2, 1) := by decide +kernel
theorem dX2_passMinutes_15 : decode cX2_passMinutes 15 = .ok (.aload_n 0, 1) := by decide +kernel
theorem dX2_passMinutes_16 : decode cX2_passMinutes 16 = .ok (.getfield 10, 3) := by decide +kernel
theorem dX2_passMinutes_19 : decode cX2_passMinutes 19 = .ok (.iload_n 1, 1) := by decide +kernel
theorem dX2_passMinutes_20 : decode cX2_passMinutes 20 = .ok (.invokevirtual 105, 3) := by decide +kernel
theorem dX2_passMinutes_23 : decode cX2_passMinutes 23 = .ok (.aload_n 0, 1) := by decide +kernel
theorem dX2_passMinutes_24 : decode cX2_passMinutes 24 = .ok (.getfield 10, 3) := by decide +kernel
theorem dX2_passMinutes_27 : decode cX2_passMinutes 27 = .ok (.getfield 102, 3) := by decide +kernel
theorem dX2_passMinutes_30 : decode cX2_passMinutes 30 = .ok (.iload_n 2, 1) := by decide +kernel
theorem dX2_passMinutes_31 : decode cX2_passMinutes 31 = .ok (.isub, 1) := by decide +kernel
theorem dX2_passMinutes_32 : decode cX2_passMinutes 32 = .ok (.ireturn, 1) := by decide +kernel
set_option maxRecDepth 20000 in
theorem ggX2_woodOf_X2_existing : GoodIn wsX2_woodOf wsX2_existing := goodIn_ca (goodIn_r _ [6, 7, 8, 9, 10, 5, 11, 12, 13, 14, 15, 16, 17, 18, 19, 20, 21, 33, 34, 35, 36, 37, 38, 39, 40, 41, 42, 43] (by decide +kernel) (by decide +kernel)) (goodIn_sub (fun _ h => List.mem_cons_of_mem _ (List.mem_append_right _ h)) (by decide +kernel))
set_option maxRecDepth 20000 in
theorem gX2_woodOf_X2_existing : GoodIn wsX2_woodOf (wsV RX2 54 RX2 yX2_existing wsX2_existing) := goodIn_app (goodIn_of _ (by decide +kernel)) ggX2_woodOf_X2_existing
theorem dX2_woodOf_0 : decode cX2_woodOf 0 = .ok (.aload_n 0, 1) := by decide +kernel
theorem dX2_woodOf_1 : decode cX2_woodOf 1 = .ok (.iload_n 1, 1) := by decide +kernel
theorem dX2_woodOf_2 : decode cX2_woodOf 2 = .ok (.invokevirtual 54, 3) := by decide +kernel
theorem dX2_woodOf_5 : decode cX2_woodOf 5 = .ok (.getfield 67, 3) := by decide +kernel
theorem dX2_woodOf_8 : decode cX2_woodOf 8 = .ok (.ireturn, 1) := by decide +kernel
set_option maxRecDepth 20000 in
theorem ggX2_dampOf_X2_existing : GoodIn wsX2_dampOf wsX2_existing := goodIn_ca (goodIn_r _ [6, 7, 8, 9, 10, 5, 11, 12, 13, 14, 15, 16, 17, 18, 19, 20, 21, 33, 34, 35, 36, 37, 38, 39, 40, 41, 42, 43] (by decide +kernel) (by decide +kernel)) (goodIn_sub (fun _ h => List.mem_cons_of_mem _ (List.mem_append_right _ h)) (by decide +kernel))
set_option maxRecDepth 20000 in
theorem gX2_dampOf_X2_existing : GoodIn wsX2_dampOf (wsV RX2 54 RX2 yX2_existing wsX2_existing) := goodIn_app (goodIn_of _ (by decide +kernel)) ggX2_dampOf_X2_existing
theorem dX2_dampOf_0 : decode cX2_dampOf 0 = .ok (.aload_n 0, 1) := by decide +kernel
theorem dX2_dampOf_1 : decode cX2_dampOf 1 = .ok (.iload_n 1, 1) := by decide +kernel
theorem dX2_dampOf_2 : decode cX2_dampOf 2 = .ok (.invokevirtual 54, 3) := by decide +kernel
theorem dX2_dampOf_5 : decode cX2_dampOf 5 = .ok (.getfield 75, 3) := by decide +kernel
theorem dX2_dampOf_8 : decode cX2_dampOf 8 = .ok (.ireturn, 1) := by decide +kernel
set_option maxRecDepth 20000 in
theorem ggX2_watchOf_X2_existing : GoodIn wsX2_watchOf wsX2_existing := goodIn_ca (goodIn_r _ [6, 7, 8, 9, 10, 5, 11, 12, 13, 14, 15, 16, 17, 18, 19, 20, 21, 33, 34, 35, 36, 37, 38, 39, 40, 41, 42, 43] (by decide +kernel) (by decide +kernel)) (goodIn_sub (fun _ h => List.mem_cons_of_mem _ (List.mem_append_right _ h)) (by decide +kernel))
set_option maxRecDepth 20000 in
theorem gX2_watchOf_X2_existing : GoodIn wsX2_watchOf (wsV RX2 54 RX2 yX2_existing wsX2_existing) := goodIn_app (goodIn_of _ (by decide +kernel)) ggX2_watchOf_X2_existing
theorem dX2_watchOf_0 : decode cX2_watchOf 0 = .ok (.aload_n 0, 1) := by decide +kernel
theorem dX2_watchOf_1 : decode cX2_watchOf 1 = .ok (.iload_n 1, 1) := by decide +kernel
theorem dX2_watchOf_2 : decode cX2_watchOf 2 = .ok (.invokevirtual 54, 3) := by decide +kernel
theorem dX2_watchOf_5 : decode cX2_watchOf 5 = .ok (.getfield 108, 3) := by decide +kernel
theorem dX2_watchOf_8 : decode cX2_watchOf 8 = .ok (.ireturn, 1) := by decide +kernel
set_option maxRecDepth 20000 in
theorem ggX2_looksEast_X2_existing : GoodIn wsX2_looksEast wsX2_existing := goodIn_ca (goodIn_r _ [6, 7, 8, 9, 10, 5, 11, 12, 13, 14, 15, 16, 17, 18, 19, 20, 21, 33, 34, 35, 36, 37, 38, 39, 40, 41, 42, 43] (by decide +kernel) (by decide +kernel)) (goodIn_sub (fun _ h => List.mem_cons_of_mem _ (List.mem_append_right _ h)) (by decide +kernel))
set_option maxRecDepth 20000 in
theorem gX2_looksEast_X2_existing : GoodIn wsX2_looksEast (wsV RX2 54 RX2 yX2_existing wsX2_existing) := goodIn_app (goodIn_of _ (by decide +kernel)) ggX2_looksEast_X2_existing
theorem dX2_looksEast_0 : decode cX2_looksEast 0 = .ok (.aload_n 0, 1) := by decide +kernel
theorem dX2_looksEast_1 : decode cX2_looksEast 1 = .ok (.iload_n 1, 1) := by decide +kernel
theorem dX2_looksEast_2 : decode cX2_looksEast 2 = .ok (.invokevirtual 54, 3) := by decide +kernel
theorem dX2_looksEast_5 : decode cX2_looksEast 5 = .ok (.getfield 58, 3) := by decide +kernel
theorem dX2_looksEast_8 : decode cX2_looksEast 8 = .ok (.ireturn, 1) := by decide +kernel
set_option maxRecDepth 20000 in
theorem ggX2_isPost_X2_existing : GoodIn wsX2_isPost wsX2_existing := goodIn_ca (goodIn_r _ [6, 7, 8, 9, 10, 5, 11, 12, 13, 14, 15, 16, 17, 18, 19, 20, 21, 33, 34, 35, 36, 37, 38, 39, 40, 41, 42, 43] (by decide +kernel) (by decide +kernel)) (goodIn_sub (fun _ h => List.mem_cons_of_mem _ (List.mem_append_right _ h)) (by decide +kernel))
set_option maxRecDepth 20000 in
theorem gX2_isPost_X2_existing : GoodIn wsX2_isPost (wsV RX2 54 RX2 yX2_existing wsX2_existing) := goodIn_app (goodIn_of _ (by decide +kernel)) ggX2_isPost_X2_existing
theorem dX2_isPost_0 : decode cX2_isPost 0 = .ok (.aload_n 0, 1) := by decide +kernel
theorem dX2_isPost_1 : decode cX2_isPost 1 = .ok (.iload_n 1, 1) := by decide +kernel
theorem dX2_isPost_2 : decode cX2_isPost 2 = .ok (.invokevirtual 54, 3) := by decide +kernel
theorem dX2_isPost_5 : decode cX2_isPost 5 = .ok (.getfield 64, 3) := by decide +kernel
theorem dX2_isPost_8 : decode cX2_isPost 8 = .ok (.ireturn, 1) := by decide +kernel
set_option maxRecDepth 20000 in
theorem ggX2_milesBetween_X2_requireHill : GoodIn wsX2_milesBetween wsX2_requireHill := goodIn_ca (goodIn_r _ [6, 7, 8, 1, 9, 16, 17, 18, 19, 20, 21, 22, 23, 24, 25, 26] (by decide +kernel) (by decide +kernel)) (goodIn_sub (fun _ h => List.mem_cons_of_mem _ (List.mem_append_right _ h)) (by decide +kernel))
set_option maxRecDepth 20000 in
theorem gX2_milesBetween_X2_requireHill : GoodIn wsX2_milesBetween (wsV RX2 38 RX2 yX2_requireHill wsX2_requireHill) := goodIn_app (goodIn_of _ (by decide +kernel)) ggX2_milesBetween_X2_requireHill
set_option maxRecDepth 20000 in
theorem ggX2_milesBetween_X1_milesFrom : GoodIn wsX2_milesBetween wsX1_milesFrom := goodIn_r _ [14, 15, 18, 19, 20, 21, 22, 23, 24, 25, 26] (by decide +kernel) (by decide +kernel)
set_option maxRecDepth 20000 in
theorem gX2_milesBetween_X1_milesFrom : GoodIn wsX2_milesBetween (wsV RX2 47 RX1 yX1_milesFrom wsX1_milesFrom) := goodIn_app (goodIn_of _ (by decide +kernel)) ggX2_milesBetween_X1_milesFrom
theorem dX2_milesBetween_0 : decode cX2_milesBetween 0 = .ok (.aload_n 0, 1) := by decide +kernel
theorem dX2_milesBetween_1 : decode cX2_milesBetween 1 = .ok (.iload_n 1, 1) := by decide +kernel
theorem dX2_milesBetween_2 : decode cX2_milesBetween 2 = .ok (.invokevirtual 38, 3) := by decide +kernel
theorem dX2_milesBetween_5 : decode cX2_milesBetween 5 = .ok (.aload_n 0, 1) := by decide +kernel
theorem dX2_milesBetween_6 : decode cX2_milesBetween 6 = .ok (.iload_n 2, 1) := by decide +kernel
theorem dX2_milesBetween_7 : decode cX2_milesBetween 7 = .ok (.invokevirtual 38, 3) := by decide +kernel
theorem dX2_milesBetween_10 : decode cX2_milesBetween 10 = .ok (.aload_n 0, 1) := by decide +kernel
theorem dX2_milesBetween_11 : decode cX2_milesBetween 11 = .ok (.getfield 10, 3) := by decide +kernel
theorem dX2_milesBetween_14 : decode cX2_milesBetween 14 = .ok (.iload_n 1, 1) := by decide +kernel
theorem dX2_milesBetween_15 : decode cX2_milesBetween 15 = .ok (.iload_n 2, 1) := by decide +kernel
theorem dX2_milesBetween_16 : decode cX2_milesBetween 16 = .ok (.invokevirtual 47, 3) := by decide +kernel
theorem dX2_milesBetween_19 : decode cX2_milesBetween 19 = .ok (.ireturn, 1) := by decide +kernel
set_option maxRecDepth 20000 in
theorem ggX2_canSee_X2_requireHill : GoodIn wsX2_canSee wsX2_requireHill := goodIn_ca (goodIn_r _ [6, 7, 8, 1, 9, 25, 26, 27, 28, 29, 30, 31, 32, 33, 34, 35] (by decide +kernel) (by decide +kernel)) (goodIn_sub (fun _ h => List.mem_cons_of_mem _ (List.mem_append_right _ h)) (by decide +kernel))
set_option maxRecDepth 20000 in
theorem gX2_canSee_X2_requireHill : GoodIn wsX2_canSee (wsV RX2 38 RX2 yX2_requireHill wsX2_requireHill) := goodIn_app (goodIn_of _ (by decide +kernel)) ggX2_canSee_X2_requireHill
set_option maxRecDepth 20000 in
theorem ggX2_canSee_X1_sees : GoodIn wsX2_canSee wsX1_sees := goodIn_r _ [14, 15, 16, 17, 13, 18, 19, 20, 21, 22, 23, 24, 27, 28, 29, 30, 31, 32, 33, 34, 35] (by decide +kernel) (by decide +kernel)
set_option maxRecDepth 20000 in
theorem gX2_canSee_X1_sees : GoodIn wsX2_canSee (wsV RX2 111 RX1 yX1_sees wsX1_sees) := goodIn_app (goodIn_of _ (by decide +kernel)) ggX2_canSee_X1_sees
theorem dX2_canSee_0 : decode cX2_canSee 0 = .ok (.aload_n 0, 1) := by decide +kernel
theorem dX2_canSee_1 : decode cX2_canSee 1 = .ok (.iload_n 1, 1) := by decide +kernel
theorem dX2_canSee_2 : decode cX2_canSee 2 = .ok (.invokevirtual 38, 3) := by decide +kernel
theorem dX2_canSee_5 : decode cX2_canSee 5 = .ok (.aload_n 0, 1) := by decide +kernel
theorem dX2_canSee_6 : decode cX2_canSee 6 = .ok (.iload_n 2, 1) := by decide +kernel
theorem dX2_canSee_7 : decode cX2_canSee 7 = .ok (.invokevirtual 38, 3) := by decide +kernel
theorem dX2_canSee_10 : decode cX2_canSee 10 = .ok (.aload_n 0, 1) := by decide +kernel
theorem dX2_canSee_11 : decode cX2_canSee 11 = .ok (.getfield 10, 3) := by decide +kernel
theorem dX2_canSee_14 : decode cX2_canSee 14 = .ok (.iload_n 1, 1) := by decide +kernel
theorem dX2_canSee_15 : decode cX2_canSee 15 = .ok (.iload_n 2, 1) := by decide +kernel
theorem dX2_canSee_16 : decode cX2_canSee 16 = .ok (.invokevirtual 111, 3) := by decide +kernel
theorem dX2_canSee_19 : decode cX2_canSee 19 = .ok (.ireturn, 1) := by decide +kernel
set_option maxRecDepth 20000 in
theorem ggX2_fewestSteps_X2_requireHill : GoodIn wsX2_fewestSteps wsX2_requireHill := goodIn_ca (goodIn_r _ [6, 7, 8, 1, 9, 41, 42, 43, 44, 45, 46, 47, 48, 49, 50, 51] (by decide +kernel) (by decide +kernel)) (goodIn_sub (fun _ h => List.mem_cons_of_mem _ (List.mem_append_right _ h)) (by decide +kernel))
set_option maxRecDepth 20000 in
theorem gX2_fewestSteps_X2_requireHill : GoodIn wsX2_fewestSteps (wsV RX2 38 RX2 yX2_requireHill wsX2_requireHill) := goodIn_app (goodIn_of _ (by decide +kernel)) ggX2_fewestSteps_X2_requireHill
set_option maxRecDepth 20000 in
theorem ggX2_fewestSteps_X1_stepsFrom : GoodIn wsX2_fewestSteps wsX1_stepsFrom := goodIn_r _ [14, 15, 16, 13, 17, 18, 19, 20, 21, 22, 23, 24, 25, 26, 27, 28, 29, 30, 31, 32, 33, 34, 35, 36, 37, 38, 39, 40, 43, 44, 45, 46, 47, 48, 49, 50, 51] (by decide +kernel) (by decide +kernel)
set_option maxRecDepth 20000 in
theorem gX2_fewestSteps_X1_stepsFrom : GoodIn wsX2_fewestSteps (wsV RX2 115 RX1 yX1_stepsFrom wsX1_stepsFrom) := goodIn_app (goodIn_of _ (by decide +kernel)) ggX2_fewestSteps_X1_stepsFrom
theorem dX2_fewestSteps_0 : decode cX2_fewestSteps 0 = .ok (.aload_n 0, 1) := by decide +kernel
theorem dX2_fewestSteps_1 : decode cX2_fewestSteps 1 = .ok (.iload_n 1, 1) := by decide +kernel
theorem dX2_fewestSteps_2 : decode cX2_fewestSteps 2 = .ok (.invokevirtual 38, 3) := by decide +kernel
theorem dX2_fewestSteps_5 : decode cX2_fewestSteps 5 = .ok (.aload_n 0, 1) := by decide +kernel
theorem dX2_fewestSteps_6 : decode cX2_fewestSteps 6 = .ok (.iload_n 2, 1) := by decide +kernel
theorem dX2_fewestSteps_7 : decode cX2_fewestSteps 7 = .ok (.invokevirtual 38, 3) := by decide +kernel
theorem dX2_fewestSteps_10 : decode cX2_fewestSteps 10 = .ok (.aload_n 0, 1) := by decide +kernel
theorem dX2_fewestSteps_11 : decode cX2_fewestSteps 11 = .ok (.getfield 10, 3) := by decide +kernel
theorem dX2_fewestSteps_14 : decode cX2_fewestSteps 14 = .ok (.iload_n 1, 1) := by decide +kernel
theorem dX2_fewestSteps_15 : decode cX2_fewestSteps 15 = .ok (.iload_n 2, 1) := by decide +kernel
theorem dX2_fewestSteps_16 : decode cX2_fewestSteps 16 = .ok (.invokevirtual 115, 3) := by decide +kernel
theorem dX2_fewestSteps_19 : decode cX2_fewestSteps 19 = .ok (.ireturn, 1) := by decide +kernel
set_option maxRecDepth 20000 in
theorem ggX2_isDark_X2_existing : GoodIn wsX2_isDark wsX2_existing := goodIn_ca (goodIn_r _ [6, 7, 8, 9, 10, 5, 11, 12, 13, 14, 15, 16, 17, 18, 19, 20, 21, 33, 34, 35, 36, 37, 38, 39, 40, 41, 42, 43] (by decide +kernel) (by decide +kernel)) (goodIn_sub (fun _ h => List.mem_cons_of_mem _ (List.mem_append_right _ h)) (by decide +kernel))
set_option maxRecDepth 20000 in
theorem gX2_isDark_X2_existing : GoodIn wsX2_isDark (wsV RX2 54 RX2 yX2_existing wsX2_existing) := goodIn_app (goodIn_of _ (by decide +kernel)) ggX2_isDark_X2_existing
theorem dX2_isDark_0 : decode cX2_isDark 0 = .ok (.aload_n 0, 1) := by decide +kernel
theorem dX2_isDark_1 : decode cX2_isDark 1 = .ok (.iload_n 1, 1) := by decide +kernel
theorem dX2_isDark_2 : decode cX2_isDark 2 = .ok (.invokevirtual 54, 3) := by decide +kernel
theorem dX2_isDark_5 : decode cX2_isDark 5 = .ok (.getfield 118, 3) := by decide +kernel
theorem dX2_isDark_8 : decode cX2_isDark 8 = .ok (.ifCond .ne 7, 3) := by decide +kernel
theorem dX2_isDark_11 : decode cX2_isDark 11 = .ok (.iconst 1, 1) := by decide +kernel
theorem dX2_isDark_12 : decode cX2_isDark 12 = .ok (.goto 4, 3) := by decide +kernel
theorem dX2_isDark_15 : decode cX2_isDark 15 = .ok (.iconst 0, 1) := by decide +kernel
theorem dX2_isDark_16 : decode cX2_isDark 16 = .ok (.ireturn, 1) := by decide +kernel
set_option maxRecDepth 20000 in
theorem ggX2_isBurning_X2_existing : GoodIn wsX2_isBurning wsX2_existing := goodIn_ca (goodIn_r _ [6, 7, 8, 9, 10, 5, 11, 12, 13, 14, 15, 16, 17, 18, 19, 20, 21, 33, 34, 35, 36, 37, 38, 39, 40, 41, 42, 43] (by decide +kernel) (by decide +kernel)) (goodIn_sub (fun _ h => List.mem_cons_of_mem _ (List.mem_append_right _ h)) (by decide +kernel))
set_option maxRecDepth 20000 in
theorem gX2_isBurning_X2_existing : GoodIn wsX2_isBurning (wsV RX2 54 RX2 yX2_existing wsX2_existing) := goodIn_app (goodIn_of _ (by decide +kernel)) ggX2_isBurning_X2_existing
theorem dX2_isBurning_0 : decode cX2_isBurning 0 = .ok (.aload_n 0, 1) := by decide +kernel
theorem dX2_isBurning_1 : decode cX2_isBurning 1 = .ok (.iload_n 1, 1) := by decide +kernel
theorem dX2_isBurning_2 : decode cX2_isBurning 2 = .ok (.invokevirtual 54, 3) := by decide +kernel
theorem dX2_isBurning_5 : decode cX2_isBurning 5 = .ok (.getfield 118, 3) := by decide +kernel
theorem dX2_isBurning_8 : decode cX2_isBurning 8 = .ok (.iconst 2, 1) := by decide +kernel
theorem dX2_isBurning_9 : decode cX2_isBurning 9 = .ok (.if_icmp .ne 7, 3) := by decide +kernel
theorem dX2_isBurning_12 : decode cX2_isBurning 12 = .ok (.iconst 1, 1) := by decide +kernel
theorem dX2_isBurning_13 : decode cX2_isBurning 13 = .ok (.goto 4, 3) := by decide +kernel
theorem dX2_isBurning_16 : decode cX2_isBurning 16 = .ok (.iconst 0, 1) := by decide +kernel
theorem dX2_isBurning_17 : decode cX2_isBurning 17 = .ok (.ireturn, 1) := by decide +kernel
set_option maxRecDepth 20000 in
theorem ggX2_minutesToBurn_X2_existing : GoodIn wsX2_minutesToBurn wsX2_existing := goodIn_ca (goodIn_r _ [6, 7, 8, 9, 10, 5, 11, 12, 13, 14, 15, 16, 17, 18, 19, 20, 21, 33, 34, 35, 36, 37, 38, 39, 40, 41, 42, 43] (by decide +kernel) (by decide +kernel)) (goodIn_sub (fun _ h => List.mem_cons_of_mem _ (List.mem_append_right _ h)) (by decide +kernel))
set_option maxRecDepth 20000 in
theorem gX2_minutesToBurn_X2_existing : GoodIn wsX2_minutesToBurn (wsV RX2 54 RX2 yX2_existing wsX2_existing) := goodIn_app (goodIn_of _ (by decide +kernel)) ggX2_minutesToBurn_X2_existing
theorem dX2_minutesToBurn_0 : decode cX2_minutesToBurn 0 = .ok (.aload_n 0, 1) := by decide +kernel
theorem dX2_minutesToBurn_1 : decode cX2_minutesToBurn 1 = .ok (.iload_n 1, 1) := by decide +kernel
theorem dX2_minutesToBurn_2 : decode cX2_minutesToBurn 2 = .ok (.invokevirtual 54, 3) := by decide +kernel
theorem dX2_minutesToBurn_5 : decode cX2_minutesToBurn 5 = .ok (.getfield 90, 3) := by decide +kernel
theorem dX2_minutesToBurn_8 : decode cX2_minutesToBurn 8 = .ok (.ireturn, 1) := by decide +kernel
set_option maxRecDepth 20000 in
theorem ggX2_lookingFor_X2_existing : GoodIn wsX2_lookingFor wsX2_existing := goodIn_ca (goodIn_r _ [6, 7, 8, 9, 10, 5, 11, 12, 13, 14, 15, 16, 17, 18, 19, 20, 21, 33, 34, 35, 36, 37, 38, 39, 40, 41, 42, 43] (by decide +kernel) (by decide +kernel)) (goodIn_sub (fun _ h => List.mem_cons_of_mem _ (List.mem_append_right _ h)) (by decide +kernel))
set_option maxRecDepth 20000 in
theorem gX2_lookingFor_X2_existing : GoodIn wsX2_lookingFor (wsV RX2 54 RX2 yX2_existing wsX2_existing) := goodIn_app (goodIn_of _ (by decide +kernel)) ggX2_lookingFor_X2_existing
theorem dX2_lookingFor_0 : decode cX2_lookingFor 0 = .ok (.aload_n 0, 1) := by decide +kernel
theorem dX2_lookingFor_1 : decode cX2_lookingFor 1 = .ok (.iload_n 1, 1) := by decide +kernel
theorem dX2_lookingFor_2 : decode cX2_lookingFor 2 = .ok (.invokevirtual 54, 3) := by decide +kernel
theorem dX2_lookingFor_5 : decode cX2_lookingFor 5 = .ok (.getfield 121, 3) := by decide +kernel
theorem dX2_lookingFor_8 : decode cX2_lookingFor 8 = .ok (.ireturn, 1) := by decide +kernel
set_option maxRecDepth 20000 in
theorem ggX2_sourceOf_X2_alight : GoodIn wsX2_sourceOf wsX2_alight := goodIn_ca (goodIn_ca (goodIn_r _ [6, 7, 8, 9, 10, 11, 12, 5, 13, 14, 15, 16, 17, 18, 19, 20, 21, 22, 23, 24, 25, 26, 27, 28, 29, 30, 31, 32, 33, 34, 35, 36, 37, 38, 39, 40, 41, 42, 43, 44, 45, 46, 47, 48, 49, 50] (by decide +kernel) (by decide +kernel)) (goodIn_sub (fun _ h => List.mem_cons_of_mem _ (List.mem_append_left _ (List.mem_append_right _ h))) (by decide +kernel))) (goodIn_sub (fun _ h => List.mem_cons_of_mem _ (List.mem_append_right _ h)) (by decide +kernel))
set_option maxRecDepth 20000 in
theorem gX2_sourceOf_X2_alight : GoodIn wsX2_sourceOf (wsV RX2 93 RX2 yX2_alight wsX2_alight) := goodIn_app (goodIn_of _ (by decide +kernel)) ggX2_sourceOf_X2_alight
theorem dX2_sourceOf_0 : decode cX2_sourceOf 0 = .ok (.aload_n 0, 1) := by decide +kernel
theorem dX2_sourceOf_1 : decode cX2_sourceOf 1 = .ok (.iload_n 1, 1) := by decide +kernel
theorem dX2_sourceOf_2 : decode cX2_sourceOf 2 = .ok (.invokevirtual 93, 3) := by decide +kernel
theorem dX2_sourceOf_5 : decode cX2_sourceOf 5 = .ok (.getfield 124, 3) := by decide +kernel
theorem dX2_sourceOf_8 : decode cX2_sourceOf 8 = .ok (.ireturn, 1) := by decide +kernel
set_option maxRecDepth 20000 in
theorem ggX2_isMistaken_X2_existing : GoodIn wsX2_isMistaken wsX2_existing := goodIn_ca (goodIn_r _ [6, 7, 8, 9, 10, 5, 11, 12, 13, 14, 15, 16, 17, 18, 19, 20, 21, 33, 34, 35, 36, 37, 38, 39, 40, 41, 42, 43] (by decide +kernel) (by decide +kernel)) (goodIn_sub (fun _ h => List.mem_cons_of_mem _ (List.mem_append_right _ h)) (by decide +kernel))
set_option maxRecDepth 20000 in
theorem gX2_isMistaken_X2_existing : GoodIn wsX2_isMistaken (wsV RX2 54 RX2 yX2_existing wsX2_existing) := goodIn_app (goodIn_of _ (by decide +kernel)) ggX2_isMistaken_X2_existing
theorem dX2_isMistaken_0 : decode cX2_isMistaken 0 = .ok (.aload_n 0, 1) := by decide +kernel
theorem dX2_isMistaken_1 : decode cX2_isMistaken 1 = .ok (.iload_n 1, 1) := by decide +kernel
theorem dX2_isMistaken_2 : decode cX2_isMistaken 2 = .ok (.invokevirtual 54, 3) := by decide +kernel
theorem dX2_isMistaken_5 : decode cX2_isMistaken 5 = .ok (.getfield 124, 3) := by decide +kernel
theorem dX2_isMistaken_8 : decode cX2_isMistaken 8 = .ok (.iconst (-1), 1) := by decide +kernel
theorem dX2_isMistaken_9 : decode cX2_isMistaken 9 = .ok (.if_icmp .ne 7, 3) := by decide +kernel
theorem dX2_isMistaken_12 : decode cX2_isMistaken 12 = .ok (.iconst 1, 1) := by decide +kernel
theorem dX2_isMistaken_13 : decode cX2_isMistaken 13 = .ok (.goto 4, 3) := by decide +kernel
theorem dX2_isMistaken_16 : decode cX2_isMistaken 16 = .ok (.iconst 0, 1) := by decide +kernel
theorem dX2_isMistaken_17 : decode cX2_isMistaken 17 = .ok (.ireturn, 1) := by decide +kernel
set_option maxRecDepth 20000 in
theorem ggX2_answersTo_X2_existing : GoodIn wsX2_answersTo wsX2_existing := goodIn_ca (goodIn_r _ [6, 7, 8, 9, 10, 5, 11, 12, 13, 14, 15, 16, 17, 18, 19, 20, 21, 33, 34, 35, 36, 37, 38, 39, 40, 41, 42, 43] (by decide +kernel) (by decide +kernel)) (goodIn_sub (fun _ h => List.mem_cons_of_mem _ (List.mem_append_right _ h)) (by decide +kernel))
set_option maxRecDepth 20000 in
theorem gX2_answersTo_X2_existing : GoodIn wsX2_answersTo (wsV RX2 54 RX2 yX2_existing wsX2_existing) := goodIn_app (goodIn_of _ (by decide +kernel)) ggX2_answersTo_X2_existing
theorem dX2_answersTo_0 : decode cX2_answersTo 0 = .ok (.aload_n 0, 1) := by decide +kernel
theorem dX2_answersTo_1 : decode cX2_answersTo 1 = .ok (.iload_n 1, 1) := by decide +kernel
theorem dX2_answersTo_2 : decode cX2_answersTo 2 = .ok (.invokevirtual 54, 3) := by decide +kernel
theorem dX2_answersTo_5 : decode cX2_answersTo 5 = .ok (.getfield 127, 3) := by decide +kernel
theorem dX2_answersTo_8 : decode cX2_answersTo 8 = .ok (.ireturn, 1) := by decide +kernel
theorem dX2_hills_0 : decode cX2_hills 0 = .ok (.aload_n 0, 1) := by decide +kernel
theorem dX2_hills_1 : decode cX2_hills 1 = .ok (.getfield 10, 3) := by decide +kernel
theorem dX2_hills_4 : decode cX2_hills 4 = .ok (.getfield 23, 3) := by decide +kernel
theorem dX2_hills_7 : decode cX2_hills 7 = .ok (.ireturn, 1) := by decide +kernel
theorem dX2_minute_0 : decode cX2_minute 0 = .ok (.aload_n 0, 1) := by decide +kernel
theorem dX2_minute_1 : decode cX2_minute 1 = .ok (.getfield 10, 3) := by decide +kernel
theorem dX2_minute_4 : decode cX2_minute 4 = .ok (.getfield 130, 3) := by decide +kernel
theorem dX2_minute_7 : decode cX2_minute 7 = .ok (.ireturn, 1) := by decide +kernel
theorem dX2_haze_0 : decode cX2_haze 0 = .ok (.aload_n 0, 1) := by decide +kernel
theorem dX2_haze_1 : decode cX2_haze 1 = .ok (.getfield 10, 3) := by decide +kernel
theorem dX2_haze_4 : decode cX2_haze 4 = .ok (.getfield 78, 3) := by decide +kernel
theorem dX2_haze_7 : decode cX2_haze 7 = .ok (.ireturn, 1) := by decide +kernel
theorem dX2_glowLeft_0 : decode cX2_glowLeft 0 = .ok (.aload_n 0, 1) := by decide +kernel
theorem dX2_glowLeft_1 : decode cX2_glowLeft 1 = .ok (.getfield 10, 3) := by decide +kernel
theorem dX2_glowLeft_4 : decode cX2_glowLeft 4 = .ok (.getfield 99, 3) := by decide +kernel
theorem dX2_glowLeft_7 : decode cX2_glowLeft 7 = .ok (.ireturn, 1) := by decide +kernel
set_option maxRecDepth 20000 in
theorem ggX2_burningHills_X1_countBurning : GoodIn wsX2_burningHills wsX1_countBurning := goodIn_r _ [6, 7, 8, 9, 10, 11, 5, 12, 13, 14, 17, 18, 19, 20, 21, 22, 23, 24, 25, 26, 27, 28, 29, 30, 31, 32, 33, 34, 35, 36] (by decide +kernel) (by decide +kernel)
set_option maxRecDepth 20000 in
theorem gX2_burningHills_X1_countBurning : GoodIn wsX2_burningHills (wsV RX2 133 RX1 yX1_countBurning wsX1_countBurning) := goodIn_app (goodIn_of _ (by decide +kernel)) ggX2_burningHills_X1_countBurning
theorem dX2_burningHills_0 : decode cX2_burningHills 0 = .ok (.aload_n 0, 1) := by decide +kernel
theorem dX2_burningHills_1 : decode cX2_burningHills 1 = .ok (.getfield 10, 3) := by decide +kernel
theorem dX2_burningHills_4 : decode cX2_burningHills 4 = .ok (.invokevirtual 133, 3) := by decide +kernel
theorem dX2_burningHills_7 : decode cX2_burningHills 7 = .ok (.ireturn, 1) := by decide +kernel
theorem dX2_timesLit_0 : decode cX2_timesLit 0 = .ok (.aload_n 0, 1) := by decide +kernel
theorem dX2_timesLit_1 : decode cX2_timesLit 1 = .ok (.getfield 10, 3) := by decide +kernel
theorem dX2_timesLit_4 : decode cX2_timesLit 4 = .ok (.getfield 102, 3) := by decide +kernel
theorem dX2_timesLit_7 : decode cX2_timesLit 7 = .ok (.ireturn, 1) := by decide +kernel
theorem dX2_timesMistaken_0 : decode cX2_timesMistaken 0 = .ok (.aload_n 0, 1) := by decide +kernel
theorem dX2_timesMistaken_1 : decode cX2_timesMistaken 1 = .ok (.getfield 10, 3) := by decide +kernel
theorem dX2_timesMistaken_4 : decode cX2_timesMistaken 4 = .ok (.getfield 137, 3) := by decide +kernel
theorem dX2_timesMistaken_7 : decode cX2_timesMistaken 7 = .ok (.ireturn, 1) := by decide +kernel
set_option maxRecDepth 20000 in
theorem ggX2_meanWood_X1_sumWood : GoodIn wsX2_meanWood wsX1_sumWood := goodIn_r _ [7, 8, 9, 10, 11, 12, 6, 13, 14, 15, 18, 19, 20, 21, 22, 23, 24, 25, 26, 27, 28, 29, 30, 31, 32, 33, 34, 35, 36, 37] (by decide +kernel) (by decide +kernel)
set_option maxRecDepth 20000 in
theorem gX2_meanWood_X1_sumWood : GoodIn wsX2_meanWood (wsV RX2 155 RX1 yX1_sumWood wsX1_sumWood) := goodIn_app (goodIn_of _ (by decide +kernel)) ggX2_meanWood_X1_sumWood
theorem dX2_meanWood_0 : decode cX2_meanWood 0 = .ok (.aload_n 0, 1) := by decide +kernel
theorem dX2_meanWood_1 : decode cX2_meanWood 1 = .ok (.getfield 10, 3) := by decide +kernel
theorem dX2_meanWood_4 : decode cX2_meanWood 4 = .ok (.getfield 23, 3) := by decide +kernel
theorem dX2_meanWood_7 : decode cX2_meanWood 7 = .ok (.ifCond .gt 5, 3) := by decide +kernel
theorem dX2_meanWood_10 : decode cX2_meanWood 10 = .ok (.dconst 0, 1) := by decide +kernel
theorem dX2_meanWood_11 : decode cX2_meanWood 11 = .ok (.dreturn, 1) := by decide +kernel
theorem dX2_meanWood_12 : decode cX2_meanWood 12 = .ok (.aload_n 0, 1) := by decide +kernel
theorem dX2_meanWood_13 : decode cX2_meanWood 13 = .ok (.getfield 10, 3) := by decide +kernel
theorem dX2_meanWood_16 : decode cX2_meanWood 16 = .ok (.invokevirtual 155, 3) := by decide +kernel
theorem dX2_meanWood_19 : decode cX2_meanWood 19 = .ok (.i2d, 1) := by decide +kernel
theorem dX2_meanWood_20 : decode cX2_meanWood 20 = .ok (.aload_n 0, 1) := by decide +kernel
theorem dX2_meanWood_21 : decode cX2_meanWood 21 = .ok (.getfield 10, 3) := by decide +kernel
theorem dX2_meanWood_24 : decode cX2_meanWood 24 = .ok (.getfield 23, 3) := by decide +kernel
theorem dX2_meanWood_27 : decode cX2_meanWood 27 = .ok (.i2d, 1) := by decide +kernel
theorem dX2_meanWood_28 : decode cX2_meanWood 28 = .ok (.ddiv, 1) := by decide +kernel
theorem dX2_meanWood_29 : decode cX2_meanWood 29 = .ok (.dreturn, 1) := by decide +kernel
theorem dX2_requireBetween_0 : decode cX2_requireBetween 0 = .ok (.iload_n 0, 1) := by decide +kernel
theorem dX2_requireBetween_1 : decode cX2_requireBetween 1 = .ok (.iload_n 1, 1) := by decide +kernel
theorem dX2_requireBetween_2 : decode cX2_requireBetween 2 = .ok (.if_icmp .lt 8, 3) := by decide +kernel
theorem dX2_requireBetween_5 : decode cX2_requireBetween 5 = .ok (.iload_n 0, 1) := by decide +kernel
theorem dX2_requireBetween_6 : decode cX2_requireBetween 6 = .ok (.iload_n 2, 1) := by decide +kernel
theorem dX2_requireBetween_7 : decode cX2_requireBetween 7 = .ok (.if_icmp .le 13, 3) := by decide +kernel
theorem dX2_requireBetween_10 : decode cX2_requireBetween 10 = .ok (.new 42, 3) := by decide +kernel
theorem dX2_requireBetween_13 : decode cX2_requireBetween 13 = .ok (.dup, 1) := by decide +kernel
theorem dX2_requireBetween_14 : decode cX2_requireBetween 14 = .ok (.ldc 170, 2) := by decide +kernel
theorem dX2_requireBetween_16 : decode cX2_requireBetween 16 = .ok (.invokespecial 46, 3) := by decide +kernel
theorem dX2_requireBetween_19 : decode cX2_requireBetween 19 = .ok (.athrow, 1) := by decide +kernel
theorem dX2_requireBetween_20 : decode cX2_requireBetween 20 = .ok (.return_, 1) := by decide +kernel
theorem dX2_requireHill_0 : decode cX2_requireHill 0 = .ok (.iload_n 1, 1) := by decide +kernel
theorem dX2_requireHill_1 : decode cX2_requireHill 1 = .ok (.ifCond .lt 14, 3) := by decide +kernel
theorem dX2_requireHill_4 : decode cX2_requireHill 4 = .ok (.iload_n 1, 1) := by decide +kernel
theorem dX2_requireHill_5 : decode cX2_requireHill 5 = .ok (.aload_n 0, 1) := by decide +kernel
theorem dX2_requireHill_6 : decode cX2_requireHill 6 = .ok (.getfield 10, 3) := by decide +kernel
theorem dX2_requireHill_9 : decode cX2_requireHill 9 = .ok (.getfield 23, 3) := by decide +kernel
theorem dX2_requireHill_12 : decode cX2_requireHill 12 = .ok (.if_icmp .lt 13, 3) := by decide +kernel
theorem dX2_requireHill_15 : decode cX2_requireHill 15 = .ok (.new 172, 3) := by decide +kernel
theorem dX2_requireHill_18 : decode cX2_requireHill 18 = .ok (.dup, 1) := by decide +kernel
theorem dX2_requireHill_19 : decode cX2_requireHill 19 = .ok (.ldc 174, 2) := by decide +kernel
theorem dX2_requireHill_21 : decode cX2_requireHill 21 = .ok (.invokespecial 176, 3) := by decide +kernel
theorem dX2_requireHill_24 : decode cX2_requireHill 24 = .ok (.athrow, 1) := by decide +kernel
theorem dX2_requireHill_25 : decode cX2_requireHill 25 = .ok (.return_, 1) := by decide +kernel
set_option maxRecDepth 20000 in
theorem ggX2_existing_X2_requireHill : GoodIn wsX2_existing wsX2_requireHill := goodIn_ca (goodIn_r _ [6, 7, 8, 1, 9, 17, 18, 19, 20, 21, 22, 23, 24, 25, 26, 27] (by decide +kernel) (by decide +kernel)) (goodIn_sub (fun _ h => List.mem_cons_of_mem _ (List.mem_append_right _ h)) (by decide +kernel))
set_option maxRecDepth 20000 in
theorem gX2_existing_X2_requireHill : GoodIn wsX2_existing (wsV RX2 38 RX2 yX2_requireHill wsX2_requireHill) := goodIn_app (goodIn_of _ (by decide +kernel)) ggX2_existing_X2_requireHill
set_option maxRecDepth 20000 in
theorem ggX2_existing_X1_hillAt : GoodIn wsX2_existing wsX1_hillAt := goodIn_r _ [14, 15, 16, 19, 20, 21, 22, 23, 24, 25, 26, 27] (by decide +kernel) (by decide +kernel)
set_option maxRecDepth 20000 in
theorem gX2_existing_X1_hillAt : GoodIn wsX2_existing (wsV RX2 87 RX1 yX1_hillAt wsX1_hillAt) := goodIn_app (goodIn_of _ (by decide +kernel)) ggX2_existing_X1_hillAt
theorem dX2_existing_0 : decode cX2_existing 0 = .ok (.aload_n 0, 1) := by decide +kernel
theorem dX2_existing_1 : decode cX2_existing 1 = .ok (.iload_n 1, 1) := by decide +kernel
theorem dX2_existing_2 : decode cX2_existing 2 = .ok (.invokevirtual 38, 3) := by decide +kernel
theorem dX2_existing_5 : decode cX2_existing 5 = .ok (.aload_n 0, 1) := by decide +kernel
theorem dX2_existing_6 : decode cX2_existing 6 = .ok (.getfield 10, 3) := by decide +kernel
theorem dX2_existing_9 : decode cX2_existing 9 = .ok (.iload_n 1, 1) := by decide +kernel
theorem dX2_existing_10 : decode cX2_existing 10 = .ok (.invokevirtual 87, 3) := by decide +kernel
theorem dX2_existing_13 : decode cX2_existing 13 = .ok (.areturn, 1) := by decide +kernel
set_option maxRecDepth 20000 in
theorem ggX2_alight_X2_existing : GoodIn wsX2_alight wsX2_existing := goodIn_ca (goodIn_r _ [8, 9, 10, 11, 12, 7, 13, 14, 15, 16, 17, 18, 19, 20, 21, 22, 23, 35, 36, 37, 38, 39, 40, 41, 42, 43, 44, 45] (by decide +kernel) (by decide +kernel)) (goodIn_sub (fun _ h => List.mem_cons_of_mem _ (List.mem_append_right _ h)) (by decide +kernel))
set_option maxRecDepth 20000 in
theorem gX2_alight_X2_existing : GoodIn wsX2_alight (wsV RX2 54 RX2 yX2_existing wsX2_existing) := goodIn_app (goodIn_of _ (by decide +kernel)) ggX2_alight_X2_existing
theorem dX2_alight_0 : decode cX2_alight 0 = .ok (.aload_n 0, 1) := by decide +kernel
theorem dX2_alight_1 : decode cX2_alight 1 = .ok (.iload_n 1, 1) := by decide +kernel
theorem dX2_alight_2 : decode cX2_alight 2 = .ok (.invokevirtual 54, 3) := by decide +kernel
theorem dX2_alight_5 : decode cX2_alight 5 = .ok (.astore_n 2, 1) := by decide +kernel
theorem dX2_alight_6 : decode cX2_alight 6 = .ok (.aload_n 2, 1) := by decide +kernel
theorem dX2_alight_7 : decode cX2_alight 7 = .ok (.getfield 118, 3) := by decide +kernel
theorem dX2_alight_10 : decode cX2_alight 10 = .ok (.ifCond .ne 13, 3) := by decide +kernel
theorem dX2_alight_13 : decode cX2_alight 13 = .ok (.new 27, 3) := by decide +kernel
theorem dX2_alight_16 : decode cX2_alight 16 = .ok (.dup, 1) := by decide +kernel
theorem dX2_alight_17 : decode cX2_alight 17 = .ok (.ldc 177, 2) := by decide +kernel
theorem dX2_alight_19 : decode cX2_alight 19 = .ok (.invokespecial 31, 3) := by decide +kernel
theorem dX2_alight_22 : decode cX2_alight 22 = .ok (.athrow, 1) := by decide +kernel
theorem dX2_alight_23 : decode cX2_alight 23 = .ok (.aload_n 2, 1) := by decide +kernel
theorem dX2_alight_24 : decode cX2_alight 24 = .ok (.areturn, 1) := by decide +kernel
set_option maxRecDepth 20000 in
theorem ggX2_requireReady_X2_existing : GoodIn wsX2_requireReady wsX2_existing := goodIn_ca (goodIn_r _ [7, 8, 9, 10, 11, 6, 12, 13, 14, 15, 16, 17, 18, 19, 20, 21, 22, 30, 31, 32, 33, 34, 35, 36, 37, 38, 39, 40] (by decide +kernel) (by decide +kernel)) (goodIn_sub (fun _ h => List.mem_cons_of_mem _ (List.mem_append_right _ h)) (by decide +kernel))
set_option maxRecDepth 20000 in
theorem gX2_requireReady_X2_existing : GoodIn wsX2_requireReady (wsV RX2 54 RX2 yX2_existing wsX2_existing) := goodIn_app (goodIn_of _ (by decide +kernel)) ggX2_requireReady_X2_existing
set_option maxRecDepth 20000 in
theorem ggX2_requireReady_X0_isReady : GoodIn wsX2_requireReady wsX0_isReady := goodIn_r _ [27, 28, 29, 41, 42, 43, 44, 45, 46, 47, 48, 49, 50, 51] (by decide +kernel) (by decide +kernel)
set_option maxRecDepth 20000 in
theorem gX2_requireReady_X0_isReady : GoodIn wsX2_requireReady (wsV RX2 151 RX0 yX0_isReady wsX0_isReady) := goodIn_app (goodIn_of _ (by decide +kernel)) ggX2_requireReady_X0_isReady
theorem dX2_requireReady_0 : decode cX2_requireReady 0 = .ok (.aload_n 0, 1) := by decide +kernel
theorem dX2_requireReady_1 : decode cX2_requireReady 1 = .ok (.iload_n 1, 1) := by decide +kernel
theorem dX2_requireReady_2 : decode cX2_requireReady 2 = .ok (.invokevirtual 54, 3) := by decide +kernel
theorem dX2_requireReady_5 : decode cX2_requireReady 5 = .ok (.invokevirtual 151, 3) := by decide +kernel
theorem dX2_requireReady_8 : decode cX2_requireReady 8 = .ok (.ifCond .ne 13, 3) := by decide +kernel
theorem dX2_requireReady_11 : decode cX2_requireReady 11 = .ok (.new 27, 3) := by decide +kernel
theorem dX2_requireReady_14 : decode cX2_requireReady 14 = .ok (.dup, 1) := by decide +kernel
theorem dX2_requireReady_15 : decode cX2_requireReady 15 = .ok (.ldc 179, 2) := by decide +kernel
theorem dX2_requireReady_17 : decode cX2_requireReady 17 = .ok (.invokespecial 31, 3) := by decide +kernel
theorem dX2_requireReady_20 : decode cX2_requireReady 20 = .ok (.athrow, 1) := by decide +kernel
theorem dX2_requireReady_21 : decode cX2_requireReady 21 = .ok (.return_, 1) := by decide +kernel
