set_option maxRecDepth 20000 in
theorem ggX2_init_X1_init : GoodIn wsX2_init wsX1_init := goodIn_r _ [11, 12, 2, 3, 13, 14, 15, 16, 17, 18, 19, 20, 21, 22, 23, 24, 25, 26, 27, 28, 29, 30, 31, 32, 33, 34, 37, 38, 39, 40, 41, 42, 43, 44, 45, 46, 47] (by decide +kernel) (by decide +kernel)
set_option maxRecDepth 20000 in
theorem gX2_init_X1_init : GoodIn wsX2_init (wsX1_init) := ggX2_init_X1_init
theorem dX2_init_0 : decode cX2_init 0 = .ok (.aload_n 0, 1) := by decide +kernel
theorem dX2_init_1 : decode cX2_init 1 = .ok (.invokespecial 1, 3) := by decide +kernel
theorem dX2_init_4 : decode cX2_init 4 = .ok (.aload_n 0, 1) := by decide +kernel
theorem dX2_init_5 : decode cX2_init 5 = .ok (.new 7, 3) := by decide +kernel
theorem dX2_init_8 : decode cX2_init 8 = .ok (.dup, 1) := by decide +kernel
theorem dX2_init_9 : decode cX2_init 9 = .ok (.invokespecial 9, 3) := by decide +kernel
theorem dX2_init_12 : decode cX2_init 12 = .ok (.putfield 10, 3) := by decide +kernel
theorem dX2_init_15 : decode cX2_init 15 = .ok (.aload_n 0, 1) := by decide +kernel
theorem dX2_init_16 : decode cX2_init 16 = .ok (.new 7, 3) := by decide +kernel
theorem dX2_init_19 : decode cX2_init 19 = .ok (.dup, 1) := by decide +kernel
theorem dX2_init_20 : decode cX2_init 20 = .ok (.invokespecial 9, 3) := by decide +kernel
theorem dX2_init_23 : decode cX2_init 23 = .ok (.putfield 16, 3) := by decide +kernel
theorem dX2_init_26 : decode cX2_init 26 = .ok (.return_, 1) := by decide +kernel
set_option maxRecDepth 20000 in
theorem ggX2_addHill_X2_requireBetween : GoodIn wsX2_addHill wsX2_requireBetween := goodIn_ca (goodIn_r _ [8, 9, 10] (by decide +kernel) (by decide +kernel)) (goodIn_sub (fun _ h => List.mem_cons_of_mem _ (List.mem_append_right _ h)) (by decide +kernel))
set_option maxRecDepth 20000 in
theorem gX2_addHill_X2_requireBetween : GoodIn wsX2_addHill (va_wsS RX2 19 yX2_requireBetween wsX2_requireBetween) := goodIn_app (goodIn_of _ (by decide +kernel)) ggX2_addHill_X2_requireBetween
set_option maxRecDepth 20000 in
theorem ggX2_addHill_X1_settle : GoodIn wsX2_addHill wsX1_settle := goodIn_r _ [15, 16, 17, 18, 19, 20, 21, 22, 14, 23, 24, 25, 28, 29, 30, 31, 32, 33, 34, 35, 36, 37, 38, 39, 40, 41, 42, 43, 44, 45, 46, 47] (by decide +kernel) (by decide +kernel)
set_option maxRecDepth 20000 in
theorem gX2_addHill_X1_settle : GoodIn wsX2_addHill (wsV RX2 34 RX1 yX1_settle wsX1_settle) := goodIn_app (goodIn_of _ (by decide +kernel)) ggX2_addHill_X1_settle
theorem dX2_addHill_0 : decode cX2_addHill 0 = .ok (.iload_n 1, 1) := by decide +kernel
theorem dX2_addHill_1 : decode cX2_addHill 1 = .ok (.iconst 0, 1) := by decide +kernel
theorem dX2_addHill_2 : decode cX2_addHill 2 = .ok (.bipush 30, 2) := by decide +kernel
theorem dX2_addHill_4 : decode cX2_addHill 4 = .ok (.invokestatic 19, 3) := by decide +kernel
theorem dX2_addHill_7 : decode cX2_addHill 7 = .ok (.iload_n 2, 1) := by decide +kernel
theorem dX2_addHill_8 : decode cX2_addHill 8 = .ok (.iconst 0, 1) := by decide +kernel
theorem dX2_addHill_9 : decode cX2_addHill 9 = .ok (.bipush 9, 2) := by decide +kernel
theorem dX2_addHill_11 : decode cX2_addHill 11 = .ok (.invokestatic 19, 3) := by decide +kernel
theorem dX2_addHill_14 : decode cX2_addHill 14 = .ok (.iload_n 3, 1) := by decide +kernel
theorem dX2_addHill_15 : decode cX2_addHill 15 = .ok (.iconst 1, 1) := by decide +kernel
theorem dX2_addHill_16 : decode cX2_addHill 16 = .ok (.iconst 5, 1) := by decide +kernel
theorem dX2_addHill_17 : decode cX2_addHill 17 = .ok (.invokestatic 19, 3) := by decide +kernel
theorem dX2_addHill_20 : decode cX2_addHill 20 = .ok (.aload_n 0, 1) := by decide +kernel
theorem dX2_addHill_21 : decode cX2_addHill 21 = .ok (.getfield 10, 3) := by decide +kernel
theorem dX2_addHill_24 : decode cX2_addHill 24 = .ok (.getfield 23, 3) := by decide +kernel
theorem dX2_addHill_27 : decode cX2_addHill 27 = .ok (.bipush 10, 2) := by decide +kernel
theorem dX2_addHill_29 : decode cX2_addHill 29 = .ok (.if_icmp .lt 13, 3) := by decide +kernel
theorem dX2_addHill_32 : decode cX2_addHill 32 = .ok (.new 27, 3) := by decide +kernel
theorem dX2_addHill_35 : decode cX2_addHill 35 = .ok (.dup, 1) := by decide +kernel
theorem dX2_addHill_36 : decode cX2_addHill 36 = .ok (.ldc 29, 2) := by decide +kernel
theorem dX2_addHill_38 : decode cX2_addHill 38 = .ok (.invokespecial 31, 3) := by decide +kernel
theorem dX2_addHill_41 : decode cX2_addHill 41 = .ok (.athrow, 1) := by decide +kernel
theorem dX2_addHill_42 : decode cX2_addHill 42 = .ok (.aload_n 0, 1) := by decide +kernel
theorem dX2_addHill_43 : decode cX2_addHill 43 = .ok (.getfield 10, 3) := by decide +kernel
theorem dX2_addHill_46 : decode cX2_addHill 46 = .ok (.iload_n 1, 1) := by decide +kernel
theorem dX2_addHill_47 : decode cX2_addHill 47 = .ok (.iload_n 2, 1) := by decide +kernel
theorem dX2_addHill_48 : decode cX2_addHill 48 = .ok (.iload_n 3, 1) := by decide +kernel
theorem dX2_addHill_49 : decode cX2_addHill 49 = .ok (.invokevirtual 34, 3) := by decide +kernel
theorem dX2_addHill_52 : decode cX2_addHill 52 = .ok (.ireturn, 1) := by decide +kernel
set_option maxRecDepth 20000 in
theorem ggX2_setSight_X2_requireHill : GoodIn wsX2_setSight wsX2_requireHill := goodIn_ca (goodIn_r _ [8, 9, 10, 3, 11, 25, 26, 27, 28, 29, 30, 31, 32, 33, 34, 35] (by decide +kernel) (by decide +kernel)) (goodIn_sub (fun _ h => List.mem_cons_of_mem _ (List.mem_append_right _ h)) (by decide +kernel))
set_option maxRecDepth 20000 in
theorem gX2_setSight_X2_requireHill : GoodIn wsX2_setSight (wsV RX2 38 RX2 yX2_requireHill wsX2_requireHill) := goodIn_app (goodIn_of _ (by decide +kernel)) ggX2_setSight_X2_requireHill
set_option maxRecDepth 20000 in
theorem ggX2_setSight_X2_requireBetween : GoodIn wsX2_setSight wsX2_requireBetween := goodIn_ca (goodIn_r _ [14, 1, 2] (by decide +kernel) (by decide +kernel)) (goodIn_sub (fun _ h => List.mem_cons_of_mem _ (List.mem_append_left _ (List.mem_append_right _ h))) (by decide +kernel))
set_option maxRecDepth 20000 in
theorem gX2_setSight_X2_requireBetween : GoodIn wsX2_setSight (va_wsS RX2 19 yX2_requireBetween wsX2_requireBetween) := goodIn_app (goodIn_of _ (by decide +kernel)) ggX2_setSight_X2_requireBetween
set_option maxRecDepth 20000 in
theorem ggX2_setSight_X1_milesFrom : GoodIn wsX2_setSight wsX1_milesFrom := goodIn_r _ [19, 20, 27, 28, 29, 30, 31, 32, 33, 34, 35] (by decide +kernel) (by decide +kernel)
set_option maxRecDepth 20000 in
theorem gX2_setSight_X1_milesFrom : GoodIn wsX2_setSight (wsV RX2 47 RX1 yX1_milesFrom wsX1_milesFrom) := goodIn_app (goodIn_of _ (by decide +kernel)) ggX2_setSight_X1_milesFrom
set_option maxRecDepth 20000 in
theorem ggX2_setSight_X1_putMiles : GoodIn wsX2_setSight wsX1_putMiles := goodIn_r _ [24, 20, 27, 28, 29, 30, 31, 32, 33, 34, 35] (by decide +kernel) (by decide +kernel)
set_option maxRecDepth 20000 in
theorem gX2_setSight_X1_putMiles : GoodIn wsX2_setSight (wsV RX2 51 RX1 yX1_putMiles wsX1_putMiles) := goodIn_app (goodIn_of _ (by decide +kernel)) ggX2_setSight_X1_putMiles
theorem dX2_setSight_0 : decode cX2_setSight 0 = .ok (.aload_n 0, 1) := by decide +kernel
theorem dX2_setSight_1 : decode cX2_setSight 1 = .ok (.iload_n 1, 1) := by decide +kernel
theorem dX2_setSight_2 : decode cX2_setSight 2 = .ok (.invokevirtual 38, 3) := by decide +kernel
theorem dX2_setSight_5 : decode cX2_setSight 5 = .ok (.aload_n 0, 1) := by decide +kernel
theorem dX2_setSight_6 : decode cX2_setSight 6 = .ok (.iload_n 2, 1) := by decide +kernel
theorem dX2_setSight_7 : decode cX2_setSight 7 = .ok (.invokevirtual 38, 3) := by decide +kernel
theorem dX2_setSight_10 : decode cX2_setSight 10 = .ok (.iload_n 1, 1) := by decide +kernel
theorem dX2_setSight_11 : decode cX2_setSight 11 = .ok (.iload_n 2, 1) := by decide +kernel
theorem dX2_setSight_12 : decode cX2_setSight 12 = .ok (.if_icmp .ne 13, 3) := by decide +kernel
theorem dX2_setSight_15 : decode cX2_setSight 15 = .ok (.new 42, 3) := by decide +kernel
theorem dX2_setSight_18 : decode cX2_setSight 18 = .ok (.dup, 1) := by decide +kernel
theorem dX2_setSight_19 : decode cX2_setSight 19 = .ok (.ldc 44, 2) := by decide +kernel
theorem dX2_setSight_21 : decode cX2_setSight 21 = .ok (.invokespecial 46, 3) := by decide +kernel
theorem dX2_setSight_24 : decode cX2_setSight 24 = .ok (.athrow, 1) := by decide +kernel
theorem dX2_setSight_25 : decode cX2_setSight 25 = .ok (.iload_n 3, 1) := by decide +kernel
theorem dX2_setSight_26 : decode cX2_setSight 26 = .ok (.iconst 0, 1) := by decide +kernel
theorem dX2_setSight_27 : decode cX2_setSight 27 = .ok (.bipush 20, 2) := by decide +kernel
theorem dX2_setSight_29 : decode cX2_setSight 29 = .ok (.invokestatic 19, 3) := by decide +kernel
theorem dX2_setSight_32 : decode cX2_setSight 32 = .ok (.aload_n 0, 1) := by decide +kernel
theorem dX2_setSight_33 : decode cX2_setSight 33 = .ok (.getfield 10, 3) := by decide +kernel
theorem dX2_setSight_36 : decode cX2_setSight 36 = .ok (.iload_n 1, 1) := by decide +kernel
theorem dX2_setSight_37 : decode cX2_setSight 37 = .ok (.iload_n 2, 1) := by decide +kernel
theorem dX2_setSight_38 : decode cX2_setSight 38 = .ok (.invokevirtual 47, 3) := by decide +kernel
theorem dX2_setSight_41 : decode cX2_setSight 41 = .ok (.istore 4, 2) := by decide +kernel
theorem dX2_setSight_43 : decode cX2_setSight 43 = .ok (.aload_n 0, 1) := by decide +kernel
theorem dX2_setSight_44 : decode cX2_setSight 44 = .ok (.getfield 10, 3) := by decide +kernel
theorem dX2_setSight_47 : decode cX2_setSight 47 = .ok (.iload_n 1, 1) := by decide +kernel
theorem dX2_setSight_48 : decode cX2_setSight 48 = .ok (.iload_n 2, 1) := by decide +kernel
theorem dX2_setSight_49 : decode cX2_setSight 49 = .ok (.iload_n 3, 1) := by decide +kernel
theorem dX2_setSight_50 : decode cX2_setSight 50 = .ok (.invokevirtual 51, 3) := by decide +kernel
theorem dX2_setSight_53 : decode cX2_setSight 53 = .ok (.aload_n 0, 1) := by decide +kernel
theorem dX2_setSight_54 : decode cX2_setSight 54 = .ok (.getfield 10, 3) := by decide +kernel
theorem dX2_setSight_57 : decode cX2_setSight 57 = .ok (.iload_n 2, 1) := by decide +kernel
theorem dX2_setSight_58 : decode cX2_setSight 58 = .ok (.iload_n 1, 1) := by decide +kernel
theorem dX2_setSight_59 : decode cX2_setSight 59 = .ok (.iload_n 3, 1) := by decide +kernel
theorem dX2_setSight_60 : decode cX2_setSight 60 = .ok (.invokevirtual 51, 3) := by decide +kernel
theorem dX2_setSight_63 : decode cX2_setSight 63 = .ok (.iload 4, 2) := by decide +kernel
theorem dX2_setSight_65 : decode cX2_setSight 65 = .ok (.ireturn, 1) := by decide +kernel
set_option maxRecDepth 20000 in
theorem ggX2_turnEast_X2_existing : GoodIn wsX2_turnEast wsX2_existing := goodIn_ca (goodIn_r _ [6, 7, 8, 9, 10, 5, 11, 12, 13, 14, 15, 16, 17, 18, 19, 20, 21, 33, 34, 35, 36, 37, 38, 39, 40, 41, 42, 43] (by decide +kernel) (by decide +kernel)) (goodIn_sub (fun _ h => List.mem_cons_of_mem _ (List.mem_append_right _ h)) (by decide +kernel))
set_option maxRecDepth 20000 in
theorem gX2_turnEast_X2_existing : GoodIn wsX2_turnEast (wsV RX2 54 RX2 yX2_existing wsX2_existing) := goodIn_app (goodIn_of _ (by decide +kernel)) ggX2_turnEast_X2_existing
theorem dX2_turnEast_0 : decode cX2_turnEast 0 = .ok (.aload_n 0, 1) := by decide +kernel
theorem dX2_turnEast_1 : decode cX2_turnEast 1 = .ok (.iload_n 1, 1) := by decide +kernel
theorem dX2_turnEast_2 : decode cX2_turnEast 2 = .ok (.invokevirtual 54, 3) := by decide +kernel
theorem dX2_turnEast_5 : decode cX2_turnEast 5 = .ok (.astore_n 2, 1) := by decide +kernel
theorem dX2_turnEast_6 : decode cX2_turnEast 6 = .ok (.aload_n 2, 1) := by decide +kernel
theorem dX2_turnEast_7 : decode cX2_turnEast 7 = .ok (.aload_n 2, 1) := by decide +kernel
theorem dX2_turnEast_8 : decode cX2_turnEast 8 = .ok (.getfield 58, 3) := by decide +kernel
theorem dX2_turnEast_11 : decode cX2_turnEast 11 = .ok (.ifCond .ne 7, 3) := by decide +kernel
theorem dX2_turnEast_14 : decode cX2_turnEast 14 = .ok (.iconst 1, 1) := by decide +kernel
theorem dX2_turnEast_15 : decode cX2_turnEast 15 = .ok (.goto 4, 3) := by decide +kernel
theorem dX2_turnEast_18 : decode cX2_turnEast 18 = .ok (.iconst 0, 1) := by decide +kernel
theorem dX2_turnEast_19 : decode cX2_turnEast 19 = .ok (.putfield 58, 3) := by decide +kernel
theorem dX2_turnEast_22 : decode cX2_turnEast 22 = .ok (.aload_n 2, 1) := by decide +kernel
theorem dX2_turnEast_23 : decode cX2_turnEast 23 = .ok (.getfield 58, 3) := by decide +kernel
theorem dX2_turnEast_26 : decode cX2_turnEast 26 = .ok (.ireturn, 1) := by decide +kernel
set_option maxRecDepth 20000 in
theorem ggX2_turnPost_X2_existing : GoodIn wsX2_turnPost wsX2_existing := goodIn_ca (goodIn_r _ [6, 7, 8, 9, 10, 5, 11, 12, 13, 14, 15, 16, 17, 18, 19, 20, 21, 33, 34, 35, 36, 37, 38, 39, 40, 41, 42, 43] (by decide +kernel) (by decide +kernel)) (goodIn_sub (fun _ h => List.mem_cons_of_mem _ (List.mem_append_right _ h)) (by decide +kernel))
set_option maxRecDepth 20000 in
theorem gX2_turnPost_X2_existing : GoodIn wsX2_turnPost (wsV RX2 54 RX2 yX2_existing wsX2_existing) := goodIn_app (goodIn_of _ (by decide +kernel)) ggX2_turnPost_X2_existing
theorem dX2_turnPost_0 : decode cX2_turnPost 0 = .ok (.aload_n 0, 1) := by decide +kernel
theorem dX2_turnPost_1 : decode cX2_turnPost 1 = .ok (.iload_n 1, 1) := by decide +kernel
theorem dX2_turnPost_2 : decode cX2_turnPost 2 = .ok (.invokevirtual 54, 3) := by decide +kernel
theorem dX2_turnPost_5 : decode cX2_turnPost 5 = .ok (.astore_n 2, 1) := by decide +kernel
theorem dX2_turnPost_6 : decode cX2_turnPost 6 = .ok (.aload_n 2, 1) := by decide +kernel
theorem dX2_turnPost_7 : decode cX2_turnPost 7 = .ok (.aload_n 2, 1) := by decide +kernel
theorem dX2_turnPost_8 : decode cX2_turnPost 8 = .ok (.getfield 64, 3) := by decide +kernel
theorem dX2_turnPost_11 : decode cX2_turnPost 11 = .ok (.ifCond .ne 7, 3) := by decide +kernel
theorem dX2_turnPost_14 : decode cX2_turnPost 14 = .ok (.iconst 1, 1) := by decide +kernel
theorem dX2_turnPost_15 : decode cX2_turnPost 15 = .ok (.goto 4, 3) := by decide +kernel
theorem dX2_turnPost_18 : decode cX2_turnPost 18 = .ok (.iconst 0, 1) := by decide +kernel
theorem dX2_turnPost_19 : decode cX2_turnPost 19 = .ok (.putfield 64, 3) := by decide +kernel
theorem dX2_turnPost_22 : decode cX2_turnPost 22 = .ok (.aload_n 2, 1) := by decide +kernel
theorem dX2_turnPost_23 : decode cX2_turnPost 23 = .ok (.getfield 64, 3) := by decide +kernel
theorem dX2_turnPost_26 : decode cX2_turnPost 26 = .ok (.ireturn, 1) := by decide +kernel
set_option maxRecDepth 20000 in
theorem ggX2_bringWood_X2_existing : GoodIn wsX2_bringWood wsX2_existing := goodIn_ca (goodIn_r _ [10, 11, 12, 13, 14, 9, 15, 16, 17, 18, 19, 20, 21, 22, 23, 24, 25, 42, 43, 44, 45, 46, 47, 48, 49, 50, 51, 52] (by decide +kernel) (by decide +kernel)) (goodIn_sub (fun _ h => List.mem_cons_of_mem _ (List.mem_append_left _ (List.mem_append_right _ h))) (by decide +kernel))
set_option maxRecDepth 20000 in
theorem gX2_bringWood_X2_existing : GoodIn wsX2_bringWood (wsV RX2 54 RX2 yX2_existing wsX2_existing) := goodIn_app (goodIn_of _ (by decide +kernel)) ggX2_bringWood_X2_existing
set_option maxRecDepth 20000 in
theorem ggX2_bringWood_X2_requireBetween : GoodIn wsX2_bringWood wsX2_requireBetween := goodIn_ca (goodIn_r _ [28, 29, 30] (by decide +kernel) (by decide +kernel)) (goodIn_sub (fun _ h => List.mem_cons_of_mem _ (List.mem_append_right _ h)) (by decide +kernel))
set_option maxRecDepth 20000 in
theorem gX2_bringWood_X2_requireBetween : GoodIn wsX2_bringWood (va_wsS RX2 19 yX2_requireBetween wsX2_requireBetween) := goodIn_app (goodIn_of _ (by decide +kernel)) ggX2_bringWood_X2_requireBetween
theorem dX2_bringWood_0 : decode cX2_bringWood 0 = .ok (.aload_n 0, 1) := by decide +kernel
theorem dX2_bringWood_1 : decode cX2_bringWood 1 = .ok (.iload_n 1, 1) := by decide +kernel
theorem dX2_bringWood_2 : decode cX2_bringWood 2 = .ok (.invokevirtual 54, 3) := by decide +kernel
theorem dX2_bringWood_5 : decode cX2_bringWood 5 = .ok (.astore_n 3, 1) := by decide +kernel
theorem dX2_bringWood_6 : decode cX2_bringWood 6 = .ok (.iload_n 2, 1) := by decide +kernel
theorem dX2_bringWood_7 : decode cX2_bringWood 7 = .ok (.iconst 1, 1) := by decide +kernel
theorem dX2_bringWood_8 : decode cX2_bringWood 8 = .ok (.bipush 30, 2) := by decide +kernel
theorem dX2_bringWood_10 : decode cX2_bringWood 10 = .ok (.invokestatic 19, 3) := by decide +kernel
theorem dX2_bringWood_13 : decode cX2_bringWood 13 = .ok (.aload_n 3, 1) := by decide +kernel
theorem dX2_bringWood_14 : decode cX2_bringWood 14 = .ok (.aload_n 3, 1) := by decide +kernel
theorem dX2_bringWood_15 : decode cX2_bringWood 15 = .ok (.getfield 67, 3) := by decide +kernel
theorem dX2_bringWood_18 : decode cX2_bringWood 18 = .ok (.iload_n 2, 1) := by decide +kernel
theorem dX2_bringWood_19 : decode cX2_bringWood 19 = .ok (.iadd, 1) := by decide +kernel
theorem dX2_bringWood_20 : decode cX2_bringWood 20 = .ok (.bipush 30, 2) := by decide +kernel
theorem dX2_bringWood_22 : decode cX2_bringWood 22 = .ok (.invokestatic 70, 3) := by decide +kernel
theorem dX2_bringWood_25 : decode cX2_bringWood 25 = .ok (.putfield 67, 3) := by decide +kernel
theorem dX2_bringWood_28 : decode cX2_bringWood 28 = .ok (.aload_n 3, 1) := by decide +kernel
theorem dX2_bringWood_29 : decode cX2_bringWood 29 = .ok (.getfield 67, 3) := by decide +kernel
theorem dX2_bringWood_32 : decode cX2_bringWood 32 = .ok (.ireturn, 1) := by decide +kernel
set_option maxRecDepth 20000 in
theorem ggX2_setDamp_X2_existing : GoodIn wsX2_setDamp wsX2_existing := goodIn_ca (goodIn_r _ [6, 7, 8, 9, 10, 5, 11, 12, 13, 14, 15, 16, 17, 18, 19, 20, 21, 38, 39, 40, 41, 42, 43, 44, 45, 46, 47, 48] (by decide +kernel) (by decide +kernel)) (goodIn_sub (fun _ h => List.mem_cons_of_mem _ (List.mem_append_left _ (List.mem_append_right _ h))) (by decide +kernel))
set_option maxRecDepth 20000 in
theorem gX2_setDamp_X2_existing : GoodIn wsX2_setDamp (wsV RX2 54 RX2 yX2_existing wsX2_existing) := goodIn_app (goodIn_of _ (by decide +kernel)) ggX2_setDamp_X2_existing
set_option maxRecDepth 20000 in
theorem ggX2_setDamp_X2_requireBetween : GoodIn wsX2_setDamp wsX2_requireBetween := goodIn_ca (goodIn_r _ [24, 25, 26] (by decide +kernel) (by decide +kernel)) (goodIn_sub (fun _ h => List.mem_cons_of_mem _ (List.mem_append_right _ h)) (by decide +kernel))
set_option maxRecDepth 20000 in
theorem gX2_setDamp_X2_requireBetween : GoodIn wsX2_setDamp (va_wsS RX2 19 yX2_requireBetween wsX2_requireBetween) := goodIn_app (goodIn_of _ (by decide +kernel)) ggX2_setDamp_X2_requireBetween
theorem dX2_setDamp_0 : decode cX2_setDamp 0 = .ok (.aload_n 0, 1) := by decide +kernel
theorem dX2_setDamp_1 : decode cX2_setDamp 1 = .ok (.iload_n 1, 1) := by decide +kernel
theorem dX2_setDamp_2 : decode cX2_setDamp 2 = .ok (.invokevirtual 54, 3) := by decide +kernel
theorem dX2_setDamp_5 : decode cX2_setDamp 5 = .ok (.astore_n 3, 1) := by decide +kernel
theorem dX2_setDamp_6 : decode cX2_setDamp 6 = .ok (.iload_n 2, 1) := by decide +kernel
theorem dX2_setDamp_7 : decode cX2_setDamp 7 = .ok (.iconst 0, 1) := by decide +kernel
theorem dX2_setDamp_8 : decode cX2_setDamp 8 = .ok (.bipush 9, 2) := by decide +kernel
theorem dX2_setDamp_10 : decode cX2_setDamp 10 = .ok (.invokestatic 19, 3) := by decide +kernel
theorem dX2_setDamp_13 : decode cX2_setDamp 13 = .ok (.aload_n 3, 1) := by decide +kernel
theorem dX2_setDamp_14 : decode cX2_setDamp 14 = .ok (.getfield 75, 3) := by decide +kernel
theorem dX2_setDamp_17 : decode cX2_setDamp 17 = .ok (.istore 4, 2) := by decide +kernel
theorem dX2_setDamp_19 : decode cX2_setDamp 19 = .ok (.aload_n 3, 1) := by decide +kernel
theorem dX2_setDamp_20 : decode cX2_setDamp 20 = .ok (.iload_n 2, 1) := by decide +kernel
theorem dX2_setDamp_21 : decode cX2_setDamp 21 = .ok (.putfield 75, 3) := by decide +kernel
theorem dX2_setDamp_24 : decode cX2_setDamp 24 = .ok (.iload 4, 2) := by decide +kernel
theorem dX2_setDamp_26 : decode cX2_setDamp 26 = .ok (.ireturn, 1) := by decide +kernel
set_option maxRecDepth 20000 in
theorem ggX2_setHaze_X2_requireBetween : GoodIn wsX2_setHaze wsX2_requireBetween := goodIn_ca (goodIn_r _ [6, 7, 8] (by decide +kernel) (by decide +kernel)) (goodIn_sub (fun _ h => List.mem_cons_of_mem _ (List.mem_append_right _ h)) (by decide +kernel))
set_option maxRecDepth 20000 in
theorem gX2_setHaze_X2_requireBetween : GoodIn wsX2_setHaze (va_wsS RX2 19 yX2_requireBetween wsX2_requireBetween) := goodIn_app (goodIn_of _ (by decide +kernel)) ggX2_setHaze_X2_requireBetween
theorem dX2_setHaze_0 : decode cX2_setHaze 0 = .ok (.iload_n 1, 1) := by decide +kernel
theorem dX2_setHaze_1 : decode cX2_setHaze 1 = .ok (.iconst 0, 1) := by decide +kernel
theorem dX2_setHaze_2 : decode cX2_setHaze 2 = .ok (.bipush 9, 2) := by decide +kernel
theorem dX2_setHaze_4 : decode cX2_setHaze 4 = .ok (.invokestatic 19, 3) := by decide +kernel
theorem dX2_setHaze_7 : decode cX2_setHaze 7 = .ok (.aload_n 0, 1) := by decide +kernel
theorem dX2_setHaze_8 : decode cX2_setHaze 8 = .ok (.getfield 10, 3) := by decide +kernel
theorem dX2_setHaze_11 : decode cX2_setHaze 11 = .ok (.getfield 78, 3) := by decide +kernel
theorem dX2_setHaze_14 : decode cX2_setHaze 14 = .ok (.istore_n 2, 1) := by decide +kernel
theorem dX2_setHaze_15 : decode cX2_setHaze 15 = .ok (.aload_n 0, 1) := by decide +kernel
theorem dX2_setHaze_16 : decode cX2_setHaze 16 = .ok (.getfield 10, 3) := by decide +kernel
theorem dX2_setHaze_19 : decode cX2_setHaze 19 = .ok (.iload_n 1, 1) := by decide +kernel
theorem dX2_setHaze_20 : decode cX2_setHaze 20 = .ok (.putfield 78, 3) := by decide +kernel
theorem dX2_setHaze_23 : decode cX2_setHaze 23 = .ok (.iload_n 2, 1) := by decide +kernel
theorem dX2_setHaze_24 : decode cX2_setHaze 24 = .ok (.ireturn, 1) := by decide +kernel
set_option maxRecDepth 20000 in
theorem ggX2_light_X2_requireReady : GoodIn wsX2_light wsX2_requireReady := goodIn_ca (goodIn_ca (goodIn_r _ [7, 8, 9, 10, 11, 12, 6, 13, 1, 14, 15, 16, 17, 18, 19, 20, 21, 22, 23, 24, 25, 26, 27, 28, 29, 30, 31, 32, 33, 34, 55, 56, 68, 69, 70, 71, 72, 73, 74, 75, 76, 57, 58, 59, 60, 61, 62, 63, 64, 65, 66, 67] (by decide +kernel) (by decide +kernel)) (goodIn_sub (fun _ h => List.mem_cons_of_mem _ (List.mem_append_left _ (List.mem_append_right _ h))) (by decide +kernel))) (goodIn_sub (fun _ h => List.mem_cons_of_mem _ (List.mem_append_right _ h)) (by decide +kernel))
set_option maxRecDepth 20000 in
theorem gX2_light_X2_requireReady : GoodIn wsX2_light (wsV RX2 81 RX2 yX2_requireReady wsX2_requireReady) := goodIn_app (goodIn_of _ (by decide +kernel)) ggX2_light_X2_requireReady
set_option maxRecDepth 20000 in
theorem ggX2_light_X1_kindleByHand : GoodIn wsX2_light wsX1_kindleByHand := goodIn_r _ [38, 39, 40, 41, 42, 24, 43, 44, 45, 46, 22, 23, 25, 26, 27, 47, 48, 49, 31, 50, 34, 51, 33, 52, 53, 54, 57, 58, 59, 60, 61, 62, 63, 64, 65, 66, 67, 68, 69, 70, 71, 72, 73, 74, 75, 76] (by decide +kernel) (by decide +kernel)
set_option maxRecDepth 20000 in
theorem gX2_light_X1_kindleByHand : GoodIn wsX2_light (wsV RX2 84 RX1 yX1_kindleByHand wsX1_kindleByHand) := goodIn_app (goodIn_of _ (by decide +kernel)) ggX2_light_X1_kindleByHand
set_option maxRecDepth 20000 in
theorem ggX2_light_X1_hillAt : GoodIn wsX2_light wsX1_hillAt := goodIn_r _ [25, 26, 27, 68, 69, 70, 71, 72, 73, 74, 75, 76] (by decide +kernel) (by decide +kernel)
set_option maxRecDepth 20000 in
theorem gX2_light_X1_hillAt : GoodIn wsX2_light (wsV RX2 87 RX1 yX1_hillAt wsX1_hillAt) := goodIn_app (goodIn_of _ (by decide +kernel)) ggX2_light_X1_hillAt
theorem dX2_light_0 : decode cX2_light 0 = .ok (.aload_n 0, 1) := by decide +kernel
theorem dX2_light_1 : decode cX2_light 1 = .ok (.iload_n 1, 1) := by decide +kernel
theorem dX2_light_2 : decode cX2_light 2 = .ok (.invokevirtual 81, 3) := by decide +kernel
theorem dX2_light_5 : decode cX2_light 5 = .ok (.aload_n 0, 1) := by decide +kernel
theorem dX2_light_6 : decode cX2_light 6 = .ok (.getfield 10, 3) := by decide +kernel
theorem dX2_light_9 : decode cX2_light 9 = .ok (.iload_n 1, 1) := by decide +kernel
theorem dX2_light_10 : decode cX2_light 10 = .ok (.invokevirtual 84, 3) := by decide +kernel
theorem dX2_light_13 : decode cX2_light 13 = .ok (.aload_n 0, 1) := by decide +kernel
theorem dX2_light_14 : decode cX2_light 14 = .ok (.getfield 10, 3) := by decide +kernel
theorem dX2_light_17 : decode cX2_light 17 = .ok (.iload_n 1, 1) := by decide +kernel
theorem dX2_light_18 : decode cX2_light 18 = .ok (.invokevirtual 87, 3) := by decide +kernel
theorem dX2_light_21 : decode cX2_light 21 = .ok (.getfield 90, 3) := by decide +kernel
theorem dX2_light_24 : decode cX2_light 24 = .ok (.ireturn, 1) := by decide +kernel
set_option maxRecDepth 20000 in
theorem ggX2_douse_X2_alight : GoodIn wsX2_douse wsX2_alight := goodIn_ca (goodIn_ca (goodIn_r _ [6, 7, 8, 9, 10, 11, 12, 5, 13, 14, 15, 16, 17, 18, 19, 20, 21, 22, 23, 24, 25, 26, 27, 28, 37, 38, 39, 40, 41, 42, 43, 44, 45, 46, 47, 48, 49, 50, 51, 52, 53, 54, 55, 56, 57, 58] (by decide +kernel) (by decide +kernel)) (goodIn_sub (fun _ h => List.mem_cons_of_mem _ (List.mem_append_left _ (List.mem_append_right _ h))) (by decide +kernel))) (goodIn_sub (fun _ h => List.mem_cons_of_mem _ (List.mem_append_right _ h)) (by decide +kernel))
set_option maxRecDepth 20000 in
theorem gX2_douse_X2_alight : GoodIn wsX2_douse (wsV RX2 93 RX2 yX2_alight wsX2_alight) := goodIn_app (goodIn_of _ (by decide +kernel)) ggX2_douse_X2_alight
set_option maxRecDepth 20000 in
theorem ggX2_douse_X0_goDark : GoodIn wsX2_douse wsX0_goDark := goodIn_r _ [33, 34, 35, 36, 37, 38, 39, 40, 41, 42, 43, 44, 45, 46, 47] (by decide +kernel) (by decide +kernel)
set_option maxRecDepth 20000 in
theorem gX2_douse_X0_goDark : GoodIn wsX2_douse (wsV RX2 96 RX0 yX0_goDark wsX0_goDark) := goodIn_app (goodIn_of _ (by decide +kernel)) ggX2_douse_X0_goDark
theorem dX2_douse_0 : decode cX2_douse 0 = .ok (.aload_n 0, 1) := by decide +kernel
theorem dX2_douse_1 : decode cX2_douse 1 = .ok (.iload_n 1, 1) := by decide +kernel
theorem dX2_douse_2 : decode cX2_douse 2 = .ok (.invokevirtual 93, 3) := by decide +kernel
theorem dX2_douse_5 : decode cX2_douse 5 = .ok (.astore_n 2, 1) := by decide +kernel
theorem dX2_douse_6 : decode cX2_douse 6 = .ok (.aload_n 2, 1) := by decide +kernel
theorem dX2_douse_7 : decode cX2_douse 7 = .ok (.invokevirtual 96, 3) := by decide +kernel
theorem dX2_douse_10 : decode cX2_douse 10 = .ok (.aload_n 2, 1) := by decide +kernel
theorem dX2_douse_11 : decode cX2_douse 11 = .ok (.getfield 67, 3) := by decide +kernel
theorem dX2_douse_14 : decode cX2_douse 14 = .ok (.ireturn, 1) := by decide +kernel
set_option maxRecDepth 20000 in
theorem ggX2_glow_X2_requireBetween : GoodIn wsX2_glow wsX2_requireBetween := goodIn_ca (goodIn_r _ [6, 7, 8] (by decide +kernel) (by decide +kernel)) (goodIn_sub (fun _ h => List.mem_cons_of_mem _ (List.mem_append_right _ h)) (by decide +kernel))
set_option maxRecDepth 20000 in
theorem gX2_glow_X2_requireBetween : GoodIn wsX2_glow (va_wsS RX2 19 yX2_requireBetween wsX2_requireBetween) := goodIn_app (goodIn_of _ (by decide +kernel)) ggX2_glow_X2_requireBetween
theorem dX2_glow_0 : decode cX2_glow 0 = .ok (.iload_n 1, 1) := by decide +kernel
theorem dX2_glow_1 : decode cX2_glow 1 = .ok (.iconst 0, 1) := by decide +kernel
theorem dX2_glow_2 : decode cX2_glow 2 = .ok (.bipush 30, 2) := by decide +kernel
theorem dX2_glow_4 : decode cX2_glow 4 = .ok (.invokestatic 19, 3) := by decide +kernel
theorem dX2_glow_7 : decode cX2_glow 7 = .ok (.aload_n 0, 1) := by decide +kernel
theorem dX2_glow_8 : decode cX2_glow 8 = .ok (.getfield 10, 3) := by decide +kernel
theorem dX2_glow_11 : decode cX2_glow 11 = .ok (.getfield 99, 3) := by decide +kernel
theorem dX2_glow_14 : decode cX2_glow 14 = .ok (.istore_n 2, 1) := by decide +kernel
theorem dX2_glow_15 : decode cX2_glow 15 = .ok (.aload_n 0, 1) := by decide +kernel
theorem dX2_glow_16 : decode cX2_glow 16 = .ok (.getfield 10, 3) := by decide +kernel
theorem dX2_glow_19 : decode cX2_glow 19 = .ok (.iload_n 1, 1) := by decide +kernel
theorem dX2_glow_20 : decode cX2_glow 20 = .ok (.putfield 99, 3) := by decide +kernel
theorem dX2_glow_23 : decode cX2_glow 23 = .ok (.iload_n 2, 1) := by decide +kernel
theorem dX2_glow_24 : decode cX2_glow 24 = .ok (.ireturn, 1) := by decide +kernel
set_option maxRecDepth 20000 in
theorem ggX2_passMinutes_X2_requireBetween : GoodIn wsX2_passMinutes wsX2_requireBetween := goodIn_ca (goodIn_r _ [6, 7, 8] (by decide +kernel) (by decide +kernel)) (goodIn_sub (fun _ h => List.mem_cons_of_mem _ (List.mem_append_right _ h)) (by decide +kernel))
set_option maxRecDepth 20000 in
theorem gX2_passMinutes_X2_requireBetween : GoodIn wsX2_passMinutes (va_wsS RX2 19 yX2_requireBetween wsX2_requireBetween) := goodIn_app (goodIn_of _ (by decide +kernel)) ggX2_passMinutes_X2_requireBetween
set_option maxRecDepth 20000 in
theorem ggX2_passMinutes_X1_passMany : GoodIn wsX2_passMinutes wsX1_passMany := goodIn_r _ [13, 14, 15, 16, 12, 17, 18, 19, 20, 21, 22, 23, 24, 25, 26, 27, 28, 29, 30, 31, 32, 33, 34, 35, 36, 37, 38, 39, 40, 41, 42, 43, 44, 45, 46, 47, 48, 49, 50, 51, 52, 53, 54, 55, 56, 57, 58, 59, 60, 61, 62, 63, 64, 65, 66, 67, 68, 69, 70, 71, 72, 73, 74, 75, 76, 77, 78, 79, 80, 81, 82, 83, 84, 85, 86, 87, 88, 89, 90, 91, 92, 93, 94, 95, 96, 97, 98, 99, 100, 101, 102, 103, 104, 105, 106, 107, 108, 109, 110, 113, 114, 115, 116, 117, 118, 119, 120, 121, 122, 123, 124, 125, 126, 127, 128, 129, 130, 131, 132] (by decide +kernel) (by decide +kernel)
set_option maxRecDepth 20000 in
theorem gX2_passMinutes_X1_passMany : GoodIn wsX2_passMinutes (wsV RX2 105 RX1 yX1_passMany wsX1_passMany) := goodIn_app (goodIn_of _ (by decide +kernel)) ggX2_passMinutes_X1_passMany
theorem dX2_passMinutes_0 : decode cX2_passMinutes 0 = .ok (.iload_n 1, 1) := by decide +kernel
theorem dX2_passMinutes_1 : decode cX2_passMinutes 1 = .ok (.iconst 1, 1) := by decide +kernel
theorem dX2_passMinutes_2 : decode cX2_passMinutes 2 = .ok (.bipush 100, 2) := by decide +kernel
theorem dX2_passMinutes_4 : decode cX2_passMinutes 4 = .ok (.invokestatic 19, 3) := by decide +kernel
theorem dX2_passMinutes_7 : decode cX2_passMinutes 7 = .ok (.aload_n 0, 1) := by decide +kernel
theorem dX2_passMinutes_8 : decode cX2_passMinutes 8 = .ok (.getfield 10, 3) := by decide +kernel
theorem dX2_passMinutes_11 : decode cX2_passMinutes 11 = .ok (.getfield 102, 3) := by decide +kernel
theorem dX2_passMinutes_14 : decode cX2_passMinutes 14 = .ok (.istore_n 2, 1) := by decide +kernel
theorem dX2_passMinutes_15 : decode cX2_passMinutes 15 = .ok (.aload_n 0, 1) := by decide +kernel
theorem dX2_passMinutes_16 : decode cX2_passMinutes 16 = .ok (.getfield 10, 3) := by decide +kernel
theorem dX2_passMinutes_19 : decode cX2_passMinutes 19 = .ok (.iload_n 1, 1) := by decide +kernel
theorem dX2_passMinutes_20 : decode cX2_passMinutes 20 = .ok (.invokevirtual 105, 3) := by decide +kernel
theorem dX2_passMinutes_23 : decode cX2_passMinutes 23 = .ok (.aload_n 0, 1) := by decide +kernel
theorem dX2_passMinutes_24 : decode cX2_passMinutes 24 = .ok (.getfield 10, 3) := by decide +kernel
theorem dX2_passMinutes_27 : decode cX2_passMinutes 27 = .ok (.getfield 102, 3) := by decide +kernel
theorem dX2_passMinutes_30 : decode cX2_passMinutes 30 = .ok (.iload_n 2, 1) := by decide +kernel
theorem dX2_passMinutes_31 : decode cX2_passMinutes 31 = .ok (.isub, 1) := by decide +kernel
theorem dX2_passMinutes_32 : decode cX2_passMinutes 32 = .ok (.ireturn, 1) := by decide +kernel
set_option maxRecDepth 20000 in
theorem ggX2_woodOf_X2_existing : GoodIn wsX2_woodOf wsX2_existing := goodIn_ca (goodIn_r _ [6, 7, 8, 9, 10, 5, 11, 12, 13, 14, 15, 16, 17, 18, 19, 20, 21, 33, 34, 35, 36, 37, 38, 39, 40, 41, 42, 43] (by decide +kernel) (by decide +kernel)) (goodIn_sub (fun _ h => List.mem_cons_of_mem _ (List.mem_append_right _ h)) (by decide +kernel))
set_option maxRecDepth 20000 in
theorem gX2_woodOf_X2_existing : GoodIn wsX2_woodOf (wsV RX2 54 RX2 yX2_existing wsX2_existing) := goodIn_app (goodIn_of _ (by decide +kernel)) ggX2_woodOf_X2_existing
theorem dX2_woodOf_0 : decode cX2_woodOf 0 = .ok (.aload_n 0, 1) := by decide +kernel
theorem dX2_woodOf_1 : decode cX2_woodOf 1 = .ok (.iload_n 1, 1) := by decide +kernel
theorem dX2_woodOf_2 : decode cX2_woodOf 2 = .ok (.invokevirtual 54, 3) := by decide +kernel
theorem dX2_woodOf_5 : decode cX2_woodOf 5 = .ok (.getfield 67, 3) := by decide +kernel
theorem dX2_woodOf_8 : decode cX2_woodOf 8 = .ok (.ireturn, 1) := by decide +kernel
set_option maxRecDepth 20000 in
theorem ggX2_dampOf_X2_existing : GoodIn wsX2_dampOf wsX2_existing := goodIn_ca (goodIn_r _ [6, 7, 8, 9, 10, 5, 11, 12, 13, 14, 15, 16, 17, 18, 19, 20, 21, 33, 34, 35, 36, 37, 38, 39, 40, 41, 42, 43] (by decide +kernel) (by decide +kernel)) (goodIn_sub (fun _ h => List.mem_cons_of_mem _ (List.mem_append_right _ h)) (by decide +kernel))
set_option maxRecDepth 20000 in
theorem gX2_dampOf_X2_existing : GoodIn wsX2_dampOf (wsV RX2 54 RX2 yX2_existing wsX2_existing) := goodIn_app (goodIn_of _ (by decide +kernel)) ggX2_dampOf_X2_existing
theorem dX2_dampOf_0 : decode cX2_dampOf 0 = .ok (.aload_n 0, 1) := by decide +kernel
theorem dX2_dampOf_1 : decode cX2_dampOf 1 = .ok (.iload_n 1, 1) := by decide +kernel
theorem dX2_dampOf_2 : decode cX2_dampOf 2 = .ok (.invokevirtual 54, 3) := by decide +kernel
theorem dX2_dampOf_5 : decode cX2_dampOf 5 = .ok (.getfield 75, 3) := by decide +kernel
theorem dX2_dampOf_8 : decode cX2_dampOf 8 = .ok (.ireturn, 1) := by decide +kernel
set_option maxRecDepth 20000 in
theorem ggX2_watchOf_X2_existing : GoodIn wsX2_watchOf wsX2_existing := goodIn_ca (goodIn_r _ [6, 7, 8, 9, 10, 5, 11, 12, 13, 14, 15, 16, 17, 18, 19, 20, 21, 33, 34, 35, 36, 37, 38, 39, 40, 41, 42, 43] (by decide +kernel) (by decide +kernel)) (goodIn_sub (fun _ h => List.mem_cons_of_mem _ (List.mem_append_right _ h)) (by decide +kernel))
set_option maxRecDepth 20000 in
theorem gX2_watchOf_X2_existing : GoodIn wsX2_watchOf (wsV RX2 54 RX2 yX2_existing wsX2_existing) := goodIn_app (goodIn_of _ (by decide +kernel)) ggX2_watchOf_X2_existing
theorem dX2_watchOf_0 : decode cX2_watchOf 0 = .ok (.aload_n 0, 1) := by decide +kernel
theorem dX2_watchOf_1 : decode cX2_watchOf 1 = .ok (.iload_n 1, 1) := by decide +kernel
theorem dX2_watchOf_2 : decode cX2_watchOf 2 = .ok (.invokevirtual 54, 3) := by decide +kernel
theorem dX2_watchOf_5 : decode cX2_watchOf 5 = .ok (.getfield 108, 3) := by decide +kernel
theorem dX2_watchOf_8 : decode cX2_watchOf 8 = .ok (.ireturn, 1) := by decide +kernel
set_option maxRecDepth 20000 in
theorem ggX2_looksEast_X2_existing : GoodIn wsX2_looksEast wsX2_existing := goodIn_ca (goodIn_r _ [6, 7, 8, 9, 10, 5, 11, 12, 13, 14, 15, 16, 17, 18, 19, 20, 21, 33, 34, 35, 36, 37, 38, 39, 40, 41, 42, 43] (by decide +kernel) (by decide +kernel)) (goodIn_sub (fun _ h => List.mem_cons_of_mem _ (List.mem_append_right _ h)) (by decide +kernel))
set_option maxRecDepth 20000 in
theorem gX2_looksEast_X2_existing : GoodIn wsX2_looksEast (wsV RX2 54 RX2 yX2_existing wsX2_existing) := goodIn_app (goodIn_of _ (by decide +kernel)) ggX2_looksEast_X2_existing
theorem dX2_looksEast_0 : decode cX2_looksEast 0 = .ok (.aload_n 0, 1) := by decide +kernel
theorem dX2_looksEast_1 : decode cX2_looksEast 1 = .ok (.iload_n 1, 1) := by decide +kernel
theorem dX2_looksEast_2 : decode cX2_looksEast 2 = .ok (.invokevirtual 54, 3) := by decide +kernel
theorem dX2_looksEast_5 : decode cX2_looksEast 5 = .ok (.getfield 58, 3) := by decide +kernel
theorem dX2_looksEast_8 : decode cX2_looksEast 8 = .ok (.ireturn, 1) := by decide +kernel
set_option maxRecDepth 20000 in
theorem ggX2_isPost_X2_existing : GoodIn wsX2_isPost wsX2_existing := goodIn_ca (goodIn_r _ [6, 7, 8, 9, 10, 5, 11, 12, 13, 14, 15, 16, 17, 18, 19, 20, 21, 33, 34, 35, 36, 37, 38, 39, 40, 41, 42, 43] (by decide +kernel) (by decide +kernel)) (goodIn_sub (fun _ h => List.mem_cons_of_mem _ (List.mem_append_right _ h)) (by decide +kernel))
set_option maxRecDepth 20000 in
theorem gX2_isPost_X2_existing : GoodIn wsX2_isPost (wsV RX2 54 RX2 yX2_existing wsX2_existing) := goodIn_app (goodIn_of _ (by decide +kernel)) ggX2_isPost_X2_existing
theorem dX2_isPost_0 : decode cX2_isPost 0 = .ok (.aload_n 0, 1) := by decide +kernel
theorem dX2_isPost_1 : decode cX2_isPost 1 = .ok (.iload_n 1, 1) := by decide +kernel
theorem dX2_isPost_2 : decode cX2_isPost 2 = .ok (.invokevirtual 54, 3) := by decide +kernel
theorem dX2_isPost_5 : decode cX2_isPost 5 = .ok (.getfield 64, 3) := by decide +kernel
theorem dX2_isPost_8 : decode cX2_isPost 8 = .ok (.ireturn, 1) := by decide +kernel
set_option maxRecDepth 20000 in
theorem ggX2_milesBetween_X2_requireHill : GoodIn wsX2_milesBetween wsX2_requireHill := goodIn_ca (goodIn_r _ [6, 7, 8, 1, 9, 16, 17, 18, 19, 20, 21, 22, 23, 24, 25, 26] (by decide +kernel) (by decide +kernel)) (goodIn_sub (fun _ h => List.mem_cons_of_mem _ (List.mem_append_right _ h)) (by decide +kernel))
set_option maxRecDepth 20000 in
theorem gX2_milesBetween_X2_requireHill : GoodIn wsX2_milesBetween (wsV RX2 38 RX2 yX2_requireHill wsX2_requireHill) := goodIn_app (goodIn_of _ (by decide +kernel)) ggX2_milesBetween_X2_requireHill
set_option maxRecDepth 20000 in
theorem ggX2_milesBetween_X1_milesFrom : GoodIn wsX2_milesBetween wsX1_milesFrom := goodIn_r _ [14, 15, 18, 19, 20, 21, 22, 23, 24, 25, 26] (by decide +kernel) (by decide +kernel)
set_option maxRecDepth 20000 in
theorem gX2_milesBetween_X1_milesFrom : GoodIn wsX2_milesBetween (wsV RX2 47 RX1 yX1_milesFrom wsX1_milesFrom) := goodIn_app (goodIn_of _ (by decide +kernel)) ggX2_milesBetween_X1_milesFrom
theorem dX2_milesBetween_0 : decode cX2_milesBetween 0 = .ok (.aload_n 0, 1) := by decide +kernel
theorem dX2_milesBetween_1 : decode cX2_milesBetween 1 = .ok (.iload_n 1, 1) := by decide +kernel
theorem dX2_milesBetween_2 : decode cX2_milesBetween 2 = .ok (.invokevirtual 38, 3) := by decide +kernel
theorem dX2_milesBetween_5 : decode cX2_milesBetween 5 = .ok (.aload_n 0, 1) := by decide +kernel
theorem dX2_milesBetween_6 : decode cX2_milesBetween 6 = .ok (.iload_n 2, 1) := by decide +kernel
theorem dX2_milesBetween_7 : decode cX2_milesBetween 7 = .ok (.invokevirtual 38, 3) := by decide +kernel
theorem dX2_milesBetween_10 : decode cX2_milesBetween 10 = .ok (.aload_n 0, 1) := by decide +kernel
theorem dX2_milesBetween_11 : decode cX2_milesBetween 11 = .ok (.getfield 10, 3) := by decide +kernel
theorem dX2_milesBetween_14 : decode cX2_milesBetween 14 = .ok (.iload_n 1, 1) := by decide +kernel
theorem dX2_milesBetween_15 : decode cX2_milesBetween 15 = .ok (.iload_n 2, 1) := by decide +kernel
theorem dX2_milesBetween_16 : decode cX2_milesBetween 16 = .ok (.invokevirtual 47, 3) := by decide +kernel
theorem dX2_milesBetween_19 : decode cX2_milesBetween 19 = .ok (.ireturn, 1) := by decide +kernel
set_option maxRecDepth 20000 in
theorem ggX2_canSee_X2_requireHill : GoodIn wsX2_canSee wsX2_requireHill := goodIn_ca (goodIn_r _ [6, 7, 8, 1, 9, 25, 26, 27, 28, 29, 30, 31, 32, 33, 34, 35] (by decide +kernel) (by decide +kernel)) (goodIn_sub (fun _ h => List.mem_cons_of_mem _ (List.mem_append_right _ h)) (by decide +kernel))
set_option maxRecDepth 20000 in
theorem gX2_canSee_X2_requireHill : GoodIn wsX2_canSee (wsV RX2 38 RX2 yX2_requireHill wsX2_requireHill) := goodIn_app (goodIn_of _ (by decide +kernel)) ggX2_canSee_X2_requireHill
set_option maxRecDepth 20000 in
theorem ggX2_canSee_X1_sees : GoodIn wsX2_canSee wsX1_sees := goodIn_r _ [14, 15, 16, 17, 13, 18, 19, 20, 21, 22, 23, 24, 27, 28, 29, 30, 31, 32, 33, 34, 35] (by decide +kernel) (by decide +kernel)
set_option maxRecDepth 20000 in
theorem gX2_canSee_X1_sees : GoodIn wsX2_canSee (wsV RX2 111 RX1 yX1_sees wsX1_sees) := goodIn_app (goodIn_of _ (by decide +kernel)) ggX2_canSee_X1_sees
theorem dX2_canSee_0 : decode cX2_canSee 0 = .ok (.aload_n 0, 1) := by decide +kernel
theorem dX2_canSee_1 : decode cX2_canSee 1 = .ok (.iload_n 1, 1) := by decide +kernel
theorem dX2_canSee_2 : decode cX2_canSee 2 = .ok (.invokevirtual 38, 3) := by decide +kernel
theorem dX2_canSee_5 : decode cX2_canSee 5 = .ok (.aload_n 0, 1) := by decide +kernel
theorem dX2_canSee_6 : decode cX2_canSee 6 = .ok (.iload_n 2, 1) := by decide +kernel
theorem dX2_canSee_7 : decode cX2_canSee 7 = .ok (.invokevirtual 38, 3) := by decide +kernel
theorem dX2_canSee_10 : decode cX2_canSee 10 = .ok (.aload_n 0, 1) := by decide +kernel
theorem dX2_canSee_11 : decode cX2_canSee 11 = .ok (.getfield 10, 3) := by decide +kernel
theorem dX2_canSee_14 : decode cX2_canSee 14 = .ok (.iload_n 1, 1) := by decide +kernel
theorem dX2_canSee_15 : decode cX2_canSee 15 = .ok (.iload_n 2, 1) := by decide +kernel
theorem dX2_canSee_16 : decode cX2_canSee 16 = .ok (.invokevirtual 111, 3) := by decide +kernel
theorem dX2_canSee_19 : decode cX2_canSee 19 = .ok (.ireturn, 1) := by decide +kernel
set_option maxRecDepth 20000 in
theorem ggX2_fewestSteps_X2_requireHill : GoodIn wsX2_fewestSteps wsX2_requireHill := goodIn_ca (goodIn_r _ [6, 7, 8, 1, 9, 41, 42, 43, 44, 45, 46, 47, 48, 49, 50, 51] (by decide +kernel) (by decide +kernel)) (goodIn_sub (fun _ h => List.mem_cons_of_mem _ (List.mem_append_right _ h)) (by decide +kernel))
set_option maxRecDepth 20000 in
theorem gX2_fewestSteps_X2_requireHill : GoodIn wsX2_fewestSteps (wsV RX2 38 RX2 yX2_requireHill wsX2_requireHill) := goodIn_app (goodIn_of _ (by decide +kernel)) ggX2_fewestSteps_X2_requireHill
set_option maxRecDepth 20000 in
theorem ggX2_fewestSteps_X1_stepsFrom : GoodIn wsX2_fewestSteps wsX1_stepsFrom := goodIn_r _ [14, 15, 16, 13, 17, 18, 19, 20, 21, 22, 23, 24, 25, 26, 27, 28, 29, 30, 31, 32, 33, 34, 35, 36, 37, 38, 39, 40, 43, 44, 45, 46, 47, 48, 49, 50, 51] (by decide +kernel) (by decide +kernel)
set_option maxRecDepth 20000 in
theorem gX2_fewestSteps_X1_stepsFrom : GoodIn wsX2_fewestSteps (wsV RX2 115 RX1 yX1_stepsFrom wsX1_stepsFrom) := goodIn_app (goodIn_of _ (by decide +kernel)) ggX2_fewestSteps_X1_stepsFrom
theorem dX2_fewestSteps_0 : decode cX2_fewestSteps 0 = .ok (.aload_n 0, 1) := by decide +kernel
theorem dX2_fewestSteps_1 : decode cX2_fewestSteps 1 = .ok (.iload_n 1, 1) := by decide +kernel
theorem dX2_fewestSteps_2 : decode cX2_fewestSteps 2 = .ok (.invokevirtual 38, 3) := by decide +kernel
theorem dX2_fewestSteps_5 : decode cX2_fewestSteps 5 = .ok (.aload_n 0, 1) := by decide +kernel
theorem dX2_fewestSteps_6 : decode cX2_fewestSteps 6 = .ok (.iload_n 2, 1) := by decide +kernel
theorem dX2_fewestSteps_7 : decode cX2_fewestSteps 7 = .ok (.invokevirtual 38, 3) := by decide +kernel
theorem dX2_fewestSteps_10 : decode cX2_fewestSteps 10 = .ok (.aload_n 0, 1) := by decide +kernel
theorem dX2_fewestSteps_11 : decode cX2_fewestSteps 11 = .ok (.getfield 10, 3) := by decide +kernel
theorem dX2_fewestSteps_14 : decode cX2_fewestSteps 14 = .ok (.iload_n 1, 1) := by decide +kernel
theorem dX2_fewestSteps_15 : decode cX2_fewestSteps 15 = .ok (.iload_n 2, 1) := by decide +kernel
theorem dX2_fewestSteps_16 : decode cX2_fewestSteps 16 = .ok (.invokevirtual 115, 3) := by decide +kernel
theorem dX2_fewestSteps_19 : decode cX2_fewestSteps 19 = .ok (.ireturn, 1) := by decide +kernel
set_option maxRecDepth 20000 in
theorem ggX2_isDark_X2_existing : GoodIn wsX2_isDark wsX2_existing := goodIn_ca (goodIn_r _ [6, 7, 8, 9, 10, 5, 11, 12, 13, 14, 15, 16, 17, 18, 19, 20, 21, 33, 34, 35, 36, 37, 38, 39, 40, 41, 42, 43] (by decide +kernel) (by decide +kernel)) (goodIn_sub (fun _ h => List.mem_cons_of_mem _ (List.mem_append_right _ h)) (by decide +kernel))
set_option maxRecDepth 20000 in
theorem gX2_isDark_X2_existing : GoodIn wsX2_isDark (wsV RX2 54 RX2 yX2_existing wsX2_existing) := goodIn_app (goodIn_of _ (by decide +kernel)) ggX2_isDark_X2_existing
theorem dX2_isDark_0 : decode cX2_isDark 0 = .ok (.aload_n 0, 1) := by decide +kernel
theorem dX2_isDark_1 : decode cX2_isDark 1 = .ok (.iload_n 1, 1) := by decide +kernel
theorem dX2_isDark_2 : decode cX2_isDark 2 = .ok (.invokevirtual 54, 3) := by decide +kernel
theorem dX2_isDark_5 : decode cX2_isDark 5 = .ok (.getfield 118, 3) := by decide +kernel
theorem dX2_isDark_8 : decode cX2_isDark 8 = .ok (.ifCond .ne 7, 3) := by decide +kernel
theorem dX2_isDark_11 : decode cX2_isDark 11 = .ok (.iconst 1, 1) := by decide +kernel
theorem dX2_isDark_12 : decode cX2_isDark 12 = .ok (.goto 4, 3) := by decide +kernel
theorem dX2_isDark_15 : decode cX2_isDark 15 = .ok (.iconst 0, 1) := by decide +kernel
theorem dX2_isDark_16 : decode cX2_isDark 16 = .ok (.ireturn, 1) := by decide +kernel
set_option maxRecDepth 20000 in
theorem ggX2_isBurning_X2_existing : GoodIn wsX2_isBurning wsX2_existing := goodIn_ca (goodIn_r _ [6, 7, 8, 9, 10, 5, 11, 12, 13, 14, 15, 16, 17, 18, 19, 20, 21, 33, 34, 35, 36, 37, 38, 39, 40, 41, 42, 43] (by decide +kernel) (by decide +kernel)) (goodIn_sub (fun _ h => List.mem_cons_of_mem _ (List.mem_append_right _ h)) (by decide +kernel))
set_option maxRecDepth 20000 in
theorem gX2_isBurning_X2_existing : GoodIn wsX2_isBurning (wsV RX2 54 RX2 yX2_existing wsX2_existing) := goodIn_app (goodIn_of _ (by decide +kernel)) ggX2_isBurning_X2_existing
theorem dX2_isBurning_0 : decode cX2_isBurning 0 = .ok (.aload_n 0, 1) := by decide +kernel
theorem dX2_isBurning_1 : decode cX2_isBurning 1 = .ok (.iload_n 1, 1) := by decide +kernel
theorem dX2_isBurning_2 : decode cX2_isBurning 2 = .ok (.invokevirtual 54, 3) := by decide +kernel
theorem dX2_isBurning_5 : decode cX2_isBurning 5 = .ok (.getfield 118, 3) := by decide +kernel
theorem dX2_isBurning_8 : decode cX2_isBurning 8 = .ok (.iconst 2, 1) := by decide +kernel
theorem dX2_isBurning_9 : decode cX2_isBurning 9 = .ok (.if_icmp .ne 7, 3) := by decide +kernel
theorem dX2_isBurning_12 : decode cX2_isBurning 12 = .ok (.iconst 1, 1) := by decide +kernel
theorem dX2_isBurning_13 : decode cX2_isBurning 13 = .ok (.goto 4, 3) := by decide +kernel
theorem dX2_isBurning_16 : decode cX2_isBurning 16 = .ok (.iconst 0, 1) := by decide +kernel
theorem dX2_isBurning_17 : decode cX2_isBurning 17 = .ok (.ireturn, 1) := by decide +kernel
set_option maxRecDepth 20000 in
theorem ggX2_minutesToBurn_X2_existing : GoodIn wsX2_minutesToBurn wsX2_existing := goodIn_ca (goodIn_r _ [6, 7, 8, 9, 10, 5, 11, 12, 13, 14, 15, 16, 17, 18, 19, 20, 21, 33, 34, 35, 36, 37, 38, 39, 40, 41, 42, 43] (by decide +kernel) (by decide +kernel)) (goodIn_sub (fun _ h => List.mem_cons_of_mem _ (List.mem_append_right _ h)) (by decide +kernel))
set_option maxRecDepth 20000 in
theorem gX2_minutesToBurn_X2_existing : GoodIn wsX2_minutesToBurn (wsV RX2 54 RX2 yX2_existing wsX2_existing) := goodIn_app (goodIn_of _ (by decide +kernel)) ggX2_minutesToBurn_X2_existing
theorem dX2_minutesToBurn_0 : decode cX2_minutesToBurn 0 = .ok (.aload_n 0, 1) := by decide +kernel
theorem dX2_minutesToBurn_1 : decode cX2_minutesToBurn 1 = .ok (.iload_n 1, 1) := by decide +kernel
theorem dX2_minutesToBurn_2 : decode cX2_minutesToBurn 2 = .ok (.invokevirtual 54, 3) := by decide +kernel
theorem dX2_minutesToBurn_5 : decode cX2_minutesToBurn 5 = .ok (.getfield 90, 3) := by decide +kernel
theorem dX2_minutesToBurn_8 : decode cX2_minutesToBurn 8 = .ok (.ireturn, 1) := by decide +kernel
set_option maxRecDepth 20000 in
theorem ggX2_lookingFor_X2_existing : GoodIn wsX2_lookingFor wsX2_existing := goodIn_ca (goodIn_r _ [6, 7, 8, 9, 10, 5, 11, 12, 13, 14, 15, 16, 17, 18, 19, 20, 21, 33, 34, 35, 36, 37, 38, 39, 40, 41, 42, 43] (by decide +kernel) (by decide +kernel)) (goodIn_sub (fun _ h => List.mem_cons_of_mem _ (List.mem_append_right _ h)) (by decide +kernel))
set_option maxRecDepth 20000 in
theorem gX2_lookingFor_X2_existing : GoodIn wsX2_lookingFor (wsV RX2 54 RX2 yX2_existing wsX2_existing) := goodIn_app (goodIn_of _ (by decide +kernel)) ggX2_lookingFor_X2_existing
theorem dX2_lookingFor_0 : decode cX2_lookingFor 0 = .ok (.aload_n 0, 1) := by decide +kernel
theorem dX2_lookingFor_1 : decode cX2_lookingFor 1 = .ok (.iload_n 1, 1) := by decide +kernel
theorem dX2_lookingFor_2 : decode cX2_lookingFor 2 = .ok (.invokevirtual 54, 3) := by decide +kernel
theorem dX2_lookingFor_5 : decode cX2_lookingFor 5 = .ok (.getfield 121, 3) := by decide +kernel
theorem dX2_lookingFor_8 : decode cX2_lookingFor 8 = .ok (.ireturn, 1) := by decide +kernel
set_option maxRecDepth 20000 in
theorem ggX2_sourceOf_X2_alight : GoodIn wsX2_sourceOf wsX2_alight := goodIn_ca (goodIn_ca (goodIn_r _ [6, 7, 8, 9, 10, 11, 12, 5, 13, 14, 15, 16, 17, 18, 19, 20, 21, 22, 23, 24, 25, 26, 27, 28, 29, 30, 31, 32, 33, 34, 35, 36, 37, 38, 39, 40, 41, 42, 43, 44, 45, 46, 47, 48, 49, 50] (by decide +kernel) (by decide +kernel)) (goodIn_sub (fun _ h => List.mem_cons_of_mem _ (List.mem_append_left _ (List.mem_append_right _ h))) (by decide +kernel))) (goodIn_sub (fun _ h => List.mem_cons_of_mem _ (List.mem_append_right _ h)) (by decide +kernel))
set_option maxRecDepth 20000 in
theorem gX2_sourceOf_X2_alight : GoodIn wsX2_sourceOf (wsV RX2 93 RX2 yX2_alight wsX2_alight) := goodIn_app (goodIn_of _ (by decide +kernel)) ggX2_sourceOf_X2_alight
theorem dX2_sourceOf_0 : decode cX2_sourceOf 0 = .ok (.aload_n 0, 1) := by decide +kernel
theorem dX2_sourceOf_1 : decode cX2_sourceOf 1 = .ok (.iload_n 1, 1) := by decide +kernel
theorem dX2_sourceOf_2 : decode cX2_sourceOf 2 = .ok (.invokevirtual 93, 3) := by decide +kernel
theorem dX2_sourceOf_5 : decode cX2_sourceOf 5 = .ok (.getfield 124, 3) := by decide +kernel
theorem dX2_sourceOf_8 : decode cX2_sourceOf 8 = .ok (.ireturn, 1) := by decide +kernel
set_option maxRecDepth 20000 in
theorem ggX2_isMistaken_X2_existing : GoodIn wsX2_isMistaken wsX2_existing := goodIn_ca (goodIn_r _ [6, 7, 8, 9, 10, 5, 11, 12, 13, 14, 15, 16, 17, 18, 19, 20, 21, 33, 34, 35, 36, 37, 38, 39, 40, 41, 42, 43] (by decide +kernel) (by decide +kernel)) (goodIn_sub (fun _ h => List.mem_cons_of_mem _ (List.mem_append_right _ h)) (by decide +kernel))
set_option maxRecDepth 20000 in
theorem gX2_isMistaken_X2_existing : GoodIn wsX2_isMistaken (wsV RX2 54 RX2 yX2_existing wsX2_existing) := goodIn_app (goodIn_of _ (by decide +kernel)) ggX2_isMistaken_X2_existing
theorem dX2_isMistaken_0 : decode cX2_isMistaken 0 = .ok (.aload_n 0, 1) := by decide +kernel
theorem dX2_isMistaken_1 : decode cX2_isMistaken 1 = .ok (.iload_n 1, 1) := by decide +kernel
theorem dX2_isMistaken_2 : decode cX2_isMistaken 2 = .ok (.invokevirtual 54, 3) := by decide +kernel
theorem dX2_isMistaken_5 : decode cX2_isMistaken 5 = .ok (.getfield 124, 3) := by decide +kernel
theorem dX2_isMistaken_8 : decode cX2_isMistaken 8 = .ok (.iconst (-1), 1) := by decide +kernel
theorem dX2_isMistaken_9 : decode cX2_isMistaken 9 = .ok (.if_icmp .ne 7, 3) := by decide +kernel
theorem dX2_isMistaken_12 : decode cX2_isMistaken 12 = .ok (.iconst 1, 1) := by decide +kernel
theorem dX2_isMistaken_13 : decode cX2_isMistaken 13 = .ok (.goto 4, 3) := by decide +kernel
theorem dX2_isMistaken_16 : decode cX2_isMistaken 16 = .ok (.iconst 0, 1) := by decide +kernel
theorem dX2_isMistaken_17 : decode cX2_isMistaken 17 = .ok (.ireturn, 1) := by decide +kernel
set_option maxRecDepth 20000 in
theorem ggX2_answersTo_X2_existing : GoodIn wsX2_answersTo wsX2_existing := goodIn_ca (goodIn_r _ [6, 7, 8, 9, 10, 5, 11, 12, 13, 14, 15, 16, 17, 18, 19, 20, 21, 33, 34, 35, 36, 37, 38, 39, 40, 41, 42, 43] (by decide +kernel) (by decide +kernel)) (goodIn_sub (fun _ h => List.mem_cons_of_mem _ (List.mem_append_right _ h)) (by decide +kernel))
set_option maxRecDepth 20000 in
theorem gX2_answersTo_X2_existing : GoodIn wsX2_answersTo (wsV RX2 54 RX2 yX2_existing wsX2_existing) := goodIn_app (goodIn_of _ (by decide +kernel)) ggX2_answersTo_X2_existing
theorem dX2_answersTo_0 : decode cX2_answersTo 0 = .ok (.aload_n 0, 1) := by decide +kernel
theorem dX2_answersTo_1 : decode cX2_answersTo 1 = .ok (.iload_n 1, 1) := by decide +kernel
theorem dX2_answersTo_2 : decode cX2_answersTo 2 = .ok (.invokevirtual 54, 3) := by decide +kernel
theorem dX2_answersTo_5 : decode cX2_answersTo 5 = .ok (.getfield 127, 3) := by decide +kernel
theorem dX2_answersTo_8 : decode cX2_answersTo 8 = .ok (.ireturn, 1) := by decide +kernel
theorem dX2_hills_0 : decode cX2_hills 0 = .ok (.aload_n 0, 1) := by decide +kernel
theorem dX2_hills_1 : decode cX2_hills 1 = .ok (.getfield 10, 3) := by decide +kernel
theorem dX2_hills_4 : decode cX2_hills 4 = .ok (.getfield 23, 3) := by decide +kernel
theorem dX2_hills_7 : decode cX2_hills 7 = .ok (.ireturn, 1) := by decide +kernel
theorem dX2_minute_0 : decode cX2_minute 0 = .ok (.aload_n 0, 1) := by decide +kernel
theorem dX2_minute_1 : decode cX2_minute 1 = .ok (.getfield 10, 3) := by decide +kernel
theorem dX2_minute_4 : decode cX2_minute 4 = .ok (.getfield 130, 3) := by decide +kernel
theorem dX2_minute_7 : decode cX2_minute 7 = .ok (.ireturn, 1) := by decide +kernel
theorem dX2_haze_0 : decode cX2_haze 0 = .ok (.aload_n 0, 1) := by decide +kernel
theorem dX2_haze_1 : decode cX2_haze 1 = .ok (.getfield 10, 3) := by decide +kernel
theorem dX2_haze_4 : decode cX2_haze 4 = .ok (.getfield 78, 3) := by decide +kernel
theorem dX2_haze_7 : decode cX2_haze 7 = .ok (.ireturn, 1) := by decide +kernel
theorem dX2_glowLeft_0 : decode cX2_glowLeft 0 = .ok (.aload_n 0, 1) := by decide +kernel
theorem dX2_glowLeft_1 : decode cX2_glowLeft 1 = .ok (.getfield 10, 3) := by decide +kernel
theorem dX2_glowLeft_4 : decode cX2_glowLeft 4 = .ok (.getfield 99, 3) := by decide +kernel
theorem dX2_glowLeft_7 : decode cX2_glowLeft 7 = .ok (.ireturn, 1) := by decide +kernel
set_option maxRecDepth 20000 in
theorem ggX2_burningHills_X1_countBurning : GoodIn wsX2_burningHills wsX1_countBurning := goodIn_r _ [6, 7, 8, 9, 10, 11, 5, 12, 13, 14, 17, 18, 19, 20, 21, 22, 23, 24, 25, 26, 27, 28, 29, 30, 31, 32, 33, 34, 35, 36] (by decide +kernel) (by decide +kernel)
set_option maxRecDepth 20000 in
theorem gX2_burningHills_X1_countBurning : GoodIn wsX2_burningHills (wsV RX2 133 RX1 yX1_countBurning wsX1_countBurning) := goodIn_app (goodIn_of _ (by decide +kernel)) ggX2_burningHills_X1_countBurning
theorem dX2_burningHills_0 : decode cX2_burningHills 0 = .ok (.aload_n 0, 1) := by decide +kernel
theorem dX2_burningHills_1 : decode cX2_burningHills 1 = .ok (.getfield 10, 3) := by decide +kernel
theorem dX2_burningHills_4 : decode cX2_burningHills 4 = .ok (.invokevirtual 133, 3) := by decide +kernel
theorem dX2_burningHills_7 : decode cX2_burningHills 7 = .ok (.ireturn, 1) := by decide +kernel
theorem dX2_timesLit_0 : decode cX2_timesLit 0 = .ok (.aload_n 0, 1) := by decide +kernel
theorem dX2_timesLit_1 : decode cX2_timesLit 1 = .ok (.getfield 10, 3) := by decide +kernel
theorem dX2_timesLit_4 : decode cX2_timesLit 4 = .ok (.getfield 102, 3) := by decide +kernel
theorem dX2_timesLit_7 : decode cX2_timesLit 7 = .ok (.ireturn, 1) := by decide +kernel
theorem dX2_timesMistaken_0 : decode cX2_timesMistaken 0 = .ok (.aload_n 0, 1) := by decide +kernel
theorem dX2_timesMistaken_1 : decode cX2_timesMistaken 1 = .ok (.getfield 10, 3) := by decide +kernel
theorem dX2_timesMistaken_4 : decode cX2_timesMistaken 4 = .ok (.getfield 137, 3) := by decide +kernel
theorem dX2_timesMistaken_7 : decode cX2_timesMistaken 7 = .ok (.ireturn, 1) := by decide +kernel
set_option maxRecDepth 20000 in
theorem ggX2_minutesUntilBurning_X2_requireHill : GoodIn wsX2_minutesUntilBurning wsX2_requireHill := goodIn_ca (goodIn_r _ [8, 9, 10, 2, 11, 127, 128, 140, 141, 142, 143, 144, 145, 146, 147, 148] (by decide +kernel) (by decide +kernel)) (goodIn_sub (fun _ h => List.mem_cons_of_mem _ (List.mem_append_right _ h)) (by decide +kernel))
set_option maxRecDepth 20000 in
theorem gX2_minutesUntilBurning_X2_requireHill : GoodIn wsX2_minutesUntilBurning (wsV RX2 38 RX2 yX2_requireHill wsX2_requireHill) := goodIn_app (goodIn_of _ (by decide +kernel)) ggX2_minutesUntilBurning_X2_requireHill
set_option maxRecDepth 20000 in
theorem ggX2_minutesUntilBurning_X1_copyFrom : GoodIn wsX2_minutesUntilBurning wsX1_copyFrom := goodIn_r _ [16, 17, 18, 19, 20, 21, 22, 23, 24, 25, 15, 26, 27, 28, 29, 30, 31, 32, 33, 34, 35, 36, 37, 38, 39, 40, 41, 42, 43, 44, 45, 46, 47, 48, 49, 50, 51, 52, 140, 141, 142, 143, 144, 145, 146, 147, 148, 129, 130, 131, 132, 133, 134, 135, 136, 137, 138, 139] (by decide +kernel) (by decide +kernel)
set_option maxRecDepth 20000 in
theorem gX2_minutesUntilBurning_X1_copyFrom : GoodIn wsX2_minutesUntilBurning (wsV RX2 140 RX1 yX1_copyFrom wsX1_copyFrom) := goodIn_app (goodIn_of _ (by decide +kernel)) ggX2_minutesUntilBurning_X1_copyFrom
set_option maxRecDepth 20000 in
theorem ggX2_minutesUntilBurning_X1_hillAt : GoodIn wsX2_minutesUntilBurning wsX1_hillAt := goodIn_r _ [26, 27, 28, 140, 141, 142, 143, 144, 145, 146, 147, 148] (by decide +kernel) (by decide +kernel)
set_option maxRecDepth 20000 in
theorem gX2_minutesUntilBurning_X1_hillAt : GoodIn wsX2_minutesUntilBurning (wsV RX2 87 RX1 yX1_hillAt wsX1_hillAt) := goodIn_app (goodIn_of _ (by decide +kernel)) ggX2_minutesUntilBurning_X1_hillAt
set_option maxRecDepth 20000 in
theorem ggX2_minutesUntilBurning_X1_passOne : GoodIn wsX2_minutesUntilBurning wsX1_passOne := goodIn_r _ [57, 19, 20, 58, 59, 60, 15, 61, 17, 62, 63, 23, 24, 25, 26, 27, 28, 64, 65, 66, 67, 68, 69, 70, 71, 32, 72, 39, 34, 73, 74, 75, 76, 77, 78, 79, 80, 81, 44, 45, 46, 47, 48, 82, 83, 84, 85, 18, 86, 87, 88, 89, 90, 91, 92, 93, 94, 95, 96, 97, 98, 99, 21, 22, 100, 101, 102, 103, 41, 35, 40, 42, 104, 105, 106, 107, 108, 109, 110, 111, 112, 113, 114, 115, 116, 117, 118, 119, 120, 121, 122, 123, 124, 125, 126, 140, 141, 142, 143, 144, 145, 146, 147, 148, 129, 130, 131, 132, 133, 134, 135, 136, 137, 138, 139] (by decide +kernel) (by decide +kernel)
set_option maxRecDepth 20000 in
theorem gX2_minutesUntilBurning_X1_passOne : GoodIn wsX2_minutesUntilBurning (wsV RX2 144 RX1 yX1_passOne wsX1_passOne) := goodIn_app (goodIn_of _ (by decide +kernel)) ggX2_minutesUntilBurning_X1_passOne
theorem dX2_minutesUntilBurning_0 : decode cX2_minutesUntilBurning 0 = .ok (.aload_n 0, 1) := by decide +kernel
theorem dX2_minutesUntilBurning_1 : decode cX2_minutesUntilBurning 1 = .ok (.iload_n 1, 1) := by decide +kernel
theorem dX2_minutesUntilBurning_2 : decode cX2_minutesUntilBurning 2 = .ok (.invokevirtual 38, 3) := by decide +kernel
theorem dX2_minutesUntilBurning_5 : decode cX2_minutesUntilBurning 5 = .ok (.aload_n 0, 1) := by decide +kernel
theorem dX2_minutesUntilBurning_6 : decode cX2_minutesUntilBurning 6 = .ok (.getfield 16, 3) := by decide +kernel
theorem dX2_minutesUntilBurning_9 : decode cX2_minutesUntilBurning 9 = .ok (.aload_n 0, 1) := by decide +kernel
theorem dX2_minutesUntilBurning_10 : decode cX2_minutesUntilBurning 10 = .ok (.getfield 10, 3) := by decide +kernel
theorem dX2_minutesUntilBurning_13 : decode cX2_minutesUntilBurning 13 = .ok (.invokevirtual 140, 3) := by decide +kernel
theorem dX2_minutesUntilBurning_16 : decode cX2_minutesUntilBurning 16 = .ok (.iconst 0, 1) := by decide +kernel
theorem dX2_minutesUntilBurning_17 : decode cX2_minutesUntilBurning 17 = .ok (.istore_n 2, 1) := by decide +kernel
theorem dX2_minutesUntilBurning_18 : decode cX2_minutesUntilBurning 18 = .ok (.iload_n 2, 1) := by decide +kernel
theorem dX2_minutesUntilBurning_19 : decode cX2_minutesUntilBurning 19 = .ok (.sipush 150, 3) := by decide +kernel
theorem dX2_minutesUntilBurning_22 : decode cX2_minutesUntilBurning 22 = .ok (.if_icmp .gt 33, 3) := by decide +kernel
theorem dX2_minutesUntilBurning_25 : decode cX2_minutesUntilBurning 25 = .ok (.aload_n 0, 1) := by decide +kernel
theorem dX2_minutesUntilBurning_26 : decode cX2_minutesUntilBurning 26 = .ok (.getfield 16, 3) := by decide +kernel
theorem dX2_minutesUntilBurning_29 : decode cX2_minutesUntilBurning 29 = .ok (.iload_n 1, 1) := by decide +kernel
theorem dX2_minutesUntilBurning_30 : decode cX2_minutesUntilBurning 30 = .ok (.invokevirtual 87, 3) := by decide +kernel
theorem dX2_minutesUntilBurning_33 : decode cX2_minutesUntilBurning 33 = .ok (.getfield 118, 3) := by decide +kernel
theorem dX2_minutesUntilBurning_36 : decode cX2_minutesUntilBurning 36 = .ok (.iconst 2, 1) := by decide +kernel
theorem dX2_minutesUntilBurning_37 : decode cX2_minutesUntilBurning 37 = .ok (.if_icmp .ne 5, 3) := by decide +kernel
theorem dX2_minutesUntilBurning_40 : decode cX2_minutesUntilBurning 40 = .ok (.iload_n 2, 1) := by decide +kernel
theorem dX2_minutesUntilBurning_41 : decode cX2_minutesUntilBurning 41 = .ok (.ireturn, 1) := by decide +kernel
theorem dX2_minutesUntilBurning_42 : decode cX2_minutesUntilBurning 42 = .ok (.aload_n 0, 1) := by decide +kernel
theorem dX2_minutesUntilBurning_43 : decode cX2_minutesUntilBurning 43 = .ok (.getfield 16, 3) := by decide +kernel
theorem dX2_minutesUntilBurning_46 : decode cX2_minutesUntilBurning 46 = .ok (.invokevirtual 144, 3) := by decide +kernel
theorem dX2_minutesUntilBurning_49 : decode cX2_minutesUntilBurning 49 = .ok (.iinc 2 1, 3) := by decide +kernel
theorem dX2_minutesUntilBurning_52 : decode cX2_minutesUntilBurning 52 = .ok (.goto (-34), 3) := by decide +kernel
theorem dX2_minutesUntilBurning_55 : decode cX2_minutesUntilBurning 55 = .ok (.iconst (-1), 1) := by decide +kernel
theorem dX2_minutesUntilBurning_56 : decode cX2_minutesUntilBurning 56 = .ok (.ireturn, 1) := by decide +kernel
set_option maxRecDepth 20000 in
theorem ggX2_burningAfter_X2_requireBetween : GoodIn wsX2_burningAfter wsX2_requireBetween := goodIn_ca (goodIn_r _ [6, 7, 8] (by decide +kernel) (by decide +kernel)) (goodIn_sub (fun _ h => List.mem_cons_of_mem _ (List.mem_append_right _ h)) (by decide +kernel))
set_option maxRecDepth 20000 in
theorem gX2_burningAfter_X2_requireBetween : GoodIn wsX2_burningAfter (va_wsS RX2 19 yX2_requireBetween wsX2_requireBetween) := goodIn_app (goodIn_of _ (by decide +kernel)) ggX2_burningAfter_X2_requireBetween
set_option maxRecDepth 20000 in
theorem ggX2_burningAfter_X1_copyFrom : GoodIn wsX2_burningAfter wsX1_copyFrom := goodIn_r _ [13, 14, 15, 16, 17, 18, 19, 20, 21, 22, 12, 23, 24, 25, 26, 27, 28, 29, 30, 31, 32, 33, 34, 35, 36, 37, 38, 39, 40, 41, 42, 43, 44, 45, 46, 47, 48, 49, 133, 134, 135, 136, 137, 138, 139, 140, 141, 142, 143, 144, 145, 146, 147, 148, 149, 150, 151, 152] (by decide +kernel) (by decide +kernel)
set_option maxRecDepth 20000 in
theorem gX2_burningAfter_X1_copyFrom : GoodIn wsX2_burningAfter (wsV RX2 140 RX1 yX1_copyFrom wsX1_copyFrom) := goodIn_app (goodIn_of _ (by decide +kernel)) ggX2_burningAfter_X1_copyFrom
set_option maxRecDepth 20000 in
theorem ggX2_burningAfter_X1_passMany : GoodIn wsX2_burningAfter wsX1_passMany := goodIn_r _ [53, 54, 55, 56, 12, 57, 16, 17, 58, 59, 60, 61, 14, 62, 63, 20, 21, 22, 23, 24, 25, 64, 65, 66, 67, 68, 69, 70, 71, 29, 72, 36, 31, 73, 74, 75, 76, 77, 78, 79, 80, 81, 41, 42, 43, 44, 45, 82, 83, 84, 85, 15, 86, 87, 88, 89, 90, 91, 92, 93, 94, 95, 96, 97, 98, 99, 18, 19, 100, 101, 102, 103, 38, 32, 37, 39, 104, 105, 106, 107, 108, 109, 110, 111, 112, 113, 114, 115, 116, 117, 118, 119, 120, 121, 122, 123, 124, 125, 126, 133, 134, 135, 136, 137, 138, 139, 140, 141, 142, 143, 144, 145, 146, 147, 148, 149, 150, 151, 152] (by decide +kernel) (by decide +kernel)
set_option maxRecDepth 20000 in
theorem gX2_burningAfter_X1_passMany : GoodIn wsX2_burningAfter (wsV RX2 105 RX1 yX1_passMany wsX1_passMany) := goodIn_app (goodIn_of _ (by decide +kernel)) ggX2_burningAfter_X1_passMany
set_option maxRecDepth 20000 in
theorem ggX2_burningAfter_X1_countBurning : GoodIn wsX2_burningAfter wsX1_countBurning := goodIn_r _ [130, 14, 62, 20, 21, 22, 12, 23, 24, 25, 133, 134, 135, 136, 137, 138, 139, 140, 141, 142, 143, 144, 145, 146, 147, 148, 149, 150, 151, 152] (by decide +kernel) (by decide +kernel)
set_option maxRecDepth 20000 in
theorem gX2_burningAfter_X1_countBurning : GoodIn wsX2_burningAfter (wsV RX2 133 RX1 yX1_countBurning wsX1_countBurning) := goodIn_app (goodIn_of _ (by decide +kernel)) ggX2_burningAfter_X1_countBurning
theorem dX2_burningAfter_0 : decode cX2_burningAfter 0 = .ok (.iload_n 1, 1) := by decide +kernel
theorem dX2_burningAfter_1 : decode cX2_burningAfter 1 = .ok (.iconst 1, 1) := by decide +kernel
theorem dX2_burningAfter_2 : decode cX2_burningAfter 2 = .ok (.bipush 100, 2) := by decide +kernel
theorem dX2_burningAfter_4 : decode cX2_burningAfter 4 = .ok (.invokestatic 19, 3) := by decide +kernel
theorem dX2_burningAfter_7 : decode cX2_burningAfter 7 = .ok (.aload_n 0, 1) := by decide +kernel
theorem dX2_burningAfter_8 : decode cX2_burningAfter 8 = .ok (.getfield 16, 3) := by decide +kernel
theorem dX2_burningAfter_11 : decode cX2_burningAfter 11 = .ok (.aload_n 0, 1) := by decide +kernel
theorem dX2_burningAfter_12 : decode cX2_burningAfter 12 = .ok (.getfield 10, 3) := by decide +kernel
theorem dX2_burningAfter_15 : decode cX2_burningAfter 15 = .ok (.invokevirtual 140, 3) := by decide +kernel
theorem dX2_burningAfter_18 : decode cX2_burningAfter 18 = .ok (.aload_n 0, 1) := by decide +kernel
theorem dX2_burningAfter_19 : decode cX2_burningAfter 19 = .ok (.getfield 16, 3) := by decide +kernel
theorem dX2_burningAfter_22 : decode cX2_burningAfter 22 = .ok (.iload_n 1, 1) := by decide +kernel
theorem dX2_burningAfter_23 : decode cX2_burningAfter 23 = .ok (.invokevirtual 105, 3) := by decide +kernel
theorem dX2_burningAfter_26 : decode cX2_burningAfter 26 = .ok (.aload_n 0, 1) := by decide +kernel
theorem dX2_burningAfter_27 : decode cX2_burningAfter 27 = .ok (.getfield 16, 3) := by decide +kernel
theorem dX2_burningAfter_30 : decode cX2_burningAfter 30 = .ok (.invokevirtual 133, 3) := by decide +kernel
theorem dX2_burningAfter_33 : decode cX2_burningAfter 33 = .ok (.ireturn, 1) := by decide +kernel
set_option maxRecDepth 20000 in
theorem ggX2_reachOf_X2_requireReady : GoodIn wsX2_reachOf wsX2_requireReady := goodIn_ca (goodIn_ca (goodIn_r _ [5, 6, 7, 8, 9, 10, 4, 11, 12, 13, 14, 15, 16, 17, 18, 19, 20, 21, 22, 23, 24, 25, 26, 27, 28, 29, 30, 31, 32, 33, 156, 157, 158, 159, 160, 161, 162, 163, 164, 165, 166, 167, 168, 169, 170, 171, 172, 173, 174, 175, 176, 177] (by decide +kernel) (by decide +kernel)) (goodIn_sub (fun _ h => List.mem_cons_of_mem _ (List.mem_append_left _ (List.mem_append_right _ h))) (by decide +kernel))) (goodIn_sub (fun _ h => List.mem_cons_of_mem _ (List.mem_append_right _ h)) (by decide +kernel))
set_option maxRecDepth 20000 in
theorem gX2_reachOf_X2_requireReady : GoodIn wsX2_reachOf (wsV RX2 81 RX2 yX2_requireReady wsX2_requireReady) := goodIn_app (goodIn_of _ (by decide +kernel)) ggX2_reachOf_X2_requireReady
set_option maxRecDepth 20000 in
theorem ggX2_reachOf_X2_tryReach : GoodIn wsX2_reachOf wsX2_tryReach := goodIn_r _ [37, 38, 12, 39, 40, 41, 23, 42, 43, 44, 45, 46, 47, 48, 49, 21, 22, 24, 25, 26, 50, 51, 52, 30, 53, 33, 54, 55, 56, 57, 32, 58, 59, 60, 61, 62, 63, 64, 65, 66, 67, 68, 69, 70, 71, 72, 73, 74, 75, 76, 77, 78, 79, 80, 81, 82, 83, 84, 85, 86, 87, 88, 89, 90, 91, 92, 93, 94, 95, 96, 97, 98, 99, 28, 29, 31, 100, 101, 102, 103, 104, 105, 106, 107, 108, 109, 110, 111, 112, 113, 114, 115, 116, 117, 118, 119, 120, 121, 122, 123, 124, 125, 126, 127, 128, 129, 130, 131, 132, 133, 134, 135, 136, 137, 138, 139, 140, 141, 142, 143, 144, 145, 146, 147, 148, 149, 150, 151, 152, 153, 154, 155, 156, 157, 158, 159, 160, 161, 162, 163, 164, 165, 166, 167, 168, 169, 170, 171, 172, 173, 174, 175, 176, 177] (by decide +kernel) (by decide +kernel)
set_option maxRecDepth 20000 in
theorem gX2_reachOf_X2_tryReach : GoodIn wsX2_reachOf (wsV RX2 147 RX2 yX2_tryReach wsX2_tryReach) := goodIn_app (goodIn_of _ (by decide +kernel)) ggX2_reachOf_X2_tryReach
theorem dX2_reachOf_0 : decode cX2_reachOf 0 = .ok (.aload_n 0, 1) := by decide +kernel
theorem dX2_reachOf_1 : decode cX2_reachOf 1 = .ok (.iload_n 1, 1) := by decide +kernel
theorem dX2_reachOf_2 : decode cX2_reachOf 2 = .ok (.invokevirtual 81, 3) := by decide +kernel
theorem dX2_reachOf_5 : decode cX2_reachOf 5 = .ok (.aload_n 0, 1) := by decide +kernel
theorem dX2_reachOf_6 : decode cX2_reachOf 6 = .ok (.iload_n 1, 1) := by decide +kernel
theorem dX2_reachOf_7 : decode cX2_reachOf 7 = .ok (.invokevirtual 147, 3) := by decide +kernel
theorem dX2_reachOf_10 : decode cX2_reachOf 10 = .ok (.ireturn, 1) := by decide +kernel
set_option maxRecDepth 20000 in
theorem ggX2_bestHill_X1_hillAt : GoodIn wsX2_bestHill wsX1_hillAt := goodIn_r _ [7, 8, 9, 142, 143, 144, 145, 146, 147, 148, 149, 150] (by decide +kernel) (by decide +kernel)
set_option maxRecDepth 20000 in
theorem gX2_bestHill_X1_hillAt : GoodIn wsX2_bestHill (wsV RX2 87 RX1 yX1_hillAt wsX1_hillAt) := goodIn_app (goodIn_of _ (by decide +kernel)) ggX2_bestHill_X1_hillAt
set_option maxRecDepth 20000 in
theorem ggX2_bestHill_X0_isReady : GoodIn wsX2_bestHill wsX0_isReady := goodIn_r _ [14, 15, 16, 151, 152, 153, 154, 155, 156, 157, 158, 159, 160, 161] (by decide +kernel) (by decide +kernel)
set_option maxRecDepth 20000 in
theorem gX2_bestHill_X0_isReady : GoodIn wsX2_bestHill (wsV RX2 151 RX0 yX0_isReady wsX0_isReady) := goodIn_app (goodIn_of _ (by decide +kernel)) ggX2_bestHill_X0_isReady
set_option maxRecDepth 20000 in
theorem ggX2_bestHill_X2_tryReach : GoodIn wsX2_bestHill wsX2_tryReach := goodIn_r _ [21, 22, 1, 23, 24, 25, 6, 26, 27, 28, 29, 30, 31, 32, 33, 4, 5, 7, 8, 9, 34, 35, 36, 13, 37, 16, 38, 39, 40, 41, 15, 42, 43, 44, 45, 46, 47, 48, 49, 50, 51, 52, 53, 54, 55, 56, 57, 58, 59, 60, 61, 62, 63, 64, 65, 66, 67, 68, 69, 70, 71, 72, 73, 74, 75, 76, 77, 78, 79, 80, 81, 82, 83, 11, 12, 14, 84, 85, 86, 87, 88, 89, 90, 91, 92, 93, 94, 95, 96, 97, 98, 99, 100, 101, 102, 103, 104, 105, 106, 107, 108, 109, 110, 111, 112, 113, 114, 115, 116, 117, 118, 119, 120, 121, 122, 123, 124, 125, 126, 127, 128, 129, 130, 131, 132, 133, 134, 135, 136, 137, 138, 139, 140, 141, 142, 143, 144, 145, 146, 147, 148, 149, 150, 151, 152, 153, 154, 155, 156, 157, 158, 159, 160, 161] (by decide +kernel) (by decide +kernel)
set_option maxRecDepth 20000 in
theorem gX2_bestHill_X2_tryReach : GoodIn wsX2_bestHill (wsV RX2 147 RX2 yX2_tryReach wsX2_tryReach) := goodIn_app (goodIn_of _ (by decide +kernel)) ggX2_bestHill_X2_tryReach
theorem dX2_bestHill_0 : decode cX2_bestHill 0 = .ok (.iconst (-1), 1) := by decide +kernel
theorem dX2_bestHill_1 : decode cX2_bestHill 1 = .ok (.istore_n 1, 1) := by decide +kernel
theorem dX2_bestHill_2 : decode cX2_bestHill 2 = .ok (.iconst 0, 1) := by decide +kernel
theorem dX2_bestHill_3 : decode cX2_bestHill 3 = .ok (.istore_n 2, 1) := by decide +kernel
theorem dX2_bestHill_4 : decode cX2_bestHill 4 = .ok (.iconst 0, 1) := by decide +kernel
theorem dX2_bestHill_5 : decode cX2_bestHill 5 = .ok (.istore_n 3, 1) := by decide +kernel
theorem dX2_bestHill_6 : decode cX2_bestHill 6 = .ok (.iload_n 3, 1) := by decide +kernel
theorem dX2_bestHill_7 : decode cX2_bestHill 7 = .ok (.aload_n 0, 1) := by decide +kernel
theorem dX2_bestHill_8 : decode cX2_bestHill 8 = .ok (.getfield 10, 3) := by decide +kernel
theorem dX2_bestHill_11 : decode cX2_bestHill 11 = .ok (.getfield 23, 3) := by decide +kernel
theorem dX2_bestHill_14 : decode cX2_bestHill 14 = .ok (.if_icmp .ge 45, 3) := by decide +kernel
theorem dX2_bestHill_17 : decode cX2_bestHill 17 = .ok (.aload_n 0, 1) := by decide +kernel
theorem dX2_bestHill_18 : decode cX2_bestHill 18 = .ok (.getfield 10, 3) := by decide +kernel
theorem dX2_bestHill_21 : decode cX2_bestHill 21 = .ok (.iload_n 3, 1) := by decide +kernel
theorem dX2_bestHill_22 : decode cX2_bestHill 22 = .ok (.invokevirtual 87, 3) := by decide +kernel
theorem dX2_bestHill_25 : decode cX2_bestHill 25 = .ok (.invokevirtual 151, 3) := by decide +kernel
theorem dX2_bestHill_28 : decode cX2_bestHill 28 = .ok (.ifCond .eq 11, 3) := by decide +kernel
theorem dX2_bestHill_31 : decode cX2_bestHill 31 = .ok (.aload_n 0, 1) := by decide +kernel
theorem dX2_bestHill_32 : decode cX2_bestHill 32 = .ok (.iload_n 3, 1) := by decide +kernel
theorem dX2_bestHill_33 : decode cX2_bestHill 33 = .ok (.invokevirtual 147, 3) := by decide +kernel
theorem dX2_bestHill_36 : decode cX2_bestHill 36 = .ok (.goto 4, 3) := by decide +kernel
theorem dX2_bestHill_39 : decode cX2_bestHill 39 = .ok (.iconst 0, 1) := by decide +kernel
theorem dX2_bestHill_40 : decode cX2_bestHill 40 = .ok (.istore 4, 2) := by decide +kernel
theorem dX2_bestHill_42 : decode cX2_bestHill 42 = .ok (.iload 4, 2) := by decide +kernel
theorem dX2_bestHill_44 : decode cX2_bestHill 44 = .ok (.iload_n 2, 1) := by decide +kernel
theorem dX2_bestHill_45 : decode cX2_bestHill 45 = .ok (.if_icmp .le 8, 3) := by decide +kernel
theorem dX2_bestHill_48 : decode cX2_bestHill 48 = .ok (.iload_n 3, 1) := by decide +kernel
theorem dX2_bestHill_49 : decode cX2_bestHill 49 = .ok (.istore_n 1, 1) := by decide +kernel
theorem dX2_bestHill_50 : decode cX2_bestHill 50 = .ok (.iload 4, 2) := by decide +kernel
theorem dX2_bestHill_52 : decode cX2_bestHill 52 = .ok (.istore_n 2, 1) := by decide +kernel
theorem dX2_bestHill_53 : decode cX2_bestHill 53 = .ok (.iinc 3 1, 3) := by decide +kernel
theorem dX2_bestHill_56 : decode cX2_bestHill 56 = .ok (.goto (-50), 3) := by decide +kernel
theorem dX2_bestHill_59 : decode cX2_bestHill 59 = .ok (.iload_n 1, 1) := by decide +kernel
theorem dX2_bestHill_60 : decode cX2_bestHill 60 = .ok (.ireturn, 1) := by decide +kernel
set_option maxRecDepth 20000 in
theorem ggX2_meanWood_X1_sumWood : GoodIn wsX2_meanWood wsX1_sumWood := goodIn_r _ [7, 8, 9, 10, 11, 12, 6, 13, 14, 15, 18, 19, 20, 21, 22, 23, 24, 25, 26, 27, 28, 29, 30, 31, 32, 33, 34, 35, 36, 37] (by decide +kernel) (by decide +kernel)
set_option maxRecDepth 20000 in
theorem gX2_meanWood_X1_sumWood : GoodIn wsX2_meanWood (wsV RX2 155 RX1 yX1_sumWood wsX1_sumWood) := goodIn_app (goodIn_of _ (by decide +kernel)) ggX2_meanWood_X1_sumWood
theorem dX2_meanWood_0 : decode cX2_meanWood 0 = .ok (.aload_n 0, 1) := by decide +kernel
theorem dX2_meanWood_1 : decode cX2_meanWood 1 = .ok (.getfield 10, 3) := by decide +kernel
theorem dX2_meanWood_4 : decode cX2_meanWood 4 = .ok (.getfield 23, 3) := by decide +kernel
theorem dX2_meanWood_7 : decode cX2_meanWood 7 = .ok (.ifCond .gt 5, 3) := by decide +kernel
theorem dX2_meanWood_10 : decode cX2_meanWood 10 = .ok (.dconst 0, 1) := by decide +kernel
theorem dX2_meanWood_11 : decode cX2_meanWood 11 = .ok (.dreturn, 1) := by decide +kernel
theorem dX2_meanWood_12 : decode cX2_meanWood 12 = .ok (.aload_n 0, 1) := by decide +kernel
theorem dX2_meanWood_13 : decode cX2_meanWood 13 = .ok (.getfield 10, 3) := by decide +kernel
theorem dX2_meanWood_16 : decode cX2_meanWood 16 = .ok (.invokevirtual 155, 3) := by decide +kernel
theorem dX2_meanWood_19 : decode cX2_meanWood 19 = .ok (.i2d, 1) := by decide +kernel
theorem dX2_meanWood_20 : decode cX2_meanWood 20 = .ok (.aload_n 0, 1) := by decide +kernel
theorem dX2_meanWood_21 : decode cX2_meanWood 21 = .ok (.getfield 10, 3) := by decide +kernel
theorem dX2_meanWood_24 : decode cX2_meanWood 24 = .ok (.getfield 23, 3) := by decide +kernel
theorem dX2_meanWood_27 : decode cX2_meanWood 27 = .ok (.i2d, 1) := by decide +kernel
theorem dX2_meanWood_28 : decode cX2_meanWood 28 = .ok (.ddiv, 1) := by decide +kernel
theorem dX2_meanWood_29 : decode cX2_meanWood 29 = .ok (.dreturn, 1) := by decide +kernel
set_option maxRecDepth 20000 in
theorem ggX2_digest_X2_digestLand : GoodIn wsX2_digest wsX2_digestLand := goodIn_r _ [6, 7, 8, 9, 10, 11, 12, 13, 14, 15, 5, 16, 17, 18, 19, 20, 21, 22, 23, 24, 25, 26, 27, 28, 29, 30, 71, 72, 73, 74, 75, 76, 77, 78, 79, 80, 81, 82, 83, 84, 85, 86, 87, 88, 89, 90, 91, 92] (by decide +kernel) (by decide +kernel)
set_option maxRecDepth 20000 in
theorem gX2_digest_X2_digestLand : GoodIn wsX2_digest (wsV RX2 160 RX2 yX2_digestLand wsX2_digestLand) := goodIn_app (goodIn_of _ (by decide +kernel)) ggX2_digest_X2_digestLand
set_option maxRecDepth 20000 in
theorem ggX2_digest_X2_digestHills : GoodIn wsX2_digest wsX2_digestHills := goodIn_r _ [34, 7, 8, 35, 26, 27, 21, 28, 29, 30, 36, 37, 5, 38, 39, 40, 41, 42, 43, 44, 45, 46, 47, 48, 14, 15, 16, 17, 49, 50, 51, 71, 72, 73, 74, 75, 76, 77, 78, 79, 80, 81, 82, 83, 84, 85, 86, 87, 88, 89, 90, 91, 92] (by decide +kernel) (by decide +kernel)
set_option maxRecDepth 20000 in
theorem gX2_digest_X2_digestHills : GoodIn wsX2_digest (wsV RX2 164 RX2 yX2_digestHills wsX2_digestHills) := goodIn_app (goodIn_of _ (by decide +kernel)) ggX2_digest_X2_digestHills
set_option maxRecDepth 20000 in
theorem ggX2_digest_X2_digestSights : GoodIn wsX2_digest wsX2_digestSights := goodIn_r _ [55, 7, 8, 56, 57, 58, 21, 59, 60, 14, 15, 5, 16, 17, 61, 62, 63, 64, 65, 66, 67, 68, 69, 70, 49, 50, 51, 71, 72, 73, 74, 75, 76, 77, 78, 79, 80, 81] (by decide +kernel) (by decide +kernel)
set_option maxRecDepth 20000 in
theorem gX2_digest_X2_digestSights : GoodIn wsX2_digest (wsV RX2 167 RX2 yX2_digestSights wsX2_digestSights) := goodIn_app (goodIn_of _ (by decide +kernel)) ggX2_digest_X2_digestSights
theorem dX2_digest_0 : decode cX2_digest 0 = .ok (.aload_n 0, 1) := by decide +kernel
theorem dX2_digest_1 : decode cX2_digest 1 = .ok (.aload_n 0, 1) := by decide +kernel
theorem dX2_digest_2 : decode cX2_digest 2 = .ok (.aload_n 0, 1) := by decide +kernel
theorem dX2_digest_3 : decode cX2_digest 3 = .ok (.ldc2_w 158, 3) := by decide +kernel
theorem dX2_digest_6 : decode cX2_digest 6 = .ok (.invokevirtual 160, 3) := by decide +kernel
theorem dX2_digest_9 : decode cX2_digest 9 = .ok (.invokevirtual 164, 3) := by decide +kernel
theorem dX2_digest_12 : decode cX2_digest 12 = .ok (.invokevirtual 167, 3) := by decide +kernel
theorem dX2_digest_15 : decode cX2_digest 15 = .ok (.lreturn, 1) := by decide +kernel
theorem dX2_requireBetween_0 : decode cX2_requireBetween 0 = .ok (.iload_n 0, 1) := by decide +kernel
theorem dX2_requireBetween_1 : decode cX2_requireBetween 1 = .ok (.iload_n 1, 1) := by decide +kernel
theorem dX2_requireBetween_2 : decode cX2_requireBetween 2 = .ok (.if_icmp .lt 8, 3) := by decide +kernel
theorem dX2_requireBetween_5 : decode cX2_requireBetween 5 = .ok (.iload_n 0, 1) := by decide +kernel
theorem dX2_requireBetween_6 : decode cX2_requireBetween 6 = .ok (.iload_n 2, 1) := by decide +kernel
theorem dX2_requireBetween_7 : decode cX2_requireBetween 7 = .ok (.if_icmp .le 13, 3) := by decide +kernel
theorem dX2_requireBetween_10 : decode cX2_requireBetween 10 = .ok (.new 42, 3) := by decide +kernel
theorem dX2_requireBetween_13 : decode cX2_requireBetween 13 = .ok (.dup, 1) := by decide +kernel
theorem dX2_requireBetween_14 : decode cX2_requireBetween 14 = .ok (.ldc 170, 2) := by decide +kernel
theorem dX2_requireBetween_16 : decode cX2_requireBetween 16 = .ok (.invokespecial 46, 3) := by decide +kernel
theorem dX2_requireBetween_19 : decode cX2_requireBetween 19 = .ok (.athrow, 1) := by decide +kernel
theorem dX2_requireBetween_20 : decode cX2_requireBetween 20 = .ok (.return_, 1) := by decide +kernel
theorem dX2_requireHill_0 : decode cX2_requireHill 0 = .ok (.iload_n 1, 1) := by decide +kernel
theorem dX2_requireHill_1 : decode cX2_requireHill 1 = .ok (.ifCond .lt 14, 3) := by decide +kernel
theorem dX2_requireHill_4 : decode cX2_requireHill 4 = .ok (.iload_n 1, 1) := by decide +kernel
theorem dX2_requireHill_5 : decode cX2_requireHill 5 = .ok (.aload_n 0, 1) := by decide +kernel
theorem dX2_requireHill_6 : decode cX2_requireHill 6 = .ok (.getfield 10, 3) := by decide +kernel
theorem dX2_requireHill_9 : decode cX2_requireHill 9 = .ok (.getfield 23, 3) := by decide +kernel
theorem dX2_requireHill_12 : decode cX2_requireHill 12 = .ok (.if_icmp .lt 13, 3) := by decide +kernel
theorem dX2_requireHill_15 : decode cX2_requireHill 15 = .ok (.new 172, 3) := by decide +kernel
theorem dX2_requireHill_18 : decode cX2_requireHill 18 = .ok (.dup, 1) := by decide +kernel
theorem dX2_requireHill_19 : decode cX2_requireHill 19 = .ok (.ldc 174, 2) := by decide +kernel
theorem dX2_requireHill_21 : decode cX2_requireHill 21 = .ok (.invokespecial 176, 3) := by decide +kernel
theorem dX2_requireHill_24 : decode cX2_requireHill 24 = .ok (.athrow, 1) := by decide +kernel
theorem dX2_requireHill_25 : decode cX2_requireHill 25 = .ok (.return_, 1) := by decide +kernel
set_option maxRecDepth 20000 in
theorem ggX2_existing_X2_requireHill : GoodIn wsX2_existing wsX2_requireHill := goodIn_ca (goodIn_r _ [6, 7, 8, 1, 9, 17, 18, 19, 20, 21, 22, 23, 24, 25, 26, 27] (by decide +kernel) (by decide +kernel)) (goodIn_sub (fun _ h => List.mem_cons_of_mem _ (List.mem_append_right _ h)) (by decide +kernel))
set_option maxRecDepth 20000 in
theorem gX2_existing_X2_requireHill : GoodIn wsX2_existing (wsV RX2 38 RX2 yX2_requireHill wsX2_requireHill) := goodIn_app (goodIn_of _ (by decide +kernel)) ggX2_existing_X2_requireHill
set_option maxRecDepth 20000 in
theorem ggX2_existing_X1_hillAt : GoodIn wsX2_existing wsX1_hillAt := goodIn_r _ [14, 15, 16, 19, 20, 21, 22, 23, 24, 25, 26, 27] (by decide +kernel) (by decide +kernel)
set_option maxRecDepth 20000 in
theorem gX2_existing_X1_hillAt : GoodIn wsX2_existing (wsV RX2 87 RX1 yX1_hillAt wsX1_hillAt) := goodIn_app (goodIn_of _ (by decide +kernel)) ggX2_existing_X1_hillAt
theorem dX2_existing_0 : decode cX2_existing 0 = .ok (.aload_n 0, 1) := by decide +kernel
theorem dX2_existing_1 : decode cX2_existing 1 = .ok (.iload_n 1, 1) := by decide +kernel
theorem dX2_existing_2 : decode cX2_existing 2 = .ok (.invokevirtual 38, 3) := by decide +kernel
theorem dX2_existing_5 : decode cX2_existing 5 = .ok (.aload_n 0, 1) := by decide +kernel
theorem dX2_existing_6 : decode cX2_existing 6 = .ok (.getfield 10, 3) := by decide +kernel
theorem dX2_existing_9 : decode cX2_existing 9 = .ok (.iload_n 1, 1) := by decide +kernel
theorem dX2_existing_10 : decode cX2_existing 10 = .ok (.invokevirtual 87, 3) := by decide +kernel
theorem dX2_existing_13 : decode cX2_existing 13 = .ok (.areturn, 1) := by decide +kernel
set_option maxRecDepth 20000 in
theorem ggX2_alight_X2_existing : GoodIn wsX2_alight wsX2_existing := goodIn_ca (goodIn_r _ [8, 9, 10, 11, 12, 7, 13, 14, 15, 16, 17, 18, 19, 20, 21, 22, 23, 35, 36, 37, 38, 39, 40, 41, 42, 43, 44, 45] (by decide +kernel) (by decide +kernel)) (goodIn_sub (fun _ h => List.mem_cons_of_mem _ (List.mem_append_right _ h)) (by decide +kernel))
set_option maxRecDepth 20000 in
theorem gX2_alight_X2_existing : GoodIn wsX2_alight (wsV RX2 54 RX2 yX2_existing wsX2_existing) := goodIn_app (goodIn_of _ (by decide +kernel)) ggX2_alight_X2_existing
theorem dX2_alight_0 : decode cX2_alight 0 = .ok (.aload_n 0, 1) := by decide +kernel
theorem dX2_alight_1 : decode cX2_alight 1 = .ok (.iload_n 1, 1) := by decide +kernel
theorem dX2_alight_2 : decode cX2_alight 2 = .ok (.invokevirtual 54, 3) := by decide +kernel
theorem dX2_alight_5 : decode cX2_alight 5 = .ok (.astore_n 2, 1) := by decide +kernel
theorem dX2_alight_6 : decode cX2_alight 6 = .ok (.aload_n 2, 1) := by decide +kernel
theorem dX2_alight_7 : decode cX2_alight 7 = .ok (.getfield 118, 3) := by decide +kernel
theorem dX2_alight_10 : decode cX2_alight 10 = .ok (.ifCond .ne 13, 3) := by decide +kernel
theorem dX2_alight_13 : decode cX2_alight 13 = .ok (.new 27, 3) := by decide +kernel
theorem dX2_alight_16 : decode cX2_alight 16 = .ok (.dup, 1) := by decide +kernel
theorem dX2_alight_17 : decode cX2_alight 17 = .ok (.ldc 177, 2) := by decide +kernel
theorem dX2_alight_19 : decode cX2_alight 19 = .ok (.invokespecial 31, 3) := by decide +kernel
theorem dX2_alight_22 : decode cX2_alight 22 = .ok (.athrow, 1) := by decide +kernel
theorem dX2_alight_23 : decode cX2_alight 23 = .ok (.aload_n 2, 1) := by decide +kernel
theorem dX2_alight_24 : decode cX2_alight 24 = .ok (.areturn, 1) := by decide +kernel
set_option maxRecDepth 20000 in
theorem ggX2_requireReady_X2_existing : GoodIn wsX2_requireReady wsX2_existing := goodIn_ca (goodIn_r _ [7, 8, 9, 10, 11, 6, 12, 13, 14, 15, 16, 17, 18, 19, 20, 21, 22, 30, 31, 32, 33, 34, 35, 36, 37, 38, 39, 40] (by decide +kernel) (by decide +kernel)) (goodIn_sub (fun _ h => List.mem_cons_of_mem _ (List.mem_append_right _ h)) (by decide +kernel))
set_option maxRecDepth 20000 in
theorem gX2_requireReady_X2_existing : GoodIn wsX2_requireReady (wsV RX2 54 RX2 yX2_existing wsX2_existing) := goodIn_app (goodIn_of _ (by decide +kernel)) ggX2_requireReady_X2_existing
set_option maxRecDepth 20000 in
theorem ggX2_requireReady_X0_isReady : GoodIn wsX2_requireReady wsX0_isReady := goodIn_r _ [27, 28, 29, 41, 42, 43, 44, 45, 46, 47, 48, 49, 50, 51] (by decide +kernel) (by decide +kernel)
set_option maxRecDepth 20000 in
theorem gX2_requireReady_X0_isReady : GoodIn wsX2_requireReady (wsV RX2 151 RX0 yX0_isReady wsX0_isReady) := goodIn_app (goodIn_of _ (by decide +kernel)) ggX2_requireReady_X0_isReady
theorem dX2_requireReady_0 : decode cX2_requireReady 0 = .ok (.aload_n 0, 1) := by decide +kernel
theorem dX2_requireReady_1 : decode cX2_requireReady 1 = .ok (.iload_n 1, 1) := by decide +kernel
theorem dX2_requireReady_2 : decode cX2_requireReady 2 = .ok (.invokevirtual 54, 3) := by decide +kernel
theorem dX2_requireReady_5 : decode cX2_requireReady 5 = .ok (.invokevirtual 151, 3) := by decide +kernel
theorem dX2_requireReady_8 : decode cX2_requireReady 8 = .ok (.ifCond .ne 13, 3) := by decide +kernel
theorem dX2_requireReady_11 : decode cX2_requireReady 11 = .ok (.new 27, 3) := by decide +kernel
theorem dX2_requireReady_14 : decode cX2_requireReady 14 = .ok (.dup, 1) := by decide +kernel
theorem dX2_requireReady_15 : decode cX2_requireReady 15 = .ok (.ldc 179, 2) := by decide +kernel
theorem dX2_requireReady_17 : decode cX2_requireReady 17 = .ok (.invokespecial 31, 3) := by decide +kernel
theorem dX2_requireReady_20 : decode cX2_requireReady 20 = .ok (.athrow, 1) := by decide +kernel
theorem dX2_requireReady_21 : decode cX2_requireReady 21 = .ok (.return_, 1) := by decide +kernel
set_option maxRecDepth 20000 in
theorem ggX2_tryReach_X1_copyFrom : GoodIn wsX2_tryReach wsX1_copyFrom := goodIn_r _ [7, 8, 9, 10, 11, 12, 13, 14, 15, 16, 6, 17, 18, 19, 20, 21, 22, 23, 24, 25, 26, 27, 28, 29, 30, 31, 32, 33, 34, 35, 36, 37, 38, 39, 40, 41, 42, 43, 134, 135, 136, 137, 138, 139, 140, 141, 142, 143, 144, 145, 146, 147, 148, 149, 150, 151, 152, 153] (by decide +kernel) (by decide +kernel)
set_option maxRecDepth 20000 in
theorem gX2_tryReach_X1_copyFrom : GoodIn wsX2_tryReach (wsV RX2 140 RX1 yX1_copyFrom wsX1_copyFrom) := goodIn_app (goodIn_of _ (by decide +kernel)) ggX2_tryReach_X1_copyFrom
set_option maxRecDepth 20000 in
theorem ggX2_tryReach_X1_kindleByHand : GoodIn wsX2_tryReach wsX1_kindleByHand := goodIn_r _ [47, 48, 49, 50, 51, 6, 52, 12, 13, 14, 15, 16, 17, 18, 19, 53, 54, 55, 23, 56, 25, 32, 30, 26, 31, 33, 143, 144, 145, 146, 147, 148, 149, 150, 151, 152, 153, 134, 135, 136, 137, 138, 139, 140, 141, 142] (by decide +kernel) (by decide +kernel)
set_option maxRecDepth 20000 in
theorem gX2_tryReach_X1_kindleByHand : GoodIn wsX2_tryReach (wsV RX2 84 RX1 yX1_kindleByHand wsX1_kindleByHand) := goodIn_app (goodIn_of _ (by decide +kernel)) ggX2_tryReach_X1_kindleByHand
set_option maxRecDepth 20000 in
theorem ggX2_tryReach_X1_passOne : GoodIn wsX2_tryReach wsX1_passOne := goodIn_r _ [60, 10, 11, 61, 62, 63, 6, 64, 8, 65, 66, 14, 15, 16, 17, 18, 19, 67, 68, 69, 70, 71, 72, 73, 74, 23, 75, 30, 25, 76, 77, 78, 79, 80, 81, 82, 83, 84, 35, 36, 37, 38, 39, 85, 86, 87, 88, 9, 89, 90, 91, 92, 93, 94, 95, 96, 97, 98, 49, 50, 51, 52, 12, 13, 53, 54, 55, 56, 32, 26, 31, 33, 99, 100, 101, 102, 103, 104, 105, 106, 107, 108, 48, 109, 110, 111, 112, 113, 114, 115, 116, 117, 118, 119, 120, 134, 135, 136, 137, 138, 139, 140, 141, 142, 143, 144, 145, 146, 147, 148, 149, 150, 151, 152, 153] (by decide +kernel) (by decide +kernel)
set_option maxRecDepth 20000 in
theorem gX2_tryReach_X1_passOne : GoodIn wsX2_tryReach (wsV RX2 144 RX1 yX1_passOne wsX1_passOne) := goodIn_app (goodIn_of _ (by decide +kernel)) ggX2_tryReach_X1_passOne
set_option maxRecDepth 20000 in
theorem ggX2_tryReach_X1_burningFrom : GoodIn wsX2_tryReach wsX1_burningFrom := goodIn_r _ [124, 8, 65, 98, 14, 15, 16, 6, 17, 18, 19, 134, 135, 136, 137, 138, 139, 140, 141, 142, 143, 144, 145, 146, 147, 148, 149, 150, 151, 152, 153] (by decide +kernel) (by decide +kernel)
set_option maxRecDepth 20000 in
theorem gX2_tryReach_X1_burningFrom : GoodIn wsX2_tryReach (wsV RX2 181 RX1 yX1_burningFrom wsX1_burningFrom) := goodIn_app (goodIn_of _ (by decide +kernel)) ggX2_tryReach_X1_burningFrom
set_option maxRecDepth 20000 in
theorem ggX2_tryReach_J6_bitCount_0f7a4 : GoodIn wsX2_tryReach wsJ6_bitCount_0f7a4 := goodIn_r _ [128, 129, 130, 131] (by decide +kernel) (by decide +kernel)
set_option maxRecDepth 20000 in
theorem gX2_tryReach_J6_bitCount_0f7a4 : GoodIn wsX2_tryReach (va_wsS RX2 184 yJ6_bitCount_0f7a4 wsJ6_bitCount_0f7a4) := goodIn_app (goodIn_of _ (by decide +kernel)) ggX2_tryReach_J6_bitCount_0f7a4
theorem dX2_tryReach_0 : decode cX2_tryReach 0 = .ok (.aload_n 0, 1) := by decide +kernel
theorem dX2_tryReach_1 : decode cX2_tryReach 1 = .ok (.getfield 16, 3) := by decide +kernel
theorem dX2_tryReach_4 : decode cX2_tryReach 4 = .ok (.aload_n 0, 1) := by decide +kernel
theorem dX2_tryReach_5 : decode cX2_tryReach 5 = .ok (.getfield 10, 3) := by decide +kernel
theorem dX2_tryReach_8 : decode cX2_tryReach 8 = .ok (.invokevirtual 140, 3) := by decide +kernel
theorem dX2_tryReach_11 : decode cX2_tryReach 11 = .ok (.aload_n 0, 1) := by decide +kernel
theorem dX2_tryReach_12 : decode cX2_tryReach 12 = .ok (.getfield 16, 3) := by decide +kernel
theorem dX2_tryReach_15 : decode cX2_tryReach 15 = .ok (.iload_n 1, 1) := by decide +kernel
theorem dX2_tryReach_16 : decode cX2_tryReach 16 = .ok (.invokevirtual 84, 3) := by decide +kernel
theorem dX2_tryReach_19 : decode cX2_tryReach 19 = .ok (.iconst 0, 1) := by decide +kernel
theorem dX2_tryReach_20 : decode cX2_tryReach 20 = .ok (.istore_n 2, 1) := by decide +kernel
theorem dX2_tryReach_21 : decode cX2_tryReach 21 = .ok (.iconst 0, 1) := by decide +kernel
theorem dX2_tryReach_22 : decode cX2_tryReach 22 = .ok (.istore_n 3, 1) := by decide +kernel
theorem dX2_tryReach_23 : decode cX2_tryReach 23 = .ok (.iload_n 3, 1) := by decide +kernel
theorem dX2_tryReach_24 : decode cX2_tryReach 24 = .ok (.bipush 100, 2) := by decide +kernel
theorem dX2_tryReach_26 : decode cX2_tryReach 26 = .ok (.if_icmp .ge 27, 3) := by decide +kernel
theorem dX2_tryReach_29 : decode cX2_tryReach 29 = .ok (.aload_n 0, 1) := by decide +kernel
theorem dX2_tryReach_30 : decode cX2_tryReach 30 = .ok (.getfield 16, 3) := by decide +kernel
theorem dX2_tryReach_33 : decode cX2_tryReach 33 = .ok (.invokevirtual 144, 3) := by decide +kernel
theorem dX2_tryReach_36 : decode cX2_tryReach 36 = .ok (.iload_n 2, 1) := by decide +kernel
theorem dX2_tryReach_37 : decode cX2_tryReach 37 = .ok (.aload_n 0, 1) := by decide +kernel
theorem dX2_tryReach_38 : decode cX2_tryReach 38 = .ok (.getfield 16, 3) := by decide +kernel
theorem dX2_tryReach_41 : decode cX2_tryReach 41 = .ok (.iload_n 1, 1) := by decide +kernel
theorem dX2_tryReach_42 : decode cX2_tryReach 42 = .ok (.invokevirtual 181, 3) := by decide +kernel
theorem dX2_tryReach_45 : decode cX2_tryReach 45 = .ok (.ior, 1) := by decide +kernel
theorem dX2_tryReach_46 : decode cX2_tryReach 46 = .ok (.istore_n 2, 1) := by decide +kernel
theorem dX2_tryReach_47 : decode cX2_tryReach 47 = .ok (.iinc 3 1, 3) := by decide +kernel
theorem dX2_tryReach_50 : decode cX2_tryReach 50 = .ok (.goto (-27), 3) := by decide +kernel
theorem dX2_tryReach_53 : decode cX2_tryReach 53 = .ok (.iload_n 2, 1) := by decide +kernel
theorem dX2_tryReach_54 : decode cX2_tryReach 54 = .ok (.invokestatic 184, 3) := by decide +kernel
theorem dX2_tryReach_57 : decode cX2_tryReach 57 = .ok (.ireturn, 1) := by decide +kernel
theorem dX2_mix_0 : decode cX2_mix 0 = .ok (.lload_n 0, 1) := by decide +kernel
theorem dX2_mix_1 : decode cX2_mix 1 = .ok (.ldc2_w 189, 3) := by decide +kernel
theorem dX2_mix_4 : decode cX2_mix 4 = .ok (.lmul, 1) := by decide +kernel
theorem dX2_mix_5 : decode cX2_mix 5 = .ok (.lload_n 2, 1) := by decide +kernel
theorem dX2_mix_6 : decode cX2_mix 6 = .ok (.ladd, 1) := by decide +kernel
theorem dX2_mix_7 : decode cX2_mix 7 = .ok (.lreturn, 1) := by decide +kernel
set_option maxRecDepth 20000 in
theorem ggX2_mixIf_X2_mix : GoodIn wsX2_mixIf wsX2_mix := goodIn_r _ [4, 5] (by decide +kernel) (by decide +kernel)
set_option maxRecDepth 20000 in
theorem gX2_mixIf_X2_mix : GoodIn wsX2_mixIf (va_wsS RX2 191 yX2_mix wsX2_mix) := goodIn_app (goodIn_of _ (by decide +kernel)) ggX2_mixIf_X2_mix
theorem dX2_mixIf_0 : decode cX2_mixIf 0 = .ok (.lload_n 0, 1) := by decide +kernel
theorem dX2_mixIf_1 : decode cX2_mixIf 1 = .ok (.iload_n 2, 1) := by decide +kernel
theorem dX2_mixIf_2 : decode cX2_mixIf 2 = .ok (.ifCond .eq 7, 3) := by decide +kernel
theorem dX2_mixIf_5 : decode cX2_mixIf 5 = .ok (.lconst 1, 1) := by decide +kernel
theorem dX2_mixIf_6 : decode cX2_mixIf 6 = .ok (.goto 4, 3) := by decide +kernel
theorem dX2_mixIf_9 : decode cX2_mixIf 9 = .ok (.lconst 0, 1) := by decide +kernel
theorem dX2_mixIf_10 : decode cX2_mixIf 10 = .ok (.invokestatic 191, 3) := by decide +kernel
theorem dX2_mixIf_13 : decode cX2_mixIf 13 = .ok (.lreturn, 1) := by decide +kernel
set_option maxRecDepth 20000 in
theorem ggX2_digestLand_X2_mix : GoodIn wsX2_digestLand wsX2_mix := goodIn_r _ [11, 12] (by decide +kernel) (by decide +kernel)
set_option maxRecDepth 20000 in
theorem gX2_digestLand_X2_mix : GoodIn wsX2_digestLand (va_wsS RX2 191 yX2_mix wsX2_mix) := goodIn_app (goodIn_of _ (by decide +kernel)) ggX2_digestLand_X2_mix
set_option maxRecDepth 20000 in
theorem ggX2_digestLand_X1_countBurning : GoodIn wsX2_digestLand wsX1_countBurning := goodIn_r _ [17, 18, 19, 20, 21, 22, 16, 23, 24, 25, 28, 29, 30, 31, 32, 33, 34, 35, 36, 37, 38, 39, 40, 41, 42, 43, 44, 45, 46, 47] (by decide +kernel) (by decide +kernel)
set_option maxRecDepth 20000 in
theorem gX2_digestLand_X1_countBurning : GoodIn wsX2_digestLand (wsV RX2 133 RX1 yX1_countBurning wsX1_countBurning) := goodIn_app (goodIn_of _ (by decide +kernel)) ggX2_digestLand_X1_countBurning
theorem dX2_digestLand_0 : decode cX2_digestLand 0 = .ok (.lload_n 1, 1) := by decide +kernel
theorem dX2_digestLand_1 : decode cX2_digestLand 1 = .ok (.aload_n 0, 1) := by decide +kernel
theorem dX2_digestLand_2 : decode cX2_digestLand 2 = .ok (.getfield 10, 3) := by decide +kernel
theorem dX2_digestLand_5 : decode cX2_digestLand 5 = .ok (.getfield 23, 3) := by decide +kernel
theorem dX2_digestLand_8 : decode cX2_digestLand 8 = .ok (.i2l, 1) := by decide +kernel
theorem dX2_digestLand_9 : decode cX2_digestLand 9 = .ok (.invokestatic 191, 3) := by decide +kernel
theorem dX2_digestLand_12 : decode cX2_digestLand 12 = .ok (.lstore_n 3, 1) := by decide +kernel
theorem dX2_digestLand_13 : decode cX2_digestLand 13 = .ok (.lload_n 3, 1) := by decide +kernel
theorem dX2_digestLand_14 : decode cX2_digestLand 14 = .ok (.aload_n 0, 1) := by decide +kernel
theorem dX2_digestLand_15 : decode cX2_digestLand 15 = .ok (.getfield 10, 3) := by decide +kernel
theorem dX2_digestLand_18 : decode cX2_digestLand 18 = .ok (.getfield 130, 3) := by decide +kernel
theorem dX2_digestLand_21 : decode cX2_digestLand 21 = .ok (.i2l, 1) := by decide +kernel
theorem dX2_digestLand_22 : decode cX2_digestLand 22 = .ok (.invokestatic 191, 3) := by decide +kernel
theorem dX2_digestLand_25 : decode cX2_digestLand 25 = .ok (.lstore_n 3, 1) := by decide +kernel
theorem dX2_digestLand_26 : decode cX2_digestLand 26 = .ok (.lload_n 3, 1) := by decide +kernel
theorem dX2_digestLand_27 : decode cX2_digestLand 27 = .ok (.aload_n 0, 1) := by decide +kernel
theorem dX2_digestLand_28 : decode cX2_digestLand 28 = .ok (.getfield 10, 3) := by decide +kernel
theorem dX2_digestLand_31 : decode cX2_digestLand 31 = .ok (.getfield 78, 3) := by decide +kernel
theorem dX2_digestLand_34 : decode cX2_digestLand 34 = .ok (.i2l, 1) := by decide +kernel
theorem dX2_digestLand_35 : decode cX2_digestLand 35 = .ok (.invokestatic 191, 3) := by decide +kernel
theorem dX2_digestLand_38 : decode cX2_digestLand 38 = .ok (.lstore_n 3, 1) := by decide +kernel
theorem dX2_digestLand_39 : decode cX2_digestLand 39 = .ok (.lload_n 3, 1) := by decide +kernel
theorem dX2_digestLand_40 : decode cX2_digestLand 40 = .ok (.aload_n 0, 1) := by decide +kernel
theorem dX2_digestLand_41 : decode cX2_digestLand 41 = .ok (.getfield 10, 3) := by decide +kernel
theorem dX2_digestLand_44 : decode cX2_digestLand 44 = .ok (.getfield 99, 3) := by decide +kernel
theorem dX2_digestLand_47 : decode cX2_digestLand 47 = .ok (.i2l, 1) := by decide +kernel
theorem dX2_digestLand_48 : decode cX2_digestLand 48 = .ok (.invokestatic 191, 3) := by decide +kernel
theorem dX2_digestLand_51 : decode cX2_digestLand 51 = .ok (.lstore_n 3, 1) := by decide +kernel
theorem dX2_digestLand_52 : decode cX2_digestLand 52 = .ok (.lload_n 3, 1) := by decide +kernel
theorem dX2_digestLand_53 : decode cX2_digestLand 53 = .ok (.aload_n 0, 1) := by decide +kernel
theorem dX2_digestLand_54 : decode cX2_digestLand 54 = .ok (.getfield 10, 3) := by decide +kernel
theorem dX2_digestLand_57 : decode cX2_digestLand 57 = .ok (.invokevirtual 133, 3) := by decide +kernel
theorem dX2_digestLand_60 : decode cX2_digestLand 60 = .ok (.i2l, 1) := by decide +kernel
theorem dX2_digestLand_61 : decode cX2_digestLand 61 = .ok (.invokestatic 191, 3) := by decide +kernel
theorem dX2_digestLand_64 : decode cX2_digestLand 64 = .ok (.lstore_n 3, 1) := by decide +kernel
theorem dX2_digestLand_65 : decode cX2_digestLand 65 = .ok (.lload_n 3, 1) := by decide +kernel
theorem dX2_digestLand_66 : decode cX2_digestLand 66 = .ok (.aload_n 0, 1) := by decide +kernel
theorem dX2_digestLand_67 : decode cX2_digestLand 67 = .ok (.getfield 10, 3) := by decide +kernel
theorem dX2_digestLand_70 : decode cX2_digestLand 70 = .ok (.getfield 102, 3) := by decide +kernel
theorem dX2_digestLand_73 : decode cX2_digestLand 73 = .ok (.i2l, 1) := by decide +kernel
theorem dX2_digestLand_74 : decode cX2_digestLand 74 = .ok (.invokestatic 191, 3) := by decide +kernel
theorem dX2_digestLand_77 : decode cX2_digestLand 77 = .ok (.lstore_n 3, 1) := by decide +kernel
theorem dX2_digestLand_78 : decode cX2_digestLand 78 = .ok (.lload_n 3, 1) := by decide +kernel
theorem dX2_digestLand_79 : decode cX2_digestLand 79 = .ok (.aload_n 0, 1) := by decide +kernel
theorem dX2_digestLand_80 : decode cX2_digestLand 80 = .ok (.getfield 10, 3) := by decide +kernel
theorem dX2_digestLand_83 : decode cX2_digestLand 83 = .ok (.getfield 137, 3) := by decide +kernel
theorem dX2_digestLand_86 : decode cX2_digestLand 86 = .ok (.i2l, 1) := by decide +kernel
theorem dX2_digestLand_87 : decode cX2_digestLand 87 = .ok (.invokestatic 191, 3) := by decide +kernel
theorem dX2_digestLand_90 : decode cX2_digestLand 90 = .ok (.lreturn, 1) := by decide +kernel
set_option maxRecDepth 20000 in
theorem ggX2_digestHills_X1_hillAt : GoodIn wsX2_digestHills wsX1_hillAt := goodIn_r _ [7, 8, 9, 33, 34, 35, 36, 37, 38, 39, 40, 41] (by decide +kernel) (by decide +kernel)
set_option maxRecDepth 20000 in
theorem gX2_digestHills_X1_hillAt : GoodIn wsX2_digestHills (wsV RX2 87 RX1 yX1_hillAt wsX1_hillAt) := goodIn_app (goodIn_of _ (by decide +kernel)) ggX2_digestHills_X1_hillAt
set_option maxRecDepth 20000 in
theorem ggX2_digestHills_X2_digestHill : GoodIn wsX2_digestHills wsX2_digestHill := goodIn_r _ [13, 14, 15, 16, 17, 18, 19, 20, 21, 22, 23, 24, 25, 12, 26, 27, 28, 29, 30, 42, 43, 44, 45, 46, 47, 48, 49, 50, 51, 52] (by decide +kernel) (by decide +kernel)
set_option maxRecDepth 20000 in
theorem gX2_digestHills_X2_digestHill : GoodIn wsX2_digestHills (va_wsS RX2 195 yX2_digestHill wsX2_digestHill) := goodIn_app (goodIn_of _ (by decide +kernel)) ggX2_digestHills_X2_digestHill
theorem dX2_digestHills_0 : decode cX2_digestHills 0 = .ok (.lload_n 1, 1) := by decide +kernel
theorem dX2_digestHills_1 : decode cX2_digestHills 1 = .ok (.lstore_n 3, 1) := by decide +kernel
theorem dX2_digestHills_2 : decode cX2_digestHills 2 = .ok (.iconst 0, 1) := by decide +kernel
theorem dX2_digestHills_3 : decode cX2_digestHills 3 = .ok (.istore 5, 2) := by decide +kernel
theorem dX2_digestHills_5 : decode cX2_digestHills 5 = .ok (.iload 5, 2) := by decide +kernel
theorem dX2_digestHills_7 : decode cX2_digestHills 7 = .ok (.aload_n 0, 1) := by decide +kernel
theorem dX2_digestHills_8 : decode cX2_digestHills 8 = .ok (.getfield 10, 3) := by decide +kernel
theorem dX2_digestHills_11 : decode cX2_digestHills 11 = .ok (.getfield 23, 3) := by decide +kernel
theorem dX2_digestHills_14 : decode cX2_digestHills 14 = .ok (.if_icmp .ge 23, 3) := by decide +kernel
theorem dX2_digestHills_17 : decode cX2_digestHills 17 = .ok (.lload_n 3, 1) := by decide +kernel
theorem dX2_digestHills_18 : decode cX2_digestHills 18 = .ok (.aload_n 0, 1) := by decide +kernel
theorem dX2_digestHills_19 : decode cX2_digestHills 19 = .ok (.getfield 10, 3) := by decide +kernel
theorem dX2_digestHills_22 : decode cX2_digestHills 22 = .ok (.iload 5, 2) := by decide +kernel
theorem dX2_digestHills_24 : decode cX2_digestHills 24 = .ok (.invokevirtual 87, 3) := by decide +kernel
theorem dX2_digestHills_27 : decode cX2_digestHills 27 = .ok (.invokestatic 195, 3) := by decide +kernel
theorem dX2_digestHills_30 : decode cX2_digestHills 30 = .ok (.lstore_n 3, 1) := by decide +kernel
theorem dX2_digestHills_31 : decode cX2_digestHills 31 = .ok (.iinc 5 1, 3) := by decide +kernel
theorem dX2_digestHills_34 : decode cX2_digestHills 34 = .ok (.goto (-29), 3) := by decide +kernel
theorem dX2_digestHills_37 : decode cX2_digestHills 37 = .ok (.lload_n 3, 1) := by decide +kernel
theorem dX2_digestHills_38 : decode cX2_digestHills 38 = .ok (.lreturn, 1) := by decide +kernel
set_option maxRecDepth 20000 in
theorem ggX2_digestHill_X2_mix : GoodIn wsX2_digestHill wsX2_mix := goodIn_r _ [14, 15] (by decide +kernel) (by decide +kernel)
set_option maxRecDepth 20000 in
theorem gX2_digestHill_X2_mix : GoodIn wsX2_digestHill (va_wsS RX2 191 yX2_mix wsX2_mix) := goodIn_app (goodIn_of _ (by decide +kernel)) ggX2_digestHill_X2_mix
set_option maxRecDepth 20000 in
theorem ggX2_digestHill_X2_mixIf : GoodIn wsX2_digestHill wsX2_mixIf := goodIn_r _ [18, 11, 12, 13, 14, 15] (by decide +kernel) (by decide +kernel)
set_option maxRecDepth 20000 in
theorem gX2_digestHill_X2_mixIf : GoodIn wsX2_digestHill (va_wsS RX2 199 yX2_mixIf wsX2_mixIf) := goodIn_app (goodIn_of _ (by decide +kernel)) ggX2_digestHill_X2_mixIf
theorem dX2_digestHill_0 : decode cX2_digestHill 0 = .ok (.lload_n 0, 1) := by decide +kernel
theorem dX2_digestHill_1 : decode cX2_digestHill 1 = .ok (.aload_n 2, 1) := by decide +kernel
theorem dX2_digestHill_2 : decode cX2_digestHill 2 = .ok (.getfield 67, 3) := by decide +kernel
theorem dX2_digestHill_5 : decode cX2_digestHill 5 = .ok (.i2l, 1) := by decide +kernel
theorem dX2_digestHill_6 : decode cX2_digestHill 6 = .ok (.invokestatic 191, 3) := by decide +kernel
theorem dX2_digestHill_9 : decode cX2_digestHill 9 = .ok (.lstore_n 3, 1) := by decide +kernel
theorem dX2_digestHill_10 : decode cX2_digestHill 10 = .ok (.lload_n 3, 1) := by decide +kernel
theorem dX2_digestHill_11 : decode cX2_digestHill 11 = .ok (.aload_n 2, 1) := by decide +kernel
theorem dX2_digestHill_12 : decode cX2_digestHill 12 = .ok (.getfield 75, 3) := by decide +kernel
theorem dX2_digestHill_15 : decode cX2_digestHill 15 = .ok (.i2l, 1) := by decide +kernel
theorem dX2_digestHill_16 : decode cX2_digestHill 16 = .ok (.invokestatic 191, 3) := by decide +kernel
theorem dX2_digestHill_19 : decode cX2_digestHill 19 = .ok (.lstore_n 3, 1) := by decide +kernel
theorem dX2_digestHill_20 : decode cX2_digestHill 20 = .ok (.lload_n 3, 1) := by decide +kernel
theorem dX2_digestHill_21 : decode cX2_digestHill 21 = .ok (.aload_n 2, 1) := by decide +kernel
theorem dX2_digestHill_22 : decode cX2_digestHill 22 = .ok (.getfield 108, 3) := by decide +kernel
theorem dX2_digestHill_25 : decode cX2_digestHill 25 = .ok (.i2l, 1) := by decide +kernel
theorem dX2_digestHill_26 : decode cX2_digestHill 26 = .ok (.invokestatic 191, 3) := by decide +kernel
theorem dX2_digestHill_29 : decode cX2_digestHill 29 = .ok (.lstore_n 3, 1) := by decide +kernel
theorem dX2_digestHill_30 : decode cX2_digestHill 30 = .ok (.lload_n 3, 1) := by decide +kernel
theorem dX2_digestHill_31 : decode cX2_digestHill 31 = .ok (.aload_n 2, 1) := by decide +kernel
theorem dX2_digestHill_32 : decode cX2_digestHill 32 = .ok (.getfield 58, 3) := by decide +kernel
theorem dX2_digestHill_35 : decode cX2_digestHill 35 = .ok (.invokestatic 199, 3) := by decide +kernel
theorem dX2_digestHill_38 : decode cX2_digestHill 38 = .ok (.lstore_n 3, 1) := by decide +kernel
theorem dX2_digestHill_39 : decode cX2_digestHill 39 = .ok (.lload_n 3, 1) := by decide +kernel
theorem dX2_digestHill_40 : decode cX2_digestHill 40 = .ok (.aload_n 2, 1) := by decide +kernel
theorem dX2_digestHill_41 : decode cX2_digestHill 41 = .ok (.getfield 64, 3) := by decide +kernel
theorem dX2_digestHill_44 : decode cX2_digestHill 44 = .ok (.invokestatic 199, 3) := by decide +kernel
theorem dX2_digestHill_47 : decode cX2_digestHill 47 = .ok (.lstore_n 3, 1) := by decide +kernel
theorem dX2_digestHill_48 : decode cX2_digestHill 48 = .ok (.lload_n 3, 1) := by decide +kernel
theorem dX2_digestHill_49 : decode cX2_digestHill 49 = .ok (.aload_n 2, 1) := by decide +kernel
theorem dX2_digestHill_50 : decode cX2_digestHill 50 = .ok (.getfield 118, 3) := by decide +kernel
theorem dX2_digestHill_53 : decode cX2_digestHill 53 = .ok (.ifCond .ne 7, 3) := by decide +kernel
theorem dX2_digestHill_56 : decode cX2_digestHill 56 = .ok (.iconst 1, 1) := by decide +kernel
theorem dX2_digestHill_57 : decode cX2_digestHill 57 = .ok (.goto 4, 3) := by decide +kernel
theorem dX2_digestHill_60 : decode cX2_digestHill 60 = .ok (.iconst 0, 1) := by decide +kernel
theorem dX2_digestHill_61 : decode cX2_digestHill 61 = .ok (.invokestatic 199, 3) := by decide +kernel
theorem dX2_digestHill_64 : decode cX2_digestHill 64 = .ok (.lstore_n 3, 1) := by decide +kernel
theorem dX2_digestHill_65 : decode cX2_digestHill 65 = .ok (.lload_n 3, 1) := by decide +kernel
theorem dX2_digestHill_66 : decode cX2_digestHill 66 = .ok (.aload_n 2, 1) := by decide +kernel
theorem dX2_digestHill_67 : decode cX2_digestHill 67 = .ok (.getfield 118, 3) := by decide +kernel
theorem dX2_digestHill_70 : decode cX2_digestHill 70 = .ok (.iconst 2, 1) := by decide +kernel
theorem dX2_digestHill_71 : decode cX2_digestHill 71 = .ok (.if_icmp .ne 7, 3) := by decide +kernel
theorem dX2_digestHill_74 : decode cX2_digestHill 74 = .ok (.iconst 1, 1) := by decide +kernel
theorem dX2_digestHill_75 : decode cX2_digestHill 75 = .ok (.goto 4, 3) := by decide +kernel
theorem dX2_digestHill_78 : decode cX2_digestHill 78 = .ok (.iconst 0, 1) := by decide +kernel
theorem dX2_digestHill_79 : decode cX2_digestHill 79 = .ok (.invokestatic 199, 3) := by decide +kernel
theorem dX2_digestHill_82 : decode cX2_digestHill 82 = .ok (.lstore_n 3, 1) := by decide +kernel
theorem dX2_digestHill_83 : decode cX2_digestHill 83 = .ok (.lload_n 3, 1) := by decide +kernel
theorem dX2_digestHill_84 : decode cX2_digestHill 84 = .ok (.aload_n 2, 1) := by decide +kernel
theorem dX2_digestHill_85 : decode cX2_digestHill 85 = .ok (.getfield 90, 3) := by decide +kernel
theorem dX2_digestHill_88 : decode cX2_digestHill 88 = .ok (.i2l, 1) := by decide +kernel
theorem dX2_digestHill_89 : decode cX2_digestHill 89 = .ok (.invokestatic 191, 3) := by decide +kernel
theorem dX2_digestHill_92 : decode cX2_digestHill 92 = .ok (.lstore_n 3, 1) := by decide +kernel
theorem dX2_digestHill_93 : decode cX2_digestHill 93 = .ok (.lload_n 3, 1) := by decide +kernel
theorem dX2_digestHill_94 : decode cX2_digestHill 94 = .ok (.aload_n 2, 1) := by decide +kernel
theorem dX2_digestHill_95 : decode cX2_digestHill 95 = .ok (.getfield 121, 3) := by decide +kernel
theorem dX2_digestHill_98 : decode cX2_digestHill 98 = .ok (.i2l, 1) := by decide +kernel
theorem dX2_digestHill_99 : decode cX2_digestHill 99 = .ok (.invokestatic 191, 3) := by decide +kernel
theorem dX2_digestHill_102 : decode cX2_digestHill 102 = .ok (.lstore_n 3, 1) := by decide +kernel
theorem dX2_digestHill_103 : decode cX2_digestHill 103 = .ok (.lload_n 3, 1) := by decide +kernel
theorem dX2_digestHill_104 : decode cX2_digestHill 104 = .ok (.aload_n 2, 1) := by decide +kernel
theorem dX2_digestHill_105 : decode cX2_digestHill 105 = .ok (.getfield 124, 3) := by decide +kernel
theorem dX2_digestHill_108 : decode cX2_digestHill 108 = .ok (.i2l, 1) := by decide +kernel
theorem dX2_digestHill_109 : decode cX2_digestHill 109 = .ok (.invokestatic 191, 3) := by decide +kernel
theorem dX2_digestHill_112 : decode cX2_digestHill 112 = .ok (.lstore_n 3, 1) := by decide +kernel
theorem dX2_digestHill_113 : decode cX2_digestHill 113 = .ok (.lload_n 3, 1) := by decide +kernel
theorem dX2_digestHill_114 : decode cX2_digestHill 114 = .ok (.aload_n 2, 1) := by decide +kernel
theorem dX2_digestHill_115 : decode cX2_digestHill 115 = .ok (.getfield 127, 3) := by decide +kernel
theorem dX2_digestHill_118 : decode cX2_digestHill 118 = .ok (.i2l, 1) := by decide +kernel
theorem dX2_digestHill_119 : decode cX2_digestHill 119 = .ok (.invokestatic 191, 3) := by decide +kernel
theorem dX2_digestHill_122 : decode cX2_digestHill 122 = .ok (.lreturn, 1) := by decide +kernel
set_option maxRecDepth 20000 in
theorem ggX2_digestSights_X1_milesFrom : GoodIn wsX2_digestSights wsX1_milesFrom := goodIn_r _ [7, 8, 29, 30, 31, 32, 33, 34, 35, 36, 37] (by decide +kernel) (by decide +kernel)
set_option maxRecDepth 20000 in
theorem gX2_digestSights_X1_milesFrom : GoodIn wsX2_digestSights (wsV RX2 47 RX1 yX1_milesFrom wsX1_milesFrom) := goodIn_app (goodIn_of _ (by decide +kernel)) ggX2_digestSights_X1_milesFrom
set_option maxRecDepth 20000 in
theorem ggX2_digestSights_X2_mix : GoodIn wsX2_digestSights wsX2_mix := goodIn_r _ [12, 13] (by decide +kernel) (by decide +kernel)
set_option maxRecDepth 20000 in
theorem gX2_digestSights_X2_mix : GoodIn wsX2_digestSights (va_wsS RX2 191 yX2_mix wsX2_mix) := goodIn_app (goodIn_of _ (by decide +kernel)) ggX2_digestSights_X2_mix
set_option maxRecDepth 20000 in
theorem ggX2_digestSights_X1_sees : GoodIn wsX2_digestSights wsX1_sees := goodIn_r _ [17, 18, 4, 5, 6, 7, 8, 19, 20, 21, 22, 23, 29, 30, 31, 32, 33, 34, 35, 36, 37] (by decide +kernel) (by decide +kernel)
set_option maxRecDepth 20000 in
theorem gX2_digestSights_X1_sees : GoodIn wsX2_digestSights (wsV RX2 111 RX1 yX1_sees wsX1_sees) := goodIn_app (goodIn_of _ (by decide +kernel)) ggX2_digestSights_X1_sees
set_option maxRecDepth 20000 in
theorem ggX2_digestSights_X2_mixIf : GoodIn wsX2_digestSights wsX2_mixIf := goodIn_r _ [26, 9, 10, 11, 12, 13] (by decide +kernel) (by decide +kernel)
set_option maxRecDepth 20000 in
theorem gX2_digestSights_X2_mixIf : GoodIn wsX2_digestSights (va_wsS RX2 199 yX2_mixIf wsX2_mixIf) := goodIn_app (goodIn_of _ (by decide +kernel)) ggX2_digestSights_X2_mixIf
theorem dX2_digestSights_0 : decode cX2_digestSights 0 = .ok (.lload_n 1, 1) := by decide +kernel
theorem dX2_digestSights_1 : decode cX2_digestSights 1 = .ok (.lstore_n 3, 1) := by decide +kernel
theorem dX2_digestSights_2 : decode cX2_digestSights 2 = .ok (.iconst 0, 1) := by decide +kernel
theorem dX2_digestSights_3 : decode cX2_digestSights 3 = .ok (.istore 5, 2) := by decide +kernel
theorem dX2_digestSights_5 : decode cX2_digestSights 5 = .ok (.iload 5, 2) := by decide +kernel
theorem dX2_digestSights_7 : decode cX2_digestSights 7 = .ok (.aload_n 0, 1) := by decide +kernel
theorem dX2_digestSights_8 : decode cX2_digestSights 8 = .ok (.getfield 10, 3) := by decide +kernel
theorem dX2_digestSights_11 : decode cX2_digestSights 11 = .ok (.getfield 23, 3) := by decide +kernel
theorem dX2_digestSights_14 : decode cX2_digestSights 14 = .ok (.if_icmp .ge 63, 3) := by decide +kernel
theorem dX2_digestSights_17 : decode cX2_digestSights 17 = .ok (.iconst 0, 1) := by decide +kernel
theorem dX2_digestSights_18 : decode cX2_digestSights 18 = .ok (.istore 6, 2) := by decide +kernel
theorem dX2_digestSights_20 : decode cX2_digestSights 20 = .ok (.iload 6, 2) := by decide +kernel
theorem dX2_digestSights_22 : decode cX2_digestSights 22 = .ok (.aload_n 0, 1) := by decide +kernel
theorem dX2_digestSights_23 : decode cX2_digestSights 23 = .ok (.getfield 10, 3) := by decide +kernel
theorem dX2_digestSights_26 : decode cX2_digestSights 26 = .ok (.getfield 23, 3) := by decide +kernel
theorem dX2_digestSights_29 : decode cX2_digestSights 29 = .ok (.if_icmp .ge 42, 3) := by decide +kernel
theorem dX2_digestSights_32 : decode cX2_digestSights 32 = .ok (.lload_n 3, 1) := by decide +kernel
theorem dX2_digestSights_33 : decode cX2_digestSights 33 = .ok (.aload_n 0, 1) := by decide +kernel
theorem dX2_digestSights_34 : decode cX2_digestSights 34 = .ok (.getfield 10, 3) := by decide +kernel
theorem dX2_digestSights_37 : decode cX2_digestSights 37 = .ok (.iload 5, 2) := by decide +kernel
theorem dX2_digestSights_39 : decode cX2_digestSights 39 = .ok (.iload 6, 2) := by decide +kernel
theorem dX2_digestSights_41 : decode cX2_digestSights 41 = .ok (.invokevirtual 47, 3) := by decide +kernel
theorem dX2_digestSights_44 : decode cX2_digestSights 44 = .ok (.i2l, 1) := by decide +kernel
theorem dX2_digestSights_45 : decode cX2_digestSights 45 = .ok (.invokestatic 191, 3) := by decide +kernel
theorem dX2_digestSights_48 : decode cX2_digestSights 48 = .ok (.lstore_n 3, 1) := by decide +kernel
theorem dX2_digestSights_49 : decode cX2_digestSights 49 = .ok (.lload_n 3, 1) := by decide +kernel
theorem dX2_digestSights_50 : decode cX2_digestSights 50 = .ok (.aload_n 0, 1) := by decide +kernel
theorem dX2_digestSights_51 : decode cX2_digestSights 51 = .ok (.getfield 10, 3) := by decide +kernel
theorem dX2_digestSights_54 : decode cX2_digestSights 54 = .ok (.iload 5, 2) := by decide +kernel
theorem dX2_digestSights_56 : decode cX2_digestSights 56 = .ok (.iload 6, 2) := by decide +kernel
theorem dX2_digestSights_58 : decode cX2_digestSights 58 = .ok (.invokevirtual 111, 3) := by decide +kernel
theorem dX2_digestSights_61 : decode cX2_digestSights 61 = .ok (.invokestatic 199, 3) := by decide +kernel
theorem dX2_digestSights_64 : decode cX2_digestSights 64 = .ok (.lstore_n 3, 1) := by decide +kernel
theorem dX2_digestSights_65 : decode cX2_digestSights 65 = .ok (.iinc 6 1, 3) := by decide +kernel
theorem dX2_digestSights_68 : decode cX2_digestSights 68 = .ok (.goto (-48), 3) := by decide +kernel
theorem dX2_digestSights_71 : decode cX2_digestSights 71 = .ok (.iinc 5 1, 3) := by decide +kernel
theorem dX2_digestSights_74 : decode cX2_digestSights 74 = .ok (.goto (-69), 3) := by decide +kernel
theorem dX2_digestSights_77 : decode cX2_digestSights 77 = .ok (.lload_n 3, 1) := by decide +kernel
theorem dX2_digestSights_78 : decode cX2_digestSights 78 = .ok (.lreturn, 1) := by decide +kernel
