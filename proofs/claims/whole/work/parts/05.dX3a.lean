theorem dX3_init_0 : decode cX3_init 0 = .ok (.aload_n 0, 1) := by decide +kernel
theorem dX3_init_1 : decode cX3_init 1 = .ok (.invokespecial 1, 3) := by decide +kernel
theorem dX3_init_4 : decode cX3_init 4 = .ok (.aload_n 0, 1) := by decide +kernel
theorem dX3_init_5 : decode cX3_init 5 = .ok (.bipush 10, 2) := by decide +kernel
theorem dX3_init_7 : decode cX3_init 7 = .ok (.newarray .int, 2) := by decide +kernel
theorem dX3_init_9 : decode cX3_init 9 = .ok (.putfield 9, 3) := by decide +kernel
theorem dX3_init_12 : decode cX3_init 12 = .ok (.aload_n 0, 1) := by decide +kernel
theorem dX3_init_13 : decode cX3_init 13 = .ok (.bipush 10, 2) := by decide +kernel
theorem dX3_init_15 : decode cX3_init 15 = .ok (.newarray .boolean, 2) := by decide +kernel
theorem dX3_init_17 : decode cX3_init 17 = .ok (.putfield 13, 3) := by decide +kernel
theorem dX3_init_20 : decode cX3_init 20 = .ok (.aload_n 0, 1) := by decide +kernel
theorem dX3_init_21 : decode cX3_init 21 = .ok (.bipush 10, 2) := by decide +kernel
theorem dX3_init_23 : decode cX3_init 23 = .ok (.newarray .boolean, 2) := by decide +kernel
theorem dX3_init_25 : decode cX3_init 25 = .ok (.putfield 17, 3) := by decide +kernel
theorem dX3_init_28 : decode cX3_init 28 = .ok (.aload_n 0, 1) := by decide +kernel
theorem dX3_init_29 : decode cX3_init 29 = .ok (.bipush 100, 2) := by decide +kernel
theorem dX3_init_31 : decode cX3_init 31 = .ok (.newarray .int, 2) := by decide +kernel
theorem dX3_init_33 : decode cX3_init 33 = .ok (.putfield 20, 3) := by decide +kernel
theorem dX3_init_36 : decode cX3_init 36 = .ok (.aload_n 0, 1) := by decide +kernel
theorem dX3_init_37 : decode cX3_init 37 = .ok (.bipush 75, 2) := by decide +kernel
theorem dX3_init_39 : decode cX3_init 39 = .ok (.newarray .int, 2) := by decide +kernel
theorem dX3_init_41 : decode cX3_init 41 = .ok (.putfield 23, 3) := by decide +kernel
theorem dX3_init_44 : decode cX3_init 44 = .ok (.aload_n 0, 1) := by decide +kernel
theorem dX3_init_45 : decode cX3_init 45 = .ok (.bipush 75, 2) := by decide +kernel
theorem dX3_init_47 : decode cX3_init 47 = .ok (.newarray .int, 2) := by decide +kernel
theorem dX3_init_49 : decode cX3_init 49 = .ok (.putfield 26, 3) := by decide +kernel
theorem dX3_init_52 : decode cX3_init 52 = .ok (.aload_n 0, 1) := by decide +kernel
theorem dX3_init_53 : decode cX3_init 53 = .ok (.bipush 10, 2) := by decide +kernel
theorem dX3_init_55 : decode cX3_init 55 = .ok (.newarray .int, 2) := by decide +kernel
theorem dX3_init_57 : decode cX3_init 57 = .ok (.putfield 29, 3) := by decide +kernel
theorem dX3_init_60 : decode cX3_init 60 = .ok (.aload_n 0, 1) := by decide +kernel
theorem dX3_init_61 : decode cX3_init 61 = .ok (.bipush 10, 2) := by decide +kernel
theorem dX3_init_63 : decode cX3_init 63 = .ok (.newarray .int, 2) := by decide +kernel
theorem dX3_init_65 : decode cX3_init 65 = .ok (.putfield 32, 3) := by decide +kernel
theorem dX3_init_68 : decode cX3_init 68 = .ok (.aload_n 0, 1) := by decide +kernel
theorem dX3_init_69 : decode cX3_init 69 = .ok (.bipush 10, 2) := by decide +kernel
theorem dX3_init_71 : decode cX3_init 71 = .ok (.newarray .int, 2) := by decide +kernel
theorem dX3_init_73 : decode cX3_init 73 = .ok (.putfield 35, 3) := by decide +kernel
theorem dX3_init_76 : decode cX3_init 76 = .ok (.return_, 1) := by decide +kernel
theorem dX3_thrown_0 : decode cX3_thrown 0 = .ok (.aload_n 0, 1) := by decide +kernel
theorem dX3_thrown_1 : decode cX3_thrown 1 = .ok (.getfield 38, 3) := by decide +kernel
theorem dX3_thrown_4 : decode cX3_thrown 4 = .ok (.ireturn, 1) := by decide +kernel
theorem dX3_fail_0 : decode cX3_fail 0 = .ok (.aload_n 0, 1) := by decide +kernel
theorem dX3_fail_1 : decode cX3_fail 1 = .ok (.iload_n 1, 1) := by decide +kernel
theorem dX3_fail_2 : decode cX3_fail 2 = .ok (.putfield 38, 3) := by decide +kernel
theorem dX3_fail_5 : decode cX3_fail 5 = .ok (.iconst 0, 1) := by decide +kernel
theorem dX3_fail_6 : decode cX3_fail 6 = .ok (.ireturn, 1) := by decide +kernel
theorem dX3_failed_0 : decode cX3_failed 0 = .ok (.aload_n 0, 1) := by decide +kernel
theorem dX3_failed_1 : decode cX3_failed 1 = .ok (.iload_n 1, 1) := by decide +kernel
theorem dX3_failed_2 : decode cX3_failed 2 = .ok (.putfield 38, 3) := by decide +kernel
theorem dX3_failed_5 : decode cX3_failed 5 = .ok (.iconst 0, 1) := by decide +kernel
theorem dX3_failed_6 : decode cX3_failed 6 = .ok (.ireturn, 1) := by decide +kernel
theorem dX3_isIn_0 : decode cX3_isIn 0 = .ok (.iload_n 0, 1) := by decide +kernel
theorem dX3_isIn_1 : decode cX3_isIn 1 = .ok (.iload_n 1, 1) := by decide +kernel
theorem dX3_isIn_2 : decode cX3_isIn 2 = .ok (.if_icmp .lt 12, 3) := by decide +kernel
theorem dX3_isIn_5 : decode cX3_isIn 5 = .ok (.iload_n 0, 1) := by decide +kernel
theorem dX3_isIn_6 : decode cX3_isIn 6 = .ok (.iload_n 2, 1) := by decide +kernel
theorem dX3_isIn_7 : decode cX3_isIn 7 = .ok (.if_icmp .gt 7, 3) := by decide +kernel
theorem dX3_isIn_10 : decode cX3_isIn 10 = .ok (.iconst 1, 1) := by decide +kernel
theorem dX3_isIn_11 : decode cX3_isIn 11 = .ok (.goto 4, 3) := by decide +kernel
theorem dX3_isIn_14 : decode cX3_isIn 14 = .ok (.iconst 0, 1) := by decide +kernel
theorem dX3_isIn_15 : decode cX3_isIn 15 = .ok (.ireturn, 1) := by decide +kernel
set_option maxRecDepth 20000 in
theorem ggX3_isHill_X3_isIn : GoodIn wsX3_isHill wsX3_isIn := goodIn_r _ [5] (by decide +kernel) (by decide +kernel)
set_option maxRecDepth 20000 in
theorem gX3_isHill_X3_isIn : GoodIn wsX3_isHill (va_wsS RX3 45 yX3_isIn wsX3_isIn) := goodIn_app (goodIn_of _ (by decide +kernel)) ggX3_isHill_X3_isIn
theorem dX3_isHill_0 : decode cX3_isHill 0 = .ok (.iload_n 1, 1) := by decide +kernel
theorem dX3_isHill_1 : decode cX3_isHill 1 = .ok (.iconst 0, 1) := by decide +kernel
theorem dX3_isHill_2 : decode cX3_isHill 2 = .ok (.aload_n 0, 1) := by decide +kernel
theorem dX3_isHill_3 : decode cX3_isHill 3 = .ok (.getfield 42, 3) := by decide +kernel
theorem dX3_isHill_6 : decode cX3_isHill 6 = .ok (.iconst 1, 1) := by decide +kernel
theorem dX3_isHill_7 : decode cX3_isHill 7 = .ok (.isub, 1) := by decide +kernel
theorem dX3_isHill_8 : decode cX3_isHill 8 = .ok (.invokestatic 45, 3) := by decide +kernel
theorem dX3_isHill_11 : decode cX3_isHill 11 = .ok (.ireturn, 1) := by decide +kernel
theorem dX3_hi_0 : decode cX3_hi 0 = .ok (.aload_n 0, 1) := by decide +kernel
theorem dX3_hi_1 : decode cX3_hi 1 = .ok (.getfield 23, 3) := by decide +kernel
theorem dX3_hi_4 : decode cX3_hi 4 = .ok (.iconst 5, 1) := by decide +kernel
theorem dX3_hi_5 : decode cX3_hi 5 = .ok (.bipush 7, 2) := by decide +kernel
theorem dX3_hi_7 : decode cX3_hi 7 = .ok (.iload_n 1, 1) := by decide +kernel
theorem dX3_hi_8 : decode cX3_hi 8 = .ok (.imul, 1) := by decide +kernel
theorem dX3_hi_9 : decode cX3_hi 9 = .ok (.iadd, 1) := by decide +kernel
theorem dX3_hi_10 : decode cX3_hi 10 = .ok (.iload_n 2, 1) := by decide +kernel
theorem dX3_hi_11 : decode cX3_hi 11 = .ok (.iadd, 1) := by decide +kernel
theorem dX3_hi_12 : decode cX3_hi 12 = .ok (.iaload, 1) := by decide +kernel
theorem dX3_hi_13 : decode cX3_hi 13 = .ok (.ireturn, 1) := by decide +kernel
theorem dX3_let_0 : decode cX3_let 0 = .ok (.aload_n 0, 1) := by decide +kernel
theorem dX3_let_1 : decode cX3_let 1 = .ok (.getfield 23, 3) := by decide +kernel
theorem dX3_let_4 : decode cX3_let 4 = .ok (.iconst 5, 1) := by decide +kernel
theorem dX3_let_5 : decode cX3_let 5 = .ok (.bipush 7, 2) := by decide +kernel
theorem dX3_let_7 : decode cX3_let 7 = .ok (.iload_n 1, 1) := by decide +kernel
theorem dX3_let_8 : decode cX3_let 8 = .ok (.imul, 1) := by decide +kernel
theorem dX3_let_9 : decode cX3_let 9 = .ok (.iadd, 1) := by decide +kernel
theorem dX3_let_10 : decode cX3_let 10 = .ok (.iload_n 2, 1) := by decide +kernel
theorem dX3_let_11 : decode cX3_let 11 = .ok (.iadd, 1) := by decide +kernel
theorem dX3_let_12 : decode cX3_let 12 = .ok (.iload_n 3, 1) := by decide +kernel
theorem dX3_let_13 : decode cX3_let 13 = .ok (.iastore, 1) := by decide +kernel
theorem dX3_let_14 : decode cX3_let 14 = .ok (.return_, 1) := by decide +kernel
theorem dX3_keep_0 : decode cX3_keep 0 = .ok (.aload_n 0, 1) := by decide +kernel
theorem dX3_keep_1 : decode cX3_keep 1 = .ok (.getfield 23, 3) := by decide +kernel
theorem dX3_keep_4 : decode cX3_keep 4 = .ok (.iconst 0, 1) := by decide +kernel
theorem dX3_keep_5 : decode cX3_keep 5 = .ok (.aload_n 0, 1) := by decide +kernel
theorem dX3_keep_6 : decode cX3_keep 6 = .ok (.getfield 26, 3) := by decide +kernel
theorem dX3_keep_9 : decode cX3_keep 9 = .ok (.iconst 0, 1) := by decide +kernel
theorem dX3_keep_10 : decode cX3_keep 10 = .ok (.bipush 75, 2) := by decide +kernel
theorem dX3_keep_12 : decode cX3_keep 12 = .ok (.invokestatic 49, 3) := by decide +kernel
theorem dX3_keep_15 : decode cX3_keep 15 = .ok (.return_, 1) := by decide +kernel
theorem dX3_bringBack_0 : decode cX3_bringBack 0 = .ok (.aload_n 0, 1) := by decide +kernel
theorem dX3_bringBack_1 : decode cX3_bringBack 1 = .ok (.getfield 26, 3) := by decide +kernel
theorem dX3_bringBack_4 : decode cX3_bringBack 4 = .ok (.iconst 0, 1) := by decide +kernel
theorem dX3_bringBack_5 : decode cX3_bringBack 5 = .ok (.aload_n 0, 1) := by decide +kernel
theorem dX3_bringBack_6 : decode cX3_bringBack 6 = .ok (.getfield 23, 3) := by decide +kernel
theorem dX3_bringBack_9 : decode cX3_bringBack 9 = .ok (.iconst 0, 1) := by decide +kernel
theorem dX3_bringBack_10 : decode cX3_bringBack 10 = .ok (.bipush 75, 2) := by decide +kernel
theorem dX3_bringBack_12 : decode cX3_bringBack 12 = .ok (.invokestatic 49, 3) := by decide +kernel
theorem dX3_bringBack_15 : decode cX3_bringBack 15 = .ok (.return_, 1) := by decide +kernel
theorem dX3_sees_0 : decode cX3_sees 0 = .ok (.aload_n 0, 1) := by decide +kernel
theorem dX3_sees_1 : decode cX3_sees 1 = .ok (.getfield 20, 3) := by decide +kernel
theorem dX3_sees_4 : decode cX3_sees 4 = .ok (.bipush 10, 2) := by decide +kernel
theorem dX3_sees_6 : decode cX3_sees 6 = .ok (.iload_n 1, 1) := by decide +kernel
theorem dX3_sees_7 : decode cX3_sees 7 = .ok (.imul, 1) := by decide +kernel
theorem dX3_sees_8 : decode cX3_sees 8 = .ok (.iload_n 2, 1) := by decide +kernel
theorem dX3_sees_9 : decode cX3_sees 9 = .ok (.iadd, 1) := by decide +kernel
theorem dX3_sees_10 : decode cX3_sees 10 = .ok (.iaload, 1) := by decide +kernel
theorem dX3_sees_11 : decode cX3_sees 11 = .ok (.istore_n 3, 1) := by decide +kernel
theorem dX3_sees_12 : decode cX3_sees 12 = .ok (.iload_n 3, 1) := by decide +kernel
theorem dX3_sees_13 : decode cX3_sees 13 = .ok (.ifCond .le 22, 3) := by decide +kernel
theorem dX3_sees_16 : decode cX3_sees 16 = .ok (.iload_n 3, 1) := by decide +kernel
theorem dX3_sees_17 : decode cX3_sees 17 = .ok (.bipush 20, 2) := by decide +kernel
theorem dX3_sees_19 : decode cX3_sees 19 = .ok (.iconst 2, 1) := by decide +kernel
theorem dX3_sees_20 : decode cX3_sees 20 = .ok (.aload_n 0, 1) := by decide +kernel
theorem dX3_sees_21 : decode cX3_sees 21 = .ok (.getfield 23, 3) := by decide +kernel
theorem dX3_sees_24 : decode cX3_sees 24 = .ok (.iconst 4, 1) := by decide +kernel
theorem dX3_sees_25 : decode cX3_sees 25 = .ok (.iaload, 1) := by decide +kernel
theorem dX3_sees_26 : decode cX3_sees 26 = .ok (.imul, 1) := by decide +kernel
theorem dX3_sees_27 : decode cX3_sees 27 = .ok (.isub, 1) := by decide +kernel
theorem dX3_sees_28 : decode cX3_sees 28 = .ok (.if_icmp .gt 7, 3) := by decide +kernel
theorem dX3_sees_31 : decode cX3_sees 31 = .ok (.iconst 1, 1) := by decide +kernel
theorem dX3_sees_32 : decode cX3_sees 32 = .ok (.goto 4, 3) := by decide +kernel
theorem dX3_sees_35 : decode cX3_sees 35 = .ok (.iconst 0, 1) := by decide +kernel
theorem dX3_sees_36 : decode cX3_sees 36 = .ok (.ireturn, 1) := by decide +kernel
set_option maxRecDepth 20000 in
theorem ggX3_nearest_X3_sees : GoodIn wsX3_nearest wsX3_sees := goodIn_r _ [8, 3, 9, 10, 11, 12, 13, 14, 15, 16, 17, 18, 19, 20] (by decide +kernel) (by decide +kernel)
set_option maxRecDepth 20000 in
theorem gX3_nearest_X3_sees : GoodIn wsX3_nearest (wsV RX3 55 RX3 yX3_sees wsX3_sees) := goodIn_app (goodIn_of _ (by decide +kernel)) ggX3_nearest_X3_sees
theorem dX3_nearest_0 : decode cX3_nearest 0 = .ok (.iconst (-1), 1) := by decide +kernel
theorem dX3_nearest_1 : decode cX3_nearest 1 = .ok (.istore_n 2, 1) := by decide +kernel
theorem dX3_nearest_2 : decode cX3_nearest 2 = .ok (.iconst 0, 1) := by decide +kernel
theorem dX3_nearest_3 : decode cX3_nearest 3 = .ok (.istore_n 3, 1) := by decide +kernel
theorem dX3_nearest_4 : decode cX3_nearest 4 = .ok (.iload_n 3, 1) := by decide +kernel
theorem dX3_nearest_5 : decode cX3_nearest 5 = .ok (.aload_n 0, 1) := by decide +kernel
theorem dX3_nearest_6 : decode cX3_nearest 6 = .ok (.getfield 42, 3) := by decide +kernel
theorem dX3_nearest_9 : decode cX3_nearest 9 = .ok (.if_icmp .ge 63, 3) := by decide +kernel
theorem dX3_nearest_12 : decode cX3_nearest 12 = .ok (.aload_n 0, 1) := by decide +kernel
theorem dX3_nearest_13 : decode cX3_nearest 13 = .ok (.getfield 29, 3) := by decide +kernel
theorem dX3_nearest_16 : decode cX3_nearest 16 = .ok (.iload_n 3, 1) := by decide +kernel
theorem dX3_nearest_17 : decode cX3_nearest 17 = .ok (.iaload, 1) := by decide +kernel
theorem dX3_nearest_18 : decode cX3_nearest 18 = .ok (.iconst 2, 1) := by decide +kernel
theorem dX3_nearest_19 : decode cX3_nearest 19 = .ok (.if_icmp .ne 47, 3) := by decide +kernel
theorem dX3_nearest_22 : decode cX3_nearest 22 = .ok (.aload_n 0, 1) := by decide +kernel
theorem dX3_nearest_23 : decode cX3_nearest 23 = .ok (.iload_n 1, 1) := by decide +kernel
theorem dX3_nearest_24 : decode cX3_nearest 24 = .ok (.iload_n 3, 1) := by decide +kernel
theorem dX3_nearest_25 : decode cX3_nearest 25 = .ok (.invokevirtual 55, 3) := by decide +kernel
theorem dX3_nearest_28 : decode cX3_nearest 28 = .ok (.ifCond .ne 6, 3) := by decide +kernel
theorem dX3_nearest_31 : decode cX3_nearest 31 = .ok (.goto 35, 3) := by decide +kernel
theorem dX3_nearest_34 : decode cX3_nearest 34 = .ok (.iload_n 2, 1) := by decide +kernel
theorem dX3_nearest_35 : decode cX3_nearest 35 = .ok (.iconst (-1), 1) := by decide +kernel
theorem dX3_nearest_36 : decode cX3_nearest 36 = .ok (.if_icmp .eq 28, 3) := by decide +kernel
theorem dX3_nearest_39 : decode cX3_nearest 39 = .ok (.aload_n 0, 1) := by decide +kernel
theorem dX3_nearest_40 : decode cX3_nearest 40 = .ok (.getfield 20, 3) := by decide +kernel
theorem dX3_nearest_43 : decode cX3_nearest 43 = .ok (.bipush 10, 2) := by decide +kernel
theorem dX3_nearest_45 : decode cX3_nearest 45 = .ok (.iload_n 1, 1) := by decide +kernel
theorem dX3_nearest_46 : decode cX3_nearest 46 = .ok (.imul, 1) := by decide +kernel
theorem dX3_nearest_47 : decode cX3_nearest 47 = .ok (.iload_n 3, 1) := by decide +kernel
theorem dX3_nearest_48 : decode cX3_nearest 48 = .ok (.iadd, 1) := by decide +kernel
theorem dX3_nearest_49 : decode cX3_nearest 49 = .ok (.iaload, 1) := by decide +kernel
theorem dX3_nearest_50 : decode cX3_nearest 50 = .ok (.aload_n 0, 1) := by decide +kernel
theorem dX3_nearest_51 : decode cX3_nearest 51 = .ok (.getfield 20, 3) := by decide +kernel
theorem dX3_nearest_54 : decode cX3_nearest 54 = .ok (.bipush 10, 2) := by decide +kernel
theorem dX3_nearest_56 : decode cX3_nearest 56 = .ok (.iload_n 1, 1) := by decide +kernel
theorem dX3_nearest_57 : decode cX3_nearest 57 = .ok (.imul, 1) := by decide +kernel
theorem dX3_nearest_58 : decode cX3_nearest 58 = .ok (.iload_n 2, 1) := by decide +kernel
theorem dX3_nearest_59 : decode cX3_nearest 59 = .ok (.iadd, 1) := by decide +kernel
theorem dX3_nearest_60 : decode cX3_nearest 60 = .ok (.iaload, 1) := by decide +kernel
theorem dX3_nearest_61 : decode cX3_nearest 61 = .ok (.if_icmp .ge 5, 3) := by decide +kernel
theorem dX3_nearest_64 : decode cX3_nearest 64 = .ok (.iload_n 3, 1) := by decide +kernel
theorem dX3_nearest_65 : decode cX3_nearest 65 = .ok (.istore_n 2, 1) := by decide +kernel
theorem dX3_nearest_66 : decode cX3_nearest 66 = .ok (.iinc 3 1, 3) := by decide +kernel
theorem dX3_nearest_69 : decode cX3_nearest 69 = .ok (.goto (-65), 3) := by decide +kernel
theorem dX3_nearest_72 : decode cX3_nearest 72 = .ok (.iload_n 2, 1) := by decide +kernel
theorem dX3_nearest_73 : decode cX3_nearest 73 = .ok (.ireturn, 1) := by decide +kernel
set_option maxRecDepth 20000 in
theorem ggX3_kindle_X3_hi : GoodIn wsX3_kindle wsX3_hi := goodIn_r _ [6, 1, 11, 12, 13, 14, 15, 16, 17, 18, 19, 20, 21] (by decide +kernel) (by decide +kernel)
set_option maxRecDepth 20000 in
theorem gX3_kindle_X3_hi : GoodIn wsX3_kindle (wsV RX3 59 RX3 yX3_hi wsX3_hi) := goodIn_app (goodIn_of _ (by decide +kernel)) ggX3_kindle_X3_hi
set_option maxRecDepth 20000 in
theorem ggX3_kindle_X3_let : GoodIn wsX3_kindle wsX3_let := goodIn_r _ [10, 1, 11, 12, 13, 14, 15, 16, 17, 18, 19, 20, 21] (by decide +kernel) (by decide +kernel)
set_option maxRecDepth 20000 in
theorem gX3_kindle_X3_let : GoodIn wsX3_kindle (wsV RX3 63 RX3 yX3_let wsX3_let) := goodIn_app (goodIn_of _ (by decide +kernel)) ggX3_kindle_X3_let
theorem dX3_kindle_0 : decode cX3_kindle 0 = .ok (.aload_n 0, 1) := by decide +kernel
theorem dX3_kindle_1 : decode cX3_kindle 1 = .ok (.iload_n 1, 1) := by decide +kernel
theorem dX3_kindle_2 : decode cX3_kindle 2 = .ok (.iconst 0, 1) := by decide +kernel
theorem dX3_kindle_3 : decode cX3_kindle 3 = .ok (.aload_n 0, 1) := by decide +kernel
theorem dX3_kindle_4 : decode cX3_kindle 4 = .ok (.iload_n 1, 1) := by decide +kernel
theorem dX3_kindle_5 : decode cX3_kindle 5 = .ok (.iconst 0, 1) := by decide +kernel
theorem dX3_kindle_6 : decode cX3_kindle 6 = .ok (.invokevirtual 59, 3) := by decide +kernel
theorem dX3_kindle_9 : decode cX3_kindle 9 = .ok (.iconst 1, 1) := by decide +kernel
theorem dX3_kindle_10 : decode cX3_kindle 10 = .ok (.isub, 1) := by decide +kernel
theorem dX3_kindle_11 : decode cX3_kindle 11 = .ok (.invokevirtual 63, 3) := by decide +kernel
theorem dX3_kindle_14 : decode cX3_kindle 14 = .ok (.aload_n 0, 1) := by decide +kernel
theorem dX3_kindle_15 : decode cX3_kindle 15 = .ok (.iload_n 1, 1) := by decide +kernel
theorem dX3_kindle_16 : decode cX3_kindle 16 = .ok (.iconst 3, 1) := by decide +kernel
theorem dX3_kindle_17 : decode cX3_kindle 17 = .ok (.iconst 0, 1) := by decide +kernel
theorem dX3_kindle_18 : decode cX3_kindle 18 = .ok (.invokevirtual 63, 3) := by decide +kernel
theorem dX3_kindle_21 : decode cX3_kindle 21 = .ok (.aload_n 0, 1) := by decide +kernel
theorem dX3_kindle_22 : decode cX3_kindle 22 = .ok (.iload_n 1, 1) := by decide +kernel
theorem dX3_kindle_23 : decode cX3_kindle 23 = .ok (.iconst 1, 1) := by decide +kernel
theorem dX3_kindle_24 : decode cX3_kindle 24 = .ok (.iconst 1, 1) := by decide +kernel
theorem dX3_kindle_25 : decode cX3_kindle 25 = .ok (.invokevirtual 63, 3) := by decide +kernel
theorem dX3_kindle_28 : decode cX3_kindle 28 = .ok (.aload_n 0, 1) := by decide +kernel
theorem dX3_kindle_29 : decode cX3_kindle 29 = .ok (.iload_n 1, 1) := by decide +kernel
theorem dX3_kindle_30 : decode cX3_kindle 30 = .ok (.iconst 2, 1) := by decide +kernel
theorem dX3_kindle_31 : decode cX3_kindle 31 = .ok (.aload_n 0, 1) := by decide +kernel
theorem dX3_kindle_32 : decode cX3_kindle 32 = .ok (.iload_n 1, 1) := by decide +kernel
theorem dX3_kindle_33 : decode cX3_kindle 33 = .ok (.bipush 6, 2) := by decide +kernel
theorem dX3_kindle_35 : decode cX3_kindle 35 = .ok (.invokevirtual 59, 3) := by decide +kernel
theorem dX3_kindle_38 : decode cX3_kindle 38 = .ok (.iconst 1, 1) := by decide +kernel
theorem dX3_kindle_39 : decode cX3_kindle 39 = .ok (.iadd, 1) := by decide +kernel
theorem dX3_kindle_40 : decode cX3_kindle 40 = .ok (.invokevirtual 63, 3) := by decide +kernel
theorem dX3_kindle_43 : decode cX3_kindle 43 = .ok (.aload_n 0, 1) := by decide +kernel
theorem dX3_kindle_44 : decode cX3_kindle 44 = .ok (.iload_n 1, 1) := by decide +kernel
theorem dX3_kindle_45 : decode cX3_kindle 45 = .ok (.iconst 4, 1) := by decide +kernel
theorem dX3_kindle_46 : decode cX3_kindle 46 = .ok (.iload_n 2, 1) := by decide +kernel
theorem dX3_kindle_47 : decode cX3_kindle 47 = .ok (.invokevirtual 63, 3) := by decide +kernel
theorem dX3_kindle_50 : decode cX3_kindle 50 = .ok (.aload_n 0, 1) := by decide +kernel
theorem dX3_kindle_51 : decode cX3_kindle 51 = .ok (.getfield 23, 3) := by decide +kernel
theorem dX3_kindle_54 : decode cX3_kindle 54 = .ok (.iconst 2, 1) := by decide +kernel
theorem dX3_kindle_55 : decode cX3_kindle 55 = .ok (.dup2, 1) := by decide +kernel
theorem dX3_kindle_56 : decode cX3_kindle 56 = .ok (.iaload, 1) := by decide +kernel
theorem dX3_kindle_57 : decode cX3_kindle 57 = .ok (.iconst 1, 1) := by decide +kernel
theorem dX3_kindle_58 : decode cX3_kindle 58 = .ok (.iadd, 1) := by decide +kernel
theorem dX3_kindle_59 : decode cX3_kindle 59 = .ok (.iastore, 1) := by decide +kernel
theorem dX3_kindle_60 : decode cX3_kindle 60 = .ok (.aload_n 0, 1) := by decide +kernel
theorem dX3_kindle_61 : decode cX3_kindle 61 = .ok (.getfield 23, 3) := by decide +kernel
theorem dX3_kindle_64 : decode cX3_kindle 64 = .ok (.iconst 3, 1) := by decide +kernel
theorem dX3_kindle_65 : decode cX3_kindle 65 = .ok (.dup2, 1) := by decide +kernel
theorem dX3_kindle_66 : decode cX3_kindle 66 = .ok (.iaload, 1) := by decide +kernel
theorem dX3_kindle_67 : decode cX3_kindle 67 = .ok (.iload_n 2, 1) := by decide +kernel
theorem dX3_kindle_68 : decode cX3_kindle 68 = .ok (.iconst (-1), 1) := by decide +kernel
theorem dX3_kindle_69 : decode cX3_kindle 69 = .ok (.if_icmp .ne 7, 3) := by decide +kernel
theorem dX3_kindle_72 : decode cX3_kindle 72 = .ok (.iconst 1, 1) := by decide +kernel
theorem dX3_kindle_73 : decode cX3_kindle 73 = .ok (.goto 4, 3) := by decide +kernel
theorem dX3_kindle_76 : decode cX3_kindle 76 = .ok (.iconst 0, 1) := by decide +kernel
theorem dX3_kindle_77 : decode cX3_kindle 77 = .ok (.iadd, 1) := by decide +kernel
theorem dX3_kindle_78 : decode cX3_kindle 78 = .ok (.iastore, 1) := by decide +kernel
theorem dX3_kindle_79 : decode cX3_kindle 79 = .ok (.aload_n 0, 1) := by decide +kernel
theorem dX3_kindle_80 : decode cX3_kindle 80 = .ok (.iload_n 1, 1) := by decide +kernel
theorem dX3_kindle_81 : decode cX3_kindle 81 = .ok (.iconst 2, 1) := by decide +kernel
theorem dX3_kindle_82 : decode cX3_kindle 82 = .ok (.invokevirtual 59, 3) := by decide +kernel
theorem dX3_kindle_85 : decode cX3_kindle 85 = .ok (.ireturn, 1) := by decide +kernel
set_option maxRecDepth 20000 in
theorem ggX3_dark_X3_let : GoodIn wsX3_dark wsX3_let := goodIn_r _ [5, 6, 7, 8, 9, 10, 11, 12, 13, 14, 15, 16, 17] (by decide +kernel) (by decide +kernel)
set_option maxRecDepth 20000 in
theorem gX3_dark_X3_let : GoodIn wsX3_dark (wsV RX3 63 RX3 yX3_let wsX3_let) := goodIn_app (goodIn_of _ (by decide +kernel)) ggX3_dark_X3_let
theorem dX3_dark_0 : decode cX3_dark 0 = .ok (.aload_n 0, 1) := by decide +kernel
theorem dX3_dark_1 : decode cX3_dark 1 = .ok (.iload_n 1, 1) := by decide +kernel
theorem dX3_dark_2 : decode cX3_dark 2 = .ok (.iconst 1, 1) := by decide +kernel
theorem dX3_dark_3 : decode cX3_dark 3 = .ok (.iconst 0, 1) := by decide +kernel
theorem dX3_dark_4 : decode cX3_dark 4 = .ok (.invokevirtual 63, 3) := by decide +kernel
theorem dX3_dark_7 : decode cX3_dark 7 = .ok (.aload_n 0, 1) := by decide +kernel
theorem dX3_dark_8 : decode cX3_dark 8 = .ok (.iload_n 1, 1) := by decide +kernel
theorem dX3_dark_9 : decode cX3_dark 9 = .ok (.iconst 2, 1) := by decide +kernel
theorem dX3_dark_10 : decode cX3_dark 10 = .ok (.iconst 0, 1) := by decide +kernel
theorem dX3_dark_11 : decode cX3_dark 11 = .ok (.invokevirtual 63, 3) := by decide +kernel
theorem dX3_dark_14 : decode cX3_dark 14 = .ok (.aload_n 0, 1) := by decide +kernel
theorem dX3_dark_15 : decode cX3_dark 15 = .ok (.iload_n 1, 1) := by decide +kernel
theorem dX3_dark_16 : decode cX3_dark 16 = .ok (.iconst 4, 1) := by decide +kernel
theorem dX3_dark_17 : decode cX3_dark 17 = .ok (.iconst (-1), 1) := by decide +kernel
theorem dX3_dark_18 : decode cX3_dark 18 = .ok (.invokevirtual 63, 3) := by decide +kernel
theorem dX3_dark_21 : decode cX3_dark 21 = .ok (.return_, 1) := by decide +kernel
set_option maxRecDepth 20000 in
theorem ggX3_look_X3_nearest : GoodIn wsX3_look wsX3_nearest := goodIn_r _ [8, 9, 10, 11, 12, 13, 14, 7, 15, 2, 28, 29, 30, 31, 32, 33, 34, 35, 36, 37, 38] (by decide +kernel) (by decide +kernel)
set_option maxRecDepth 20000 in
theorem gX3_look_X3_nearest : GoodIn wsX3_look (wsV RX3 67 RX3 yX3_nearest wsX3_nearest) := goodIn_app (goodIn_of _ (by decide +kernel)) ggX3_look_X3_nearest
set_option maxRecDepth 20000 in
theorem ggX3_look_X3_hi : GoodIn wsX3_look wsX3_hi := goodIn_r _ [19, 2, 28, 29, 30, 31, 32, 33, 34, 35, 36, 37, 38] (by decide +kernel) (by decide +kernel)
set_option maxRecDepth 20000 in
theorem gX3_look_X3_hi : GoodIn wsX3_look (wsV RX3 59 RX3 yX3_hi wsX3_hi) := goodIn_app (goodIn_of _ (by decide +kernel)) ggX3_look_X3_hi
set_option maxRecDepth 20000 in
theorem ggX3_look_X3_let : GoodIn wsX3_look wsX3_let := goodIn_r _ [23, 2, 28, 29, 30, 31, 32, 33, 34, 35, 36, 37, 38] (by decide +kernel) (by decide +kernel)
set_option maxRecDepth 20000 in
theorem gX3_look_X3_let : GoodIn wsX3_look (wsV RX3 63 RX3 yX3_let wsX3_let) := goodIn_app (goodIn_of _ (by decide +kernel)) ggX3_look_X3_let
set_option maxRecDepth 20000 in
theorem ggX3_look_X3_kindle : GoodIn wsX3_look wsX3_kindle := goodIn_r _ [27, 2, 16, 17, 18, 7, 19, 20, 21, 22, 23, 28, 29, 30, 31, 32, 33, 34, 35, 36, 37, 38] (by decide +kernel) (by decide +kernel)
set_option maxRecDepth 20000 in
theorem gX3_look_X3_kindle : GoodIn wsX3_look (wsV RX3 71 RX3 yX3_kindle wsX3_kindle) := goodIn_app (goodIn_of _ (by decide +kernel)) ggX3_look_X3_kindle
theorem dX3_look_0 : decode cX3_look 0 = .ok (.aload_n 0, 1) := by decide +kernel
theorem dX3_look_1 : decode cX3_look 1 = .ok (.iload_n 1, 1) := by decide +kernel
theorem dX3_look_2 : decode cX3_look 2 = .ok (.invokevirtual 67, 3) := by decide +kernel
theorem dX3_look_5 : decode cX3_look 5 = .ok (.istore_n 2, 1) := by decide +kernel
theorem dX3_look_6 : decode cX3_look 6 = .ok (.aload_n 0, 1) := by decide +kernel
theorem dX3_look_7 : decode cX3_look 7 = .ok (.iload_n 1, 1) := by decide +kernel
theorem dX3_look_8 : decode cX3_look 8 = .ok (.iconst 0, 1) := by decide +kernel
theorem dX3_look_9 : decode cX3_look 9 = .ok (.invokevirtual 59, 3) := by decide +kernel
theorem dX3_look_12 : decode cX3_look 12 = .ok (.ifCond .le 30, 3) := by decide +kernel
theorem dX3_look_15 : decode cX3_look 15 = .ok (.iload_n 2, 1) := by decide +kernel
theorem dX3_look_16 : decode cX3_look 16 = .ok (.iconst (-1), 1) := by decide +kernel
theorem dX3_look_17 : decode cX3_look 17 = .ok (.if_icmp .ne 21, 3) := by decide +kernel
theorem dX3_look_20 : decode cX3_look 20 = .ok (.aload_n 0, 1) := by decide +kernel
theorem dX3_look_21 : decode cX3_look 21 = .ok (.getfield 13, 3) := by decide +kernel
theorem dX3_look_24 : decode cX3_look 24 = .ok (.iload_n 1, 1) := by decide +kernel
theorem dX3_look_25 : decode cX3_look 25 = .ok (.baload, 1) := by decide +kernel
theorem dX3_look_26 : decode cX3_look 26 = .ok (.ifCond .eq 16, 3) := by decide +kernel
theorem dX3_look_29 : decode cX3_look 29 = .ok (.aload_n 0, 1) := by decide +kernel
theorem dX3_look_30 : decode cX3_look 30 = .ok (.getfield 23, 3) := by decide +kernel
theorem dX3_look_33 : decode cX3_look 33 = .ok (.iconst 1, 1) := by decide +kernel
theorem dX3_look_34 : decode cX3_look 34 = .ok (.iaload, 1) := by decide +kernel
theorem dX3_look_35 : decode cX3_look 35 = .ok (.ifCond .le 7, 3) := by decide +kernel
theorem dX3_look_38 : decode cX3_look 38 = .ok (.iconst 1, 1) := by decide +kernel
theorem dX3_look_39 : decode cX3_look 39 = .ok (.goto 4, 3) := by decide +kernel
theorem dX3_look_42 : decode cX3_look 42 = .ok (.iconst 0, 1) := by decide +kernel
theorem dX3_look_43 : decode cX3_look 43 = .ok (.istore_n 3, 1) := by decide +kernel
theorem dX3_look_44 : decode cX3_look 44 = .ok (.aload_n 0, 1) := by decide +kernel
theorem dX3_look_45 : decode cX3_look 45 = .ok (.iload_n 1, 1) := by decide +kernel
theorem dX3_look_46 : decode cX3_look 46 = .ok (.iconst 3, 1) := by decide +kernel
theorem dX3_look_47 : decode cX3_look 47 = .ok (.iload_n 3, 1) := by decide +kernel
theorem dX3_look_48 : decode cX3_look 48 = .ok (.ifCond .eq 14, 3) := by decide +kernel
theorem dX3_look_51 : decode cX3_look 51 = .ok (.aload_n 0, 1) := by decide +kernel
theorem dX3_look_52 : decode cX3_look 52 = .ok (.iload_n 1, 1) := by decide +kernel
theorem dX3_look_53 : decode cX3_look 53 = .ok (.iconst 3, 1) := by decide +kernel
theorem dX3_look_54 : decode cX3_look 54 = .ok (.invokevirtual 59, 3) := by decide +kernel
theorem dX3_look_57 : decode cX3_look 57 = .ok (.iconst 1, 1) := by decide +kernel
theorem dX3_look_58 : decode cX3_look 58 = .ok (.iadd, 1) := by decide +kernel
theorem dX3_look_59 : decode cX3_look 59 = .ok (.goto 4, 3) := by decide +kernel
theorem dX3_look_62 : decode cX3_look 62 = .ok (.iconst 0, 1) := by decide +kernel
theorem dX3_look_63 : decode cX3_look 63 = .ok (.invokevirtual 63, 3) := by decide +kernel
theorem dX3_look_66 : decode cX3_look 66 = .ok (.aload_n 0, 1) := by decide +kernel
theorem dX3_look_67 : decode cX3_look 67 = .ok (.iload_n 1, 1) := by decide +kernel
theorem dX3_look_68 : decode cX3_look 68 = .ok (.iconst 3, 1) := by decide +kernel
theorem dX3_look_69 : decode cX3_look 69 = .ok (.invokevirtual 59, 3) := by decide +kernel
theorem dX3_look_72 : decode cX3_look 72 = .ok (.aload_n 0, 1) := by decide +kernel
theorem dX3_look_73 : decode cX3_look 73 = .ok (.getfield 9, 3) := by decide +kernel
theorem dX3_look_76 : decode cX3_look 76 = .ok (.iload_n 1, 1) := by decide +kernel
theorem dX3_look_77 : decode cX3_look 77 = .ok (.iaload, 1) := by decide +kernel
theorem dX3_look_78 : decode cX3_look 78 = .ok (.if_icmp .ge 4, 3) := by decide +kernel
theorem dX3_look_81 : decode cX3_look 81 = .ok (.return_, 1) := by decide +kernel
theorem dX3_look_82 : decode cX3_look 82 = .ok (.aload_n 0, 1) := by decide +kernel
theorem dX3_look_83 : decode cX3_look 83 = .ok (.iload_n 1, 1) := by decide +kernel
theorem dX3_look_84 : decode cX3_look 84 = .ok (.iload_n 2, 1) := by decide +kernel
theorem dX3_look_85 : decode cX3_look 85 = .ok (.iconst (-1), 1) := by decide +kernel
theorem dX3_look_86 : decode cX3_look 86 = .ok (.if_icmp .ne 7, 3) := by decide +kernel
theorem dX3_look_89 : decode cX3_look 89 = .ok (.iconst (-1), 1) := by decide +kernel
theorem dX3_look_90 : decode cX3_look 90 = .ok (.goto 9, 3) := by decide +kernel
theorem dX3_look_93 : decode cX3_look 93 = .ok (.aload_n 0, 1) := by decide +kernel
theorem dX3_look_94 : decode cX3_look 94 = .ok (.iload_n 2, 1) := by decide +kernel
theorem dX3_look_95 : decode cX3_look 95 = .ok (.iconst 4, 1) := by decide +kernel
theorem dX3_look_96 : decode cX3_look 96 = .ok (.invokevirtual 59, 3) := by decide +kernel
theorem dX3_look_99 : decode cX3_look 99 = .ok (.invokevirtual 71, 3) := by decide +kernel
theorem dX3_look_102 : decode cX3_look 102 = .ok (.pop, 1) := by decide +kernel
theorem dX3_look_103 : decode cX3_look 103 = .ok (.return_, 1) := by decide +kernel
set_option maxRecDepth 20000 in
theorem ggX3_minuteOn_X3_hi : GoodIn wsX3_minuteOn wsX3_hi := goodIn_r _ [13, 4, 41, 42, 43, 44, 45, 46, 47, 48, 49, 50, 51] (by decide +kernel) (by decide +kernel)
set_option maxRecDepth 20000 in
theorem gX3_minuteOn_X3_hi : GoodIn wsX3_minuteOn (wsV RX3 59 RX3 yX3_hi wsX3_hi) := goodIn_app (goodIn_of _ (by decide +kernel)) ggX3_minuteOn_X3_hi
set_option maxRecDepth 20000 in
theorem ggX3_minuteOn_X3_look : GoodIn wsX3_minuteOn wsX3_look := goodIn_r _ [17, 18, 4, 19, 20, 21, 22, 12, 23, 1, 2, 24, 25, 26, 27, 28, 9, 10, 11, 13, 29, 30, 31, 32, 33, 34, 35, 36, 41, 42, 43, 44, 45, 46, 47, 48, 49, 50, 51] (by decide +kernel) (by decide +kernel)
set_option maxRecDepth 20000 in
theorem gX3_minuteOn_X3_look : GoodIn wsX3_minuteOn (wsV RX3 74 RX3 yX3_look wsX3_look) := goodIn_app (goodIn_of _ (by decide +kernel)) ggX3_minuteOn_X3_look
set_option maxRecDepth 20000 in
theorem ggX3_minuteOn_X3_let : GoodIn wsX3_minuteOn wsX3_let := goodIn_r _ [32, 4, 41, 42, 43, 44, 45, 46, 47, 48, 49, 50, 51] (by decide +kernel) (by decide +kernel)
set_option maxRecDepth 20000 in
theorem gX3_minuteOn_X3_let : GoodIn wsX3_minuteOn (wsV RX3 63 RX3 yX3_let wsX3_let) := goodIn_app (goodIn_of _ (by decide +kernel)) ggX3_minuteOn_X3_let
set_option maxRecDepth 20000 in
theorem ggX3_minuteOn_X3_dark : GoodIn wsX3_minuteOn wsX3_dark := goodIn_r _ [40, 29, 30, 31, 12, 32, 4, 41, 42, 43, 44, 45, 46, 47, 48, 49, 50, 51] (by decide +kernel) (by decide +kernel)
set_option maxRecDepth 20000 in
theorem gX3_minuteOn_X3_dark : GoodIn wsX3_minuteOn (wsV RX3 78 RX3 yX3_dark wsX3_dark) := goodIn_app (goodIn_of _ (by decide +kernel)) ggX3_minuteOn_X3_dark
theorem dX3_minuteOn_0 : decode cX3_minuteOn 0 = .ok (.iconst 0, 1) := by decide +kernel
theorem dX3_minuteOn_1 : decode cX3_minuteOn 1 = .ok (.istore_n 1, 1) := by decide +kernel
theorem dX3_minuteOn_2 : decode cX3_minuteOn 2 = .ok (.iload_n 1, 1) := by decide +kernel
theorem dX3_minuteOn_3 : decode cX3_minuteOn 3 = .ok (.aload_n 0, 1) := by decide +kernel
theorem dX3_minuteOn_4 : decode cX3_minuteOn 4 = .ok (.getfield 42, 3) := by decide +kernel
theorem dX3_minuteOn_7 : decode cX3_minuteOn 7 = .ok (.if_icmp .ge 21, 3) := by decide +kernel
theorem dX3_minuteOn_10 : decode cX3_minuteOn 10 = .ok (.aload_n 0, 1) := by decide +kernel
theorem dX3_minuteOn_11 : decode cX3_minuteOn 11 = .ok (.getfield 29, 3) := by decide +kernel
theorem dX3_minuteOn_14 : decode cX3_minuteOn 14 = .ok (.iload_n 1, 1) := by decide +kernel
theorem dX3_minuteOn_15 : decode cX3_minuteOn 15 = .ok (.aload_n 0, 1) := by decide +kernel
theorem dX3_minuteOn_16 : decode cX3_minuteOn 16 = .ok (.iload_n 1, 1) := by decide +kernel
theorem dX3_minuteOn_17 : decode cX3_minuteOn 17 = .ok (.iconst 1, 1) := by decide +kernel
theorem dX3_minuteOn_18 : decode cX3_minuteOn 18 = .ok (.invokevirtual 59, 3) := by decide +kernel
theorem dX3_minuteOn_21 : decode cX3_minuteOn 21 = .ok (.iastore, 1) := by decide +kernel
theorem dX3_minuteOn_22 : decode cX3_minuteOn 22 = .ok (.iinc 1 1, 3) := by decide +kernel
theorem dX3_minuteOn_25 : decode cX3_minuteOn 25 = .ok (.goto (-23), 3) := by decide +kernel
theorem dX3_minuteOn_28 : decode cX3_minuteOn 28 = .ok (.iconst 0, 1) := by decide +kernel
theorem dX3_minuteOn_29 : decode cX3_minuteOn 29 = .ok (.istore_n 1, 1) := by decide +kernel
theorem dX3_minuteOn_30 : decode cX3_minuteOn 30 = .ok (.iload_n 1, 1) := by decide +kernel
theorem dX3_minuteOn_31 : decode cX3_minuteOn 31 = .ok (.aload_n 0, 1) := by decide +kernel
theorem dX3_minuteOn_32 : decode cX3_minuteOn 32 = .ok (.getfield 42, 3) := by decide +kernel
theorem dX3_minuteOn_35 : decode cX3_minuteOn 35 = .ok (.if_icmp .ge 23, 3) := by decide +kernel
theorem dX3_minuteOn_38 : decode cX3_minuteOn 38 = .ok (.aload_n 0, 1) := by decide +kernel
theorem dX3_minuteOn_39 : decode cX3_minuteOn 39 = .ok (.getfield 29, 3) := by decide +kernel
theorem dX3_minuteOn_42 : decode cX3_minuteOn 42 = .ok (.iload_n 1, 1) := by decide +kernel
theorem dX3_minuteOn_43 : decode cX3_minuteOn 43 = .ok (.iaload, 1) := by decide +kernel
theorem dX3_minuteOn_44 : decode cX3_minuteOn 44 = .ok (.ifCond .ne 8, 3) := by decide +kernel
theorem dX3_minuteOn_47 : decode cX3_minuteOn 47 = .ok (.aload_n 0, 1) := by decide +kernel
theorem dX3_minuteOn_48 : decode cX3_minuteOn 48 = .ok (.iload_n 1, 1) := by decide +kernel
theorem dX3_minuteOn_49 : decode cX3_minuteOn 49 = .ok (.invokevirtual 74, 3) := by decide +kernel
theorem dX3_minuteOn_52 : decode cX3_minuteOn 52 = .ok (.iinc 1 1, 3) := by decide +kernel
theorem dX3_minuteOn_55 : decode cX3_minuteOn 55 = .ok (.goto (-25), 3) := by decide +kernel
theorem dX3_minuteOn_58 : decode cX3_minuteOn 58 = .ok (.iconst 0, 1) := by decide +kernel
theorem dX3_minuteOn_59 : decode cX3_minuteOn 59 = .ok (.istore_n 1, 1) := by decide +kernel
theorem dX3_minuteOn_60 : decode cX3_minuteOn 60 = .ok (.iload_n 1, 1) := by decide +kernel
theorem dX3_minuteOn_61 : decode cX3_minuteOn 61 = .ok (.aload_n 0, 1) := by decide +kernel
theorem dX3_minuteOn_62 : decode cX3_minuteOn 62 = .ok (.getfield 42, 3) := by decide +kernel
theorem dX3_minuteOn_65 : decode cX3_minuteOn 65 = .ok (.if_icmp .ge 90, 3) := by decide +kernel
theorem dX3_minuteOn_68 : decode cX3_minuteOn 68 = .ok (.aload_n 0, 1) := by decide +kernel
theorem dX3_minuteOn_69 : decode cX3_minuteOn 69 = .ok (.getfield 29, 3) := by decide +kernel
theorem dX3_minuteOn_72 : decode cX3_minuteOn 72 = .ok (.iload_n 1, 1) := by decide +kernel
theorem dX3_minuteOn_73 : decode cX3_minuteOn 73 = .ok (.iaload, 1) := by decide +kernel
theorem dX3_minuteOn_74 : decode cX3_minuteOn 74 = .ok (.iconst 1, 1) := by decide +kernel
theorem dX3_minuteOn_75 : decode cX3_minuteOn 75 = .ok (.if_icmp .eq 6, 3) := by decide +kernel
theorem dX3_minuteOn_78 : decode cX3_minuteOn 78 = .ok (.goto 71, 3) := by decide +kernel
theorem dX3_minuteOn_81 : decode cX3_minuteOn 81 = .ok (.aload_n 0, 1) := by decide +kernel
theorem dX3_minuteOn_82 : decode cX3_minuteOn 82 = .ok (.iload_n 1, 1) := by decide +kernel
theorem dX3_minuteOn_83 : decode cX3_minuteOn 83 = .ok (.iconst 2, 1) := by decide +kernel
theorem dX3_minuteOn_84 : decode cX3_minuteOn 84 = .ok (.aload_n 0, 1) := by decide +kernel
theorem dX3_minuteOn_85 : decode cX3_minuteOn 85 = .ok (.iload_n 1, 1) := by decide +kernel
theorem dX3_minuteOn_86 : decode cX3_minuteOn 86 = .ok (.iconst 2, 1) := by decide +kernel
theorem dX3_minuteOn_87 : decode cX3_minuteOn 87 = .ok (.invokevirtual 59, 3) := by decide +kernel
theorem dX3_minuteOn_90 : decode cX3_minuteOn 90 = .ok (.iconst 1, 1) := by decide +kernel
theorem dX3_minuteOn_91 : decode cX3_minuteOn 91 = .ok (.isub, 1) := by decide +kernel
theorem dX3_minuteOn_92 : decode cX3_minuteOn 92 = .ok (.invokevirtual 63, 3) := by decide +kernel
theorem dX3_minuteOn_95 : decode cX3_minuteOn 95 = .ok (.aload_n 0, 1) := by decide +kernel
theorem dX3_minuteOn_96 : decode cX3_minuteOn 96 = .ok (.iload_n 1, 1) := by decide +kernel
theorem dX3_minuteOn_97 : decode cX3_minuteOn 97 = .ok (.iconst 2, 1) := by decide +kernel
theorem dX3_minuteOn_98 : decode cX3_minuteOn 98 = .ok (.invokevirtual 59, 3) := by decide +kernel
theorem dX3_minuteOn_101 : decode cX3_minuteOn 101 = .ok (.ifCond .le 6, 3) := by decide +kernel
theorem dX3_minuteOn_104 : decode cX3_minuteOn 104 = .ok (.goto 45, 3) := by decide +kernel
theorem dX3_minuteOn_107 : decode cX3_minuteOn 107 = .ok (.aload_n 0, 1) := by decide +kernel
theorem dX3_minuteOn_108 : decode cX3_minuteOn 108 = .ok (.iload_n 1, 1) := by decide +kernel
theorem dX3_minuteOn_109 : decode cX3_minuteOn 109 = .ok (.iconst 1, 1) := by decide +kernel
theorem dX3_minuteOn_110 : decode cX3_minuteOn 110 = .ok (.iconst 2, 1) := by decide +kernel
theorem dX3_minuteOn_111 : decode cX3_minuteOn 111 = .ok (.invokevirtual 63, 3) := by decide +kernel
theorem dX3_minuteOn_114 : decode cX3_minuteOn 114 = .ok (.aload_n 0, 1) := by decide +kernel
theorem dX3_minuteOn_115 : decode cX3_minuteOn 115 = .ok (.iload_n 1, 1) := by decide +kernel
theorem dX3_minuteOn_116 : decode cX3_minuteOn 116 = .ok (.iconst 4, 1) := by decide +kernel
theorem dX3_minuteOn_117 : decode cX3_minuteOn 117 = .ok (.invokevirtual 59, 3) := by decide +kernel
theorem dX3_minuteOn_120 : decode cX3_minuteOn 120 = .ok (.istore_n 2, 1) := by decide +kernel
theorem dX3_minuteOn_121 : decode cX3_minuteOn 121 = .ok (.aload_n 0, 1) := by decide +kernel
theorem dX3_minuteOn_122 : decode cX3_minuteOn 122 = .ok (.getfield 17, 3) := by decide +kernel
theorem dX3_minuteOn_125 : decode cX3_minuteOn 125 = .ok (.iload_n 1, 1) := by decide +kernel
theorem dX3_minuteOn_126 : decode cX3_minuteOn 126 = .ok (.baload, 1) := by decide +kernel
theorem dX3_minuteOn_127 : decode cX3_minuteOn 127 = .ok (.ifCond .eq 22, 3) := by decide +kernel
theorem dX3_minuteOn_130 : decode cX3_minuteOn 130 = .ok (.iload_n 2, 1) := by decide +kernel
theorem dX3_minuteOn_131 : decode cX3_minuteOn 131 = .ok (.iconst (-1), 1) := by decide +kernel
theorem dX3_minuteOn_132 : decode cX3_minuteOn 132 = .ok (.if_icmp .eq 17, 3) := by decide +kernel
theorem dX3_minuteOn_135 : decode cX3_minuteOn 135 = .ok (.aload_n 0, 1) := by decide +kernel
theorem dX3_minuteOn_136 : decode cX3_minuteOn 136 = .ok (.iload_n 2, 1) := by decide +kernel
theorem dX3_minuteOn_137 : decode cX3_minuteOn 137 = .ok (.iconst 5, 1) := by decide +kernel
theorem dX3_minuteOn_138 : decode cX3_minuteOn 138 = .ok (.aload_n 0, 1) := by decide +kernel
theorem dX3_minuteOn_139 : decode cX3_minuteOn 139 = .ok (.iload_n 2, 1) := by decide +kernel
theorem dX3_minuteOn_140 : decode cX3_minuteOn 140 = .ok (.iconst 5, 1) := by decide +kernel
theorem dX3_minuteOn_141 : decode cX3_minuteOn 141 = .ok (.invokevirtual 59, 3) := by decide +kernel
theorem dX3_minuteOn_144 : decode cX3_minuteOn 144 = .ok (.iconst 1, 1) := by decide +kernel
theorem dX3_minuteOn_145 : decode cX3_minuteOn 145 = .ok (.iadd, 1) := by decide +kernel
theorem dX3_minuteOn_146 : decode cX3_minuteOn 146 = .ok (.invokevirtual 63, 3) := by decide +kernel
theorem dX3_minuteOn_149 : decode cX3_minuteOn 149 = .ok (.iinc 1 1, 3) := by decide +kernel
theorem dX3_minuteOn_152 : decode cX3_minuteOn 152 = .ok (.goto (-92), 3) := by decide +kernel
theorem dX3_minuteOn_155 : decode cX3_minuteOn 155 = .ok (.iconst 0, 1) := by decide +kernel
theorem dX3_minuteOn_156 : decode cX3_minuteOn 156 = .ok (.istore_n 1, 1) := by decide +kernel
theorem dX3_minuteOn_157 : decode cX3_minuteOn 157 = .ok (.iload_n 1, 1) := by decide +kernel
theorem dX3_minuteOn_158 : decode cX3_minuteOn 158 = .ok (.aload_n 0, 1) := by decide +kernel
theorem dX3_minuteOn_159 : decode cX3_minuteOn 159 = .ok (.getfield 42, 3) := by decide +kernel
theorem dX3_minuteOn_162 : decode cX3_minuteOn 162 = .ok (.if_icmp .ge 53, 3) := by decide +kernel
theorem dX3_minuteOn_165 : decode cX3_minuteOn 165 = .ok (.aload_n 0, 1) := by decide +kernel
theorem dX3_minuteOn_166 : decode cX3_minuteOn 166 = .ok (.getfield 29, 3) := by decide +kernel
theorem dX3_minuteOn_169 : decode cX3_minuteOn 169 = .ok (.iload_n 1, 1) := by decide +kernel
theorem dX3_minuteOn_170 : decode cX3_minuteOn 170 = .ok (.iaload, 1) := by decide +kernel
theorem dX3_minuteOn_171 : decode cX3_minuteOn 171 = .ok (.iconst 2, 1) := by decide +kernel
theorem dX3_minuteOn_172 : decode cX3_minuteOn 172 = .ok (.if_icmp .eq 6, 3) := by decide +kernel
theorem dX3_minuteOn_175 : decode cX3_minuteOn 175 = .ok (.goto 34, 3) := by decide +kernel
theorem dX3_minuteOn_178 : decode cX3_minuteOn 178 = .ok (.aload_n 0, 1) := by decide +kernel
theorem dX3_minuteOn_179 : decode cX3_minuteOn 179 = .ok (.iload_n 1, 1) := by decide +kernel
theorem dX3_minuteOn_180 : decode cX3_minuteOn 180 = .ok (.iconst 0, 1) := by decide +kernel
theorem dX3_minuteOn_181 : decode cX3_minuteOn 181 = .ok (.invokevirtual 59, 3) := by decide +kernel
theorem dX3_minuteOn_184 : decode cX3_minuteOn 184 = .ok (.ifCond .ne 11, 3) := by decide +kernel
theorem dX3_minuteOn_187 : decode cX3_minuteOn 187 = .ok (.aload_n 0, 1) := by decide +kernel
theorem dX3_minuteOn_188 : decode cX3_minuteOn 188 = .ok (.iload_n 1, 1) := by decide +kernel
theorem dX3_minuteOn_189 : decode cX3_minuteOn 189 = .ok (.invokevirtual 78, 3) := by decide +kernel
theorem dX3_minuteOn_192 : decode cX3_minuteOn 192 = .ok (.goto 17, 3) := by decide +kernel
theorem dX3_minuteOn_195 : decode cX3_minuteOn 195 = .ok (.aload_n 0, 1) := by decide +kernel
theorem dX3_minuteOn_196 : decode cX3_minuteOn 196 = .ok (.iload_n 1, 1) := by decide +kernel
theorem dX3_minuteOn_197 : decode cX3_minuteOn 197 = .ok (.iconst 0, 1) := by decide +kernel
theorem dX3_minuteOn_198 : decode cX3_minuteOn 198 = .ok (.aload_n 0, 1) := by decide +kernel
theorem dX3_minuteOn_199 : decode cX3_minuteOn 199 = .ok (.iload_n 1, 1) := by decide +kernel
theorem dX3_minuteOn_200 : decode cX3_minuteOn 200 = .ok (.iconst 0, 1) := by decide +kernel
theorem dX3_minuteOn_201 : decode cX3_minuteOn 201 = .ok (.invokevirtual 59, 3) := by decide +kernel
theorem dX3_minuteOn_204 : decode cX3_minuteOn 204 = .ok (.iconst 1, 1) := by decide +kernel
theorem dX3_minuteOn_205 : decode cX3_minuteOn 205 = .ok (.isub, 1) := by decide +kernel
theorem dX3_minuteOn_206 : decode cX3_minuteOn 206 = .ok (.invokevirtual 63, 3) := by decide +kernel
theorem dX3_minuteOn_209 : decode cX3_minuteOn 209 = .ok (.iinc 1 1, 3) := by decide +kernel
theorem dX3_minuteOn_212 : decode cX3_minuteOn 212 = .ok (.goto (-55), 3) := by decide +kernel
theorem dX3_minuteOn_215 : decode cX3_minuteOn 215 = .ok (.aload_n 0, 1) := by decide +kernel
theorem dX3_minuteOn_216 : decode cX3_minuteOn 216 = .ok (.getfield 23, 3) := by decide +kernel
theorem dX3_minuteOn_219 : decode cX3_minuteOn 219 = .ok (.iconst 1, 1) := by decide +kernel
theorem dX3_minuteOn_220 : decode cX3_minuteOn 220 = .ok (.iconst 0, 1) := by decide +kernel
theorem dX3_minuteOn_221 : decode cX3_minuteOn 221 = .ok (.aload_n 0, 1) := by decide +kernel
theorem dX3_minuteOn_222 : decode cX3_minuteOn 222 = .ok (.getfield 23, 3) := by decide +kernel
theorem dX3_minuteOn_225 : decode cX3_minuteOn 225 = .ok (.iconst 1, 1) := by decide +kernel
theorem dX3_minuteOn_226 : decode cX3_minuteOn 226 = .ok (.iaload, 1) := by decide +kernel
theorem dX3_minuteOn_227 : decode cX3_minuteOn 227 = .ok (.iconst 1, 1) := by decide +kernel
theorem dX3_minuteOn_228 : decode cX3_minuteOn 228 = .ok (.isub, 1) := by decide +kernel
theorem dX3_minuteOn_229 : decode cX3_minuteOn 229 = .ok (.invokestatic 81, 3) := by decide +kernel
theorem dX3_minuteOn_232 : decode cX3_minuteOn 232 = .ok (.iastore, 1) := by decide +kernel
theorem dX3_minuteOn_233 : decode cX3_minuteOn 233 = .ok (.aload_n 0, 1) := by decide +kernel
theorem dX3_minuteOn_234 : decode cX3_minuteOn 234 = .ok (.getfield 23, 3) := by decide +kernel
theorem dX3_minuteOn_237 : decode cX3_minuteOn 237 = .ok (.iconst 0, 1) := by decide +kernel
theorem dX3_minuteOn_238 : decode cX3_minuteOn 238 = .ok (.dup2, 1) := by decide +kernel
theorem dX3_minuteOn_239 : decode cX3_minuteOn 239 = .ok (.iaload, 1) := by decide +kernel
theorem dX3_minuteOn_240 : decode cX3_minuteOn 240 = .ok (.iconst 1, 1) := by decide +kernel
theorem dX3_minuteOn_241 : decode cX3_minuteOn 241 = .ok (.iadd, 1) := by decide +kernel
theorem dX3_minuteOn_242 : decode cX3_minuteOn 242 = .ok (.iastore, 1) := by decide +kernel
theorem dX3_minuteOn_243 : decode cX3_minuteOn 243 = .ok (.return_, 1) := by decide +kernel
set_option maxRecDepth 20000 in
theorem ggX3_addHill_X3_isIn : GoodIn wsX3_addHill wsX3_isIn := goodIn_r _ [7] (by decide +kernel) (by decide +kernel)
set_option maxRecDepth 20000 in
theorem gX3_addHill_X3_isIn : GoodIn wsX3_addHill (va_wsS RX3 45 yX3_isIn wsX3_isIn) := goodIn_app (goodIn_of _ (by decide +kernel)) ggX3_addHill_X3_isIn
set_option maxRecDepth 20000 in
theorem ggX3_addHill_X3_fail : GoodIn wsX3_addHill wsX3_fail := goodIn_r _ [11, 1, 17, 18, 19, 20, 21, 22, 23, 24, 25, 26, 27] (by decide +kernel) (by decide +kernel)
set_option maxRecDepth 20000 in
theorem gX3_addHill_X3_fail : GoodIn wsX3_addHill (wsV RX3 86 RX3 yX3_fail wsX3_fail) := goodIn_app (goodIn_of _ (by decide +kernel)) ggX3_addHill_X3_fail
set_option maxRecDepth 20000 in
theorem ggX3_addHill_X3_let : GoodIn wsX3_addHill wsX3_let := goodIn_r _ [15, 16, 17, 18, 19, 20, 21, 22, 23, 24, 25, 26, 27] (by decide +kernel) (by decide +kernel)
set_option maxRecDepth 20000 in
theorem gX3_addHill_X3_let : GoodIn wsX3_addHill (wsV RX3 63 RX3 yX3_let wsX3_let) := goodIn_app (goodIn_of _ (by decide +kernel)) ggX3_addHill_X3_let
theorem dX3_addHill_0 : decode cX3_addHill 0 = .ok (.aload_n 0, 1) := by decide +kernel
theorem dX3_addHill_1 : decode cX3_addHill 1 = .ok (.iconst 0, 1) := by decide +kernel
theorem dX3_addHill_2 : decode cX3_addHill 2 = .ok (.putfield 38, 3) := by decide +kernel
theorem dX3_addHill_5 : decode cX3_addHill 5 = .ok (.iload_n 1, 1) := by decide +kernel
theorem dX3_addHill_6 : decode cX3_addHill 6 = .ok (.iconst 0, 1) := by decide +kernel
theorem dX3_addHill_7 : decode cX3_addHill 7 = .ok (.bipush 30, 2) := by decide +kernel
theorem dX3_addHill_9 : decode cX3_addHill 9 = .ok (.invokestatic 45, 3) := by decide +kernel
theorem dX3_addHill_12 : decode cX3_addHill 12 = .ok (.ifCond .eq 22, 3) := by decide +kernel
theorem dX3_addHill_15 : decode cX3_addHill 15 = .ok (.iload_n 2, 1) := by decide +kernel
theorem dX3_addHill_16 : decode cX3_addHill 16 = .ok (.iconst 0, 1) := by decide +kernel
theorem dX3_addHill_17 : decode cX3_addHill 17 = .ok (.bipush 9, 2) := by decide +kernel
theorem dX3_addHill_19 : decode cX3_addHill 19 = .ok (.invokestatic 45, 3) := by decide +kernel
theorem dX3_addHill_22 : decode cX3_addHill 22 = .ok (.ifCond .eq 12, 3) := by decide +kernel
theorem dX3_addHill_25 : decode cX3_addHill 25 = .ok (.iload_n 3, 1) := by decide +kernel
theorem dX3_addHill_26 : decode cX3_addHill 26 = .ok (.iconst 1, 1) := by decide +kernel
theorem dX3_addHill_27 : decode cX3_addHill 27 = .ok (.iconst 5, 1) := by decide +kernel
theorem dX3_addHill_28 : decode cX3_addHill 28 = .ok (.invokestatic 45, 3) := by decide +kernel
theorem dX3_addHill_31 : decode cX3_addHill 31 = .ok (.ifCond .ne 9, 3) := by decide +kernel
theorem dX3_addHill_34 : decode cX3_addHill 34 = .ok (.aload_n 0, 1) := by decide +kernel
theorem dX3_addHill_35 : decode cX3_addHill 35 = .ok (.iconst 1, 1) := by decide +kernel
theorem dX3_addHill_36 : decode cX3_addHill 36 = .ok (.invokevirtual 86, 3) := by decide +kernel
theorem dX3_addHill_39 : decode cX3_addHill 39 = .ok (.ireturn, 1) := by decide +kernel
theorem dX3_addHill_40 : decode cX3_addHill 40 = .ok (.aload_n 0, 1) := by decide +kernel
theorem dX3_addHill_41 : decode cX3_addHill 41 = .ok (.getfield 42, 3) := by decide +kernel
theorem dX3_addHill_44 : decode cX3_addHill 44 = .ok (.bipush 10, 2) := by decide +kernel
theorem dX3_addHill_46 : decode cX3_addHill 46 = .ok (.if_icmp .ne 9, 3) := by decide +kernel
theorem dX3_addHill_49 : decode cX3_addHill 49 = .ok (.aload_n 0, 1) := by decide +kernel
theorem dX3_addHill_50 : decode cX3_addHill 50 = .ok (.iconst 2, 1) := by decide +kernel
theorem dX3_addHill_51 : decode cX3_addHill 51 = .ok (.invokevirtual 86, 3) := by decide +kernel
theorem dX3_addHill_54 : decode cX3_addHill 54 = .ok (.ireturn, 1) := by decide +kernel
theorem dX3_addHill_55 : decode cX3_addHill 55 = .ok (.aload_n 0, 1) := by decide +kernel
theorem dX3_addHill_56 : decode cX3_addHill 56 = .ok (.aload_n 0, 1) := by decide +kernel
theorem dX3_addHill_57 : decode cX3_addHill 57 = .ok (.getfield 42, 3) := by decide +kernel
theorem dX3_addHill_60 : decode cX3_addHill 60 = .ok (.iconst 0, 1) := by decide +kernel
theorem dX3_addHill_61 : decode cX3_addHill 61 = .ok (.iload_n 1, 1) := by decide +kernel
theorem dX3_addHill_62 : decode cX3_addHill 62 = .ok (.invokevirtual 63, 3) := by decide +kernel
theorem dX3_addHill_65 : decode cX3_addHill 65 = .ok (.aload_n 0, 1) := by decide +kernel
theorem dX3_addHill_66 : decode cX3_addHill 66 = .ok (.aload_n 0, 1) := by decide +kernel
theorem dX3_addHill_67 : decode cX3_addHill 67 = .ok (.getfield 42, 3) := by decide +kernel
theorem dX3_addHill_70 : decode cX3_addHill 70 = .ok (.bipush 6, 2) := by decide +kernel
theorem dX3_addHill_72 : decode cX3_addHill 72 = .ok (.iload_n 2, 1) := by decide +kernel
theorem dX3_addHill_73 : decode cX3_addHill 73 = .ok (.invokevirtual 63, 3) := by decide +kernel
theorem dX3_addHill_76 : decode cX3_addHill 76 = .ok (.aload_n 0, 1) := by decide +kernel
theorem dX3_addHill_77 : decode cX3_addHill 77 = .ok (.aload_n 0, 1) := by decide +kernel
theorem dX3_addHill_78 : decode cX3_addHill 78 = .ok (.getfield 42, 3) := by decide +kernel
theorem dX3_addHill_81 : decode cX3_addHill 81 = .ok (.iconst 4, 1) := by decide +kernel
theorem dX3_addHill_82 : decode cX3_addHill 82 = .ok (.iconst (-1), 1) := by decide +kernel
theorem dX3_addHill_83 : decode cX3_addHill 83 = .ok (.invokevirtual 63, 3) := by decide +kernel
theorem dX3_addHill_86 : decode cX3_addHill 86 = .ok (.aload_n 0, 1) := by decide +kernel
theorem dX3_addHill_87 : decode cX3_addHill 87 = .ok (.getfield 9, 3) := by decide +kernel
theorem dX3_addHill_90 : decode cX3_addHill 90 = .ok (.aload_n 0, 1) := by decide +kernel
theorem dX3_addHill_91 : decode cX3_addHill 91 = .ok (.getfield 42, 3) := by decide +kernel
theorem dX3_addHill_94 : decode cX3_addHill 94 = .ok (.iload_n 3, 1) := by decide +kernel
theorem dX3_addHill_95 : decode cX3_addHill 95 = .ok (.iastore, 1) := by decide +kernel
theorem dX3_addHill_96 : decode cX3_addHill 96 = .ok (.aload_n 0, 1) := by decide +kernel
theorem dX3_addHill_97 : decode cX3_addHill 97 = .ok (.dup, 1) := by decide +kernel
theorem dX3_addHill_98 : decode cX3_addHill 98 = .ok (.getfield 42, 3) := by decide +kernel
theorem dX3_addHill_101 : decode cX3_addHill 101 = .ok (.iconst 1, 1) := by decide +kernel
theorem dX3_addHill_102 : decode cX3_addHill 102 = .ok (.iadd, 1) := by decide +kernel
theorem dX3_addHill_103 : decode cX3_addHill 103 = .ok (.putfield 42, 3) := by decide +kernel
theorem dX3_addHill_106 : decode cX3_addHill 106 = .ok (.aload_n 0, 1) := by decide +kernel
theorem dX3_addHill_107 : decode cX3_addHill 107 = .ok (.getfield 42, 3) := by decide +kernel
theorem dX3_addHill_110 : decode cX3_addHill 110 = .ok (.iconst 1, 1) := by decide +kernel
theorem dX3_addHill_111 : decode cX3_addHill 111 = .ok (.isub, 1) := by decide +kernel
theorem dX3_addHill_112 : decode cX3_addHill 112 = .ok (.ireturn, 1) := by decide +kernel
set_option maxRecDepth 20000 in
theorem ggX3_setSight_X3_isHill : GoodIn wsX3_setSight wsX3_isHill := goodIn_r _ [7, 8, 9, 10, 6, 11, 16, 17, 18, 19, 20, 21, 22, 23, 24, 25, 26] (by decide +kernel) (by decide +kernel)
set_option maxRecDepth 20000 in
theorem gX3_setSight_X3_isHill : GoodIn wsX3_setSight (wsV RX3 89 RX3 yX3_isHill wsX3_isHill) := goodIn_app (goodIn_of _ (by decide +kernel)) ggX3_setSight_X3_isHill
set_option maxRecDepth 20000 in
theorem ggX3_setSight_X3_fail : GoodIn wsX3_setSight wsX3_fail := goodIn_r _ [15, 1, 16, 17, 18, 19, 20, 21, 22, 23, 24, 25, 26] (by decide +kernel) (by decide +kernel)
set_option maxRecDepth 20000 in
theorem gX3_setSight_X3_fail : GoodIn wsX3_setSight (wsV RX3 86 RX3 yX3_fail wsX3_fail) := goodIn_app (goodIn_of _ (by decide +kernel)) ggX3_setSight_X3_fail
set_option maxRecDepth 20000 in
theorem ggX3_setSight_X3_isIn : GoodIn wsX3_setSight wsX3_isIn := goodIn_r _ [11] (by decide +kernel) (by decide +kernel)
set_option maxRecDepth 20000 in
theorem gX3_setSight_X3_isIn : GoodIn wsX3_setSight (va_wsS RX3 45 yX3_isIn wsX3_isIn) := goodIn_app (goodIn_of _ (by decide +kernel)) ggX3_setSight_X3_isIn
theorem dX3_setSight_0 : decode cX3_setSight 0 = .ok (.aload_n 0, 1) := by decide +kernel
theorem dX3_setSight_1 : decode cX3_setSight 1 = .ok (.iconst 0, 1) := by decide +kernel
theorem dX3_setSight_2 : decode cX3_setSight 2 = .ok (.putfield 38, 3) := by decide +kernel
theorem dX3_setSight_5 : decode cX3_setSight 5 = .ok (.aload_n 0, 1) := by decide +kernel
theorem dX3_setSight_6 : decode cX3_setSight 6 = .ok (.iload_n 1, 1) := by decide +kernel
theorem dX3_setSight_7 : decode cX3_setSight 7 = .ok (.invokevirtual 89, 3) := by decide +kernel
theorem dX3_setSight_10 : decode cX3_setSight 10 = .ok (.ifCond .eq 11, 3) := by decide +kernel
theorem dX3_setSight_13 : decode cX3_setSight 13 = .ok (.aload_n 0, 1) := by decide +kernel
theorem dX3_setSight_14 : decode cX3_setSight 14 = .ok (.iload_n 2, 1) := by decide +kernel
theorem dX3_setSight_15 : decode cX3_setSight 15 = .ok (.invokevirtual 89, 3) := by decide +kernel
theorem dX3_setSight_18 : decode cX3_setSight 18 = .ok (.ifCond .ne 9, 3) := by decide +kernel
theorem dX3_setSight_21 : decode cX3_setSight 21 = .ok (.aload_n 0, 1) := by decide +kernel
theorem dX3_setSight_22 : decode cX3_setSight 22 = .ok (.iconst 1, 1) := by decide +kernel
theorem dX3_setSight_23 : decode cX3_setSight 23 = .ok (.invokevirtual 86, 3) := by decide +kernel
theorem dX3_setSight_26 : decode cX3_setSight 26 = .ok (.ireturn, 1) := by decide +kernel
theorem dX3_setSight_27 : decode cX3_setSight 27 = .ok (.iload_n 1, 1) := by decide +kernel
theorem dX3_setSight_28 : decode cX3_setSight 28 = .ok (.iload_n 2, 1) := by decide +kernel
theorem dX3_setSight_29 : decode cX3_setSight 29 = .ok (.if_icmp .eq 13, 3) := by decide +kernel
theorem dX3_setSight_32 : decode cX3_setSight 32 = .ok (.iload_n 3, 1) := by decide +kernel
theorem dX3_setSight_33 : decode cX3_setSight 33 = .ok (.iconst 0, 1) := by decide +kernel
theorem dX3_setSight_34 : decode cX3_setSight 34 = .ok (.bipush 20, 2) := by decide +kernel
theorem dX3_setSight_36 : decode cX3_setSight 36 = .ok (.invokestatic 45, 3) := by decide +kernel
theorem dX3_setSight_39 : decode cX3_setSight 39 = .ok (.ifCond .ne 9, 3) := by decide +kernel
theorem dX3_setSight_42 : decode cX3_setSight 42 = .ok (.aload_n 0, 1) := by decide +kernel
theorem dX3_setSight_43 : decode cX3_setSight 43 = .ok (.iconst 2, 1) := by decide +kernel
theorem dX3_setSight_44 : decode cX3_setSight 44 = .ok (.invokevirtual 86, 3) := by decide +kernel
theorem dX3_setSight_47 : decode cX3_setSight 47 = .ok (.ireturn, 1) := by decide +kernel
theorem dX3_setSight_48 : decode cX3_setSight 48 = .ok (.aload_n 0, 1) := by decide +kernel
theorem dX3_setSight_49 : decode cX3_setSight 49 = .ok (.getfield 20, 3) := by decide +kernel
theorem dX3_setSight_52 : decode cX3_setSight 52 = .ok (.bipush 10, 2) := by decide +kernel
theorem dX3_setSight_54 : decode cX3_setSight 54 = .ok (.iload_n 1, 1) := by decide +kernel
theorem dX3_setSight_55 : decode cX3_setSight 55 = .ok (.imul, 1) := by decide +kernel
theorem dX3_setSight_56 : decode cX3_setSight 56 = .ok (.iload_n 2, 1) := by decide +kernel
theorem dX3_setSight_57 : decode cX3_setSight 57 = .ok (.iadd, 1) := by decide +kernel
theorem dX3_setSight_58 : decode cX3_setSight 58 = .ok (.iaload, 1) := by decide +kernel
theorem dX3_setSight_59 : decode cX3_setSight 59 = .ok (.istore 4, 2) := by decide +kernel
theorem dX3_setSight_61 : decode cX3_setSight 61 = .ok (.aload_n 0, 1) := by decide +kernel
theorem dX3_setSight_62 : decode cX3_setSight 62 = .ok (.getfield 20, 3) := by decide +kernel
theorem dX3_setSight_65 : decode cX3_setSight 65 = .ok (.bipush 10, 2) := by decide +kernel
theorem dX3_setSight_67 : decode cX3_setSight 67 = .ok (.iload_n 1, 1) := by decide +kernel
theorem dX3_setSight_68 : decode cX3_setSight 68 = .ok (.imul, 1) := by decide +kernel
theorem dX3_setSight_69 : decode cX3_setSight 69 = .ok (.iload_n 2, 1) := by decide +kernel
theorem dX3_setSight_70 : decode cX3_setSight 70 = .ok (.iadd, 1) := by decide +kernel
theorem dX3_setSight_71 : decode cX3_setSight 71 = .ok (.iload_n 3, 1) := by decide +kernel
theorem dX3_setSight_72 : decode cX3_setSight 72 = .ok (.iastore, 1) := by decide +kernel
theorem dX3_setSight_73 : decode cX3_setSight 73 = .ok (.aload_n 0, 1) := by decide +kernel
theorem dX3_setSight_74 : decode cX3_setSight 74 = .ok (.getfield 20, 3) := by decide +kernel
theorem dX3_setSight_77 : decode cX3_setSight 77 = .ok (.bipush 10, 2) := by decide +kernel
theorem dX3_setSight_79 : decode cX3_setSight 79 = .ok (.iload_n 2, 1) := by decide +kernel
theorem dX3_setSight_80 : decode cX3_setSight 80 = .ok (.imul, 1) := by decide +kernel
theorem dX3_setSight_81 : decode cX3_setSight 81 = .ok (.iload_n 1, 1) := by decide +kernel
theorem dX3_setSight_82 : decode cX3_setSight 82 = .ok (.iadd, 1) := by decide +kernel
theorem dX3_setSight_83 : decode cX3_setSight 83 = .ok (.iload_n 3, 1) := by decide +kernel
theorem dX3_setSight_84 : decode cX3_setSight 84 = .ok (.iastore, 1) := by decide +kernel
theorem dX3_setSight_85 : decode cX3_setSight 85 = .ok (.iload 4, 2) := by decide +kernel
theorem dX3_setSight_87 : decode cX3_setSight 87 = .ok (.ireturn, 1) := by decide +kernel
set_option maxRecDepth 20000 in
theorem ggX3_turnEast_X3_isHill : GoodIn wsX3_turnEast wsX3_isHill := goodIn_r _ [7, 8, 9, 10, 6, 11, 16, 17, 18, 19, 20, 21, 22, 23, 24, 25, 26] (by decide +kernel) (by decide +kernel)
set_option maxRecDepth 20000 in
theorem gX3_turnEast_X3_isHill : GoodIn wsX3_turnEast (wsV RX3 89 RX3 yX3_isHill wsX3_isHill) := goodIn_app (goodIn_of _ (by decide +kernel)) ggX3_turnEast_X3_isHill
set_option maxRecDepth 20000 in
theorem ggX3_turnEast_X3_failed : GoodIn wsX3_turnEast wsX3_failed := goodIn_r _ [15, 1, 16, 17, 18, 19, 20, 21, 22, 23, 24, 25, 26] (by decide +kernel) (by decide +kernel)
set_option maxRecDepth 20000 in
theorem gX3_turnEast_X3_failed : GoodIn wsX3_turnEast (wsV RX3 93 RX3 yX3_failed wsX3_failed) := goodIn_app (goodIn_of _ (by decide +kernel)) ggX3_turnEast_X3_failed
theorem dX3_turnEast_0 : decode cX3_turnEast 0 = .ok (.aload_n 0, 1) := by decide +kernel
theorem dX3_turnEast_1 : decode cX3_turnEast 1 = .ok (.iconst 0, 1) := by decide +kernel
theorem dX3_turnEast_2 : decode cX3_turnEast 2 = .ok (.putfield 38, 3) := by decide +kernel
theorem dX3_turnEast_5 : decode cX3_turnEast 5 = .ok (.aload_n 0, 1) := by decide +kernel
theorem dX3_turnEast_6 : decode cX3_turnEast 6 = .ok (.iload_n 1, 1) := by decide +kernel
theorem dX3_turnEast_7 : decode cX3_turnEast 7 = .ok (.invokevirtual 89, 3) := by decide +kernel
theorem dX3_turnEast_10 : decode cX3_turnEast 10 = .ok (.ifCond .ne 9, 3) := by decide +kernel
theorem dX3_turnEast_13 : decode cX3_turnEast 13 = .ok (.aload_n 0, 1) := by decide +kernel
theorem dX3_turnEast_14 : decode cX3_turnEast 14 = .ok (.iconst 1, 1) := by decide +kernel
theorem dX3_turnEast_15 : decode cX3_turnEast 15 = .ok (.invokevirtual 93, 3) := by decide +kernel
theorem dX3_turnEast_18 : decode cX3_turnEast 18 = .ok (.ireturn, 1) := by decide +kernel
theorem dX3_turnEast_19 : decode cX3_turnEast 19 = .ok (.aload_n 0, 1) := by decide +kernel
theorem dX3_turnEast_20 : decode cX3_turnEast 20 = .ok (.getfield 13, 3) := by decide +kernel
theorem dX3_turnEast_23 : decode cX3_turnEast 23 = .ok (.iload_n 1, 1) := by decide +kernel
theorem dX3_turnEast_24 : decode cX3_turnEast 24 = .ok (.aload_n 0, 1) := by decide +kernel
theorem dX3_turnEast_25 : decode cX3_turnEast 25 = .ok (.getfield 13, 3) := by decide +kernel
theorem dX3_turnEast_28 : decode cX3_turnEast 28 = .ok (.iload_n 1, 1) := by decide +kernel
theorem dX3_turnEast_29 : decode cX3_turnEast 29 = .ok (.baload, 1) := by decide +kernel
theorem dX3_turnEast_30 : decode cX3_turnEast 30 = .ok (.ifCond .ne 7, 3) := by decide +kernel
theorem dX3_turnEast_33 : decode cX3_turnEast 33 = .ok (.iconst 1, 1) := by decide +kernel
theorem dX3_turnEast_34 : decode cX3_turnEast 34 = .ok (.goto 4, 3) := by decide +kernel
theorem dX3_turnEast_37 : decode cX3_turnEast 37 = .ok (.iconst 0, 1) := by decide +kernel
theorem dX3_turnEast_38 : decode cX3_turnEast 38 = .ok (.bastore, 1) := by decide +kernel
theorem dX3_turnEast_39 : decode cX3_turnEast 39 = .ok (.aload_n 0, 1) := by decide +kernel
theorem dX3_turnEast_40 : decode cX3_turnEast 40 = .ok (.getfield 13, 3) := by decide +kernel
theorem dX3_turnEast_43 : decode cX3_turnEast 43 = .ok (.iload_n 1, 1) := by decide +kernel
theorem dX3_turnEast_44 : decode cX3_turnEast 44 = .ok (.baload, 1) := by decide +kernel
theorem dX3_turnEast_45 : decode cX3_turnEast 45 = .ok (.ireturn, 1) := by decide +kernel
set_option maxRecDepth 20000 in
theorem ggX3_turnPost_X3_isHill : GoodIn wsX3_turnPost wsX3_isHill := goodIn_r _ [7, 8, 9, 10, 6, 11, 16, 17, 18, 19, 20, 21, 22, 23, 24, 25, 26] (by decide +kernel) (by decide +kernel)
set_option maxRecDepth 20000 in
theorem gX3_turnPost_X3_isHill : GoodIn wsX3_turnPost (wsV RX3 89 RX3 yX3_isHill wsX3_isHill) := goodIn_app (goodIn_of _ (by decide +kernel)) ggX3_turnPost_X3_isHill
set_option maxRecDepth 20000 in
theorem ggX3_turnPost_X3_failed : GoodIn wsX3_turnPost wsX3_failed := goodIn_r _ [15, 1, 16, 17, 18, 19, 20, 21, 22, 23, 24, 25, 26] (by decide +kernel) (by decide +kernel)
set_option maxRecDepth 20000 in
theorem gX3_turnPost_X3_failed : GoodIn wsX3_turnPost (wsV RX3 93 RX3 yX3_failed wsX3_failed) := goodIn_app (goodIn_of _ (by decide +kernel)) ggX3_turnPost_X3_failed
theorem dX3_turnPost_0 : decode cX3_turnPost 0 = .ok (.aload_n 0, 1) := by decide +kernel
theorem dX3_turnPost_1 : decode cX3_turnPost 1 = .ok (.iconst 0, 1) := by decide +kernel
theorem dX3_turnPost_2 : decode cX3_turnPost 2 = .ok (.putfield 38, 3) := by decide +kernel
theorem dX3_turnPost_5 : decode cX3_turnPost 5 = .ok (.aload_n 0, 1) := by decide +kernel
theorem dX3_turnPost_6 : decode cX3_turnPost 6 = .ok (.iload_n 1, 1) := by decide +kernel
theorem dX3_turnPost_7 : decode cX3_turnPost 7 = .ok (.invokevirtual 89, 3) := by decide +kernel
theorem dX3_turnPost_10 : decode cX3_turnPost 10 = .ok (.ifCond .ne 9, 3) := by decide +kernel
theorem dX3_turnPost_13 : decode cX3_turnPost 13 = .ok (.aload_n 0, 1) := by decide +kernel
theorem dX3_turnPost_14 : decode cX3_turnPost 14 = .ok (.iconst 1, 1) := by decide +kernel
theorem dX3_turnPost_15 : decode cX3_turnPost 15 = .ok (.invokevirtual 93, 3) := by decide +kernel
theorem dX3_turnPost_18 : decode cX3_turnPost 18 = .ok (.ireturn, 1) := by decide +kernel
theorem dX3_turnPost_19 : decode cX3_turnPost 19 = .ok (.aload_n 0, 1) := by decide +kernel
theorem dX3_turnPost_20 : decode cX3_turnPost 20 = .ok (.getfield 17, 3) := by decide +kernel
theorem dX3_turnPost_23 : decode cX3_turnPost 23 = .ok (.iload_n 1, 1) := by decide +kernel
theorem dX3_turnPost_24 : decode cX3_turnPost 24 = .ok (.aload_n 0, 1) := by decide +kernel
theorem dX3_turnPost_25 : decode cX3_turnPost 25 = .ok (.getfield 17, 3) := by decide +kernel
theorem dX3_turnPost_28 : decode cX3_turnPost 28 = .ok (.iload_n 1, 1) := by decide +kernel
theorem dX3_turnPost_29 : decode cX3_turnPost 29 = .ok (.baload, 1) := by decide +kernel
theorem dX3_turnPost_30 : decode cX3_turnPost 30 = .ok (.ifCond .ne 7, 3) := by decide +kernel
theorem dX3_turnPost_33 : decode cX3_turnPost 33 = .ok (.iconst 1, 1) := by decide +kernel
theorem dX3_turnPost_34 : decode cX3_turnPost 34 = .ok (.goto 4, 3) := by decide +kernel
theorem dX3_turnPost_37 : decode cX3_turnPost 37 = .ok (.iconst 0, 1) := by decide +kernel
theorem dX3_turnPost_38 : decode cX3_turnPost 38 = .ok (.bastore, 1) := by decide +kernel
theorem dX3_turnPost_39 : decode cX3_turnPost 39 = .ok (.aload_n 0, 1) := by decide +kernel
theorem dX3_turnPost_40 : decode cX3_turnPost 40 = .ok (.getfield 17, 3) := by decide +kernel
theorem dX3_turnPost_43 : decode cX3_turnPost 43 = .ok (.iload_n 1, 1) := by decide +kernel
theorem dX3_turnPost_44 : decode cX3_turnPost 44 = .ok (.baload, 1) := by decide +kernel
theorem dX3_turnPost_45 : decode cX3_turnPost 45 = .ok (.ireturn, 1) := by decide +kernel
set_option maxRecDepth 20000 in
theorem ggX3_bringWood_X3_isHill : GoodIn wsX3_bringWood wsX3_isHill := goodIn_r _ [10, 11, 12, 13, 9, 14, 28, 29, 30, 31, 32, 33, 34, 35, 36, 37, 38] (by decide +kernel) (by decide +kernel)
set_option maxRecDepth 20000 in
theorem gX3_bringWood_X3_isHill : GoodIn wsX3_bringWood (wsV RX3 89 RX3 yX3_isHill wsX3_isHill) := goodIn_app (goodIn_of _ (by decide +kernel)) ggX3_bringWood_X3_isHill
set_option maxRecDepth 20000 in
theorem ggX3_bringWood_X3_fail : GoodIn wsX3_bringWood wsX3_fail := goodIn_r _ [18, 1, 28, 29, 30, 31, 32, 33, 34, 35, 36, 37, 38] (by decide +kernel) (by decide +kernel)
set_option maxRecDepth 20000 in
theorem gX3_bringWood_X3_fail : GoodIn wsX3_bringWood (wsV RX3 86 RX3 yX3_fail wsX3_fail) := goodIn_app (goodIn_of _ (by decide +kernel)) ggX3_bringWood_X3_fail
set_option maxRecDepth 20000 in
theorem ggX3_bringWood_X3_isIn : GoodIn wsX3_bringWood wsX3_isIn := goodIn_r _ [14] (by decide +kernel) (by decide +kernel)
set_option maxRecDepth 20000 in
theorem gX3_bringWood_X3_isIn : GoodIn wsX3_bringWood (va_wsS RX3 45 yX3_isIn wsX3_isIn) := goodIn_app (goodIn_of _ (by decide +kernel)) ggX3_bringWood_X3_isIn
set_option maxRecDepth 20000 in
theorem ggX3_bringWood_X3_hi : GoodIn wsX3_bringWood wsX3_hi := goodIn_r _ [22, 23, 28, 29, 30, 31, 32, 33, 34, 35, 36, 37, 38] (by decide +kernel) (by decide +kernel)
set_option maxRecDepth 20000 in
theorem gX3_bringWood_X3_hi : GoodIn wsX3_bringWood (wsV RX3 59 RX3 yX3_hi wsX3_hi) := goodIn_app (goodIn_of _ (by decide +kernel)) ggX3_bringWood_X3_hi
set_option maxRecDepth 20000 in
theorem ggX3_bringWood_X3_let : GoodIn wsX3_bringWood wsX3_let := goodIn_r _ [27, 23, 28, 29, 30, 31, 32, 33, 34, 35, 36, 37, 38] (by decide +kernel) (by decide +kernel)
set_option maxRecDepth 20000 in
theorem gX3_bringWood_X3_let : GoodIn wsX3_bringWood (wsV RX3 63 RX3 yX3_let wsX3_let) := goodIn_app (goodIn_of _ (by decide +kernel)) ggX3_bringWood_X3_let
theorem dX3_bringWood_0 : decode cX3_bringWood 0 = .ok (.aload_n 0, 1) := by decide +kernel
theorem dX3_bringWood_1 : decode cX3_bringWood 1 = .ok (.iconst 0, 1) := by decide +kernel
theorem dX3_bringWood_2 : decode cX3_bringWood 2 = .ok (.putfield 38, 3) := by decide +kernel
theorem dX3_bringWood_5 : decode cX3_bringWood 5 = .ok (.aload_n 0, 1) := by decide +kernel
theorem dX3_bringWood_6 : decode cX3_bringWood 6 = .ok (.iload_n 1, 1) := by decide +kernel
theorem dX3_bringWood_7 : decode cX3_bringWood 7 = .ok (.invokevirtual 89, 3) := by decide +kernel
theorem dX3_bringWood_10 : decode cX3_bringWood 10 = .ok (.ifCond .ne 9, 3) := by decide +kernel
theorem dX3_bringWood_13 : decode cX3_bringWood 13 = .ok (.aload_n 0, 1) := by decide +kernel
theorem dX3_bringWood_14 : decode cX3_bringWood 14 = .ok (.iconst 1, 1) := by decide +kernel
theorem dX3_bringWood_15 : decode cX3_bringWood 15 = .ok (.invokevirtual 86, 3) := by decide +kernel
theorem dX3_bringWood_18 : decode cX3_bringWood 18 = .ok (.ireturn, 1) := by decide +kernel
theorem dX3_bringWood_19 : decode cX3_bringWood 19 = .ok (.iload_n 2, 1) := by decide +kernel
theorem dX3_bringWood_20 : decode cX3_bringWood 20 = .ok (.iconst 1, 1) := by decide +kernel
theorem dX3_bringWood_21 : decode cX3_bringWood 21 = .ok (.bipush 30, 2) := by decide +kernel
theorem dX3_bringWood_23 : decode cX3_bringWood 23 = .ok (.invokestatic 45, 3) := by decide +kernel
theorem dX3_bringWood_26 : decode cX3_bringWood 26 = .ok (.ifCond .ne 9, 3) := by decide +kernel
theorem dX3_bringWood_29 : decode cX3_bringWood 29 = .ok (.aload_n 0, 1) := by decide +kernel
theorem dX3_bringWood_30 : decode cX3_bringWood 30 = .ok (.iconst 2, 1) := by decide +kernel
theorem dX3_bringWood_31 : decode cX3_bringWood 31 = .ok (.invokevirtual 86, 3) := by decide +kernel
theorem dX3_bringWood_34 : decode cX3_bringWood 34 = .ok (.ireturn, 1) := by decide +kernel
theorem dX3_bringWood_35 : decode cX3_bringWood 35 = .ok (.aload_n 0, 1) := by decide +kernel
theorem dX3_bringWood_36 : decode cX3_bringWood 36 = .ok (.iload_n 1, 1) := by decide +kernel
theorem dX3_bringWood_37 : decode cX3_bringWood 37 = .ok (.iconst 0, 1) := by decide +kernel
theorem dX3_bringWood_38 : decode cX3_bringWood 38 = .ok (.bipush 30, 2) := by decide +kernel
theorem dX3_bringWood_40 : decode cX3_bringWood 40 = .ok (.aload_n 0, 1) := by decide +kernel
theorem dX3_bringWood_41 : decode cX3_bringWood 41 = .ok (.iload_n 1, 1) := by decide +kernel
theorem dX3_bringWood_42 : decode cX3_bringWood 42 = .ok (.iconst 0, 1) := by decide +kernel
theorem dX3_bringWood_43 : decode cX3_bringWood 43 = .ok (.invokevirtual 59, 3) := by decide +kernel
theorem dX3_bringWood_46 : decode cX3_bringWood 46 = .ok (.iload_n 2, 1) := by decide +kernel
theorem dX3_bringWood_47 : decode cX3_bringWood 47 = .ok (.iadd, 1) := by decide +kernel
theorem dX3_bringWood_48 : decode cX3_bringWood 48 = .ok (.invokestatic 96, 3) := by decide +kernel
theorem dX3_bringWood_51 : decode cX3_bringWood 51 = .ok (.invokevirtual 63, 3) := by decide +kernel
theorem dX3_bringWood_54 : decode cX3_bringWood 54 = .ok (.aload_n 0, 1) := by decide +kernel
theorem dX3_bringWood_55 : decode cX3_bringWood 55 = .ok (.iload_n 1, 1) := by decide +kernel
theorem dX3_bringWood_56 : decode cX3_bringWood 56 = .ok (.iconst 0, 1) := by decide +kernel
theorem dX3_bringWood_57 : decode cX3_bringWood 57 = .ok (.invokevirtual 59, 3) := by decide +kernel
theorem dX3_bringWood_60 : decode cX3_bringWood 60 = .ok (.ireturn, 1) := by decide +kernel
set_option maxRecDepth 20000 in
theorem ggX3_setDamp_X3_isHill : GoodIn wsX3_setDamp wsX3_isHill := goodIn_r _ [6, 7, 8, 9, 5, 10, 24, 25, 26, 27, 28, 29, 30, 31, 32, 33, 34] (by decide +kernel) (by decide +kernel)
set_option maxRecDepth 20000 in
theorem gX3_setDamp_X3_isHill : GoodIn wsX3_setDamp (wsV RX3 89 RX3 yX3_isHill wsX3_isHill) := goodIn_app (goodIn_of _ (by decide +kernel)) ggX3_setDamp_X3_isHill
set_option maxRecDepth 20000 in
theorem ggX3_setDamp_X3_fail : GoodIn wsX3_setDamp wsX3_fail := goodIn_r _ [14, 1, 24, 25, 26, 27, 28, 29, 30, 31, 32, 33, 34] (by decide +kernel) (by decide +kernel)
set_option maxRecDepth 20000 in
theorem gX3_setDamp_X3_fail : GoodIn wsX3_setDamp (wsV RX3 86 RX3 yX3_fail wsX3_fail) := goodIn_app (goodIn_of _ (by decide +kernel)) ggX3_setDamp_X3_fail
set_option maxRecDepth 20000 in
theorem ggX3_setDamp_X3_isIn : GoodIn wsX3_setDamp wsX3_isIn := goodIn_r _ [10] (by decide +kernel) (by decide +kernel)
set_option maxRecDepth 20000 in
theorem gX3_setDamp_X3_isIn : GoodIn wsX3_setDamp (va_wsS RX3 45 yX3_isIn wsX3_isIn) := goodIn_app (goodIn_of _ (by decide +kernel)) ggX3_setDamp_X3_isIn
set_option maxRecDepth 20000 in
theorem ggX3_setDamp_X3_hi : GoodIn wsX3_setDamp wsX3_hi := goodIn_r _ [18, 19, 24, 25, 26, 27, 28, 29, 30, 31, 32, 33, 34] (by decide +kernel) (by decide +kernel)
set_option maxRecDepth 20000 in
theorem gX3_setDamp_X3_hi : GoodIn wsX3_setDamp (wsV RX3 59 RX3 yX3_hi wsX3_hi) := goodIn_app (goodIn_of _ (by decide +kernel)) ggX3_setDamp_X3_hi
set_option maxRecDepth 20000 in
theorem ggX3_setDamp_X3_let : GoodIn wsX3_setDamp wsX3_let := goodIn_r _ [23, 19, 24, 25, 26, 27, 28, 29, 30, 31, 32, 33, 34] (by decide +kernel) (by decide +kernel)
set_option maxRecDepth 20000 in
theorem gX3_setDamp_X3_let : GoodIn wsX3_setDamp (wsV RX3 63 RX3 yX3_let wsX3_let) := goodIn_app (goodIn_of _ (by decide +kernel)) ggX3_setDamp_X3_let
theorem dX3_setDamp_0 : decode cX3_setDamp 0 = .ok (.aload_n 0, 1) := by decide +kernel
theorem dX3_setDamp_1 : decode cX3_setDamp 1 = .ok (.iconst 0, 1) := by decide +kernel
theorem dX3_setDamp_2 : decode cX3_setDamp 2 = .ok (.putfield 38, 3) := by decide +kernel
theorem dX3_setDamp_5 : decode cX3_setDamp 5 = .ok (.aload_n 0, 1) := by decide +kernel
theorem dX3_setDamp_6 : decode cX3_setDamp 6 = .ok (.iload_n 1, 1) := by decide +kernel
theorem dX3_setDamp_7 : decode cX3_setDamp 7 = .ok (.invokevirtual 89, 3) := by decide +kernel
theorem dX3_setDamp_10 : decode cX3_setDamp 10 = .ok (.ifCond .ne 9, 3) := by decide +kernel
theorem dX3_setDamp_13 : decode cX3_setDamp 13 = .ok (.aload_n 0, 1) := by decide +kernel
theorem dX3_setDamp_14 : decode cX3_setDamp 14 = .ok (.iconst 1, 1) := by decide +kernel
theorem dX3_setDamp_15 : decode cX3_setDamp 15 = .ok (.invokevirtual 86, 3) := by decide +kernel
theorem dX3_setDamp_18 : decode cX3_setDamp 18 = .ok (.ireturn, 1) := by decide +kernel
theorem dX3_setDamp_19 : decode cX3_setDamp 19 = .ok (.iload_n 2, 1) := by decide +kernel
theorem dX3_setDamp_20 : decode cX3_setDamp 20 = .ok (.iconst 0, 1) := by decide +kernel
theorem dX3_setDamp_21 : decode cX3_setDamp 21 = .ok (.bipush 9, 2) := by decide +kernel
theorem dX3_setDamp_23 : decode cX3_setDamp 23 = .ok (.invokestatic 45, 3) := by decide +kernel
theorem dX3_setDamp_26 : decode cX3_setDamp 26 = .ok (.ifCond .ne 9, 3) := by decide +kernel
theorem dX3_setDamp_29 : decode cX3_setDamp 29 = .ok (.aload_n 0, 1) := by decide +kernel
theorem dX3_setDamp_30 : decode cX3_setDamp 30 = .ok (.iconst 2, 1) := by decide +kernel
theorem dX3_setDamp_31 : decode cX3_setDamp 31 = .ok (.invokevirtual 86, 3) := by decide +kernel
theorem dX3_setDamp_34 : decode cX3_setDamp 34 = .ok (.ireturn, 1) := by decide +kernel
theorem dX3_setDamp_35 : decode cX3_setDamp 35 = .ok (.aload_n 0, 1) := by decide +kernel
theorem dX3_setDamp_36 : decode cX3_setDamp 36 = .ok (.iload_n 1, 1) := by decide +kernel
theorem dX3_setDamp_37 : decode cX3_setDamp 37 = .ok (.bipush 6, 2) := by decide +kernel
theorem dX3_setDamp_39 : decode cX3_setDamp 39 = .ok (.invokevirtual 59, 3) := by decide +kernel
theorem dX3_setDamp_42 : decode cX3_setDamp 42 = .ok (.istore_n 3, 1) := by decide +kernel
theorem dX3_setDamp_43 : decode cX3_setDamp 43 = .ok (.aload_n 0, 1) := by decide +kernel
theorem dX3_setDamp_44 : decode cX3_setDamp 44 = .ok (.iload_n 1, 1) := by decide +kernel
theorem dX3_setDamp_45 : decode cX3_setDamp 45 = .ok (.bipush 6, 2) := by decide +kernel
theorem dX3_setDamp_47 : decode cX3_setDamp 47 = .ok (.iload_n 2, 1) := by decide +kernel
theorem dX3_setDamp_48 : decode cX3_setDamp 48 = .ok (.invokevirtual 63, 3) := by decide +kernel
theorem dX3_setDamp_51 : decode cX3_setDamp 51 = .ok (.iload_n 3, 1) := by decide +kernel
theorem dX3_setDamp_52 : decode cX3_setDamp 52 = .ok (.ireturn, 1) := by decide +kernel
set_option maxRecDepth 20000 in
theorem ggX3_setHaze_X3_isIn : GoodIn wsX3_setHaze wsX3_isIn := goodIn_r _ [6] (by decide +kernel) (by decide +kernel)
set_option maxRecDepth 20000 in
theorem gX3_setHaze_X3_isIn : GoodIn wsX3_setHaze (va_wsS RX3 45 yX3_isIn wsX3_isIn) := goodIn_app (goodIn_of _ (by decide +kernel)) ggX3_setHaze_X3_isIn
set_option maxRecDepth 20000 in
theorem ggX3_setHaze_X3_fail : GoodIn wsX3_setHaze wsX3_fail := goodIn_r _ [10, 1, 11, 12, 13, 14, 15, 16, 17, 18, 19, 20, 21] (by decide +kernel) (by decide +kernel)
set_option maxRecDepth 20000 in
theorem gX3_setHaze_X3_fail : GoodIn wsX3_setHaze (wsV RX3 86 RX3 yX3_fail wsX3_fail) := goodIn_app (goodIn_of _ (by decide +kernel)) ggX3_setHaze_X3_fail
theorem dX3_setHaze_0 : decode cX3_setHaze 0 = .ok (.aload_n 0, 1) := by decide +kernel
theorem dX3_setHaze_1 : decode cX3_setHaze 1 = .ok (.iconst 0, 1) := by decide +kernel
theorem dX3_setHaze_2 : decode cX3_setHaze 2 = .ok (.putfield 38, 3) := by decide +kernel
theorem dX3_setHaze_5 : decode cX3_setHaze 5 = .ok (.iload_n 1, 1) := by decide +kernel
theorem dX3_setHaze_6 : decode cX3_setHaze 6 = .ok (.iconst 0, 1) := by decide +kernel
theorem dX3_setHaze_7 : decode cX3_setHaze 7 = .ok (.bipush 9, 2) := by decide +kernel
theorem dX3_setHaze_9 : decode cX3_setHaze 9 = .ok (.invokestatic 45, 3) := by decide +kernel
theorem dX3_setHaze_12 : decode cX3_setHaze 12 = .ok (.ifCond .ne 9, 3) := by decide +kernel
theorem dX3_setHaze_15 : decode cX3_setHaze 15 = .ok (.aload_n 0, 1) := by decide +kernel
theorem dX3_setHaze_16 : decode cX3_setHaze 16 = .ok (.iconst 1, 1) := by decide +kernel
theorem dX3_setHaze_17 : decode cX3_setHaze 17 = .ok (.invokevirtual 86, 3) := by decide +kernel
theorem dX3_setHaze_20 : decode cX3_setHaze 20 = .ok (.ireturn, 1) := by decide +kernel
theorem dX3_setHaze_21 : decode cX3_setHaze 21 = .ok (.aload_n 0, 1) := by decide +kernel
theorem dX3_setHaze_22 : decode cX3_setHaze 22 = .ok (.getfield 23, 3) := by decide +kernel
theorem dX3_setHaze_25 : decode cX3_setHaze 25 = .ok (.iconst 4, 1) := by decide +kernel
theorem dX3_setHaze_26 : decode cX3_setHaze 26 = .ok (.iaload, 1) := by decide +kernel
theorem dX3_setHaze_27 : decode cX3_setHaze 27 = .ok (.istore_n 2, 1) := by decide +kernel
theorem dX3_setHaze_28 : decode cX3_setHaze 28 = .ok (.aload_n 0, 1) := by decide +kernel
theorem dX3_setHaze_29 : decode cX3_setHaze 29 = .ok (.getfield 23, 3) := by decide +kernel
theorem dX3_setHaze_32 : decode cX3_setHaze 32 = .ok (.iconst 4, 1) := by decide +kernel
theorem dX3_setHaze_33 : decode cX3_setHaze 33 = .ok (.iload_n 1, 1) := by decide +kernel
theorem dX3_setHaze_34 : decode cX3_setHaze 34 = .ok (.iastore, 1) := by decide +kernel
theorem dX3_setHaze_35 : decode cX3_setHaze 35 = .ok (.iload_n 2, 1) := by decide +kernel
theorem dX3_setHaze_36 : decode cX3_setHaze 36 = .ok (.ireturn, 1) := by decide +kernel
set_option maxRecDepth 20000 in
theorem ggX3_canLight_X3_isHill : GoodIn wsX3_canLight wsX3_isHill := goodIn_r _ [6, 7, 8, 9, 5, 10, 16, 17, 18, 19, 20, 21, 22, 23, 24, 25, 26] (by decide +kernel) (by decide +kernel)
set_option maxRecDepth 20000 in
theorem gX3_canLight_X3_isHill : GoodIn wsX3_canLight (wsV RX3 89 RX3 yX3_isHill wsX3_isHill) := goodIn_app (goodIn_of _ (by decide +kernel)) ggX3_canLight_X3_isHill
set_option maxRecDepth 20000 in
theorem ggX3_canLight_X3_hi : GoodIn wsX3_canLight wsX3_hi := goodIn_r _ [14, 15, 16, 17, 18, 19, 20, 21, 22, 23, 24, 25, 26] (by decide +kernel) (by decide +kernel)
set_option maxRecDepth 20000 in
theorem gX3_canLight_X3_hi : GoodIn wsX3_canLight (wsV RX3 59 RX3 yX3_hi wsX3_hi) := goodIn_app (goodIn_of _ (by decide +kernel)) ggX3_canLight_X3_hi
theorem dX3_canLight_0 : decode cX3_canLight 0 = .ok (.aload_n 0, 1) := by decide +kernel
theorem dX3_canLight_1 : decode cX3_canLight 1 = .ok (.aload_n 0, 1) := by decide +kernel
theorem dX3_canLight_2 : decode cX3_canLight 2 = .ok (.iload_n 1, 1) := by decide +kernel
theorem dX3_canLight_3 : decode cX3_canLight 3 = .ok (.invokevirtual 89, 3) := by decide +kernel
theorem dX3_canLight_6 : decode cX3_canLight 6 = .ok (.ifCond .ne 7, 3) := by decide +kernel
theorem dX3_canLight_9 : decode cX3_canLight 9 = .ok (.iconst 1, 1) := by decide +kernel
theorem dX3_canLight_10 : decode cX3_canLight 10 = .ok (.goto 26, 3) := by decide +kernel
theorem dX3_canLight_13 : decode cX3_canLight 13 = .ok (.aload_n 0, 1) := by decide +kernel
theorem dX3_canLight_14 : decode cX3_canLight 14 = .ok (.iload_n 1, 1) := by decide +kernel
theorem dX3_canLight_15 : decode cX3_canLight 15 = .ok (.iconst 1, 1) := by decide +kernel
theorem dX3_canLight_16 : decode cX3_canLight 16 = .ok (.invokevirtual 59, 3) := by decide +kernel
theorem dX3_canLight_19 : decode cX3_canLight 19 = .ok (.ifCond .ne 16, 3) := by decide +kernel
theorem dX3_canLight_22 : decode cX3_canLight 22 = .ok (.aload_n 0, 1) := by decide +kernel
theorem dX3_canLight_23 : decode cX3_canLight 23 = .ok (.iload_n 1, 1) := by decide +kernel
theorem dX3_canLight_24 : decode cX3_canLight 24 = .ok (.iconst 0, 1) := by decide +kernel
theorem dX3_canLight_25 : decode cX3_canLight 25 = .ok (.invokevirtual 59, 3) := by decide +kernel
theorem dX3_canLight_28 : decode cX3_canLight 28 = .ok (.ifCond .le 7, 3) := by decide +kernel
theorem dX3_canLight_31 : decode cX3_canLight 31 = .ok (.iconst 0, 1) := by decide +kernel
theorem dX3_canLight_32 : decode cX3_canLight 32 = .ok (.goto 4, 3) := by decide +kernel
theorem dX3_canLight_35 : decode cX3_canLight 35 = .ok (.iconst 2, 1) := by decide +kernel
theorem dX3_canLight_36 : decode cX3_canLight 36 = .ok (.putfield 38, 3) := by decide +kernel
theorem dX3_canLight_39 : decode cX3_canLight 39 = .ok (.aload_n 0, 1) := by decide +kernel
theorem dX3_canLight_40 : decode cX3_canLight 40 = .ok (.getfield 38, 3) := by decide +kernel
theorem dX3_canLight_43 : decode cX3_canLight 43 = .ok (.ifCond .ne 7, 3) := by decide +kernel
theorem dX3_canLight_46 : decode cX3_canLight 46 = .ok (.iconst 1, 1) := by decide +kernel
theorem dX3_canLight_47 : decode cX3_canLight 47 = .ok (.goto 4, 3) := by decide +kernel
theorem dX3_canLight_50 : decode cX3_canLight 50 = .ok (.iconst 0, 1) := by decide +kernel
theorem dX3_canLight_51 : decode cX3_canLight 51 = .ok (.ireturn, 1) := by decide +kernel
set_option maxRecDepth 20000 in
theorem ggX3_lightNow_X3_let : GoodIn wsX3_lightNow wsX3_let := goodIn_r _ [5, 6, 15, 16, 17, 18, 19, 20, 21, 22, 23, 24, 25] (by decide +kernel) (by decide +kernel)
set_option maxRecDepth 20000 in
theorem gX3_lightNow_X3_let : GoodIn wsX3_lightNow (wsV RX3 63 RX3 yX3_let wsX3_let) := goodIn_app (goodIn_of _ (by decide +kernel)) ggX3_lightNow_X3_let
set_option maxRecDepth 20000 in
theorem ggX3_lightNow_X3_kindle : GoodIn wsX3_lightNow wsX3_kindle := goodIn_r _ [10, 6, 11, 12, 13, 4, 14, 1, 2, 3, 5, 15, 16, 17, 18, 19, 20, 21, 22, 23, 24, 25] (by decide +kernel) (by decide +kernel)
set_option maxRecDepth 20000 in
theorem gX3_lightNow_X3_kindle : GoodIn wsX3_lightNow (wsV RX3 71 RX3 yX3_kindle wsX3_kindle) := goodIn_app (goodIn_of _ (by decide +kernel)) ggX3_lightNow_X3_kindle
theorem dX3_lightNow_0 : decode cX3_lightNow 0 = .ok (.aload_n 0, 1) := by decide +kernel
theorem dX3_lightNow_1 : decode cX3_lightNow 1 = .ok (.iload_n 1, 1) := by decide +kernel
theorem dX3_lightNow_2 : decode cX3_lightNow 2 = .ok (.iconst 5, 1) := by decide +kernel
theorem dX3_lightNow_3 : decode cX3_lightNow 3 = .ok (.iconst 0, 1) := by decide +kernel
theorem dX3_lightNow_4 : decode cX3_lightNow 4 = .ok (.invokevirtual 63, 3) := by decide +kernel
theorem dX3_lightNow_7 : decode cX3_lightNow 7 = .ok (.aload_n 0, 1) := by decide +kernel
theorem dX3_lightNow_8 : decode cX3_lightNow 8 = .ok (.iload_n 1, 1) := by decide +kernel
theorem dX3_lightNow_9 : decode cX3_lightNow 9 = .ok (.iload_n 1, 1) := by decide +kernel
theorem dX3_lightNow_10 : decode cX3_lightNow 10 = .ok (.invokevirtual 71, 3) := by decide +kernel
theorem dX3_lightNow_13 : decode cX3_lightNow 13 = .ok (.ireturn, 1) := by decide +kernel
set_option maxRecDepth 20000 in
theorem ggX3_light_X3_canLight : GoodIn wsX3_light wsX3_canLight := goodIn_r _ [5, 6, 7, 8, 9, 4, 10, 11, 12, 13, 14, 15, 16, 17, 18, 19, 32, 33, 34, 35, 36, 37, 38, 39, 40, 41, 42] (by decide +kernel) (by decide +kernel)
set_option maxRecDepth 20000 in
theorem gX3_light_X3_canLight : GoodIn wsX3_light (wsV RX3 99 RX3 yX3_canLight wsX3_canLight) := goodIn_app (goodIn_of _ (by decide +kernel)) ggX3_light_X3_canLight
set_option maxRecDepth 20000 in
theorem ggX3_light_X3_lightNow : GoodIn wsX3_light wsX3_lightNow := goodIn_r _ [23, 24, 25, 26, 4, 27, 19, 28, 29, 30, 31, 15, 16, 17, 18, 32, 33, 34, 35, 36, 37, 38, 39, 40, 41, 42] (by decide +kernel) (by decide +kernel)
set_option maxRecDepth 20000 in
theorem gX3_light_X3_lightNow : GoodIn wsX3_light (wsV RX3 102 RX3 yX3_lightNow wsX3_lightNow) := goodIn_app (goodIn_of _ (by decide +kernel)) ggX3_light_X3_lightNow
theorem dX3_light_0 : decode cX3_light 0 = .ok (.aload_n 0, 1) := by decide +kernel
theorem dX3_light_1 : decode cX3_light 1 = .ok (.iload_n 1, 1) := by decide +kernel
theorem dX3_light_2 : decode cX3_light 2 = .ok (.invokevirtual 99, 3) := by decide +kernel
theorem dX3_light_5 : decode cX3_light 5 = .ok (.ifCond .eq 11, 3) := by decide +kernel
theorem dX3_light_8 : decode cX3_light 8 = .ok (.aload_n 0, 1) := by decide +kernel
theorem dX3_light_9 : decode cX3_light 9 = .ok (.iload_n 1, 1) := by decide +kernel
theorem dX3_light_10 : decode cX3_light 10 = .ok (.invokevirtual 102, 3) := by decide +kernel
theorem dX3_light_13 : decode cX3_light 13 = .ok (.goto 4, 3) := by decide +kernel
theorem dX3_light_16 : decode cX3_light 16 = .ok (.iconst 0, 1) := by decide +kernel
theorem dX3_light_17 : decode cX3_light 17 = .ok (.ireturn, 1) := by decide +kernel
set_option maxRecDepth 20000 in
theorem ggX3_douse_X3_isHill : GoodIn wsX3_douse wsX3_isHill := goodIn_r _ [6, 7, 8, 9, 5, 10, 28, 29, 30, 31, 32, 33, 34, 35, 36, 37, 38] (by decide +kernel) (by decide +kernel)
set_option maxRecDepth 20000 in
theorem gX3_douse_X3_isHill : GoodIn wsX3_douse (wsV RX3 89 RX3 yX3_isHill wsX3_isHill) := goodIn_app (goodIn_of _ (by decide +kernel)) ggX3_douse_X3_isHill
set_option maxRecDepth 20000 in
theorem ggX3_douse_X3_fail : GoodIn wsX3_douse wsX3_fail := goodIn_r _ [14, 1, 28, 29, 30, 31, 32, 33, 34, 35, 36, 37, 38] (by decide +kernel) (by decide +kernel)
set_option maxRecDepth 20000 in
theorem gX3_douse_X3_fail : GoodIn wsX3_douse (wsV RX3 86 RX3 yX3_fail wsX3_fail) := goodIn_app (goodIn_of _ (by decide +kernel)) ggX3_douse_X3_fail
set_option maxRecDepth 20000 in
theorem ggX3_douse_X3_hi : GoodIn wsX3_douse wsX3_hi := goodIn_r _ [18, 19, 28, 29, 30, 31, 32, 33, 34, 35, 36, 37, 38] (by decide +kernel) (by decide +kernel)
set_option maxRecDepth 20000 in
theorem gX3_douse_X3_hi : GoodIn wsX3_douse (wsV RX3 59 RX3 yX3_hi wsX3_hi) := goodIn_app (goodIn_of _ (by decide +kernel)) ggX3_douse_X3_hi
set_option maxRecDepth 20000 in
theorem ggX3_douse_X3_dark : GoodIn wsX3_douse wsX3_dark := goodIn_r _ [23, 24, 25, 26, 5, 27, 19, 28, 29, 30, 31, 32, 33, 34, 35, 36, 37, 38] (by decide +kernel) (by decide +kernel)
set_option maxRecDepth 20000 in
theorem gX3_douse_X3_dark : GoodIn wsX3_douse (wsV RX3 78 RX3 yX3_dark wsX3_dark) := goodIn_app (goodIn_of _ (by decide +kernel)) ggX3_douse_X3_dark
theorem dX3_douse_0 : decode cX3_douse 0 = .ok (.aload_n 0, 1) := by decide +kernel
theorem dX3_douse_1 : decode cX3_douse 1 = .ok (.iconst 0, 1) := by decide +kernel
theorem dX3_douse_2 : decode cX3_douse 2 = .ok (.putfield 38, 3) := by decide +kernel
theorem dX3_douse_5 : decode cX3_douse 5 = .ok (.aload_n 0, 1) := by decide +kernel
theorem dX3_douse_6 : decode cX3_douse 6 = .ok (.iload_n 1, 1) := by decide +kernel
theorem dX3_douse_7 : decode cX3_douse 7 = .ok (.invokevirtual 89, 3) := by decide +kernel
theorem dX3_douse_10 : decode cX3_douse 10 = .ok (.ifCond .ne 9, 3) := by decide +kernel
theorem dX3_douse_13 : decode cX3_douse 13 = .ok (.aload_n 0, 1) := by decide +kernel
theorem dX3_douse_14 : decode cX3_douse 14 = .ok (.iconst 1, 1) := by decide +kernel
theorem dX3_douse_15 : decode cX3_douse 15 = .ok (.invokevirtual 86, 3) := by decide +kernel
theorem dX3_douse_18 : decode cX3_douse 18 = .ok (.ireturn, 1) := by decide +kernel
theorem dX3_douse_19 : decode cX3_douse 19 = .ok (.aload_n 0, 1) := by decide +kernel
theorem dX3_douse_20 : decode cX3_douse 20 = .ok (.iload_n 1, 1) := by decide +kernel
theorem dX3_douse_21 : decode cX3_douse 21 = .ok (.iconst 1, 1) := by decide +kernel
theorem dX3_douse_22 : decode cX3_douse 22 = .ok (.invokevirtual 59, 3) := by decide +kernel
theorem dX3_douse_25 : decode cX3_douse 25 = .ok (.ifCond .ne 9, 3) := by decide +kernel
theorem dX3_douse_28 : decode cX3_douse 28 = .ok (.aload_n 0, 1) := by decide +kernel
theorem dX3_douse_29 : decode cX3_douse 29 = .ok (.iconst 2, 1) := by decide +kernel
theorem dX3_douse_30 : decode cX3_douse 30 = .ok (.invokevirtual 86, 3) := by decide +kernel
theorem dX3_douse_33 : decode cX3_douse 33 = .ok (.ireturn, 1) := by decide +kernel
theorem dX3_douse_34 : decode cX3_douse 34 = .ok (.aload_n 0, 1) := by decide +kernel
theorem dX3_douse_35 : decode cX3_douse 35 = .ok (.iload_n 1, 1) := by decide +kernel
theorem dX3_douse_36 : decode cX3_douse 36 = .ok (.invokevirtual 78, 3) := by decide +kernel
theorem dX3_douse_39 : decode cX3_douse 39 = .ok (.aload_n 0, 1) := by decide +kernel
theorem dX3_douse_40 : decode cX3_douse 40 = .ok (.iload_n 1, 1) := by decide +kernel
theorem dX3_douse_41 : decode cX3_douse 41 = .ok (.iconst 0, 1) := by decide +kernel
theorem dX3_douse_42 : decode cX3_douse 42 = .ok (.invokevirtual 59, 3) := by decide +kernel
theorem dX3_douse_45 : decode cX3_douse 45 = .ok (.ireturn, 1) := by decide +kernel
set_option maxRecDepth 20000 in
theorem ggX3_glow_X3_isIn : GoodIn wsX3_glow wsX3_isIn := goodIn_r _ [6] (by decide +kernel) (by decide +kernel)
set_option maxRecDepth 20000 in
theorem gX3_glow_X3_isIn : GoodIn wsX3_glow (va_wsS RX3 45 yX3_isIn wsX3_isIn) := goodIn_app (goodIn_of _ (by decide +kernel)) ggX3_glow_X3_isIn
set_option maxRecDepth 20000 in
theorem ggX3_glow_X3_fail : GoodIn wsX3_glow wsX3_fail := goodIn_r _ [10, 1, 11, 12, 13, 14, 15, 16, 17, 18, 19, 20, 21] (by decide +kernel) (by decide +kernel)
set_option maxRecDepth 20000 in
theorem gX3_glow_X3_fail : GoodIn wsX3_glow (wsV RX3 86 RX3 yX3_fail wsX3_fail) := goodIn_app (goodIn_of _ (by decide +kernel)) ggX3_glow_X3_fail
theorem dX3_glow_0 : decode cX3_glow 0 = .ok (.aload_n 0, 1) := by decide +kernel
theorem dX3_glow_1 : decode cX3_glow 1 = .ok (.iconst 0, 1) := by decide +kernel
theorem dX3_glow_2 : decode cX3_glow 2 = .ok (.putfield 38, 3) := by decide +kernel
theorem dX3_glow_5 : decode cX3_glow 5 = .ok (.iload_n 1, 1) := by decide +kernel
theorem dX3_glow_6 : decode cX3_glow 6 = .ok (.iconst 0, 1) := by decide +kernel
theorem dX3_glow_7 : decode cX3_glow 7 = .ok (.bipush 30, 2) := by decide +kernel
theorem dX3_glow_9 : decode cX3_glow 9 = .ok (.invokestatic 45, 3) := by decide +kernel
theorem dX3_glow_12 : decode cX3_glow 12 = .ok (.ifCond .ne 9, 3) := by decide +kernel
theorem dX3_glow_15 : decode cX3_glow 15 = .ok (.aload_n 0, 1) := by decide +kernel
theorem dX3_glow_16 : decode cX3_glow 16 = .ok (.iconst 1, 1) := by decide +kernel
theorem dX3_glow_17 : decode cX3_glow 17 = .ok (.invokevirtual 86, 3) := by decide +kernel
theorem dX3_glow_20 : decode cX3_glow 20 = .ok (.ireturn, 1) := by decide +kernel
theorem dX3_glow_21 : decode cX3_glow 21 = .ok (.aload_n 0, 1) := by decide +kernel
theorem dX3_glow_22 : decode cX3_glow 22 = .ok (.getfield 23, 3) := by decide +kernel
theorem dX3_glow_25 : decode cX3_glow 25 = .ok (.iconst 1, 1) := by decide +kernel
theorem dX3_glow_26 : decode cX3_glow 26 = .ok (.iaload, 1) := by decide +kernel
theorem dX3_glow_27 : decode cX3_glow 27 = .ok (.istore_n 2, 1) := by decide +kernel
theorem dX3_glow_28 : decode cX3_glow 28 = .ok (.aload_n 0, 1) := by decide +kernel
theorem dX3_glow_29 : decode cX3_glow 29 = .ok (.getfield 23, 3) := by decide +kernel
theorem dX3_glow_32 : decode cX3_glow 32 = .ok (.iconst 1, 1) := by decide +kernel
theorem dX3_glow_33 : decode cX3_glow 33 = .ok (.iload_n 1, 1) := by decide +kernel
theorem dX3_glow_34 : decode cX3_glow 34 = .ok (.iastore, 1) := by decide +kernel
theorem dX3_glow_35 : decode cX3_glow 35 = .ok (.iload_n 2, 1) := by decide +kernel
theorem dX3_glow_36 : decode cX3_glow 36 = .ok (.ireturn, 1) := by decide +kernel
set_option maxRecDepth 20000 in
theorem ggX3_passMinutes_X3_isIn : GoodIn wsX3_passMinutes wsX3_isIn := goodIn_r _ [6] (by decide +kernel) (by decide +kernel)
set_option maxRecDepth 20000 in
theorem gX3_passMinutes_X3_isIn : GoodIn wsX3_passMinutes (va_wsS RX3 45 yX3_isIn wsX3_isIn) := goodIn_app (goodIn_of _ (by decide +kernel)) ggX3_passMinutes_X3_isIn
