theorem dX0_init_0 : decode cX0_init 0 = .ok (.aload_n 0, 1) := by decide +kernel
theorem dX0_init_1 : decode cX0_init 1 = .ok (.invokespecial 3, 3) := by decide +kernel
theorem dX0_init_4 : decode cX0_init 4 = .ok (.aload_n 0, 1) := by decide +kernel
theorem dX0_init_5 : decode cX0_init 5 = .ok (.iconst 0, 1) := by decide +kernel
theorem dX0_init_6 : decode cX0_init 6 = .ok (.putfield 9, 3) := by decide +kernel
theorem dX0_init_9 : decode cX0_init 9 = .ok (.aload_n 0, 1) := by decide +kernel
theorem dX0_init_10 : decode cX0_init 10 = .ok (.iconst 0, 1) := by decide +kernel
theorem dX0_init_11 : decode cX0_init 11 = .ok (.putfield 15, 3) := by decide +kernel
theorem dX0_init_14 : decode cX0_init 14 = .ok (.aload_n 0, 1) := by decide +kernel
theorem dX0_init_15 : decode cX0_init 15 = .ok (.bipush (-2), 2) := by decide +kernel
theorem dX0_init_17 : decode cX0_init 17 = .ok (.putfield 18, 3) := by decide +kernel
theorem dX0_init_20 : decode cX0_init 20 = .ok (.return_, 1) := by decide +kernel
theorem dX0_isReady_0 : decode cX0_isReady 0 = .ok (.aload_n 0, 1) := by decide +kernel
theorem dX0_isReady_1 : decode cX0_isReady 1 = .ok (.getfield 9, 3) := by decide +kernel
theorem dX0_isReady_4 : decode cX0_isReady 4 = .ok (.ifCond .ne 14, 3) := by decide +kernel
theorem dX0_isReady_7 : decode cX0_isReady 7 = .ok (.aload_n 0, 1) := by decide +kernel
theorem dX0_isReady_8 : decode cX0_isReady 8 = .ok (.getfield 21, 3) := by decide +kernel
theorem dX0_isReady_11 : decode cX0_isReady 11 = .ok (.ifCond .le 7, 3) := by decide +kernel
theorem dX0_isReady_14 : decode cX0_isReady 14 = .ok (.iconst 1, 1) := by decide +kernel
theorem dX0_isReady_15 : decode cX0_isReady 15 = .ok (.goto 4, 3) := by decide +kernel
theorem dX0_isReady_18 : decode cX0_isReady 18 = .ok (.iconst 0, 1) := by decide +kernel
theorem dX0_isReady_19 : decode cX0_isReady 19 = .ok (.ireturn, 1) := by decide +kernel
theorem dX0_kindle_0 : decode cX0_kindle 0 = .ok (.aload_n 0, 1) := by decide +kernel
theorem dX0_kindle_1 : decode cX0_kindle 1 = .ok (.dup, 1) := by decide +kernel
theorem dX0_kindle_2 : decode cX0_kindle 2 = .ok (.getfield 21, 3) := by decide +kernel
theorem dX0_kindle_5 : decode cX0_kindle 5 = .ok (.iconst 1, 1) := by decide +kernel
theorem dX0_kindle_6 : decode cX0_kindle 6 = .ok (.isub, 1) := by decide +kernel
theorem dX0_kindle_7 : decode cX0_kindle 7 = .ok (.putfield 21, 3) := by decide +kernel
theorem dX0_kindle_10 : decode cX0_kindle 10 = .ok (.aload_n 0, 1) := by decide +kernel
theorem dX0_kindle_11 : decode cX0_kindle 11 = .ok (.iconst 0, 1) := by decide +kernel
theorem dX0_kindle_12 : decode cX0_kindle 12 = .ok (.putfield 24, 3) := by decide +kernel
theorem dX0_kindle_15 : decode cX0_kindle 15 = .ok (.aload_n 0, 1) := by decide +kernel
theorem dX0_kindle_16 : decode cX0_kindle 16 = .ok (.iconst 1, 1) := by decide +kernel
theorem dX0_kindle_17 : decode cX0_kindle 17 = .ok (.putfield 9, 3) := by decide +kernel
theorem dX0_kindle_20 : decode cX0_kindle 20 = .ok (.aload_n 0, 1) := by decide +kernel
theorem dX0_kindle_21 : decode cX0_kindle 21 = .ok (.aload_n 0, 1) := by decide +kernel
theorem dX0_kindle_22 : decode cX0_kindle 22 = .ok (.getfield 27, 3) := by decide +kernel
theorem dX0_kindle_25 : decode cX0_kindle 25 = .ok (.iconst 1, 1) := by decide +kernel
theorem dX0_kindle_26 : decode cX0_kindle 26 = .ok (.iadd, 1) := by decide +kernel
theorem dX0_kindle_27 : decode cX0_kindle 27 = .ok (.putfield 30, 3) := by decide +kernel
theorem dX0_kindle_30 : decode cX0_kindle 30 = .ok (.aload_n 0, 1) := by decide +kernel
theorem dX0_kindle_31 : decode cX0_kindle 31 = .ok (.iload_n 1, 1) := by decide +kernel
theorem dX0_kindle_32 : decode cX0_kindle 32 = .ok (.putfield 18, 3) := by decide +kernel
theorem dX0_kindle_35 : decode cX0_kindle 35 = .ok (.return_, 1) := by decide +kernel
theorem dX0_goDark_0 : decode cX0_goDark 0 = .ok (.aload_n 0, 1) := by decide +kernel
theorem dX0_goDark_1 : decode cX0_goDark 1 = .ok (.iconst 0, 1) := by decide +kernel
theorem dX0_goDark_2 : decode cX0_goDark 2 = .ok (.putfield 9, 3) := by decide +kernel
theorem dX0_goDark_5 : decode cX0_goDark 5 = .ok (.aload_n 0, 1) := by decide +kernel
theorem dX0_goDark_6 : decode cX0_goDark 6 = .ok (.iconst 0, 1) := by decide +kernel
theorem dX0_goDark_7 : decode cX0_goDark 7 = .ok (.putfield 30, 3) := by decide +kernel
theorem dX0_goDark_10 : decode cX0_goDark 10 = .ok (.aload_n 0, 1) := by decide +kernel
theorem dX0_goDark_11 : decode cX0_goDark 11 = .ok (.bipush (-2), 2) := by decide +kernel
theorem dX0_goDark_13 : decode cX0_goDark 13 = .ok (.putfield 18, 3) := by decide +kernel
theorem dX0_goDark_16 : decode cX0_goDark 16 = .ok (.return_, 1) := by decide +kernel
set_option maxRecDepth 20000 in
theorem ggX0_burnOn_X0_goDark : GoodIn wsX0_burnOn wsX0_goDark := goodIn_r _ [6, 7, 8, 9, 10, 11, 12, 13, 14, 15, 16, 17, 18, 19, 20] (by decide +kernel) (by decide +kernel)
set_option maxRecDepth 20000 in
theorem gX0_burnOn_X0_goDark : GoodIn wsX0_burnOn (wsV RX0 33 RX0 yX0_goDark wsX0_goDark) := goodIn_app (goodIn_of _ (by decide +kernel)) ggX0_burnOn_X0_goDark
theorem dX0_burnOn_0 : decode cX0_burnOn 0 = .ok (.aload_n 0, 1) := by decide +kernel
theorem dX0_burnOn_1 : decode cX0_burnOn 1 = .ok (.getfield 21, 3) := by decide +kernel
theorem dX0_burnOn_4 : decode cX0_burnOn 4 = .ok (.ifCond .le 16, 3) := by decide +kernel
theorem dX0_burnOn_7 : decode cX0_burnOn 7 = .ok (.aload_n 0, 1) := by decide +kernel
theorem dX0_burnOn_8 : decode cX0_burnOn 8 = .ok (.dup, 1) := by decide +kernel
theorem dX0_burnOn_9 : decode cX0_burnOn 9 = .ok (.getfield 21, 3) := by decide +kernel
theorem dX0_burnOn_12 : decode cX0_burnOn 12 = .ok (.iconst 1, 1) := by decide +kernel
theorem dX0_burnOn_13 : decode cX0_burnOn 13 = .ok (.isub, 1) := by decide +kernel
theorem dX0_burnOn_14 : decode cX0_burnOn 14 = .ok (.putfield 21, 3) := by decide +kernel
theorem dX0_burnOn_17 : decode cX0_burnOn 17 = .ok (.goto 7, 3) := by decide +kernel
theorem dX0_burnOn_20 : decode cX0_burnOn 20 = .ok (.aload_n 0, 1) := by decide +kernel
theorem dX0_burnOn_21 : decode cX0_burnOn 21 = .ok (.invokevirtual 33, 3) := by decide +kernel
theorem dX0_burnOn_24 : decode cX0_burnOn 24 = .ok (.return_, 1) := by decide +kernel
set_option maxRecDepth 20000 in
theorem ggX1_init_X0_init : GoodIn wsX1_init wsX0_init := goodIn_r _ [12, 13, 2, 3, 14, 15, 16, 26, 27, 28, 29, 30, 31, 32, 33, 34, 35, 36] (by decide +kernel) (by decide +kernel)
set_option maxRecDepth 20000 in
theorem gX1_init_X0_init_n17 : GoodIn wsX1_init (wsX0_init) := ggX1_init_X0_init
theorem dX1_init_0 : decode cX1_init 0 = .ok (.aload_n 0, 1) := by decide +kernel
theorem dX1_init_1 : decode cX1_init 1 = .ok (.invokespecial 3, 3) := by decide +kernel
theorem dX1_init_4 : decode cX1_init 4 = .ok (.aload_n 0, 1) := by decide +kernel
theorem dX1_init_5 : decode cX1_init 5 = .ok (.bipush 10, 2) := by decide +kernel
theorem dX1_init_7 : decode cX1_init 7 = .ok (.anewarray 9, 3) := by decide +kernel
theorem dX1_init_10 : decode cX1_init 10 = .ok (.putfield 11, 3) := by decide +kernel
theorem dX1_init_13 : decode cX1_init 13 = .ok (.aload_n 0, 1) := by decide +kernel
theorem dX1_init_14 : decode cX1_init 14 = .ok (.new 9, 3) := by decide +kernel
theorem dX1_init_17 : decode cX1_init 17 = .ok (.dup, 1) := by decide +kernel
theorem dX1_init_18 : decode cX1_init 18 = .ok (.invokespecial 17, 3) := by decide +kernel
theorem dX1_init_21 : decode cX1_init 21 = .ok (.putfield 18, 3) := by decide +kernel
theorem dX1_init_24 : decode cX1_init 24 = .ok (.aload_n 0, 1) := by decide +kernel
theorem dX1_init_25 : decode cX1_init 25 = .ok (.bipush 100, 2) := by decide +kernel
theorem dX1_init_27 : decode cX1_init 27 = .ok (.newarray .int, 2) := by decide +kernel
theorem dX1_init_29 : decode cX1_init 29 = .ok (.putfield 22, 3) := by decide +kernel
theorem dX1_init_32 : decode cX1_init 32 = .ok (.iconst 0, 1) := by decide +kernel
theorem dX1_init_33 : decode cX1_init 33 = .ok (.istore_n 1, 1) := by decide +kernel
theorem dX1_init_34 : decode cX1_init 34 = .ok (.iload_n 1, 1) := by decide +kernel
theorem dX1_init_35 : decode cX1_init 35 = .ok (.aload_n 0, 1) := by decide +kernel
theorem dX1_init_36 : decode cX1_init 36 = .ok (.getfield 11, 3) := by decide +kernel
theorem dX1_init_39 : decode cX1_init 39 = .ok (.arraylength, 1) := by decide +kernel
theorem dX1_init_40 : decode cX1_init 40 = .ok (.if_icmp .ge 22, 3) := by decide +kernel
theorem dX1_init_43 : decode cX1_init 43 = .ok (.aload_n 0, 1) := by decide +kernel
theorem dX1_init_44 : decode cX1_init 44 = .ok (.getfield 11, 3) := by decide +kernel
theorem dX1_init_47 : decode cX1_init 47 = .ok (.iload_n 1, 1) := by decide +kernel
theorem dX1_init_48 : decode cX1_init 48 = .ok (.new 9, 3) := by decide +kernel
theorem dX1_init_51 : decode cX1_init 51 = .ok (.dup, 1) := by decide +kernel
theorem dX1_init_52 : decode cX1_init 52 = .ok (.invokespecial 17, 3) := by decide +kernel
theorem dX1_init_55 : decode cX1_init 55 = .ok (.aastore, 1) := by decide +kernel
theorem dX1_init_56 : decode cX1_init 56 = .ok (.iinc 1 1, 3) := by decide +kernel
theorem dX1_init_59 : decode cX1_init 59 = .ok (.goto (-25), 3) := by decide +kernel
theorem dX1_init_62 : decode cX1_init 62 = .ok (.return_, 1) := by decide +kernel
theorem dX1_hillAt_0 : decode cX1_hillAt 0 = .ok (.iload_n 1, 1) := by decide +kernel
theorem dX1_hillAt_1 : decode cX1_hillAt 1 = .ok (.ifCond .lt 12, 3) := by decide +kernel
theorem dX1_hillAt_4 : decode cX1_hillAt 4 = .ok (.iload_n 1, 1) := by decide +kernel
theorem dX1_hillAt_5 : decode cX1_hillAt 5 = .ok (.aload_n 0, 1) := by decide +kernel
theorem dX1_hillAt_6 : decode cX1_hillAt 6 = .ok (.getfield 11, 3) := by decide +kernel
theorem dX1_hillAt_9 : decode cX1_hillAt 9 = .ok (.arraylength, 1) := by decide +kernel
theorem dX1_hillAt_10 : decode cX1_hillAt 10 = .ok (.if_icmp .lt 8, 3) := by decide +kernel
theorem dX1_hillAt_13 : decode cX1_hillAt 13 = .ok (.aload_n 0, 1) := by decide +kernel
theorem dX1_hillAt_14 : decode cX1_hillAt 14 = .ok (.getfield 18, 3) := by decide +kernel
theorem dX1_hillAt_17 : decode cX1_hillAt 17 = .ok (.areturn, 1) := by decide +kernel
theorem dX1_hillAt_18 : decode cX1_hillAt 18 = .ok (.aload_n 0, 1) := by decide +kernel
theorem dX1_hillAt_19 : decode cX1_hillAt 19 = .ok (.getfield 11, 3) := by decide +kernel
theorem dX1_hillAt_22 : decode cX1_hillAt 22 = .ok (.iload_n 1, 1) := by decide +kernel
theorem dX1_hillAt_23 : decode cX1_hillAt 23 = .ok (.aaload, 1) := by decide +kernel
theorem dX1_hillAt_24 : decode cX1_hillAt 24 = .ok (.astore_n 2, 1) := by decide +kernel
theorem dX1_hillAt_25 : decode cX1_hillAt 25 = .ok (.aload_n 2, 1) := by decide +kernel
theorem dX1_hillAt_26 : decode cX1_hillAt 26 = .ok (.ifnonnull 10, 3) := by decide +kernel
theorem dX1_hillAt_29 : decode cX1_hillAt 29 = .ok (.aload_n 0, 1) := by decide +kernel
theorem dX1_hillAt_30 : decode cX1_hillAt 30 = .ok (.getfield 18, 3) := by decide +kernel
theorem dX1_hillAt_33 : decode cX1_hillAt 33 = .ok (.goto 4, 3) := by decide +kernel
theorem dX1_hillAt_36 : decode cX1_hillAt 36 = .ok (.aload_n 2, 1) := by decide +kernel
theorem dX1_hillAt_37 : decode cX1_hillAt 37 = .ok (.areturn, 1) := by decide +kernel
set_option maxRecDepth 20000 in
theorem ggX1_settle_X1_hillAt : GoodIn wsX1_settle wsX1_hillAt := goodIn_r _ [9, 10, 11, 12, 13, 14, 15, 16, 17, 18, 19, 20] (by decide +kernel) (by decide +kernel)
set_option maxRecDepth 20000 in
theorem gX1_settle_X1_hillAt : GoodIn wsX1_settle (wsV RX1 30 RX1 yX1_hillAt wsX1_hillAt) := goodIn_app (goodIn_of _ (by decide +kernel)) ggX1_settle_X1_hillAt
theorem dX1_settle_0 : decode cX1_settle 0 = .ok (.aload_n 0, 1) := by decide +kernel
theorem dX1_settle_1 : decode cX1_settle 1 = .ok (.getfield 26, 3) := by decide +kernel
theorem dX1_settle_4 : decode cX1_settle 4 = .ok (.istore 4, 2) := by decide +kernel
theorem dX1_settle_6 : decode cX1_settle 6 = .ok (.aload_n 0, 1) := by decide +kernel
theorem dX1_settle_7 : decode cX1_settle 7 = .ok (.iload 4, 2) := by decide +kernel
theorem dX1_settle_9 : decode cX1_settle 9 = .ok (.invokevirtual 30, 3) := by decide +kernel
theorem dX1_settle_12 : decode cX1_settle 12 = .ok (.astore 5, 2) := by decide +kernel
theorem dX1_settle_14 : decode cX1_settle 14 = .ok (.aload 5, 2) := by decide +kernel
theorem dX1_settle_16 : decode cX1_settle 16 = .ok (.iload_n 1, 1) := by decide +kernel
theorem dX1_settle_17 : decode cX1_settle 17 = .ok (.putfield 34, 3) := by decide +kernel
theorem dX1_settle_20 : decode cX1_settle 20 = .ok (.aload 5, 2) := by decide +kernel
theorem dX1_settle_22 : decode cX1_settle 22 = .ok (.iload_n 2, 1) := by decide +kernel
theorem dX1_settle_23 : decode cX1_settle 23 = .ok (.putfield 37, 3) := by decide +kernel
theorem dX1_settle_26 : decode cX1_settle 26 = .ok (.aload 5, 2) := by decide +kernel
theorem dX1_settle_28 : decode cX1_settle 28 = .ok (.iload_n 3, 1) := by decide +kernel
theorem dX1_settle_29 : decode cX1_settle 29 = .ok (.putfield 40, 3) := by decide +kernel
theorem dX1_settle_32 : decode cX1_settle 32 = .ok (.aload_n 0, 1) := by decide +kernel
theorem dX1_settle_33 : decode cX1_settle 33 = .ok (.iload 4, 2) := by decide +kernel
theorem dX1_settle_35 : decode cX1_settle 35 = .ok (.iconst 1, 1) := by decide +kernel
theorem dX1_settle_36 : decode cX1_settle 36 = .ok (.iadd, 1) := by decide +kernel
theorem dX1_settle_37 : decode cX1_settle 37 = .ok (.putfield 26, 3) := by decide +kernel
theorem dX1_settle_40 : decode cX1_settle 40 = .ok (.iload 4, 2) := by decide +kernel
theorem dX1_settle_42 : decode cX1_settle 42 = .ok (.ireturn, 1) := by decide +kernel
theorem dX1_milesFrom_0 : decode cX1_milesFrom 0 = .ok (.iload_n 1, 1) := by decide +kernel
theorem dX1_milesFrom_1 : decode cX1_milesFrom 1 = .ok (.bipush 10, 2) := by decide +kernel
theorem dX1_milesFrom_3 : decode cX1_milesFrom 3 = .ok (.imul, 1) := by decide +kernel
theorem dX1_milesFrom_4 : decode cX1_milesFrom 4 = .ok (.iload_n 2, 1) := by decide +kernel
theorem dX1_milesFrom_5 : decode cX1_milesFrom 5 = .ok (.iadd, 1) := by decide +kernel
theorem dX1_milesFrom_6 : decode cX1_milesFrom 6 = .ok (.istore_n 3, 1) := by decide +kernel
theorem dX1_milesFrom_7 : decode cX1_milesFrom 7 = .ok (.iload_n 3, 1) := by decide +kernel
theorem dX1_milesFrom_8 : decode cX1_milesFrom 8 = .ok (.ifCond .lt 21, 3) := by decide +kernel
theorem dX1_milesFrom_11 : decode cX1_milesFrom 11 = .ok (.iload_n 3, 1) := by decide +kernel
theorem dX1_milesFrom_12 : decode cX1_milesFrom 12 = .ok (.aload_n 0, 1) := by decide +kernel
theorem dX1_milesFrom_13 : decode cX1_milesFrom 13 = .ok (.getfield 22, 3) := by decide +kernel
theorem dX1_milesFrom_16 : decode cX1_milesFrom 16 = .ok (.arraylength, 1) := by decide +kernel
theorem dX1_milesFrom_17 : decode cX1_milesFrom 17 = .ok (.if_icmp .ge 12, 3) := by decide +kernel
theorem dX1_milesFrom_20 : decode cX1_milesFrom 20 = .ok (.aload_n 0, 1) := by decide +kernel
theorem dX1_milesFrom_21 : decode cX1_milesFrom 21 = .ok (.getfield 22, 3) := by decide +kernel
theorem dX1_milesFrom_24 : decode cX1_milesFrom 24 = .ok (.iload_n 3, 1) := by decide +kernel
theorem dX1_milesFrom_25 : decode cX1_milesFrom 25 = .ok (.iaload, 1) := by decide +kernel
theorem dX1_milesFrom_26 : decode cX1_milesFrom 26 = .ok (.goto 4, 3) := by decide +kernel
theorem dX1_milesFrom_29 : decode cX1_milesFrom 29 = .ok (.iconst 0, 1) := by decide +kernel
theorem dX1_milesFrom_30 : decode cX1_milesFrom 30 = .ok (.ireturn, 1) := by decide +kernel
theorem dX1_putMiles_0 : decode cX1_putMiles 0 = .ok (.iload_n 1, 1) := by decide +kernel
theorem dX1_putMiles_1 : decode cX1_putMiles 1 = .ok (.bipush 10, 2) := by decide +kernel
theorem dX1_putMiles_3 : decode cX1_putMiles 3 = .ok (.imul, 1) := by decide +kernel
theorem dX1_putMiles_4 : decode cX1_putMiles 4 = .ok (.iload_n 2, 1) := by decide +kernel
theorem dX1_putMiles_5 : decode cX1_putMiles 5 = .ok (.iadd, 1) := by decide +kernel
theorem dX1_putMiles_6 : decode cX1_putMiles 6 = .ok (.istore 4, 2) := by decide +kernel
theorem dX1_putMiles_8 : decode cX1_putMiles 8 = .ok (.iload 4, 2) := by decide +kernel
theorem dX1_putMiles_10 : decode cX1_putMiles 10 = .ok (.ifCond .lt 21, 3) := by decide +kernel
theorem dX1_putMiles_13 : decode cX1_putMiles 13 = .ok (.iload 4, 2) := by decide +kernel
theorem dX1_putMiles_15 : decode cX1_putMiles 15 = .ok (.aload_n 0, 1) := by decide +kernel
theorem dX1_putMiles_16 : decode cX1_putMiles 16 = .ok (.getfield 22, 3) := by decide +kernel
theorem dX1_putMiles_19 : decode cX1_putMiles 19 = .ok (.arraylength, 1) := by decide +kernel
theorem dX1_putMiles_20 : decode cX1_putMiles 20 = .ok (.if_icmp .ge 11, 3) := by decide +kernel
theorem dX1_putMiles_23 : decode cX1_putMiles 23 = .ok (.aload_n 0, 1) := by decide +kernel
theorem dX1_putMiles_24 : decode cX1_putMiles 24 = .ok (.getfield 22, 3) := by decide +kernel
theorem dX1_putMiles_27 : decode cX1_putMiles 27 = .ok (.iload 4, 2) := by decide +kernel
theorem dX1_putMiles_29 : decode cX1_putMiles 29 = .ok (.iload_n 3, 1) := by decide +kernel
theorem dX1_putMiles_30 : decode cX1_putMiles 30 = .ok (.iastore, 1) := by decide +kernel
theorem dX1_putMiles_31 : decode cX1_putMiles 31 = .ok (.return_, 1) := by decide +kernel
theorem dX1_isClearOver_0 : decode cX1_isClearOver 0 = .ok (.iload_n 1, 1) := by decide +kernel
theorem dX1_isClearOver_1 : decode cX1_isClearOver 1 = .ok (.ifCond .le 20, 3) := by decide +kernel
theorem dX1_isClearOver_4 : decode cX1_isClearOver 4 = .ok (.iload_n 1, 1) := by decide +kernel
theorem dX1_isClearOver_5 : decode cX1_isClearOver 5 = .ok (.bipush 20, 2) := by decide +kernel
theorem dX1_isClearOver_7 : decode cX1_isClearOver 7 = .ok (.iconst 2, 1) := by decide +kernel
theorem dX1_isClearOver_8 : decode cX1_isClearOver 8 = .ok (.aload_n 0, 1) := by decide +kernel
theorem dX1_isClearOver_9 : decode cX1_isClearOver 9 = .ok (.getfield 43, 3) := by decide +kernel
theorem dX1_isClearOver_12 : decode cX1_isClearOver 12 = .ok (.imul, 1) := by decide +kernel
theorem dX1_isClearOver_13 : decode cX1_isClearOver 13 = .ok (.isub, 1) := by decide +kernel
theorem dX1_isClearOver_14 : decode cX1_isClearOver 14 = .ok (.if_icmp .gt 7, 3) := by decide +kernel
theorem dX1_isClearOver_17 : decode cX1_isClearOver 17 = .ok (.iconst 1, 1) := by decide +kernel
theorem dX1_isClearOver_18 : decode cX1_isClearOver 18 = .ok (.goto 4, 3) := by decide +kernel
theorem dX1_isClearOver_21 : decode cX1_isClearOver 21 = .ok (.iconst 0, 1) := by decide +kernel
theorem dX1_isClearOver_22 : decode cX1_isClearOver 22 = .ok (.ireturn, 1) := by decide +kernel
set_option maxRecDepth 20000 in
theorem ggX1_sees_X1_milesFrom : GoodIn wsX1_sees wsX1_milesFrom := goodIn_r _ [5, 6, 12, 13, 14, 15, 16, 17, 18, 19, 20] (by decide +kernel) (by decide +kernel)
set_option maxRecDepth 20000 in
theorem gX1_sees_X1_milesFrom : GoodIn wsX1_sees (wsV RX1 46 RX1 yX1_milesFrom wsX1_milesFrom) := goodIn_app (goodIn_of _ (by decide +kernel)) ggX1_sees_X1_milesFrom
set_option maxRecDepth 20000 in
theorem ggX1_sees_X1_isClearOver : GoodIn wsX1_sees wsX1_isClearOver := goodIn_r _ [10, 11, 12, 13, 14, 15, 16, 17, 18, 19, 20] (by decide +kernel) (by decide +kernel)
set_option maxRecDepth 20000 in
theorem gX1_sees_X1_isClearOver : GoodIn wsX1_sees (wsV RX1 50 RX1 yX1_isClearOver wsX1_isClearOver) := goodIn_app (goodIn_of _ (by decide +kernel)) ggX1_sees_X1_isClearOver
theorem dX1_sees_0 : decode cX1_sees 0 = .ok (.aload_n 0, 1) := by decide +kernel
theorem dX1_sees_1 : decode cX1_sees 1 = .ok (.aload_n 0, 1) := by decide +kernel
theorem dX1_sees_2 : decode cX1_sees 2 = .ok (.iload_n 1, 1) := by decide +kernel
theorem dX1_sees_3 : decode cX1_sees 3 = .ok (.iload_n 2, 1) := by decide +kernel
theorem dX1_sees_4 : decode cX1_sees 4 = .ok (.invokevirtual 46, 3) := by decide +kernel
theorem dX1_sees_7 : decode cX1_sees 7 = .ok (.invokevirtual 50, 3) := by decide +kernel
theorem dX1_sees_10 : decode cX1_sees 10 = .ok (.ireturn, 1) := by decide +kernel
set_option maxRecDepth 20000 in
theorem ggX1_stepsFrom_X1_isIn : GoodIn wsX1_stepsFrom wsX1_isIn := goodIn_r _ [4] (by decide +kernel) (by decide +kernel)
set_option maxRecDepth 20000 in
theorem gX1_stepsFrom_X1_isIn : GoodIn wsX1_stepsFrom (va_wsS RX1 54 yX1_isIn wsX1_isIn) := goodIn_app (goodIn_of _ (by decide +kernel)) ggX1_stepsFrom_X1_isIn
set_option maxRecDepth 20000 in
theorem ggX1_stepsFrom_X1_seenFromAny : GoodIn wsX1_stepsFrom wsX1_seenFromAny := goodIn_r _ [8, 9, 1, 2, 3, 4, 10, 11, 12, 13, 14, 15, 16, 17, 18, 19, 20, 21, 22, 23, 24, 25, 26, 27, 28, 29, 30, 31, 32, 33, 34, 35, 36] (by decide +kernel) (by decide +kernel)
set_option maxRecDepth 20000 in
theorem gX1_stepsFrom_X1_seenFromAny : GoodIn wsX1_stepsFrom (wsV RX1 58 RX1 yX1_seenFromAny wsX1_seenFromAny) := goodIn_app (goodIn_of _ (by decide +kernel)) ggX1_stepsFrom_X1_seenFromAny
theorem dX1_stepsFrom_0 : decode cX1_stepsFrom 0 = .ok (.iconst 1, 1) := by decide +kernel
theorem dX1_stepsFrom_1 : decode cX1_stepsFrom 1 = .ok (.iload_n 1, 1) := by decide +kernel
theorem dX1_stepsFrom_2 : decode cX1_stepsFrom 2 = .ok (.ishl, 1) := by decide +kernel
theorem dX1_stepsFrom_3 : decode cX1_stepsFrom 3 = .ok (.istore_n 3, 1) := by decide +kernel
theorem dX1_stepsFrom_4 : decode cX1_stepsFrom 4 = .ok (.iconst 0, 1) := by decide +kernel
theorem dX1_stepsFrom_5 : decode cX1_stepsFrom 5 = .ok (.istore 4, 2) := by decide +kernel
theorem dX1_stepsFrom_7 : decode cX1_stepsFrom 7 = .ok (.iload 4, 2) := by decide +kernel
theorem dX1_stepsFrom_9 : decode cX1_stepsFrom 9 = .ok (.bipush 10, 2) := by decide +kernel
theorem dX1_stepsFrom_11 : decode cX1_stepsFrom 11 = .ok (.if_icmp .ge 28, 3) := by decide +kernel
theorem dX1_stepsFrom_14 : decode cX1_stepsFrom 14 = .ok (.iload_n 3, 1) := by decide +kernel
theorem dX1_stepsFrom_15 : decode cX1_stepsFrom 15 = .ok (.iload_n 2, 1) := by decide +kernel
theorem dX1_stepsFrom_16 : decode cX1_stepsFrom 16 = .ok (.invokestatic 54, 3) := by decide +kernel
theorem dX1_stepsFrom_19 : decode cX1_stepsFrom 19 = .ok (.ifCond .eq 6, 3) := by decide +kernel
theorem dX1_stepsFrom_22 : decode cX1_stepsFrom 22 = .ok (.iload 4, 2) := by decide +kernel
theorem dX1_stepsFrom_24 : decode cX1_stepsFrom 24 = .ok (.ireturn, 1) := by decide +kernel
theorem dX1_stepsFrom_25 : decode cX1_stepsFrom 25 = .ok (.iload_n 3, 1) := by decide +kernel
theorem dX1_stepsFrom_26 : decode cX1_stepsFrom 26 = .ok (.aload_n 0, 1) := by decide +kernel
theorem dX1_stepsFrom_27 : decode cX1_stepsFrom 27 = .ok (.iload_n 3, 1) := by decide +kernel
theorem dX1_stepsFrom_28 : decode cX1_stepsFrom 28 = .ok (.invokevirtual 58, 3) := by decide +kernel
theorem dX1_stepsFrom_31 : decode cX1_stepsFrom 31 = .ok (.ior, 1) := by decide +kernel
theorem dX1_stepsFrom_32 : decode cX1_stepsFrom 32 = .ok (.istore_n 3, 1) := by decide +kernel
theorem dX1_stepsFrom_33 : decode cX1_stepsFrom 33 = .ok (.iinc 4 1, 3) := by decide +kernel
theorem dX1_stepsFrom_36 : decode cX1_stepsFrom 36 = .ok (.goto (-29), 3) := by decide +kernel
theorem dX1_stepsFrom_39 : decode cX1_stepsFrom 39 = .ok (.iconst (-1), 1) := by decide +kernel
theorem dX1_stepsFrom_40 : decode cX1_stepsFrom 40 = .ok (.ireturn, 1) := by decide +kernel
theorem dX1_isIn_0 : decode cX1_isIn 0 = .ok (.iload_n 0, 1) := by decide +kernel
theorem dX1_isIn_1 : decode cX1_isIn 1 = .ok (.iload_n 1, 1) := by decide +kernel
theorem dX1_isIn_2 : decode cX1_isIn 2 = .ok (.ishr, 1) := by decide +kernel
theorem dX1_isIn_3 : decode cX1_isIn 3 = .ok (.iconst 1, 1) := by decide +kernel
theorem dX1_isIn_4 : decode cX1_isIn 4 = .ok (.iand, 1) := by decide +kernel
theorem dX1_isIn_5 : decode cX1_isIn 5 = .ok (.ifCond .eq 7, 3) := by decide +kernel
theorem dX1_isIn_8 : decode cX1_isIn 8 = .ok (.iconst 1, 1) := by decide +kernel
theorem dX1_isIn_9 : decode cX1_isIn 9 = .ok (.goto 4, 3) := by decide +kernel
theorem dX1_isIn_12 : decode cX1_isIn 12 = .ok (.iconst 0, 1) := by decide +kernel
theorem dX1_isIn_13 : decode cX1_isIn 13 = .ok (.ireturn, 1) := by decide +kernel
set_option maxRecDepth 20000 in
theorem ggX1_seenFromAny_X1_isIn : GoodIn wsX1_seenFromAny wsX1_isIn := goodIn_r _ [5] (by decide +kernel) (by decide +kernel)
set_option maxRecDepth 20000 in
theorem gX1_seenFromAny_X1_isIn : GoodIn wsX1_seenFromAny (va_wsS RX1 54 yX1_isIn wsX1_isIn) := goodIn_app (goodIn_of _ (by decide +kernel)) ggX1_seenFromAny_X1_isIn
set_option maxRecDepth 20000 in
theorem ggX1_seenFromAny_X1_seenFrom : GoodIn wsX1_seenFromAny wsX1_seenFrom := goodIn_r _ [9, 1, 10, 11, 12, 4, 13, 14, 15, 16, 17, 18, 19, 20, 21, 22, 23, 24, 25, 26, 27, 28, 29, 30, 31, 32] (by decide +kernel) (by decide +kernel)
set_option maxRecDepth 20000 in
theorem gX1_seenFromAny_X1_seenFrom : GoodIn wsX1_seenFromAny (wsV RX1 62 RX1 yX1_seenFrom wsX1_seenFrom) := goodIn_app (goodIn_of _ (by decide +kernel)) ggX1_seenFromAny_X1_seenFrom
theorem dX1_seenFromAny_0 : decode cX1_seenFromAny 0 = .ok (.iconst 0, 1) := by decide +kernel
theorem dX1_seenFromAny_1 : decode cX1_seenFromAny 1 = .ok (.istore_n 2, 1) := by decide +kernel
theorem dX1_seenFromAny_2 : decode cX1_seenFromAny 2 = .ok (.iconst 0, 1) := by decide +kernel
theorem dX1_seenFromAny_3 : decode cX1_seenFromAny 3 = .ok (.istore_n 3, 1) := by decide +kernel
theorem dX1_seenFromAny_4 : decode cX1_seenFromAny 4 = .ok (.iload_n 3, 1) := by decide +kernel
theorem dX1_seenFromAny_5 : decode cX1_seenFromAny 5 = .ok (.aload_n 0, 1) := by decide +kernel
theorem dX1_seenFromAny_6 : decode cX1_seenFromAny 6 = .ok (.getfield 26, 3) := by decide +kernel
theorem dX1_seenFromAny_9 : decode cX1_seenFromAny 9 = .ok (.if_icmp .ge 25, 3) := by decide +kernel
theorem dX1_seenFromAny_12 : decode cX1_seenFromAny 12 = .ok (.iload_n 1, 1) := by decide +kernel
theorem dX1_seenFromAny_13 : decode cX1_seenFromAny 13 = .ok (.iload_n 3, 1) := by decide +kernel
theorem dX1_seenFromAny_14 : decode cX1_seenFromAny 14 = .ok (.invokestatic 54, 3) := by decide +kernel
theorem dX1_seenFromAny_17 : decode cX1_seenFromAny 17 = .ok (.ifCond .eq 11, 3) := by decide +kernel
theorem dX1_seenFromAny_20 : decode cX1_seenFromAny 20 = .ok (.iload_n 2, 1) := by decide +kernel
theorem dX1_seenFromAny_21 : decode cX1_seenFromAny 21 = .ok (.aload_n 0, 1) := by decide +kernel
theorem dX1_seenFromAny_22 : decode cX1_seenFromAny 22 = .ok (.iload_n 3, 1) := by decide +kernel
theorem dX1_seenFromAny_23 : decode cX1_seenFromAny 23 = .ok (.invokevirtual 62, 3) := by decide +kernel
theorem dX1_seenFromAny_26 : decode cX1_seenFromAny 26 = .ok (.ior, 1) := by decide +kernel
theorem dX1_seenFromAny_27 : decode cX1_seenFromAny 27 = .ok (.istore_n 2, 1) := by decide +kernel
theorem dX1_seenFromAny_28 : decode cX1_seenFromAny 28 = .ok (.iinc 3 1, 3) := by decide +kernel
theorem dX1_seenFromAny_31 : decode cX1_seenFromAny 31 = .ok (.goto (-27), 3) := by decide +kernel
theorem dX1_seenFromAny_34 : decode cX1_seenFromAny 34 = .ok (.iload_n 2, 1) := by decide +kernel
theorem dX1_seenFromAny_35 : decode cX1_seenFromAny 35 = .ok (.ireturn, 1) := by decide +kernel
set_option maxRecDepth 20000 in
theorem ggX1_seenFrom_X1_sees : GoodIn wsX1_seenFrom wsX1_sees := goodIn_r _ [6, 7, 8, 9, 5, 10, 11, 12, 13, 14, 15, 16, 17, 18, 19, 20, 21, 22, 23, 24, 25] (by decide +kernel) (by decide +kernel)
set_option maxRecDepth 20000 in
theorem gX1_seenFrom_X1_sees : GoodIn wsX1_seenFrom (wsV RX1 65 RX1 yX1_sees wsX1_sees) := goodIn_app (goodIn_of _ (by decide +kernel)) ggX1_seenFrom_X1_sees
theorem dX1_seenFrom_0 : decode cX1_seenFrom 0 = .ok (.iconst 0, 1) := by decide +kernel
theorem dX1_seenFrom_1 : decode cX1_seenFrom 1 = .ok (.istore_n 2, 1) := by decide +kernel
theorem dX1_seenFrom_2 : decode cX1_seenFrom 2 = .ok (.iconst 0, 1) := by decide +kernel
theorem dX1_seenFrom_3 : decode cX1_seenFrom 3 = .ok (.istore_n 3, 1) := by decide +kernel
theorem dX1_seenFrom_4 : decode cX1_seenFrom 4 = .ok (.iload_n 3, 1) := by decide +kernel
theorem dX1_seenFrom_5 : decode cX1_seenFrom 5 = .ok (.aload_n 0, 1) := by decide +kernel
theorem dX1_seenFrom_6 : decode cX1_seenFrom 6 = .ok (.getfield 26, 3) := by decide +kernel
theorem dX1_seenFrom_9 : decode cX1_seenFrom 9 = .ok (.if_icmp .ge 24, 3) := by decide +kernel
theorem dX1_seenFrom_12 : decode cX1_seenFrom 12 = .ok (.aload_n 0, 1) := by decide +kernel
theorem dX1_seenFrom_13 : decode cX1_seenFrom 13 = .ok (.iload_n 1, 1) := by decide +kernel
theorem dX1_seenFrom_14 : decode cX1_seenFrom 14 = .ok (.iload_n 3, 1) := by decide +kernel
theorem dX1_seenFrom_15 : decode cX1_seenFrom 15 = .ok (.invokevirtual 65, 3) := by decide +kernel
theorem dX1_seenFrom_18 : decode cX1_seenFrom 18 = .ok (.ifCond .eq 9, 3) := by decide +kernel
theorem dX1_seenFrom_21 : decode cX1_seenFrom 21 = .ok (.iload_n 2, 1) := by decide +kernel
theorem dX1_seenFrom_22 : decode cX1_seenFrom 22 = .ok (.iconst 1, 1) := by decide +kernel
theorem dX1_seenFrom_23 : decode cX1_seenFrom 23 = .ok (.iload_n 3, 1) := by decide +kernel
theorem dX1_seenFrom_24 : decode cX1_seenFrom 24 = .ok (.ishl, 1) := by decide +kernel
theorem dX1_seenFrom_25 : decode cX1_seenFrom 25 = .ok (.ior, 1) := by decide +kernel
theorem dX1_seenFrom_26 : decode cX1_seenFrom 26 = .ok (.istore_n 2, 1) := by decide +kernel
theorem dX1_seenFrom_27 : decode cX1_seenFrom 27 = .ok (.iinc 3 1, 3) := by decide +kernel
theorem dX1_seenFrom_30 : decode cX1_seenFrom 30 = .ok (.goto (-26), 3) := by decide +kernel
theorem dX1_seenFrom_33 : decode cX1_seenFrom 33 = .ok (.iload_n 2, 1) := by decide +kernel
theorem dX1_seenFrom_34 : decode cX1_seenFrom 34 = .ok (.ireturn, 1) := by decide +kernel
set_option maxRecDepth 20000 in
theorem ggX1_sumWood_X1_hillAt : GoodIn wsX1_sumWood wsX1_hillAt := goodIn_r _ [7, 8, 9, 10, 11, 12, 13, 14, 15, 16, 17, 18] (by decide +kernel) (by decide +kernel)
set_option maxRecDepth 20000 in
theorem gX1_sumWood_X1_hillAt : GoodIn wsX1_sumWood (wsV RX1 30 RX1 yX1_hillAt wsX1_hillAt) := goodIn_app (goodIn_of _ (by decide +kernel)) ggX1_sumWood_X1_hillAt
theorem dX1_sumWood_0 : decode cX1_sumWood 0 = .ok (.iconst 0, 1) := by decide +kernel
theorem dX1_sumWood_1 : decode cX1_sumWood 1 = .ok (.istore_n 1, 1) := by decide +kernel
theorem dX1_sumWood_2 : decode cX1_sumWood 2 = .ok (.iconst 0, 1) := by decide +kernel
theorem dX1_sumWood_3 : decode cX1_sumWood 3 = .ok (.istore_n 2, 1) := by decide +kernel
theorem dX1_sumWood_4 : decode cX1_sumWood 4 = .ok (.iload_n 2, 1) := by decide +kernel
theorem dX1_sumWood_5 : decode cX1_sumWood 5 = .ok (.aload_n 0, 1) := by decide +kernel
theorem dX1_sumWood_6 : decode cX1_sumWood 6 = .ok (.getfield 26, 3) := by decide +kernel
theorem dX1_sumWood_9 : decode cX1_sumWood 9 = .ok (.if_icmp .ge 20, 3) := by decide +kernel
theorem dX1_sumWood_12 : decode cX1_sumWood 12 = .ok (.iload_n 1, 1) := by decide +kernel
theorem dX1_sumWood_13 : decode cX1_sumWood 13 = .ok (.aload_n 0, 1) := by decide +kernel
theorem dX1_sumWood_14 : decode cX1_sumWood 14 = .ok (.iload_n 2, 1) := by decide +kernel
theorem dX1_sumWood_15 : decode cX1_sumWood 15 = .ok (.invokevirtual 30, 3) := by decide +kernel
theorem dX1_sumWood_18 : decode cX1_sumWood 18 = .ok (.getfield 34, 3) := by decide +kernel
theorem dX1_sumWood_21 : decode cX1_sumWood 21 = .ok (.iadd, 1) := by decide +kernel
theorem dX1_sumWood_22 : decode cX1_sumWood 22 = .ok (.istore_n 1, 1) := by decide +kernel
theorem dX1_sumWood_23 : decode cX1_sumWood 23 = .ok (.iinc 2 1, 3) := by decide +kernel
theorem dX1_sumWood_26 : decode cX1_sumWood 26 = .ok (.goto (-22), 3) := by decide +kernel
theorem dX1_sumWood_29 : decode cX1_sumWood 29 = .ok (.iload_n 1, 1) := by decide +kernel
theorem dX1_sumWood_30 : decode cX1_sumWood 30 = .ok (.ireturn, 1) := by decide +kernel
set_option maxRecDepth 20000 in
theorem ggX1_countBurning_X1_hillAt : GoodIn wsX1_countBurning wsX1_hillAt := goodIn_r _ [7, 8, 9, 10, 11, 12, 13, 14, 15, 16, 17, 18] (by decide +kernel) (by decide +kernel)
set_option maxRecDepth 20000 in
theorem gX1_countBurning_X1_hillAt : GoodIn wsX1_countBurning (wsV RX1 30 RX1 yX1_hillAt wsX1_hillAt) := goodIn_app (goodIn_of _ (by decide +kernel)) ggX1_countBurning_X1_hillAt
theorem dX1_countBurning_0 : decode cX1_countBurning 0 = .ok (.iconst 0, 1) := by decide +kernel
theorem dX1_countBurning_1 : decode cX1_countBurning 1 = .ok (.istore_n 1, 1) := by decide +kernel
theorem dX1_countBurning_2 : decode cX1_countBurning 2 = .ok (.iconst 0, 1) := by decide +kernel
theorem dX1_countBurning_3 : decode cX1_countBurning 3 = .ok (.istore_n 2, 1) := by decide +kernel
theorem dX1_countBurning_4 : decode cX1_countBurning 4 = .ok (.iload_n 2, 1) := by decide +kernel
theorem dX1_countBurning_5 : decode cX1_countBurning 5 = .ok (.aload_n 0, 1) := by decide +kernel
theorem dX1_countBurning_6 : decode cX1_countBurning 6 = .ok (.getfield 26, 3) := by decide +kernel
theorem dX1_countBurning_9 : decode cX1_countBurning 9 = .ok (.if_icmp .ge 24, 3) := by decide +kernel
theorem dX1_countBurning_12 : decode cX1_countBurning 12 = .ok (.aload_n 0, 1) := by decide +kernel
theorem dX1_countBurning_13 : decode cX1_countBurning 13 = .ok (.iload_n 2, 1) := by decide +kernel
theorem dX1_countBurning_14 : decode cX1_countBurning 14 = .ok (.invokevirtual 30, 3) := by decide +kernel
theorem dX1_countBurning_17 : decode cX1_countBurning 17 = .ok (.getfield 68, 3) := by decide +kernel
theorem dX1_countBurning_20 : decode cX1_countBurning 20 = .ok (.iconst 2, 1) := by decide +kernel
theorem dX1_countBurning_21 : decode cX1_countBurning 21 = .ok (.if_icmp .ne 6, 3) := by decide +kernel
theorem dX1_countBurning_24 : decode cX1_countBurning 24 = .ok (.iinc 1 1, 3) := by decide +kernel
theorem dX1_countBurning_27 : decode cX1_countBurning 27 = .ok (.iinc 2 1, 3) := by decide +kernel
theorem dX1_countBurning_30 : decode cX1_countBurning 30 = .ok (.goto (-26), 3) := by decide +kernel
theorem dX1_countBurning_33 : decode cX1_countBurning 33 = .ok (.iload_n 1, 1) := by decide +kernel
theorem dX1_countBurning_34 : decode cX1_countBurning 34 = .ok (.ireturn, 1) := by decide +kernel
set_option maxRecDepth 20000 in
theorem ggX1_kindle_X1_hillAt : GoodIn wsX1_kindle wsX1_hillAt := goodIn_r _ [7, 8, 9, 21, 22, 23, 24, 25, 26, 27, 28, 29] (by decide +kernel) (by decide +kernel)
set_option maxRecDepth 20000 in
theorem gX1_kindle_X1_hillAt : GoodIn wsX1_kindle (wsV RX1 30 RX1 yX1_hillAt wsX1_hillAt) := goodIn_app (goodIn_of _ (by decide +kernel)) ggX1_kindle_X1_hillAt
set_option maxRecDepth 20000 in
theorem ggX1_kindle_X0_kindle : GoodIn wsX1_kindle wsX0_kindle := goodIn_r _ [14, 15, 16, 17, 18, 19, 20, 30, 31, 32, 33, 34, 35, 36, 37, 38, 39, 40] (by decide +kernel) (by decide +kernel)
set_option maxRecDepth 20000 in
theorem gX1_kindle_X0_kindle : GoodIn wsX1_kindle (wsV RX1 74 RX0 yX0_kindle wsX0_kindle) := goodIn_app (goodIn_of _ (by decide +kernel)) ggX1_kindle_X0_kindle
theorem dX1_kindle_0 : decode cX1_kindle 0 = .ok (.aload_n 0, 1) := by decide +kernel
theorem dX1_kindle_1 : decode cX1_kindle 1 = .ok (.iload_n 1, 1) := by decide +kernel
theorem dX1_kindle_2 : decode cX1_kindle 2 = .ok (.invokevirtual 30, 3) := by decide +kernel
theorem dX1_kindle_5 : decode cX1_kindle 5 = .ok (.iload_n 2, 1) := by decide +kernel
theorem dX1_kindle_6 : decode cX1_kindle 6 = .ok (.invokevirtual 74, 3) := by decide +kernel
theorem dX1_kindle_9 : decode cX1_kindle 9 = .ok (.aload_n 0, 1) := by decide +kernel
theorem dX1_kindle_10 : decode cX1_kindle 10 = .ok (.dup, 1) := by decide +kernel
theorem dX1_kindle_11 : decode cX1_kindle 11 = .ok (.getfield 78, 3) := by decide +kernel
theorem dX1_kindle_14 : decode cX1_kindle 14 = .ok (.iconst 1, 1) := by decide +kernel
theorem dX1_kindle_15 : decode cX1_kindle 15 = .ok (.iadd, 1) := by decide +kernel
theorem dX1_kindle_16 : decode cX1_kindle 16 = .ok (.putfield 78, 3) := by decide +kernel
theorem dX1_kindle_19 : decode cX1_kindle 19 = .ok (.iload_n 2, 1) := by decide +kernel
theorem dX1_kindle_20 : decode cX1_kindle 20 = .ok (.iconst (-1), 1) := by decide +kernel
theorem dX1_kindle_21 : decode cX1_kindle 21 = .ok (.if_icmp .ne 13, 3) := by decide +kernel
theorem dX1_kindle_24 : decode cX1_kindle 24 = .ok (.aload_n 0, 1) := by decide +kernel
theorem dX1_kindle_25 : decode cX1_kindle 25 = .ok (.dup, 1) := by decide +kernel
theorem dX1_kindle_26 : decode cX1_kindle 26 = .ok (.getfield 81, 3) := by decide +kernel
theorem dX1_kindle_29 : decode cX1_kindle 29 = .ok (.iconst 1, 1) := by decide +kernel
theorem dX1_kindle_30 : decode cX1_kindle 30 = .ok (.iadd, 1) := by decide +kernel
theorem dX1_kindle_31 : decode cX1_kindle 31 = .ok (.putfield 81, 3) := by decide +kernel
theorem dX1_kindle_34 : decode cX1_kindle 34 = .ok (.return_, 1) := by decide +kernel
set_option maxRecDepth 20000 in
theorem ggX1_kindleByHand_X1_kindle : GoodIn wsX1_kindleByHand wsX1_kindle := goodIn_r _ [6, 7, 8, 9, 10, 11, 5, 12, 13, 14, 15, 16, 17, 18, 19, 20, 21, 22, 23, 24, 25, 37, 38, 39, 40, 41, 42, 43, 44, 45, 26, 27, 28, 29, 30, 31, 32, 33, 34, 35, 36] (by decide +kernel) (by decide +kernel)
set_option maxRecDepth 20000 in
theorem gX1_kindleByHand_X1_kindle : GoodIn wsX1_kindleByHand (wsV RX1 84 RX1 yX1_kindle wsX1_kindle) := goodIn_app (goodIn_of _ (by decide +kernel)) ggX1_kindleByHand_X1_kindle
set_option maxRecDepth 20000 in
theorem ggX1_kindleByHand_X1_hillAt : GoodIn wsX1_kindleByHand wsX1_hillAt := goodIn_r _ [12, 13, 14, 37, 38, 39, 40, 41, 42, 43, 44, 45] (by decide +kernel) (by decide +kernel)
set_option maxRecDepth 20000 in
theorem gX1_kindleByHand_X1_hillAt : GoodIn wsX1_kindleByHand (wsV RX1 30 RX1 yX1_hillAt wsX1_hillAt) := goodIn_app (goodIn_of _ (by decide +kernel)) ggX1_kindleByHand_X1_hillAt
theorem dX1_kindleByHand_0 : decode cX1_kindleByHand 0 = .ok (.aload_n 0, 1) := by decide +kernel
theorem dX1_kindleByHand_1 : decode cX1_kindleByHand 1 = .ok (.iload_n 1, 1) := by decide +kernel
theorem dX1_kindleByHand_2 : decode cX1_kindleByHand 2 = .ok (.iload_n 1, 1) := by decide +kernel
theorem dX1_kindleByHand_3 : decode cX1_kindleByHand 3 = .ok (.invokevirtual 84, 3) := by decide +kernel
theorem dX1_kindleByHand_6 : decode cX1_kindleByHand 6 = .ok (.aload_n 0, 1) := by decide +kernel
theorem dX1_kindleByHand_7 : decode cX1_kindleByHand 7 = .ok (.iload_n 1, 1) := by decide +kernel
theorem dX1_kindleByHand_8 : decode cX1_kindleByHand 8 = .ok (.invokevirtual 30, 3) := by decide +kernel
theorem dX1_kindleByHand_11 : decode cX1_kindleByHand 11 = .ok (.iconst 0, 1) := by decide +kernel
theorem dX1_kindleByHand_12 : decode cX1_kindleByHand 12 = .ok (.putfield 87, 3) := by decide +kernel
theorem dX1_kindleByHand_15 : decode cX1_kindleByHand 15 = .ok (.return_, 1) := by decide +kernel
set_option maxRecDepth 20000 in
theorem ggX1_passMany_X1_passOne : GoodIn wsX1_passMany wsX1_passOne := goodIn_r _ [5, 6, 7, 8, 9, 10, 4, 11, 12, 13, 14, 15, 16, 17, 18, 19, 20, 21, 22, 23, 24, 25, 26, 27, 28, 29, 30, 31, 32, 33, 34, 35, 36, 37, 38, 39, 40, 41, 42, 43, 44, 45, 46, 47, 48, 49, 50, 51, 52, 53, 54, 55, 56, 57, 58, 59, 60, 61, 62, 63, 64, 65, 66, 67, 68, 69, 70, 71, 72, 73, 74, 75, 76, 77, 78, 79, 80, 81, 82, 83, 84, 85, 86, 87, 88, 89, 90, 91, 92, 93, 94, 95, 96, 97, 98, 99, 100, 101, 102, 103, 104, 105, 106, 107, 108, 109, 110, 111, 112, 113, 114, 115, 116, 117, 118] (by decide +kernel) (by decide +kernel)
set_option maxRecDepth 20000 in
theorem gX1_passMany_X1_passOne : GoodIn wsX1_passMany (wsV RX1 90 RX1 yX1_passOne wsX1_passOne) := goodIn_app (goodIn_of _ (by decide +kernel)) ggX1_passMany_X1_passOne
theorem dX1_passMany_0 : decode cX1_passMany 0 = .ok (.iconst 0, 1) := by decide +kernel
theorem dX1_passMany_1 : decode cX1_passMany 1 = .ok (.istore_n 2, 1) := by decide +kernel
theorem dX1_passMany_2 : decode cX1_passMany 2 = .ok (.iload_n 2, 1) := by decide +kernel
theorem dX1_passMany_3 : decode cX1_passMany 3 = .ok (.iload_n 1, 1) := by decide +kernel
theorem dX1_passMany_4 : decode cX1_passMany 4 = .ok (.if_icmp .ge 13, 3) := by decide +kernel
theorem dX1_passMany_7 : decode cX1_passMany 7 = .ok (.aload_n 0, 1) := by decide +kernel
theorem dX1_passMany_8 : decode cX1_passMany 8 = .ok (.invokevirtual 90, 3) := by decide +kernel
theorem dX1_passMany_11 : decode cX1_passMany 11 = .ok (.iinc 2 1, 3) := by decide +kernel
theorem dX1_passMany_14 : decode cX1_passMany 14 = .ok (.goto (-12), 3) := by decide +kernel
theorem dX1_passMany_17 : decode cX1_passMany 17 = .ok (.return_, 1) := by decide +kernel
set_option maxRecDepth 20000 in
theorem ggX1_passOne_X1_rememberFires : GoodIn wsX1_passOne wsX1_rememberFires := goodIn_r _ [7, 8, 9, 10, 11, 12, 13, 6, 14, 15, 16, 95, 96, 97, 98, 99, 100, 101, 102, 103, 104, 105, 106, 107, 108, 109, 110, 111, 112, 113, 114] (by decide +kernel) (by decide +kernel)
set_option maxRecDepth 20000 in
theorem gX1_passOne_X1_rememberFires : GoodIn wsX1_passOne (wsV RX1 93 RX1 yX1_rememberFires wsX1_rememberFires) := goodIn_app (goodIn_of _ (by decide +kernel)) ggX1_passOne_X1_rememberFires
set_option maxRecDepth 20000 in
theorem ggX1_passOne_X1_lookOut : GoodIn wsX1_passOne wsX1_lookOut := goodIn_r _ [20, 8, 21, 11, 12, 13, 6, 14, 15, 16, 22, 23, 24, 25, 26, 27, 28, 29, 30, 31, 32, 33, 1, 34, 35, 36, 37, 10, 38, 39, 40, 41, 42, 43, 44, 45, 46, 47, 95, 96, 97, 98, 99, 100, 101, 102, 103, 104, 105, 106, 107, 108, 109, 110, 111, 112, 113, 114] (by decide +kernel) (by decide +kernel)
set_option maxRecDepth 20000 in
theorem gX1_passOne_X1_lookOut : GoodIn wsX1_passOne (wsV RX1 96 RX1 yX1_lookOut wsX1_lookOut) := goodIn_app (goodIn_of _ (by decide +kernel)) ggX1_passOne_X1_lookOut
set_option maxRecDepth 20000 in
theorem ggX1_passOne_X1_answerSignals : GoodIn wsX1_passOne wsX1_answerSignals := goodIn_r _ [51, 8, 21, 52, 11, 12, 13, 6, 14, 15, 16, 53, 54, 55, 56, 57, 34, 35, 36, 37, 10, 38, 39, 40, 41, 42, 43, 44, 45, 46, 47, 58, 59, 60, 61, 62, 63, 64, 65, 66, 25, 67, 28, 68, 27, 69, 70, 71, 95, 96, 97, 98, 99, 100, 101, 102, 103, 104, 105, 106, 107, 108, 109, 110, 111, 112, 113, 114] (by decide +kernel) (by decide +kernel)
set_option maxRecDepth 20000 in
theorem gX1_passOne_X1_answerSignals : GoodIn wsX1_passOne (wsV RX1 99 RX1 yX1_answerSignals wsX1_answerSignals) := goodIn_app (goodIn_of _ (by decide +kernel)) ggX1_passOne_X1_answerSignals
set_option maxRecDepth 20000 in
theorem ggX1_passOne_X1_kindleOn : GoodIn wsX1_passOne wsX1_kindleOn := goodIn_r _ [75, 8, 10, 76, 11, 12, 13, 6, 14, 15, 16, 77, 78, 79, 80, 9, 81, 57, 82, 95, 96, 97, 98, 99, 100, 101, 102, 103, 104, 105, 106, 107, 108, 109, 110, 111, 112, 113, 114] (by decide +kernel) (by decide +kernel)
set_option maxRecDepth 20000 in
theorem gX1_passOne_X1_kindleOn : GoodIn wsX1_passOne (wsV RX1 102 RX1 yX1_kindleOn wsX1_kindleOn) := goodIn_app (goodIn_of _ (by decide +kernel)) ggX1_passOne_X1_kindleOn
set_option maxRecDepth 20000 in
theorem ggX1_passOne_X1_burnOn : GoodIn wsX1_passOne wsX1_burnOn := goodIn_r _ [86, 8, 10, 11, 12, 13, 6, 14, 15, 16, 87, 88, 89, 25, 90, 28, 91, 92, 93, 94, 27, 70, 71, 95, 96, 97, 98, 99, 100, 101, 102, 103, 104, 105, 106, 107, 108, 109, 110, 111, 112, 113, 114] (by decide +kernel) (by decide +kernel)
set_option maxRecDepth 20000 in
theorem gX1_passOne_X1_burnOn : GoodIn wsX1_passOne (wsV RX1 105 RX1 yX1_burnOn wsX1_burnOn) := goodIn_app (goodIn_of _ (by decide +kernel)) ggX1_passOne_X1_burnOn
theorem dX1_passOne_0 : decode cX1_passOne 0 = .ok (.aload_n 0, 1) := by decide +kernel
theorem dX1_passOne_1 : decode cX1_passOne 1 = .ok (.invokevirtual 93, 3) := by decide +kernel
theorem dX1_passOne_4 : decode cX1_passOne 4 = .ok (.aload_n 0, 1) := by decide +kernel
theorem dX1_passOne_5 : decode cX1_passOne 5 = .ok (.invokevirtual 96, 3) := by decide +kernel
theorem dX1_passOne_8 : decode cX1_passOne 8 = .ok (.aload_n 0, 1) := by decide +kernel
theorem dX1_passOne_9 : decode cX1_passOne 9 = .ok (.invokevirtual 99, 3) := by decide +kernel
theorem dX1_passOne_12 : decode cX1_passOne 12 = .ok (.aload_n 0, 1) := by decide +kernel
theorem dX1_passOne_13 : decode cX1_passOne 13 = .ok (.invokevirtual 102, 3) := by decide +kernel
theorem dX1_passOne_16 : decode cX1_passOne 16 = .ok (.aload_n 0, 1) := by decide +kernel
theorem dX1_passOne_17 : decode cX1_passOne 17 = .ok (.invokevirtual 105, 3) := by decide +kernel
theorem dX1_passOne_20 : decode cX1_passOne 20 = .ok (.aload_n 0, 1) := by decide +kernel
theorem dX1_passOne_21 : decode cX1_passOne 21 = .ok (.getfield 108, 3) := by decide +kernel
theorem dX1_passOne_24 : decode cX1_passOne 24 = .ok (.ifCond .le 13, 3) := by decide +kernel
theorem dX1_passOne_27 : decode cX1_passOne 27 = .ok (.aload_n 0, 1) := by decide +kernel
theorem dX1_passOne_28 : decode cX1_passOne 28 = .ok (.dup, 1) := by decide +kernel
theorem dX1_passOne_29 : decode cX1_passOne 29 = .ok (.getfield 108, 3) := by decide +kernel
theorem dX1_passOne_32 : decode cX1_passOne 32 = .ok (.iconst 1, 1) := by decide +kernel
theorem dX1_passOne_33 : decode cX1_passOne 33 = .ok (.isub, 1) := by decide +kernel
theorem dX1_passOne_34 : decode cX1_passOne 34 = .ok (.putfield 108, 3) := by decide +kernel
theorem dX1_passOne_37 : decode cX1_passOne 37 = .ok (.aload_n 0, 1) := by decide +kernel
theorem dX1_passOne_38 : decode cX1_passOne 38 = .ok (.dup, 1) := by decide +kernel
theorem dX1_passOne_39 : decode cX1_passOne 39 = .ok (.getfield 111, 3) := by decide +kernel
theorem dX1_passOne_42 : decode cX1_passOne 42 = .ok (.iconst 1, 1) := by decide +kernel
theorem dX1_passOne_43 : decode cX1_passOne 43 = .ok (.iadd, 1) := by decide +kernel
theorem dX1_passOne_44 : decode cX1_passOne 44 = .ok (.putfield 111, 3) := by decide +kernel
theorem dX1_passOne_47 : decode cX1_passOne 47 = .ok (.return_, 1) := by decide +kernel
set_option maxRecDepth 20000 in
theorem ggX1_rememberFires_X1_hillAt : GoodIn wsX1_rememberFires wsX1_hillAt := goodIn_r _ [8, 9, 10, 11, 12, 13, 14, 15, 16, 17, 18, 19] (by decide +kernel) (by decide +kernel)
set_option maxRecDepth 20000 in
theorem gX1_rememberFires_X1_hillAt : GoodIn wsX1_rememberFires (wsV RX1 30 RX1 yX1_hillAt wsX1_hillAt) := goodIn_app (goodIn_of _ (by decide +kernel)) ggX1_rememberFires_X1_hillAt
theorem dX1_rememberFires_0 : decode cX1_rememberFires 0 = .ok (.iconst 0, 1) := by decide +kernel
theorem dX1_rememberFires_1 : decode cX1_rememberFires 1 = .ok (.istore_n 1, 1) := by decide +kernel
theorem dX1_rememberFires_2 : decode cX1_rememberFires 2 = .ok (.iload_n 1, 1) := by decide +kernel
theorem dX1_rememberFires_3 : decode cX1_rememberFires 3 = .ok (.aload_n 0, 1) := by decide +kernel
theorem dX1_rememberFires_4 : decode cX1_rememberFires 4 = .ok (.getfield 26, 3) := by decide +kernel
theorem dX1_rememberFires_7 : decode cX1_rememberFires 7 = .ok (.if_icmp .ge 23, 3) := by decide +kernel
theorem dX1_rememberFires_10 : decode cX1_rememberFires 10 = .ok (.aload_n 0, 1) := by decide +kernel
theorem dX1_rememberFires_11 : decode cX1_rememberFires 11 = .ok (.iload_n 1, 1) := by decide +kernel
theorem dX1_rememberFires_12 : decode cX1_rememberFires 12 = .ok (.invokevirtual 30, 3) := by decide +kernel
theorem dX1_rememberFires_15 : decode cX1_rememberFires 15 = .ok (.astore_n 2, 1) := by decide +kernel
theorem dX1_rememberFires_16 : decode cX1_rememberFires 16 = .ok (.aload_n 2, 1) := by decide +kernel
theorem dX1_rememberFires_17 : decode cX1_rememberFires 17 = .ok (.aload_n 2, 1) := by decide +kernel
theorem dX1_rememberFires_18 : decode cX1_rememberFires 18 = .ok (.getfield 68, 3) := by decide +kernel
theorem dX1_rememberFires_21 : decode cX1_rememberFires 21 = .ok (.putfield 114, 3) := by decide +kernel
theorem dX1_rememberFires_24 : decode cX1_rememberFires 24 = .ok (.iinc 1 1, 3) := by decide +kernel
theorem dX1_rememberFires_27 : decode cX1_rememberFires 27 = .ok (.goto (-25), 3) := by decide +kernel
theorem dX1_rememberFires_30 : decode cX1_rememberFires 30 = .ok (.return_, 1) := by decide +kernel
set_option maxRecDepth 20000 in
theorem ggX1_lookOut_X1_hillAt : GoodIn wsX1_lookOut wsX1_hillAt := goodIn_r _ [7, 8, 9, 38, 39, 40, 41, 42, 43, 44, 45, 46] (by decide +kernel) (by decide +kernel)
set_option maxRecDepth 20000 in
theorem gX1_lookOut_X1_hillAt : GoodIn wsX1_lookOut (wsV RX1 30 RX1 yX1_hillAt wsX1_hillAt) := goodIn_app (goodIn_of _ (by decide +kernel)) ggX1_lookOut_X1_hillAt
set_option maxRecDepth 20000 in
theorem ggX1_lookOut_X0_isReady : GoodIn wsX1_lookOut wsX0_isReady := goodIn_r _ [14, 15, 16, 47, 48, 49, 50, 51, 52, 53, 54, 55, 56, 57] (by decide +kernel) (by decide +kernel)
set_option maxRecDepth 20000 in
theorem gX1_lookOut_X0_isReady : GoodIn wsX1_lookOut (wsV RX1 117 RX0 yX0_isReady wsX0_isReady) := goodIn_app (goodIn_of _ (by decide +kernel)) ggX1_lookOut_X0_isReady
set_option maxRecDepth 20000 in
theorem ggX1_lookOut_X1_seesGlow : GoodIn wsX1_lookOut wsX1_seesGlow := goodIn_r _ [20, 21, 22, 47, 48, 49, 50, 51, 52, 53, 54, 55, 56, 57, 38, 39, 40, 41, 42, 43, 44, 45, 46] (by decide +kernel) (by decide +kernel)
set_option maxRecDepth 20000 in
theorem gX1_lookOut_X1_seesGlow : GoodIn wsX1_lookOut (wsV RX1 121 RX1 yX1_seesGlow wsX1_seesGlow) := goodIn_app (goodIn_of _ (by decide +kernel)) ggX1_lookOut_X1_seesGlow
set_option maxRecDepth 20000 in
theorem ggX1_lookOut_X1_nearestFire : GoodIn wsX1_lookOut wsX1_nearestFire := goodIn_r _ [26, 1, 27, 28, 29, 30, 6, 31, 32, 3, 4, 5, 7, 8, 9, 33, 34, 35, 36, 37, 38, 39, 40, 41, 42, 43, 44, 45, 46, 47, 48, 49, 50, 51, 52, 53, 54, 55, 56, 57] (by decide +kernel) (by decide +kernel)
set_option maxRecDepth 20000 in
theorem gX1_lookOut_X1_nearestFire : GoodIn wsX1_lookOut (wsV RX1 125 RX1 yX1_nearestFire wsX1_nearestFire) := goodIn_app (goodIn_of _ (by decide +kernel)) ggX1_lookOut_X1_nearestFire
theorem dX1_lookOut_0 : decode cX1_lookOut 0 = .ok (.iconst 0, 1) := by decide +kernel
theorem dX1_lookOut_1 : decode cX1_lookOut 1 = .ok (.istore_n 1, 1) := by decide +kernel
theorem dX1_lookOut_2 : decode cX1_lookOut 2 = .ok (.iload_n 1, 1) := by decide +kernel
theorem dX1_lookOut_3 : decode cX1_lookOut 3 = .ok (.aload_n 0, 1) := by decide +kernel
theorem dX1_lookOut_4 : decode cX1_lookOut 4 = .ok (.getfield 26, 3) := by decide +kernel
theorem dX1_lookOut_7 : decode cX1_lookOut 7 = .ok (.if_icmp .ge 63, 3) := by decide +kernel
theorem dX1_lookOut_10 : decode cX1_lookOut 10 = .ok (.aload_n 0, 1) := by decide +kernel
theorem dX1_lookOut_11 : decode cX1_lookOut 11 = .ok (.iload_n 1, 1) := by decide +kernel
theorem dX1_lookOut_12 : decode cX1_lookOut 12 = .ok (.invokevirtual 30, 3) := by decide +kernel
theorem dX1_lookOut_15 : decode cX1_lookOut 15 = .ok (.astore_n 2, 1) := by decide +kernel
theorem dX1_lookOut_16 : decode cX1_lookOut 16 = .ok (.aload_n 2, 1) := by decide +kernel
theorem dX1_lookOut_17 : decode cX1_lookOut 17 = .ok (.invokevirtual 117, 3) := by decide +kernel
theorem dX1_lookOut_20 : decode cX1_lookOut 20 = .ok (.ifCond .eq 24, 3) := by decide +kernel
theorem dX1_lookOut_23 : decode cX1_lookOut 23 = .ok (.aload_n 0, 1) := by decide +kernel
theorem dX1_lookOut_24 : decode cX1_lookOut 24 = .ok (.aload_n 2, 1) := by decide +kernel
theorem dX1_lookOut_25 : decode cX1_lookOut 25 = .ok (.invokevirtual 121, 3) := by decide +kernel
theorem dX1_lookOut_28 : decode cX1_lookOut 28 = .ok (.ifCond .ne 12, 3) := by decide +kernel
theorem dX1_lookOut_31 : decode cX1_lookOut 31 = .ok (.aload_n 0, 1) := by decide +kernel
theorem dX1_lookOut_32 : decode cX1_lookOut 32 = .ok (.iload_n 1, 1) := by decide +kernel
theorem dX1_lookOut_33 : decode cX1_lookOut 33 = .ok (.invokevirtual 125, 3) := by decide +kernel
theorem dX1_lookOut_36 : decode cX1_lookOut 36 = .ok (.iconst (-1), 1) := by decide +kernel
theorem dX1_lookOut_37 : decode cX1_lookOut 37 = .ok (.if_icmp .eq 7, 3) := by decide +kernel
theorem dX1_lookOut_40 : decode cX1_lookOut 40 = .ok (.iconst 1, 1) := by decide +kernel
theorem dX1_lookOut_41 : decode cX1_lookOut 41 = .ok (.goto 4, 3) := by decide +kernel
theorem dX1_lookOut_44 : decode cX1_lookOut 44 = .ok (.iconst 0, 1) := by decide +kernel
theorem dX1_lookOut_45 : decode cX1_lookOut 45 = .ok (.istore_n 3, 1) := by decide +kernel
theorem dX1_lookOut_46 : decode cX1_lookOut 46 = .ok (.aload_n 2, 1) := by decide +kernel
theorem dX1_lookOut_47 : decode cX1_lookOut 47 = .ok (.iload_n 3, 1) := by decide +kernel
theorem dX1_lookOut_48 : decode cX1_lookOut 48 = .ok (.ifCond .eq 12, 3) := by decide +kernel
theorem dX1_lookOut_51 : decode cX1_lookOut 51 = .ok (.aload_n 2, 1) := by decide +kernel
theorem dX1_lookOut_52 : decode cX1_lookOut 52 = .ok (.getfield 128, 3) := by decide +kernel
theorem dX1_lookOut_55 : decode cX1_lookOut 55 = .ok (.iconst 1, 1) := by decide +kernel
theorem dX1_lookOut_56 : decode cX1_lookOut 56 = .ok (.iadd, 1) := by decide +kernel
theorem dX1_lookOut_57 : decode cX1_lookOut 57 = .ok (.goto 4, 3) := by decide +kernel
theorem dX1_lookOut_60 : decode cX1_lookOut 60 = .ok (.iconst 0, 1) := by decide +kernel
theorem dX1_lookOut_61 : decode cX1_lookOut 61 = .ok (.putfield 128, 3) := by decide +kernel
theorem dX1_lookOut_64 : decode cX1_lookOut 64 = .ok (.iinc 1 1, 3) := by decide +kernel
theorem dX1_lookOut_67 : decode cX1_lookOut 67 = .ok (.goto (-65), 3) := by decide +kernel
theorem dX1_lookOut_70 : decode cX1_lookOut 70 = .ok (.return_, 1) := by decide +kernel
theorem dX1_seesGlow_0 : decode cX1_seesGlow 0 = .ok (.aload_n 1, 1) := by decide +kernel
theorem dX1_seesGlow_1 : decode cX1_seesGlow 1 = .ok (.getfield 131, 3) := by decide +kernel
theorem dX1_seesGlow_4 : decode cX1_seesGlow 4 = .ok (.ifCond .eq 14, 3) := by decide +kernel
theorem dX1_seesGlow_7 : decode cX1_seesGlow 7 = .ok (.aload_n 0, 1) := by decide +kernel
theorem dX1_seesGlow_8 : decode cX1_seesGlow 8 = .ok (.getfield 108, 3) := by decide +kernel
theorem dX1_seesGlow_11 : decode cX1_seesGlow 11 = .ok (.ifCond .le 7, 3) := by decide +kernel
theorem dX1_seesGlow_14 : decode cX1_seesGlow 14 = .ok (.iconst 1, 1) := by decide +kernel
theorem dX1_seesGlow_15 : decode cX1_seesGlow 15 = .ok (.goto 4, 3) := by decide +kernel
theorem dX1_seesGlow_18 : decode cX1_seesGlow 18 = .ok (.iconst 0, 1) := by decide +kernel
theorem dX1_seesGlow_19 : decode cX1_seesGlow 19 = .ok (.ireturn, 1) := by decide +kernel
set_option maxRecDepth 20000 in
theorem ggX1_nearestFire_X1_milesFrom : GoodIn wsX1_nearestFire wsX1_milesFrom := goodIn_r _ [7, 8, 20, 21, 22, 23, 24, 25, 26, 27, 28] (by decide +kernel) (by decide +kernel)
set_option maxRecDepth 20000 in
theorem gX1_nearestFire_X1_milesFrom : GoodIn wsX1_nearestFire (wsV RX1 46 RX1 yX1_milesFrom wsX1_milesFrom) := goodIn_app (goodIn_of _ (by decide +kernel)) ggX1_nearestFire_X1_milesFrom
set_option maxRecDepth 20000 in
theorem ggX1_nearestFire_X1_hillAt : GoodIn wsX1_nearestFire wsX1_hillAt := goodIn_r _ [12, 13, 14, 20, 21, 22, 23, 24, 25, 26, 27, 28] (by decide +kernel) (by decide +kernel)
set_option maxRecDepth 20000 in
theorem gX1_nearestFire_X1_hillAt : GoodIn wsX1_nearestFire (wsV RX1 30 RX1 yX1_hillAt wsX1_hillAt) := goodIn_app (goodIn_of _ (by decide +kernel)) ggX1_nearestFire_X1_hillAt
set_option maxRecDepth 20000 in
theorem ggX1_nearestFire_X1_isClearOver : GoodIn wsX1_nearestFire wsX1_isClearOver := goodIn_r _ [18, 19, 20, 21, 22, 23, 24, 25, 26, 27, 28] (by decide +kernel) (by decide +kernel)
set_option maxRecDepth 20000 in
theorem gX1_nearestFire_X1_isClearOver : GoodIn wsX1_nearestFire (wsV RX1 50 RX1 yX1_isClearOver wsX1_isClearOver) := goodIn_app (goodIn_of _ (by decide +kernel)) ggX1_nearestFire_X1_isClearOver
theorem dX1_nearestFire_0 : decode cX1_nearestFire 0 = .ok (.iconst (-1), 1) := by decide +kernel
theorem dX1_nearestFire_1 : decode cX1_nearestFire 1 = .ok (.istore_n 2, 1) := by decide +kernel
theorem dX1_nearestFire_2 : decode cX1_nearestFire 2 = .ok (.bipush 21, 2) := by decide +kernel
theorem dX1_nearestFire_4 : decode cX1_nearestFire 4 = .ok (.istore_n 3, 1) := by decide +kernel
theorem dX1_nearestFire_5 : decode cX1_nearestFire 5 = .ok (.iconst 0, 1) := by decide +kernel
theorem dX1_nearestFire_6 : decode cX1_nearestFire 6 = .ok (.istore 4, 2) := by decide +kernel
theorem dX1_nearestFire_8 : decode cX1_nearestFire 8 = .ok (.iload 4, 2) := by decide +kernel
theorem dX1_nearestFire_10 : decode cX1_nearestFire 10 = .ok (.aload_n 0, 1) := by decide +kernel
theorem dX1_nearestFire_11 : decode cX1_nearestFire 11 = .ok (.getfield 26, 3) := by decide +kernel
theorem dX1_nearestFire_14 : decode cX1_nearestFire 14 = .ok (.if_icmp .ge 64, 3) := by decide +kernel
theorem dX1_nearestFire_17 : decode cX1_nearestFire 17 = .ok (.aload_n 0, 1) := by decide +kernel
theorem dX1_nearestFire_18 : decode cX1_nearestFire 18 = .ok (.iload_n 1, 1) := by decide +kernel
theorem dX1_nearestFire_19 : decode cX1_nearestFire 19 = .ok (.iload 4, 2) := by decide +kernel
theorem dX1_nearestFire_21 : decode cX1_nearestFire 21 = .ok (.invokevirtual 46, 3) := by decide +kernel
theorem dX1_nearestFire_24 : decode cX1_nearestFire 24 = .ok (.istore 5, 2) := by decide +kernel
theorem dX1_nearestFire_26 : decode cX1_nearestFire 26 = .ok (.aload_n 0, 1) := by decide +kernel
theorem dX1_nearestFire_27 : decode cX1_nearestFire 27 = .ok (.iload 4, 2) := by decide +kernel
theorem dX1_nearestFire_29 : decode cX1_nearestFire 29 = .ok (.invokevirtual 30, 3) := by decide +kernel
theorem dX1_nearestFire_32 : decode cX1_nearestFire 32 = .ok (.getfield 114, 3) := by decide +kernel
theorem dX1_nearestFire_35 : decode cX1_nearestFire 35 = .ok (.iconst 2, 1) := by decide +kernel
theorem dX1_nearestFire_36 : decode cX1_nearestFire 36 = .ok (.if_icmp .ne 7, 3) := by decide +kernel
theorem dX1_nearestFire_39 : decode cX1_nearestFire 39 = .ok (.iconst 1, 1) := by decide +kernel
theorem dX1_nearestFire_40 : decode cX1_nearestFire 40 = .ok (.goto 4, 3) := by decide +kernel
theorem dX1_nearestFire_43 : decode cX1_nearestFire 43 = .ok (.iconst 0, 1) := by decide +kernel
theorem dX1_nearestFire_44 : decode cX1_nearestFire 44 = .ok (.istore 6, 2) := by decide +kernel
theorem dX1_nearestFire_46 : decode cX1_nearestFire 46 = .ok (.iload 6, 2) := by decide +kernel
theorem dX1_nearestFire_48 : decode cX1_nearestFire 48 = .ok (.ifCond .eq 24, 3) := by decide +kernel
theorem dX1_nearestFire_51 : decode cX1_nearestFire 51 = .ok (.aload_n 0, 1) := by decide +kernel
theorem dX1_nearestFire_52 : decode cX1_nearestFire 52 = .ok (.iload 5, 2) := by decide +kernel
theorem dX1_nearestFire_54 : decode cX1_nearestFire 54 = .ok (.invokevirtual 50, 3) := by decide +kernel
theorem dX1_nearestFire_57 : decode cX1_nearestFire 57 = .ok (.ifCond .eq 15, 3) := by decide +kernel
theorem dX1_nearestFire_60 : decode cX1_nearestFire 60 = .ok (.iload 5, 2) := by decide +kernel
theorem dX1_nearestFire_62 : decode cX1_nearestFire 62 = .ok (.iload_n 3, 1) := by decide +kernel
theorem dX1_nearestFire_63 : decode cX1_nearestFire 63 = .ok (.if_icmp .ge 9, 3) := by decide +kernel
theorem dX1_nearestFire_66 : decode cX1_nearestFire 66 = .ok (.iload 4, 2) := by decide +kernel
theorem dX1_nearestFire_68 : decode cX1_nearestFire 68 = .ok (.istore_n 2, 1) := by decide +kernel
theorem dX1_nearestFire_69 : decode cX1_nearestFire 69 = .ok (.iload 5, 2) := by decide +kernel
theorem dX1_nearestFire_71 : decode cX1_nearestFire 71 = .ok (.istore_n 3, 1) := by decide +kernel
theorem dX1_nearestFire_72 : decode cX1_nearestFire 72 = .ok (.iinc 4 1, 3) := by decide +kernel
theorem dX1_nearestFire_75 : decode cX1_nearestFire 75 = .ok (.goto (-67), 3) := by decide +kernel
theorem dX1_nearestFire_78 : decode cX1_nearestFire 78 = .ok (.iload_n 2, 1) := by decide +kernel
theorem dX1_nearestFire_79 : decode cX1_nearestFire 79 = .ok (.ireturn, 1) := by decide +kernel
set_option maxRecDepth 20000 in
theorem ggX1_answerSignals_X1_hillAt : GoodIn wsX1_answerSignals wsX1_hillAt := goodIn_r _ [8, 9, 10, 48, 49, 50, 51, 52, 53, 54, 55, 56] (by decide +kernel) (by decide +kernel)
set_option maxRecDepth 20000 in
theorem gX1_answerSignals_X1_hillAt : GoodIn wsX1_answerSignals (wsV RX1 30 RX1 yX1_hillAt wsX1_hillAt) := goodIn_app (goodIn_of _ (by decide +kernel)) ggX1_answerSignals_X1_hillAt
set_option maxRecDepth 20000 in
theorem ggX1_answerSignals_X1_sourceSeenFrom : GoodIn wsX1_answerSignals wsX1_sourceSeenFrom := goodIn_r _ [14, 15, 16, 17, 18, 7, 19, 1, 20, 21, 22, 23, 24, 25, 4, 5, 6, 8, 9, 10, 26, 27, 28, 29, 30, 57, 58, 59, 60, 61, 62, 63, 64, 65, 66, 67, 48, 49, 50, 51, 52, 53, 54, 55, 56] (by decide +kernel) (by decide +kernel)
set_option maxRecDepth 20000 in
theorem gX1_answerSignals_X1_sourceSeenFrom : GoodIn wsX1_answerSignals (wsV RX1 135 RX1 yX1_sourceSeenFrom wsX1_sourceSeenFrom) := goodIn_app (goodIn_of _ (by decide +kernel)) ggX1_answerSignals_X1_sourceSeenFrom
set_option maxRecDepth 20000 in
theorem ggX1_answerSignals_X1_kindle : GoodIn wsX1_answerSignals wsX1_kindle := goodIn_r _ [34, 35, 36, 4, 5, 6, 7, 8, 9, 10, 37, 38, 39, 40, 41, 42, 43, 44, 45, 46, 47, 48, 49, 50, 51, 52, 53, 54, 55, 56, 57, 58, 59, 60, 61, 62, 63, 64, 65, 66, 67] (by decide +kernel) (by decide +kernel)
set_option maxRecDepth 20000 in
theorem gX1_answerSignals_X1_kindle : GoodIn wsX1_answerSignals (wsV RX1 84 RX1 yX1_kindle wsX1_kindle) := goodIn_app (goodIn_of _ (by decide +kernel)) ggX1_answerSignals_X1_kindle
theorem dX1_answerSignals_0 : decode cX1_answerSignals 0 = .ok (.iconst 0, 1) := by decide +kernel
theorem dX1_answerSignals_1 : decode cX1_answerSignals 1 = .ok (.istore_n 1, 1) := by decide +kernel
theorem dX1_answerSignals_2 : decode cX1_answerSignals 2 = .ok (.iload_n 1, 1) := by decide +kernel
theorem dX1_answerSignals_3 : decode cX1_answerSignals 3 = .ok (.aload_n 0, 1) := by decide +kernel
theorem dX1_answerSignals_4 : decode cX1_answerSignals 4 = .ok (.getfield 26, 3) := by decide +kernel
theorem dX1_answerSignals_7 : decode cX1_answerSignals 7 = .ok (.if_icmp .ge 36, 3) := by decide +kernel
theorem dX1_answerSignals_10 : decode cX1_answerSignals 10 = .ok (.aload_n 0, 1) := by decide +kernel
theorem dX1_answerSignals_11 : decode cX1_answerSignals 11 = .ok (.iload_n 1, 1) := by decide +kernel
theorem dX1_answerSignals_12 : decode cX1_answerSignals 12 = .ok (.invokevirtual 30, 3) := by decide +kernel
theorem dX1_answerSignals_15 : decode cX1_answerSignals 15 = .ok (.astore_n 2, 1) := by decide +kernel
theorem dX1_answerSignals_16 : decode cX1_answerSignals 16 = .ok (.aload_n 2, 1) := by decide +kernel
theorem dX1_answerSignals_17 : decode cX1_answerSignals 17 = .ok (.getfield 128, 3) := by decide +kernel
theorem dX1_answerSignals_20 : decode cX1_answerSignals 20 = .ok (.aload_n 2, 1) := by decide +kernel
theorem dX1_answerSignals_21 : decode cX1_answerSignals 21 = .ok (.getfield 40, 3) := by decide +kernel
theorem dX1_answerSignals_24 : decode cX1_answerSignals 24 = .ok (.if_icmp .lt 13, 3) := by decide +kernel
theorem dX1_answerSignals_27 : decode cX1_answerSignals 27 = .ok (.aload_n 0, 1) := by decide +kernel
theorem dX1_answerSignals_28 : decode cX1_answerSignals 28 = .ok (.iload_n 1, 1) := by decide +kernel
theorem dX1_answerSignals_29 : decode cX1_answerSignals 29 = .ok (.aload_n 0, 1) := by decide +kernel
theorem dX1_answerSignals_30 : decode cX1_answerSignals 30 = .ok (.iload_n 1, 1) := by decide +kernel
theorem dX1_answerSignals_31 : decode cX1_answerSignals 31 = .ok (.invokevirtual 135, 3) := by decide +kernel
theorem dX1_answerSignals_34 : decode cX1_answerSignals 34 = .ok (.invokevirtual 84, 3) := by decide +kernel
theorem dX1_answerSignals_37 : decode cX1_answerSignals 37 = .ok (.iinc 1 1, 3) := by decide +kernel
theorem dX1_answerSignals_40 : decode cX1_answerSignals 40 = .ok (.goto (-38), 3) := by decide +kernel
theorem dX1_answerSignals_43 : decode cX1_answerSignals 43 = .ok (.return_, 1) := by decide +kernel
set_option maxRecDepth 20000 in
theorem ggX1_sourceSeenFrom_X1_nearestFire : GoodIn wsX1_sourceSeenFrom wsX1_nearestFire := goodIn_r _ [6, 7, 8, 9, 10, 11, 5, 12, 13, 14, 15, 16, 17, 18, 19, 20, 21, 22, 23, 24, 36, 37, 38, 39, 40, 41, 42, 43, 44, 25, 26, 27, 28, 29, 30, 31, 32, 33, 34, 35] (by decide +kernel) (by decide +kernel)
set_option maxRecDepth 20000 in
theorem gX1_sourceSeenFrom_X1_nearestFire : GoodIn wsX1_sourceSeenFrom (wsV RX1 125 RX1 yX1_nearestFire wsX1_nearestFire) := goodIn_app (goodIn_of _ (by decide +kernel)) ggX1_sourceSeenFrom_X1_nearestFire
set_option maxRecDepth 20000 in
theorem ggX1_sourceSeenFrom_X1_hillAt : GoodIn wsX1_sourceSeenFrom wsX1_hillAt := goodIn_r _ [17, 18, 19, 36, 37, 38, 39, 40, 41, 42, 43, 44] (by decide +kernel) (by decide +kernel)
set_option maxRecDepth 20000 in
theorem gX1_sourceSeenFrom_X1_hillAt : GoodIn wsX1_sourceSeenFrom (wsV RX1 30 RX1 yX1_hillAt wsX1_hillAt) := goodIn_app (goodIn_of _ (by decide +kernel)) ggX1_sourceSeenFrom_X1_hillAt
theorem dX1_sourceSeenFrom_0 : decode cX1_sourceSeenFrom 0 = .ok (.aload_n 0, 1) := by decide +kernel
theorem dX1_sourceSeenFrom_1 : decode cX1_sourceSeenFrom 1 = .ok (.iload_n 1, 1) := by decide +kernel
theorem dX1_sourceSeenFrom_2 : decode cX1_sourceSeenFrom 2 = .ok (.invokevirtual 125, 3) := by decide +kernel
theorem dX1_sourceSeenFrom_5 : decode cX1_sourceSeenFrom 5 = .ok (.istore_n 2, 1) := by decide +kernel
theorem dX1_sourceSeenFrom_6 : decode cX1_sourceSeenFrom 6 = .ok (.iload_n 2, 1) := by decide +kernel
theorem dX1_sourceSeenFrom_7 : decode cX1_sourceSeenFrom 7 = .ok (.iconst (-1), 1) := by decide +kernel
theorem dX1_sourceSeenFrom_8 : decode cX1_sourceSeenFrom 8 = .ok (.if_icmp .ne 7, 3) := by decide +kernel
theorem dX1_sourceSeenFrom_11 : decode cX1_sourceSeenFrom 11 = .ok (.iconst (-1), 1) := by decide +kernel
theorem dX1_sourceSeenFrom_12 : decode cX1_sourceSeenFrom 12 = .ok (.goto 11, 3) := by decide +kernel
theorem dX1_sourceSeenFrom_15 : decode cX1_sourceSeenFrom 15 = .ok (.aload_n 0, 1) := by decide +kernel
theorem dX1_sourceSeenFrom_16 : decode cX1_sourceSeenFrom 16 = .ok (.iload_n 2, 1) := by decide +kernel
theorem dX1_sourceSeenFrom_17 : decode cX1_sourceSeenFrom 17 = .ok (.invokevirtual 30, 3) := by decide +kernel
theorem dX1_sourceSeenFrom_20 : decode cX1_sourceSeenFrom 20 = .ok (.getfield 71, 3) := by decide +kernel
theorem dX1_sourceSeenFrom_23 : decode cX1_sourceSeenFrom 23 = .ok (.ireturn, 1) := by decide +kernel
set_option maxRecDepth 20000 in
theorem ggX1_kindleOn_X1_hillAt : GoodIn wsX1_kindleOn wsX1_hillAt := goodIn_r _ [8, 9, 10, 19, 20, 21, 22, 23, 24, 25, 26, 27] (by decide +kernel) (by decide +kernel)
set_option maxRecDepth 20000 in
theorem gX1_kindleOn_X1_hillAt : GoodIn wsX1_kindleOn (wsV RX1 30 RX1 yX1_hillAt wsX1_hillAt) := goodIn_app (goodIn_of _ (by decide +kernel)) ggX1_kindleOn_X1_hillAt
set_option maxRecDepth 20000 in
theorem ggX1_kindleOn_X1_startBurning : GoodIn wsX1_kindleOn wsX1_startBurning := goodIn_r _ [14, 15, 16, 17, 18, 4, 5, 6, 7, 8, 9, 10, 28, 29, 30, 31, 32, 33, 34, 35, 36, 37, 38, 19, 20, 21, 22, 23, 24, 25, 26, 27] (by decide +kernel) (by decide +kernel)
set_option maxRecDepth 20000 in
theorem gX1_kindleOn_X1_startBurning : GoodIn wsX1_kindleOn (wsV RX1 141 RX1 yX1_startBurning wsX1_startBurning) := goodIn_app (goodIn_of _ (by decide +kernel)) ggX1_kindleOn_X1_startBurning
theorem dX1_kindleOn_0 : decode cX1_kindleOn 0 = .ok (.iconst 0, 1) := by decide +kernel
theorem dX1_kindleOn_1 : decode cX1_kindleOn 1 = .ok (.istore_n 1, 1) := by decide +kernel
theorem dX1_kindleOn_2 : decode cX1_kindleOn 2 = .ok (.iload_n 1, 1) := by decide +kernel
theorem dX1_kindleOn_3 : decode cX1_kindleOn 3 = .ok (.aload_n 0, 1) := by decide +kernel
theorem dX1_kindleOn_4 : decode cX1_kindleOn 4 = .ok (.getfield 26, 3) := by decide +kernel
theorem dX1_kindleOn_7 : decode cX1_kindleOn 7 = .ok (.if_icmp .ge 45, 3) := by decide +kernel
theorem dX1_kindleOn_10 : decode cX1_kindleOn 10 = .ok (.aload_n 0, 1) := by decide +kernel
theorem dX1_kindleOn_11 : decode cX1_kindleOn 11 = .ok (.iload_n 1, 1) := by decide +kernel
theorem dX1_kindleOn_12 : decode cX1_kindleOn 12 = .ok (.invokevirtual 30, 3) := by decide +kernel
theorem dX1_kindleOn_15 : decode cX1_kindleOn 15 = .ok (.astore_n 2, 1) := by decide +kernel
theorem dX1_kindleOn_16 : decode cX1_kindleOn 16 = .ok (.aload_n 2, 1) := by decide +kernel
theorem dX1_kindleOn_17 : decode cX1_kindleOn 17 = .ok (.getfield 114, 3) := by decide +kernel
theorem dX1_kindleOn_20 : decode cX1_kindleOn 20 = .ok (.iconst 1, 1) := by decide +kernel
theorem dX1_kindleOn_21 : decode cX1_kindleOn 21 = .ok (.if_icmp .ne 25, 3) := by decide +kernel
theorem dX1_kindleOn_24 : decode cX1_kindleOn 24 = .ok (.aload_n 2, 1) := by decide +kernel
theorem dX1_kindleOn_25 : decode cX1_kindleOn 25 = .ok (.dup, 1) := by decide +kernel
theorem dX1_kindleOn_26 : decode cX1_kindleOn 26 = .ok (.getfield 138, 3) := by decide +kernel
theorem dX1_kindleOn_29 : decode cX1_kindleOn 29 = .ok (.iconst 1, 1) := by decide +kernel
theorem dX1_kindleOn_30 : decode cX1_kindleOn 30 = .ok (.isub, 1) := by decide +kernel
theorem dX1_kindleOn_31 : decode cX1_kindleOn 31 = .ok (.putfield 138, 3) := by decide +kernel
theorem dX1_kindleOn_34 : decode cX1_kindleOn 34 = .ok (.aload_n 2, 1) := by decide +kernel
theorem dX1_kindleOn_35 : decode cX1_kindleOn 35 = .ok (.getfield 138, 3) := by decide +kernel
theorem dX1_kindleOn_38 : decode cX1_kindleOn 38 = .ok (.ifCond .gt 8, 3) := by decide +kernel
theorem dX1_kindleOn_41 : decode cX1_kindleOn 41 = .ok (.aload_n 0, 1) := by decide +kernel
theorem dX1_kindleOn_42 : decode cX1_kindleOn 42 = .ok (.aload_n 2, 1) := by decide +kernel
theorem dX1_kindleOn_43 : decode cX1_kindleOn 43 = .ok (.invokevirtual 141, 3) := by decide +kernel
theorem dX1_kindleOn_46 : decode cX1_kindleOn 46 = .ok (.iinc 1 1, 3) := by decide +kernel
theorem dX1_kindleOn_49 : decode cX1_kindleOn 49 = .ok (.goto (-47), 3) := by decide +kernel
theorem dX1_kindleOn_52 : decode cX1_kindleOn 52 = .ok (.return_, 1) := by decide +kernel
set_option maxRecDepth 20000 in
theorem ggX1_startBurning_X1_hillAt : GoodIn wsX1_startBurning wsX1_hillAt := goodIn_r _ [9, 10, 11, 23, 24, 25, 26, 27, 28, 29, 30, 31] (by decide +kernel) (by decide +kernel)
set_option maxRecDepth 20000 in
theorem gX1_startBurning_X1_hillAt : GoodIn wsX1_startBurning (wsV RX1 30 RX1 yX1_hillAt wsX1_hillAt) := goodIn_app (goodIn_of _ (by decide +kernel)) ggX1_startBurning_X1_hillAt
theorem dX1_startBurning_0 : decode cX1_startBurning 0 = .ok (.aload_n 1, 1) := by decide +kernel
theorem dX1_startBurning_1 : decode cX1_startBurning 1 = .ok (.iconst 2, 1) := by decide +kernel
theorem dX1_startBurning_2 : decode cX1_startBurning 2 = .ok (.putfield 68, 3) := by decide +kernel
theorem dX1_startBurning_5 : decode cX1_startBurning 5 = .ok (.aload_n 1, 1) := by decide +kernel
theorem dX1_startBurning_6 : decode cX1_startBurning 6 = .ok (.getfield 145, 3) := by decide +kernel
theorem dX1_startBurning_9 : decode cX1_startBurning 9 = .ok (.ifCond .eq 28, 3) := by decide +kernel
theorem dX1_startBurning_12 : decode cX1_startBurning 12 = .ok (.aload_n 1, 1) := by decide +kernel
theorem dX1_startBurning_13 : decode cX1_startBurning 13 = .ok (.getfield 71, 3) := by decide +kernel
theorem dX1_startBurning_16 : decode cX1_startBurning 16 = .ok (.iconst (-1), 1) := by decide +kernel
theorem dX1_startBurning_17 : decode cX1_startBurning 17 = .ok (.if_icmp .eq 20, 3) := by decide +kernel
theorem dX1_startBurning_20 : decode cX1_startBurning 20 = .ok (.aload_n 0, 1) := by decide +kernel
theorem dX1_startBurning_21 : decode cX1_startBurning 21 = .ok (.aload_n 1, 1) := by decide +kernel
theorem dX1_startBurning_22 : decode cX1_startBurning 22 = .ok (.getfield 71, 3) := by decide +kernel
theorem dX1_startBurning_25 : decode cX1_startBurning 25 = .ok (.invokevirtual 30, 3) := by decide +kernel
theorem dX1_startBurning_28 : decode cX1_startBurning 28 = .ok (.dup, 1) := by decide +kernel
theorem dX1_startBurning_29 : decode cX1_startBurning 29 = .ok (.getfield 87, 3) := by decide +kernel
theorem dX1_startBurning_32 : decode cX1_startBurning 32 = .ok (.iconst 1, 1) := by decide +kernel
theorem dX1_startBurning_33 : decode cX1_startBurning 33 = .ok (.iadd, 1) := by decide +kernel
theorem dX1_startBurning_34 : decode cX1_startBurning 34 = .ok (.putfield 87, 3) := by decide +kernel
theorem dX1_startBurning_37 : decode cX1_startBurning 37 = .ok (.return_, 1) := by decide +kernel
set_option maxRecDepth 20000 in
theorem ggX1_burnOn_X1_hillAt : GoodIn wsX1_burnOn wsX1_hillAt := goodIn_r _ [7, 8, 9, 23, 24, 25, 26, 27, 28, 29, 30, 31] (by decide +kernel) (by decide +kernel)
set_option maxRecDepth 20000 in
theorem gX1_burnOn_X1_hillAt : GoodIn wsX1_burnOn (wsV RX1 30 RX1 yX1_hillAt wsX1_hillAt) := goodIn_app (goodIn_of _ (by decide +kernel)) ggX1_burnOn_X1_hillAt
set_option maxRecDepth 20000 in
theorem ggX1_burnOn_X0_burnOn : GoodIn wsX1_burnOn wsX0_burnOn := goodIn_r _ [14, 15, 16, 17, 18, 13, 19, 20, 21, 22, 32, 33, 34, 35, 36, 37, 38, 39, 40, 41, 42] (by decide +kernel) (by decide +kernel)
set_option maxRecDepth 20000 in
theorem gX1_burnOn_X0_burnOn : GoodIn wsX1_burnOn (wsV RX1 148 RX0 yX0_burnOn wsX0_burnOn) := goodIn_app (goodIn_of _ (by decide +kernel)) ggX1_burnOn_X0_burnOn
theorem dX1_burnOn_0 : decode cX1_burnOn 0 = .ok (.iconst 0, 1) := by decide +kernel
theorem dX1_burnOn_1 : decode cX1_burnOn 1 = .ok (.istore_n 1, 1) := by decide +kernel
theorem dX1_burnOn_2 : decode cX1_burnOn 2 = .ok (.iload_n 1, 1) := by decide +kernel
theorem dX1_burnOn_3 : decode cX1_burnOn 3 = .ok (.aload_n 0, 1) := by decide +kernel
theorem dX1_burnOn_4 : decode cX1_burnOn 4 = .ok (.getfield 26, 3) := by decide +kernel
theorem dX1_burnOn_7 : decode cX1_burnOn 7 = .ok (.if_icmp .ge 27, 3) := by decide +kernel
theorem dX1_burnOn_10 : decode cX1_burnOn 10 = .ok (.aload_n 0, 1) := by decide +kernel
theorem dX1_burnOn_11 : decode cX1_burnOn 11 = .ok (.iload_n 1, 1) := by decide +kernel
theorem dX1_burnOn_12 : decode cX1_burnOn 12 = .ok (.invokevirtual 30, 3) := by decide +kernel
theorem dX1_burnOn_15 : decode cX1_burnOn 15 = .ok (.astore_n 2, 1) := by decide +kernel
theorem dX1_burnOn_16 : decode cX1_burnOn 16 = .ok (.aload_n 2, 1) := by decide +kernel
theorem dX1_burnOn_17 : decode cX1_burnOn 17 = .ok (.getfield 114, 3) := by decide +kernel
theorem dX1_burnOn_20 : decode cX1_burnOn 20 = .ok (.iconst 2, 1) := by decide +kernel
theorem dX1_burnOn_21 : decode cX1_burnOn 21 = .ok (.if_icmp .ne 7, 3) := by decide +kernel
theorem dX1_burnOn_24 : decode cX1_burnOn 24 = .ok (.aload_n 2, 1) := by decide +kernel
theorem dX1_burnOn_25 : decode cX1_burnOn 25 = .ok (.invokevirtual 148, 3) := by decide +kernel
theorem dX1_burnOn_28 : decode cX1_burnOn 28 = .ok (.iinc 1 1, 3) := by decide +kernel
theorem dX1_burnOn_31 : decode cX1_burnOn 31 = .ok (.goto (-29), 3) := by decide +kernel
theorem dX1_burnOn_34 : decode cX1_burnOn 34 = .ok (.return_, 1) := by decide +kernel
