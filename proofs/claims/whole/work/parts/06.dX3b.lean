set_option maxRecDepth 20000 in
theorem ggX3_passMinutes_X3_fail : GoodIn wsX3_passMinutes wsX3_fail := goodIn_r _ [10, 1, 53, 54, 55, 56, 57, 58, 59, 60, 61, 62, 63] (by decide +kernel) (by decide +kernel)
set_option maxRecDepth 20000 in
theorem gX3_passMinutes_X3_fail : GoodIn wsX3_passMinutes (wsV RX3 86 RX3 yX3_fail wsX3_fail) := goodIn_app (goodIn_of _ (by decide +kernel)) ggX3_passMinutes_X3_fail
set_option maxRecDepth 20000 in
theorem ggX3_passMinutes_X3_minuteOn : GoodIn wsX3_passMinutes wsX3_minuteOn := goodIn_r _ [14, 15, 16, 17, 2, 18, 19, 20, 21, 22, 23, 24, 5, 25, 26, 27, 28, 29, 30, 31, 32, 33, 34, 35, 36, 37, 38, 39, 40, 41, 42, 43, 44, 45, 46, 47, 48, 49, 50, 51, 52, 53, 54, 55, 56, 57, 58, 59, 60, 61, 62, 63] (by decide +kernel) (by decide +kernel)
set_option maxRecDepth 20000 in
theorem gX3_passMinutes_X3_minuteOn : GoodIn wsX3_passMinutes (wsV RX3 105 RX3 yX3_minuteOn wsX3_minuteOn) := goodIn_app (goodIn_of _ (by decide +kernel)) ggX3_passMinutes_X3_minuteOn
theorem dX3_passMinutes_0 : decode cX3_passMinutes 0 = .ok (.aload_n 0, 1) := by decide +kernel
theorem dX3_passMinutes_1 : decode cX3_passMinutes 1 = .ok (.iconst 0, 1) := by decide +kernel
theorem dX3_passMinutes_2 : decode cX3_passMinutes 2 = .ok (.putfield 38, 3) := by decide +kernel
theorem dX3_passMinutes_5 : decode cX3_passMinutes 5 = .ok (.iload_n 1, 1) := by decide +kernel
theorem dX3_passMinutes_6 : decode cX3_passMinutes 6 = .ok (.iconst 1, 1) := by decide +kernel
theorem dX3_passMinutes_7 : decode cX3_passMinutes 7 = .ok (.bipush 100, 2) := by decide +kernel
theorem dX3_passMinutes_9 : decode cX3_passMinutes 9 = .ok (.invokestatic 45, 3) := by decide +kernel
theorem dX3_passMinutes_12 : decode cX3_passMinutes 12 = .ok (.ifCond .ne 9, 3) := by decide +kernel
theorem dX3_passMinutes_15 : decode cX3_passMinutes 15 = .ok (.aload_n 0, 1) := by decide +kernel
theorem dX3_passMinutes_16 : decode cX3_passMinutes 16 = .ok (.iconst 1, 1) := by decide +kernel
theorem dX3_passMinutes_17 : decode cX3_passMinutes 17 = .ok (.invokevirtual 86, 3) := by decide +kernel
theorem dX3_passMinutes_20 : decode cX3_passMinutes 20 = .ok (.ireturn, 1) := by decide +kernel
theorem dX3_passMinutes_21 : decode cX3_passMinutes 21 = .ok (.aload_n 0, 1) := by decide +kernel
theorem dX3_passMinutes_22 : decode cX3_passMinutes 22 = .ok (.getfield 23, 3) := by decide +kernel
theorem dX3_passMinutes_25 : decode cX3_passMinutes 25 = .ok (.iconst 2, 1) := by decide +kernel
theorem dX3_passMinutes_26 : decode cX3_passMinutes 26 = .ok (.iaload, 1) := by decide +kernel
theorem dX3_passMinutes_27 : decode cX3_passMinutes 27 = .ok (.istore_n 2, 1) := by decide +kernel
theorem dX3_passMinutes_28 : decode cX3_passMinutes 28 = .ok (.iconst 0, 1) := by decide +kernel
theorem dX3_passMinutes_29 : decode cX3_passMinutes 29 = .ok (.istore_n 3, 1) := by decide +kernel
theorem dX3_passMinutes_30 : decode cX3_passMinutes 30 = .ok (.iload_n 3, 1) := by decide +kernel
theorem dX3_passMinutes_31 : decode cX3_passMinutes 31 = .ok (.iload_n 1, 1) := by decide +kernel
theorem dX3_passMinutes_32 : decode cX3_passMinutes 32 = .ok (.if_icmp .ge 13, 3) := by decide +kernel
theorem dX3_passMinutes_35 : decode cX3_passMinutes 35 = .ok (.aload_n 0, 1) := by decide +kernel
theorem dX3_passMinutes_36 : decode cX3_passMinutes 36 = .ok (.invokevirtual 105, 3) := by decide +kernel
theorem dX3_passMinutes_39 : decode cX3_passMinutes 39 = .ok (.iinc 3 1, 3) := by decide +kernel
theorem dX3_passMinutes_42 : decode cX3_passMinutes 42 = .ok (.goto (-12), 3) := by decide +kernel
theorem dX3_passMinutes_45 : decode cX3_passMinutes 45 = .ok (.aload_n 0, 1) := by decide +kernel
theorem dX3_passMinutes_46 : decode cX3_passMinutes 46 = .ok (.getfield 23, 3) := by decide +kernel
theorem dX3_passMinutes_49 : decode cX3_passMinutes 49 = .ok (.iconst 2, 1) := by decide +kernel
theorem dX3_passMinutes_50 : decode cX3_passMinutes 50 = .ok (.iaload, 1) := by decide +kernel
theorem dX3_passMinutes_51 : decode cX3_passMinutes 51 = .ok (.iload_n 2, 1) := by decide +kernel
theorem dX3_passMinutes_52 : decode cX3_passMinutes 52 = .ok (.isub, 1) := by decide +kernel
theorem dX3_passMinutes_53 : decode cX3_passMinutes 53 = .ok (.ireturn, 1) := by decide +kernel
set_option maxRecDepth 20000 in
theorem ggX3_hill_X3_isHill : GoodIn wsX3_hill wsX3_isHill := goodIn_r _ [6, 7, 8, 9, 5, 10, 20, 21, 22, 23, 24, 25, 26, 27, 28, 29, 30] (by decide +kernel) (by decide +kernel)
set_option maxRecDepth 20000 in
theorem gX3_hill_X3_isHill : GoodIn wsX3_hill (wsV RX3 89 RX3 yX3_isHill wsX3_isHill) := goodIn_app (goodIn_of _ (by decide +kernel)) ggX3_hill_X3_isHill
set_option maxRecDepth 20000 in
theorem ggX3_hill_X3_hi : GoodIn wsX3_hill wsX3_hi := goodIn_r _ [14, 15, 20, 21, 22, 23, 24, 25, 26, 27, 28, 29, 30] (by decide +kernel) (by decide +kernel)
set_option maxRecDepth 20000 in
theorem gX3_hill_X3_hi : GoodIn wsX3_hill (wsV RX3 59 RX3 yX3_hi wsX3_hi) := goodIn_app (goodIn_of _ (by decide +kernel)) ggX3_hill_X3_hi
set_option maxRecDepth 20000 in
theorem ggX3_hill_X3_fail : GoodIn wsX3_hill wsX3_fail := goodIn_r _ [19, 1, 20, 21, 22, 23, 24, 25, 26, 27, 28, 29, 30] (by decide +kernel) (by decide +kernel)
set_option maxRecDepth 20000 in
theorem gX3_hill_X3_fail : GoodIn wsX3_hill (wsV RX3 86 RX3 yX3_fail wsX3_fail) := goodIn_app (goodIn_of _ (by decide +kernel)) ggX3_hill_X3_fail
theorem dX3_hill_0 : decode cX3_hill 0 = .ok (.aload_n 0, 1) := by decide +kernel
theorem dX3_hill_1 : decode cX3_hill 1 = .ok (.iconst 0, 1) := by decide +kernel
theorem dX3_hill_2 : decode cX3_hill 2 = .ok (.putfield 38, 3) := by decide +kernel
theorem dX3_hill_5 : decode cX3_hill 5 = .ok (.aload_n 0, 1) := by decide +kernel
theorem dX3_hill_6 : decode cX3_hill 6 = .ok (.iload_n 1, 1) := by decide +kernel
theorem dX3_hill_7 : decode cX3_hill 7 = .ok (.invokevirtual 89, 3) := by decide +kernel
theorem dX3_hill_10 : decode cX3_hill 10 = .ok (.ifCond .eq 12, 3) := by decide +kernel
theorem dX3_hill_13 : decode cX3_hill 13 = .ok (.aload_n 0, 1) := by decide +kernel
theorem dX3_hill_14 : decode cX3_hill 14 = .ok (.iload_n 1, 1) := by decide +kernel
theorem dX3_hill_15 : decode cX3_hill 15 = .ok (.iload_n 2, 1) := by decide +kernel
theorem dX3_hill_16 : decode cX3_hill 16 = .ok (.invokevirtual 59, 3) := by decide +kernel
theorem dX3_hill_19 : decode cX3_hill 19 = .ok (.goto 8, 3) := by decide +kernel
theorem dX3_hill_22 : decode cX3_hill 22 = .ok (.aload_n 0, 1) := by decide +kernel
theorem dX3_hill_23 : decode cX3_hill 23 = .ok (.iconst 1, 1) := by decide +kernel
theorem dX3_hill_24 : decode cX3_hill 24 = .ok (.invokevirtual 86, 3) := by decide +kernel
theorem dX3_hill_27 : decode cX3_hill 27 = .ok (.ireturn, 1) := by decide +kernel
set_option maxRecDepth 20000 in
theorem ggX3_woodOf_X3_hill : GoodIn wsX3_woodOf wsX3_hill := goodIn_r _ [5, 6, 7, 8, 9, 4, 10, 11, 12, 13, 14, 15, 16, 17, 18, 19, 20, 21, 22, 23, 24, 25, 26, 27, 28, 29, 30, 31, 32, 33, 34] (by decide +kernel) (by decide +kernel)
set_option maxRecDepth 20000 in
theorem gX3_woodOf_X3_hill : GoodIn wsX3_woodOf (wsV RX3 108 RX3 yX3_hill wsX3_hill) := goodIn_app (goodIn_of _ (by decide +kernel)) ggX3_woodOf_X3_hill
theorem dX3_woodOf_0 : decode cX3_woodOf 0 = .ok (.aload_n 0, 1) := by decide +kernel
theorem dX3_woodOf_1 : decode cX3_woodOf 1 = .ok (.iload_n 1, 1) := by decide +kernel
theorem dX3_woodOf_2 : decode cX3_woodOf 2 = .ok (.iconst 0, 1) := by decide +kernel
theorem dX3_woodOf_3 : decode cX3_woodOf 3 = .ok (.invokevirtual 108, 3) := by decide +kernel
theorem dX3_woodOf_6 : decode cX3_woodOf 6 = .ok (.ireturn, 1) := by decide +kernel
set_option maxRecDepth 20000 in
theorem ggX3_dampOf_X3_hill : GoodIn wsX3_dampOf wsX3_hill := goodIn_r _ [5, 6, 7, 8, 9, 4, 10, 11, 12, 13, 14, 15, 16, 17, 18, 19, 20, 21, 22, 23, 24, 25, 26, 27, 28, 29, 30, 31, 32, 33, 34] (by decide +kernel) (by decide +kernel)
set_option maxRecDepth 20000 in
theorem gX3_dampOf_X3_hill : GoodIn wsX3_dampOf (wsV RX3 108 RX3 yX3_hill wsX3_hill) := goodIn_app (goodIn_of _ (by decide +kernel)) ggX3_dampOf_X3_hill
theorem dX3_dampOf_0 : decode cX3_dampOf 0 = .ok (.aload_n 0, 1) := by decide +kernel
theorem dX3_dampOf_1 : decode cX3_dampOf 1 = .ok (.iload_n 1, 1) := by decide +kernel
theorem dX3_dampOf_2 : decode cX3_dampOf 2 = .ok (.bipush 6, 2) := by decide +kernel
theorem dX3_dampOf_4 : decode cX3_dampOf 4 = .ok (.invokevirtual 108, 3) := by decide +kernel
theorem dX3_dampOf_7 : decode cX3_dampOf 7 = .ok (.ireturn, 1) := by decide +kernel
set_option maxRecDepth 20000 in
theorem ggX3_watchOf_X3_isHill : GoodIn wsX3_watchOf wsX3_isHill := goodIn_r _ [7, 8, 9, 10, 6, 11, 16, 17, 18, 19, 20, 21, 22, 23, 24, 25, 26] (by decide +kernel) (by decide +kernel)
set_option maxRecDepth 20000 in
theorem gX3_watchOf_X3_isHill : GoodIn wsX3_watchOf (wsV RX3 89 RX3 yX3_isHill wsX3_isHill) := goodIn_app (goodIn_of _ (by decide +kernel)) ggX3_watchOf_X3_isHill
set_option maxRecDepth 20000 in
theorem ggX3_watchOf_X3_fail : GoodIn wsX3_watchOf wsX3_fail := goodIn_r _ [15, 1, 16, 17, 18, 19, 20, 21, 22, 23, 24, 25, 26] (by decide +kernel) (by decide +kernel)
set_option maxRecDepth 20000 in
theorem gX3_watchOf_X3_fail : GoodIn wsX3_watchOf (wsV RX3 86 RX3 yX3_fail wsX3_fail) := goodIn_app (goodIn_of _ (by decide +kernel)) ggX3_watchOf_X3_fail
theorem dX3_watchOf_0 : decode cX3_watchOf 0 = .ok (.aload_n 0, 1) := by decide +kernel
theorem dX3_watchOf_1 : decode cX3_watchOf 1 = .ok (.iconst 0, 1) := by decide +kernel
theorem dX3_watchOf_2 : decode cX3_watchOf 2 = .ok (.putfield 38, 3) := by decide +kernel
theorem dX3_watchOf_5 : decode cX3_watchOf 5 = .ok (.aload_n 0, 1) := by decide +kernel
theorem dX3_watchOf_6 : decode cX3_watchOf 6 = .ok (.iload_n 1, 1) := by decide +kernel
theorem dX3_watchOf_7 : decode cX3_watchOf 7 = .ok (.invokevirtual 89, 3) := by decide +kernel
theorem dX3_watchOf_10 : decode cX3_watchOf 10 = .ok (.ifCond .eq 12, 3) := by decide +kernel
theorem dX3_watchOf_13 : decode cX3_watchOf 13 = .ok (.aload_n 0, 1) := by decide +kernel
theorem dX3_watchOf_14 : decode cX3_watchOf 14 = .ok (.getfield 9, 3) := by decide +kernel
theorem dX3_watchOf_17 : decode cX3_watchOf 17 = .ok (.iload_n 1, 1) := by decide +kernel
theorem dX3_watchOf_18 : decode cX3_watchOf 18 = .ok (.iaload, 1) := by decide +kernel
theorem dX3_watchOf_19 : decode cX3_watchOf 19 = .ok (.goto 8, 3) := by decide +kernel
theorem dX3_watchOf_22 : decode cX3_watchOf 22 = .ok (.aload_n 0, 1) := by decide +kernel
theorem dX3_watchOf_23 : decode cX3_watchOf 23 = .ok (.iconst 1, 1) := by decide +kernel
theorem dX3_watchOf_24 : decode cX3_watchOf 24 = .ok (.invokevirtual 86, 3) := by decide +kernel
theorem dX3_watchOf_27 : decode cX3_watchOf 27 = .ok (.ireturn, 1) := by decide +kernel
set_option maxRecDepth 20000 in
theorem ggX3_looksEast_X3_isHill : GoodIn wsX3_looksEast wsX3_isHill := goodIn_r _ [7, 8, 9, 10, 6, 11, 16, 17, 18, 19, 20, 21, 22, 23, 24, 25, 26] (by decide +kernel) (by decide +kernel)
set_option maxRecDepth 20000 in
theorem gX3_looksEast_X3_isHill : GoodIn wsX3_looksEast (wsV RX3 89 RX3 yX3_isHill wsX3_isHill) := goodIn_app (goodIn_of _ (by decide +kernel)) ggX3_looksEast_X3_isHill
set_option maxRecDepth 20000 in
theorem ggX3_looksEast_X3_failed : GoodIn wsX3_looksEast wsX3_failed := goodIn_r _ [15, 1, 16, 17, 18, 19, 20, 21, 22, 23, 24, 25, 26] (by decide +kernel) (by decide +kernel)
set_option maxRecDepth 20000 in
theorem gX3_looksEast_X3_failed : GoodIn wsX3_looksEast (wsV RX3 93 RX3 yX3_failed wsX3_failed) := goodIn_app (goodIn_of _ (by decide +kernel)) ggX3_looksEast_X3_failed
theorem dX3_looksEast_0 : decode cX3_looksEast 0 = .ok (.aload_n 0, 1) := by decide +kernel
theorem dX3_looksEast_1 : decode cX3_looksEast 1 = .ok (.iconst 0, 1) := by decide +kernel
theorem dX3_looksEast_2 : decode cX3_looksEast 2 = .ok (.putfield 38, 3) := by decide +kernel
theorem dX3_looksEast_5 : decode cX3_looksEast 5 = .ok (.aload_n 0, 1) := by decide +kernel
theorem dX3_looksEast_6 : decode cX3_looksEast 6 = .ok (.iload_n 1, 1) := by decide +kernel
theorem dX3_looksEast_7 : decode cX3_looksEast 7 = .ok (.invokevirtual 89, 3) := by decide +kernel
theorem dX3_looksEast_10 : decode cX3_looksEast 10 = .ok (.ifCond .eq 12, 3) := by decide +kernel
theorem dX3_looksEast_13 : decode cX3_looksEast 13 = .ok (.aload_n 0, 1) := by decide +kernel
theorem dX3_looksEast_14 : decode cX3_looksEast 14 = .ok (.getfield 13, 3) := by decide +kernel
theorem dX3_looksEast_17 : decode cX3_looksEast 17 = .ok (.iload_n 1, 1) := by decide +kernel
theorem dX3_looksEast_18 : decode cX3_looksEast 18 = .ok (.baload, 1) := by decide +kernel
theorem dX3_looksEast_19 : decode cX3_looksEast 19 = .ok (.goto 8, 3) := by decide +kernel
theorem dX3_looksEast_22 : decode cX3_looksEast 22 = .ok (.aload_n 0, 1) := by decide +kernel
theorem dX3_looksEast_23 : decode cX3_looksEast 23 = .ok (.iconst 1, 1) := by decide +kernel
theorem dX3_looksEast_24 : decode cX3_looksEast 24 = .ok (.invokevirtual 93, 3) := by decide +kernel
theorem dX3_looksEast_27 : decode cX3_looksEast 27 = .ok (.ireturn, 1) := by decide +kernel
set_option maxRecDepth 20000 in
theorem ggX3_isPost_X3_isHill : GoodIn wsX3_isPost wsX3_isHill := goodIn_r _ [7, 8, 9, 10, 6, 11, 16, 17, 18, 19, 20, 21, 22, 23, 24, 25, 26] (by decide +kernel) (by decide +kernel)
set_option maxRecDepth 20000 in
theorem gX3_isPost_X3_isHill : GoodIn wsX3_isPost (wsV RX3 89 RX3 yX3_isHill wsX3_isHill) := goodIn_app (goodIn_of _ (by decide +kernel)) ggX3_isPost_X3_isHill
set_option maxRecDepth 20000 in
theorem ggX3_isPost_X3_failed : GoodIn wsX3_isPost wsX3_failed := goodIn_r _ [15, 1, 16, 17, 18, 19, 20, 21, 22, 23, 24, 25, 26] (by decide +kernel) (by decide +kernel)
set_option maxRecDepth 20000 in
theorem gX3_isPost_X3_failed : GoodIn wsX3_isPost (wsV RX3 93 RX3 yX3_failed wsX3_failed) := goodIn_app (goodIn_of _ (by decide +kernel)) ggX3_isPost_X3_failed
theorem dX3_isPost_0 : decode cX3_isPost 0 = .ok (.aload_n 0, 1) := by decide +kernel
theorem dX3_isPost_1 : decode cX3_isPost 1 = .ok (.iconst 0, 1) := by decide +kernel
theorem dX3_isPost_2 : decode cX3_isPost 2 = .ok (.putfield 38, 3) := by decide +kernel
theorem dX3_isPost_5 : decode cX3_isPost 5 = .ok (.aload_n 0, 1) := by decide +kernel
theorem dX3_isPost_6 : decode cX3_isPost 6 = .ok (.iload_n 1, 1) := by decide +kernel
theorem dX3_isPost_7 : decode cX3_isPost 7 = .ok (.invokevirtual 89, 3) := by decide +kernel
theorem dX3_isPost_10 : decode cX3_isPost 10 = .ok (.ifCond .eq 12, 3) := by decide +kernel
theorem dX3_isPost_13 : decode cX3_isPost 13 = .ok (.aload_n 0, 1) := by decide +kernel
theorem dX3_isPost_14 : decode cX3_isPost 14 = .ok (.getfield 17, 3) := by decide +kernel
theorem dX3_isPost_17 : decode cX3_isPost 17 = .ok (.iload_n 1, 1) := by decide +kernel
theorem dX3_isPost_18 : decode cX3_isPost 18 = .ok (.baload, 1) := by decide +kernel
theorem dX3_isPost_19 : decode cX3_isPost 19 = .ok (.goto 8, 3) := by decide +kernel
theorem dX3_isPost_22 : decode cX3_isPost 22 = .ok (.aload_n 0, 1) := by decide +kernel
theorem dX3_isPost_23 : decode cX3_isPost 23 = .ok (.iconst 1, 1) := by decide +kernel
theorem dX3_isPost_24 : decode cX3_isPost 24 = .ok (.invokevirtual 93, 3) := by decide +kernel
theorem dX3_isPost_27 : decode cX3_isPost 27 = .ok (.ireturn, 1) := by decide +kernel
set_option maxRecDepth 20000 in
theorem ggX3_arePair_X3_isHill : GoodIn wsX3_arePair wsX3_isHill := goodIn_r _ [6, 7, 8, 9, 5, 10, 11, 12, 13, 14, 15, 16, 17, 18, 19, 20, 21] (by decide +kernel) (by decide +kernel)
set_option maxRecDepth 20000 in
theorem gX3_arePair_X3_isHill : GoodIn wsX3_arePair (wsV RX3 89 RX3 yX3_isHill wsX3_isHill) := goodIn_app (goodIn_of _ (by decide +kernel)) ggX3_arePair_X3_isHill
theorem dX3_arePair_0 : decode cX3_arePair 0 = .ok (.aload_n 0, 1) := by decide +kernel
theorem dX3_arePair_1 : decode cX3_arePair 1 = .ok (.aload_n 0, 1) := by decide +kernel
theorem dX3_arePair_2 : decode cX3_arePair 2 = .ok (.iload_n 1, 1) := by decide +kernel
theorem dX3_arePair_3 : decode cX3_arePair 3 = .ok (.invokevirtual 89, 3) := by decide +kernel
theorem dX3_arePair_6 : decode cX3_arePair 6 = .ok (.ifCond .eq 15, 3) := by decide +kernel
theorem dX3_arePair_9 : decode cX3_arePair 9 = .ok (.aload_n 0, 1) := by decide +kernel
theorem dX3_arePair_10 : decode cX3_arePair 10 = .ok (.iload_n 2, 1) := by decide +kernel
theorem dX3_arePair_11 : decode cX3_arePair 11 = .ok (.invokevirtual 89, 3) := by decide +kernel
theorem dX3_arePair_14 : decode cX3_arePair 14 = .ok (.ifCond .eq 7, 3) := by decide +kernel
theorem dX3_arePair_17 : decode cX3_arePair 17 = .ok (.iconst 0, 1) := by decide +kernel
theorem dX3_arePair_18 : decode cX3_arePair 18 = .ok (.goto 4, 3) := by decide +kernel
theorem dX3_arePair_21 : decode cX3_arePair 21 = .ok (.iconst 1, 1) := by decide +kernel
theorem dX3_arePair_22 : decode cX3_arePair 22 = .ok (.putfield 38, 3) := by decide +kernel
theorem dX3_arePair_25 : decode cX3_arePair 25 = .ok (.aload_n 0, 1) := by decide +kernel
theorem dX3_arePair_26 : decode cX3_arePair 26 = .ok (.getfield 38, 3) := by decide +kernel
theorem dX3_arePair_29 : decode cX3_arePair 29 = .ok (.ifCond .ne 7, 3) := by decide +kernel
theorem dX3_arePair_32 : decode cX3_arePair 32 = .ok (.iconst 1, 1) := by decide +kernel
theorem dX3_arePair_33 : decode cX3_arePair 33 = .ok (.goto 4, 3) := by decide +kernel
theorem dX3_arePair_36 : decode cX3_arePair 36 = .ok (.iconst 0, 1) := by decide +kernel
theorem dX3_arePair_37 : decode cX3_arePair 37 = .ok (.ireturn, 1) := by decide +kernel
set_option maxRecDepth 20000 in
theorem ggX3_milesBetween_X3_arePair : GoodIn wsX3_milesBetween wsX3_arePair := goodIn_r _ [6, 7, 8, 9, 10, 5, 11, 12, 13, 14, 15, 16, 17, 18, 19, 20, 21, 22, 23, 24, 25, 26] (by decide +kernel) (by decide +kernel)
set_option maxRecDepth 20000 in
theorem gX3_milesBetween_X3_arePair : GoodIn wsX3_milesBetween (wsV RX3 111 RX3 yX3_arePair wsX3_arePair) := goodIn_app (goodIn_of _ (by decide +kernel)) ggX3_milesBetween_X3_arePair
theorem dX3_milesBetween_0 : decode cX3_milesBetween 0 = .ok (.aload_n 0, 1) := by decide +kernel
theorem dX3_milesBetween_1 : decode cX3_milesBetween 1 = .ok (.iload_n 1, 1) := by decide +kernel
theorem dX3_milesBetween_2 : decode cX3_milesBetween 2 = .ok (.iload_n 2, 1) := by decide +kernel
theorem dX3_milesBetween_3 : decode cX3_milesBetween 3 = .ok (.invokevirtual 111, 3) := by decide +kernel
theorem dX3_milesBetween_6 : decode cX3_milesBetween 6 = .ok (.ifCond .eq 17, 3) := by decide +kernel
theorem dX3_milesBetween_9 : decode cX3_milesBetween 9 = .ok (.aload_n 0, 1) := by decide +kernel
theorem dX3_milesBetween_10 : decode cX3_milesBetween 10 = .ok (.getfield 20, 3) := by decide +kernel
theorem dX3_milesBetween_13 : decode cX3_milesBetween 13 = .ok (.bipush 10, 2) := by decide +kernel
theorem dX3_milesBetween_15 : decode cX3_milesBetween 15 = .ok (.iload_n 1, 1) := by decide +kernel
theorem dX3_milesBetween_16 : decode cX3_milesBetween 16 = .ok (.imul, 1) := by decide +kernel
theorem dX3_milesBetween_17 : decode cX3_milesBetween 17 = .ok (.iload_n 2, 1) := by decide +kernel
theorem dX3_milesBetween_18 : decode cX3_milesBetween 18 = .ok (.iadd, 1) := by decide +kernel
theorem dX3_milesBetween_19 : decode cX3_milesBetween 19 = .ok (.iaload, 1) := by decide +kernel
theorem dX3_milesBetween_20 : decode cX3_milesBetween 20 = .ok (.goto 4, 3) := by decide +kernel
theorem dX3_milesBetween_23 : decode cX3_milesBetween 23 = .ok (.iconst 0, 1) := by decide +kernel
theorem dX3_milesBetween_24 : decode cX3_milesBetween 24 = .ok (.ireturn, 1) := by decide +kernel
set_option maxRecDepth 20000 in
theorem ggX3_canSee_X3_arePair : GoodIn wsX3_canSee wsX3_arePair := goodIn_r _ [5, 6, 7, 8, 9, 4, 10, 11, 12, 13, 14, 21, 22, 23, 24, 25, 26, 27, 28, 29, 30, 31] (by decide +kernel) (by decide +kernel)
set_option maxRecDepth 20000 in
theorem gX3_canSee_X3_arePair : GoodIn wsX3_canSee (wsV RX3 111 RX3 yX3_arePair wsX3_arePair) := goodIn_app (goodIn_of _ (by decide +kernel)) ggX3_canSee_X3_arePair
set_option maxRecDepth 20000 in
theorem ggX3_canSee_X3_sees : GoodIn wsX3_canSee wsX3_sees := goodIn_r _ [18, 19, 20, 21, 22, 23, 24, 25, 26, 27, 28, 29, 30, 31] (by decide +kernel) (by decide +kernel)
set_option maxRecDepth 20000 in
theorem gX3_canSee_X3_sees : GoodIn wsX3_canSee (wsV RX3 55 RX3 yX3_sees wsX3_sees) := goodIn_app (goodIn_of _ (by decide +kernel)) ggX3_canSee_X3_sees
theorem dX3_canSee_0 : decode cX3_canSee 0 = .ok (.aload_n 0, 1) := by decide +kernel
theorem dX3_canSee_1 : decode cX3_canSee 1 = .ok (.iload_n 1, 1) := by decide +kernel
theorem dX3_canSee_2 : decode cX3_canSee 2 = .ok (.iload_n 2, 1) := by decide +kernel
theorem dX3_canSee_3 : decode cX3_canSee 3 = .ok (.invokevirtual 111, 3) := by decide +kernel
theorem dX3_canSee_6 : decode cX3_canSee 6 = .ok (.ifCond .eq 16, 3) := by decide +kernel
theorem dX3_canSee_9 : decode cX3_canSee 9 = .ok (.aload_n 0, 1) := by decide +kernel
theorem dX3_canSee_10 : decode cX3_canSee 10 = .ok (.iload_n 1, 1) := by decide +kernel
theorem dX3_canSee_11 : decode cX3_canSee 11 = .ok (.iload_n 2, 1) := by decide +kernel
theorem dX3_canSee_12 : decode cX3_canSee 12 = .ok (.invokevirtual 55, 3) := by decide +kernel
theorem dX3_canSee_15 : decode cX3_canSee 15 = .ok (.ifCond .eq 7, 3) := by decide +kernel
theorem dX3_canSee_18 : decode cX3_canSee 18 = .ok (.iconst 1, 1) := by decide +kernel
theorem dX3_canSee_19 : decode cX3_canSee 19 = .ok (.goto 4, 3) := by decide +kernel
theorem dX3_canSee_22 : decode cX3_canSee 22 = .ok (.iconst 0, 1) := by decide +kernel
theorem dX3_canSee_23 : decode cX3_canSee 23 = .ok (.ireturn, 1) := by decide +kernel
set_option maxRecDepth 20000 in
theorem ggX3_fewestSteps_X3_arePair : GoodIn wsX3_fewestSteps wsX3_arePair := goodIn_r _ [8, 9, 10, 11, 12, 7, 13, 1, 14, 15, 16, 23, 24, 25, 26, 27, 28, 29, 30, 31, 32, 33] (by decide +kernel) (by decide +kernel)
set_option maxRecDepth 20000 in
theorem gX3_fewestSteps_X3_arePair : GoodIn wsX3_fewestSteps (wsV RX3 111 RX3 yX3_arePair wsX3_arePair) := goodIn_app (goodIn_of _ (by decide +kernel)) ggX3_fewestSteps_X3_arePair
set_option maxRecDepth 20000 in
theorem ggX3_fewestSteps_X3_sees : GoodIn wsX3_fewestSteps wsX3_sees := goodIn_r _ [20, 21, 22, 23, 24, 25, 26, 27, 28, 29, 30, 31, 32, 33] (by decide +kernel) (by decide +kernel)
set_option maxRecDepth 20000 in
theorem gX3_fewestSteps_X3_sees : GoodIn wsX3_fewestSteps (wsV RX3 55 RX3 yX3_sees wsX3_sees) := goodIn_app (goodIn_of _ (by decide +kernel)) ggX3_fewestSteps_X3_sees
theorem dX3_fewestSteps_0 : decode cX3_fewestSteps 0 = .ok (.aload_n 0, 1) := by decide +kernel
theorem dX3_fewestSteps_1 : decode cX3_fewestSteps 1 = .ok (.iload_n 1, 1) := by decide +kernel
theorem dX3_fewestSteps_2 : decode cX3_fewestSteps 2 = .ok (.iload_n 2, 1) := by decide +kernel
theorem dX3_fewestSteps_3 : decode cX3_fewestSteps 3 = .ok (.invokevirtual 111, 3) := by decide +kernel
theorem dX3_fewestSteps_6 : decode cX3_fewestSteps 6 = .ok (.ifCond .ne 5, 3) := by decide +kernel
theorem dX3_fewestSteps_9 : decode cX3_fewestSteps 9 = .ok (.iconst 0, 1) := by decide +kernel
theorem dX3_fewestSteps_10 : decode cX3_fewestSteps 10 = .ok (.ireturn, 1) := by decide +kernel
theorem dX3_fewestSteps_11 : decode cX3_fewestSteps 11 = .ok (.iconst 0, 1) := by decide +kernel
theorem dX3_fewestSteps_12 : decode cX3_fewestSteps 12 = .ok (.istore_n 3, 1) := by decide +kernel
theorem dX3_fewestSteps_13 : decode cX3_fewestSteps 13 = .ok (.iload_n 3, 1) := by decide +kernel
theorem dX3_fewestSteps_14 : decode cX3_fewestSteps 14 = .ok (.aload_n 0, 1) := by decide +kernel
theorem dX3_fewestSteps_15 : decode cX3_fewestSteps 15 = .ok (.getfield 42, 3) := by decide +kernel
theorem dX3_fewestSteps_18 : decode cX3_fewestSteps 18 = .ok (.if_icmp .ge 16, 3) := by decide +kernel
theorem dX3_fewestSteps_21 : decode cX3_fewestSteps 21 = .ok (.aload_n 0, 1) := by decide +kernel
theorem dX3_fewestSteps_22 : decode cX3_fewestSteps 22 = .ok (.getfield 32, 3) := by decide +kernel
theorem dX3_fewestSteps_25 : decode cX3_fewestSteps 25 = .ok (.iload_n 3, 1) := by decide +kernel
theorem dX3_fewestSteps_26 : decode cX3_fewestSteps 26 = .ok (.iconst (-1), 1) := by decide +kernel
theorem dX3_fewestSteps_27 : decode cX3_fewestSteps 27 = .ok (.iastore, 1) := by decide +kernel
theorem dX3_fewestSteps_28 : decode cX3_fewestSteps 28 = .ok (.iinc 3 1, 3) := by decide +kernel
theorem dX3_fewestSteps_31 : decode cX3_fewestSteps 31 = .ok (.goto (-18), 3) := by decide +kernel
theorem dX3_fewestSteps_34 : decode cX3_fewestSteps 34 = .ok (.aload_n 0, 1) := by decide +kernel
theorem dX3_fewestSteps_35 : decode cX3_fewestSteps 35 = .ok (.getfield 32, 3) := by decide +kernel
theorem dX3_fewestSteps_38 : decode cX3_fewestSteps 38 = .ok (.iload_n 1, 1) := by decide +kernel
theorem dX3_fewestSteps_39 : decode cX3_fewestSteps 39 = .ok (.iconst 0, 1) := by decide +kernel
theorem dX3_fewestSteps_40 : decode cX3_fewestSteps 40 = .ok (.iastore, 1) := by decide +kernel
theorem dX3_fewestSteps_41 : decode cX3_fewestSteps 41 = .ok (.aload_n 0, 1) := by decide +kernel
theorem dX3_fewestSteps_42 : decode cX3_fewestSteps 42 = .ok (.getfield 35, 3) := by decide +kernel
theorem dX3_fewestSteps_45 : decode cX3_fewestSteps 45 = .ok (.iconst 0, 1) := by decide +kernel
theorem dX3_fewestSteps_46 : decode cX3_fewestSteps 46 = .ok (.iload_n 1, 1) := by decide +kernel
theorem dX3_fewestSteps_47 : decode cX3_fewestSteps 47 = .ok (.iastore, 1) := by decide +kernel
theorem dX3_fewestSteps_48 : decode cX3_fewestSteps 48 = .ok (.iconst 1, 1) := by decide +kernel
theorem dX3_fewestSteps_49 : decode cX3_fewestSteps 49 = .ok (.istore_n 3, 1) := by decide +kernel
theorem dX3_fewestSteps_50 : decode cX3_fewestSteps 50 = .ok (.iconst 0, 1) := by decide +kernel
theorem dX3_fewestSteps_51 : decode cX3_fewestSteps 51 = .ok (.istore 4, 2) := by decide +kernel
theorem dX3_fewestSteps_53 : decode cX3_fewestSteps 53 = .ok (.iload 4, 2) := by decide +kernel
theorem dX3_fewestSteps_55 : decode cX3_fewestSteps 55 = .ok (.iload_n 3, 1) := by decide +kernel
theorem dX3_fewestSteps_56 : decode cX3_fewestSteps 56 = .ok (.if_icmp .ge 89, 3) := by decide +kernel
theorem dX3_fewestSteps_59 : decode cX3_fewestSteps 59 = .ok (.iconst 0, 1) := by decide +kernel
theorem dX3_fewestSteps_60 : decode cX3_fewestSteps 60 = .ok (.istore 5, 2) := by decide +kernel
theorem dX3_fewestSteps_62 : decode cX3_fewestSteps 62 = .ok (.iload 5, 2) := by decide +kernel
theorem dX3_fewestSteps_64 : decode cX3_fewestSteps 64 = .ok (.aload_n 0, 1) := by decide +kernel
theorem dX3_fewestSteps_65 : decode cX3_fewestSteps 65 = .ok (.getfield 42, 3) := by decide +kernel
theorem dX3_fewestSteps_68 : decode cX3_fewestSteps 68 = .ok (.if_icmp .ge 71, 3) := by decide +kernel
theorem dX3_fewestSteps_71 : decode cX3_fewestSteps 71 = .ok (.aload_n 0, 1) := by decide +kernel
theorem dX3_fewestSteps_72 : decode cX3_fewestSteps 72 = .ok (.getfield 32, 3) := by decide +kernel
theorem dX3_fewestSteps_75 : decode cX3_fewestSteps 75 = .ok (.iload 5, 2) := by decide +kernel
theorem dX3_fewestSteps_77 : decode cX3_fewestSteps 77 = .ok (.iaload, 1) := by decide +kernel
theorem dX3_fewestSteps_78 : decode cX3_fewestSteps 78 = .ok (.iconst (-1), 1) := by decide +kernel
theorem dX3_fewestSteps_79 : decode cX3_fewestSteps 79 = .ok (.if_icmp .ne 54, 3) := by decide +kernel
theorem dX3_fewestSteps_82 : decode cX3_fewestSteps 82 = .ok (.aload_n 0, 1) := by decide +kernel
theorem dX3_fewestSteps_83 : decode cX3_fewestSteps 83 = .ok (.aload_n 0, 1) := by decide +kernel
theorem dX3_fewestSteps_84 : decode cX3_fewestSteps 84 = .ok (.getfield 35, 3) := by decide +kernel
theorem dX3_fewestSteps_87 : decode cX3_fewestSteps 87 = .ok (.iload 4, 2) := by decide +kernel
theorem dX3_fewestSteps_89 : decode cX3_fewestSteps 89 = .ok (.iaload, 1) := by decide +kernel
theorem dX3_fewestSteps_90 : decode cX3_fewestSteps 90 = .ok (.iload 5, 2) := by decide +kernel
theorem dX3_fewestSteps_92 : decode cX3_fewestSteps 92 = .ok (.invokevirtual 55, 3) := by decide +kernel
theorem dX3_fewestSteps_95 : decode cX3_fewestSteps 95 = .ok (.ifCond .ne 6, 3) := by decide +kernel
theorem dX3_fewestSteps_98 : decode cX3_fewestSteps 98 = .ok (.goto 35, 3) := by decide +kernel
theorem dX3_fewestSteps_101 : decode cX3_fewestSteps 101 = .ok (.aload_n 0, 1) := by decide +kernel
theorem dX3_fewestSteps_102 : decode cX3_fewestSteps 102 = .ok (.getfield 32, 3) := by decide +kernel
theorem dX3_fewestSteps_105 : decode cX3_fewestSteps 105 = .ok (.iload 5, 2) := by decide +kernel
theorem dX3_fewestSteps_107 : decode cX3_fewestSteps 107 = .ok (.aload_n 0, 1) := by decide +kernel
theorem dX3_fewestSteps_108 : decode cX3_fewestSteps 108 = .ok (.getfield 32, 3) := by decide +kernel
theorem dX3_fewestSteps_111 : decode cX3_fewestSteps 111 = .ok (.aload_n 0, 1) := by decide +kernel
theorem dX3_fewestSteps_112 : decode cX3_fewestSteps 112 = .ok (.getfield 35, 3) := by decide +kernel
theorem dX3_fewestSteps_115 : decode cX3_fewestSteps 115 = .ok (.iload 4, 2) := by decide +kernel
theorem dX3_fewestSteps_117 : decode cX3_fewestSteps 117 = .ok (.iaload, 1) := by decide +kernel
theorem dX3_fewestSteps_118 : decode cX3_fewestSteps 118 = .ok (.iaload, 1) := by decide +kernel
theorem dX3_fewestSteps_119 : decode cX3_fewestSteps 119 = .ok (.iconst 1, 1) := by decide +kernel
theorem dX3_fewestSteps_120 : decode cX3_fewestSteps 120 = .ok (.iadd, 1) := by decide +kernel
theorem dX3_fewestSteps_121 : decode cX3_fewestSteps 121 = .ok (.iastore, 1) := by decide +kernel
theorem dX3_fewestSteps_122 : decode cX3_fewestSteps 122 = .ok (.aload_n 0, 1) := by decide +kernel
theorem dX3_fewestSteps_123 : decode cX3_fewestSteps 123 = .ok (.getfield 35, 3) := by decide +kernel
theorem dX3_fewestSteps_126 : decode cX3_fewestSteps 126 = .ok (.iload_n 3, 1) := by decide +kernel
theorem dX3_fewestSteps_127 : decode cX3_fewestSteps 127 = .ok (.iload 5, 2) := by decide +kernel
theorem dX3_fewestSteps_129 : decode cX3_fewestSteps 129 = .ok (.iastore, 1) := by decide +kernel
theorem dX3_fewestSteps_130 : decode cX3_fewestSteps 130 = .ok (.iinc 3 1, 3) := by decide +kernel
theorem dX3_fewestSteps_133 : decode cX3_fewestSteps 133 = .ok (.iinc 5 1, 3) := by decide +kernel
theorem dX3_fewestSteps_136 : decode cX3_fewestSteps 136 = .ok (.goto (-74), 3) := by decide +kernel
theorem dX3_fewestSteps_139 : decode cX3_fewestSteps 139 = .ok (.iinc 4 1, 3) := by decide +kernel
theorem dX3_fewestSteps_142 : decode cX3_fewestSteps 142 = .ok (.goto (-89), 3) := by decide +kernel
theorem dX3_fewestSteps_145 : decode cX3_fewestSteps 145 = .ok (.aload_n 0, 1) := by decide +kernel
theorem dX3_fewestSteps_146 : decode cX3_fewestSteps 146 = .ok (.getfield 32, 3) := by decide +kernel
theorem dX3_fewestSteps_149 : decode cX3_fewestSteps 149 = .ok (.iload_n 2, 1) := by decide +kernel
theorem dX3_fewestSteps_150 : decode cX3_fewestSteps 150 = .ok (.iaload, 1) := by decide +kernel
theorem dX3_fewestSteps_151 : decode cX3_fewestSteps 151 = .ok (.ireturn, 1) := by decide +kernel
set_option maxRecDepth 20000 in
theorem ggX3_isDark_X3_hill : GoodIn wsX3_isDark wsX3_hill := goodIn_r _ [6, 1, 7, 8, 9, 5, 10, 11, 12, 13, 14, 15, 16, 17, 18, 19, 20, 21, 22, 23, 24, 25, 26, 27, 28, 29, 30, 31, 32, 33, 34] (by decide +kernel) (by decide +kernel)
set_option maxRecDepth 20000 in
theorem gX3_isDark_X3_hill : GoodIn wsX3_isDark (wsV RX3 108 RX3 yX3_hill wsX3_hill) := goodIn_app (goodIn_of _ (by decide +kernel)) ggX3_isDark_X3_hill
theorem dX3_isDark_0 : decode cX3_isDark 0 = .ok (.aload_n 0, 1) := by decide +kernel
theorem dX3_isDark_1 : decode cX3_isDark 1 = .ok (.iload_n 1, 1) := by decide +kernel
theorem dX3_isDark_2 : decode cX3_isDark 2 = .ok (.iconst 1, 1) := by decide +kernel
theorem dX3_isDark_3 : decode cX3_isDark 3 = .ok (.invokevirtual 108, 3) := by decide +kernel
theorem dX3_isDark_6 : decode cX3_isDark 6 = .ok (.ifCond .ne 14, 3) := by decide +kernel
theorem dX3_isDark_9 : decode cX3_isDark 9 = .ok (.aload_n 0, 1) := by decide +kernel
theorem dX3_isDark_10 : decode cX3_isDark 10 = .ok (.getfield 38, 3) := by decide +kernel
theorem dX3_isDark_13 : decode cX3_isDark 13 = .ok (.ifCond .ne 7, 3) := by decide +kernel
theorem dX3_isDark_16 : decode cX3_isDark 16 = .ok (.iconst 1, 1) := by decide +kernel
theorem dX3_isDark_17 : decode cX3_isDark 17 = .ok (.goto 4, 3) := by decide +kernel
theorem dX3_isDark_20 : decode cX3_isDark 20 = .ok (.iconst 0, 1) := by decide +kernel
theorem dX3_isDark_21 : decode cX3_isDark 21 = .ok (.ireturn, 1) := by decide +kernel
set_option maxRecDepth 20000 in
theorem ggX3_isBurning_X3_hill : GoodIn wsX3_isBurning wsX3_hill := goodIn_r _ [5, 6, 7, 8, 9, 4, 10, 11, 12, 13, 14, 15, 16, 17, 18, 19, 20, 21, 22, 23, 24, 25, 26, 27, 28, 29, 30, 31, 32, 33, 34] (by decide +kernel) (by decide +kernel)
set_option maxRecDepth 20000 in
theorem gX3_isBurning_X3_hill : GoodIn wsX3_isBurning (wsV RX3 108 RX3 yX3_hill wsX3_hill) := goodIn_app (goodIn_of _ (by decide +kernel)) ggX3_isBurning_X3_hill
theorem dX3_isBurning_0 : decode cX3_isBurning 0 = .ok (.aload_n 0, 1) := by decide +kernel
theorem dX3_isBurning_1 : decode cX3_isBurning 1 = .ok (.iload_n 1, 1) := by decide +kernel
theorem dX3_isBurning_2 : decode cX3_isBurning 2 = .ok (.iconst 1, 1) := by decide +kernel
theorem dX3_isBurning_3 : decode cX3_isBurning 3 = .ok (.invokevirtual 108, 3) := by decide +kernel
theorem dX3_isBurning_6 : decode cX3_isBurning 6 = .ok (.iconst 2, 1) := by decide +kernel
theorem dX3_isBurning_7 : decode cX3_isBurning 7 = .ok (.if_icmp .ne 7, 3) := by decide +kernel
theorem dX3_isBurning_10 : decode cX3_isBurning 10 = .ok (.iconst 1, 1) := by decide +kernel
theorem dX3_isBurning_11 : decode cX3_isBurning 11 = .ok (.goto 4, 3) := by decide +kernel
theorem dX3_isBurning_14 : decode cX3_isBurning 14 = .ok (.iconst 0, 1) := by decide +kernel
theorem dX3_isBurning_15 : decode cX3_isBurning 15 = .ok (.ireturn, 1) := by decide +kernel
set_option maxRecDepth 20000 in
theorem ggX3_minutesToBurn_X3_hill : GoodIn wsX3_minutesToBurn wsX3_hill := goodIn_r _ [5, 6, 7, 8, 9, 4, 10, 11, 12, 13, 14, 15, 16, 17, 18, 19, 20, 21, 22, 23, 24, 25, 26, 27, 28, 29, 30, 31, 32, 33, 34] (by decide +kernel) (by decide +kernel)
set_option maxRecDepth 20000 in
theorem gX3_minutesToBurn_X3_hill : GoodIn wsX3_minutesToBurn (wsV RX3 108 RX3 yX3_hill wsX3_hill) := goodIn_app (goodIn_of _ (by decide +kernel)) ggX3_minutesToBurn_X3_hill
theorem dX3_minutesToBurn_0 : decode cX3_minutesToBurn 0 = .ok (.aload_n 0, 1) := by decide +kernel
theorem dX3_minutesToBurn_1 : decode cX3_minutesToBurn 1 = .ok (.iload_n 1, 1) := by decide +kernel
theorem dX3_minutesToBurn_2 : decode cX3_minutesToBurn 2 = .ok (.iconst 2, 1) := by decide +kernel
theorem dX3_minutesToBurn_3 : decode cX3_minutesToBurn 3 = .ok (.invokevirtual 108, 3) := by decide +kernel
theorem dX3_minutesToBurn_6 : decode cX3_minutesToBurn 6 = .ok (.ireturn, 1) := by decide +kernel
set_option maxRecDepth 20000 in
theorem ggX3_lookingFor_X3_hill : GoodIn wsX3_lookingFor wsX3_hill := goodIn_r _ [5, 6, 7, 8, 9, 4, 10, 11, 12, 13, 14, 15, 16, 17, 18, 19, 20, 21, 22, 23, 24, 25, 26, 27, 28, 29, 30, 31, 32, 33, 34] (by decide +kernel) (by decide +kernel)
set_option maxRecDepth 20000 in
theorem gX3_lookingFor_X3_hill : GoodIn wsX3_lookingFor (wsV RX3 108 RX3 yX3_hill wsX3_hill) := goodIn_app (goodIn_of _ (by decide +kernel)) ggX3_lookingFor_X3_hill
theorem dX3_lookingFor_0 : decode cX3_lookingFor 0 = .ok (.aload_n 0, 1) := by decide +kernel
theorem dX3_lookingFor_1 : decode cX3_lookingFor 1 = .ok (.iload_n 1, 1) := by decide +kernel
theorem dX3_lookingFor_2 : decode cX3_lookingFor 2 = .ok (.iconst 3, 1) := by decide +kernel
theorem dX3_lookingFor_3 : decode cX3_lookingFor 3 = .ok (.invokevirtual 108, 3) := by decide +kernel
theorem dX3_lookingFor_6 : decode cX3_lookingFor 6 = .ok (.ireturn, 1) := by decide +kernel
set_option maxRecDepth 20000 in
theorem ggX3_sourceOf_X3_isHill : GoodIn wsX3_sourceOf wsX3_isHill := goodIn_r _ [6, 7, 8, 9, 5, 10, 20, 21, 22, 23, 24, 25, 26, 27, 28, 29, 30] (by decide +kernel) (by decide +kernel)
set_option maxRecDepth 20000 in
theorem gX3_sourceOf_X3_isHill : GoodIn wsX3_sourceOf (wsV RX3 89 RX3 yX3_isHill wsX3_isHill) := goodIn_app (goodIn_of _ (by decide +kernel)) ggX3_sourceOf_X3_isHill
set_option maxRecDepth 20000 in
theorem ggX3_sourceOf_X3_fail : GoodIn wsX3_sourceOf wsX3_fail := goodIn_r _ [14, 1, 20, 21, 22, 23, 24, 25, 26, 27, 28, 29, 30] (by decide +kernel) (by decide +kernel)
set_option maxRecDepth 20000 in
theorem gX3_sourceOf_X3_fail : GoodIn wsX3_sourceOf (wsV RX3 86 RX3 yX3_fail wsX3_fail) := goodIn_app (goodIn_of _ (by decide +kernel)) ggX3_sourceOf_X3_fail
set_option maxRecDepth 20000 in
theorem ggX3_sourceOf_X3_hi : GoodIn wsX3_sourceOf wsX3_hi := goodIn_r _ [18, 19, 20, 21, 22, 23, 24, 25, 26, 27, 28, 29, 30] (by decide +kernel) (by decide +kernel)
set_option maxRecDepth 20000 in
theorem gX3_sourceOf_X3_hi : GoodIn wsX3_sourceOf (wsV RX3 59 RX3 yX3_hi wsX3_hi) := goodIn_app (goodIn_of _ (by decide +kernel)) ggX3_sourceOf_X3_hi
theorem dX3_sourceOf_0 : decode cX3_sourceOf 0 = .ok (.aload_n 0, 1) := by decide +kernel
theorem dX3_sourceOf_1 : decode cX3_sourceOf 1 = .ok (.iconst 0, 1) := by decide +kernel
theorem dX3_sourceOf_2 : decode cX3_sourceOf 2 = .ok (.putfield 38, 3) := by decide +kernel
theorem dX3_sourceOf_5 : decode cX3_sourceOf 5 = .ok (.aload_n 0, 1) := by decide +kernel
theorem dX3_sourceOf_6 : decode cX3_sourceOf 6 = .ok (.iload_n 1, 1) := by decide +kernel
theorem dX3_sourceOf_7 : decode cX3_sourceOf 7 = .ok (.invokevirtual 89, 3) := by decide +kernel
theorem dX3_sourceOf_10 : decode cX3_sourceOf 10 = .ok (.ifCond .ne 9, 3) := by decide +kernel
theorem dX3_sourceOf_13 : decode cX3_sourceOf 13 = .ok (.aload_n 0, 1) := by decide +kernel
theorem dX3_sourceOf_14 : decode cX3_sourceOf 14 = .ok (.iconst 1, 1) := by decide +kernel
theorem dX3_sourceOf_15 : decode cX3_sourceOf 15 = .ok (.invokevirtual 86, 3) := by decide +kernel
theorem dX3_sourceOf_18 : decode cX3_sourceOf 18 = .ok (.ireturn, 1) := by decide +kernel
theorem dX3_sourceOf_19 : decode cX3_sourceOf 19 = .ok (.aload_n 0, 1) := by decide +kernel
theorem dX3_sourceOf_20 : decode cX3_sourceOf 20 = .ok (.iload_n 1, 1) := by decide +kernel
theorem dX3_sourceOf_21 : decode cX3_sourceOf 21 = .ok (.iconst 1, 1) := by decide +kernel
theorem dX3_sourceOf_22 : decode cX3_sourceOf 22 = .ok (.invokevirtual 59, 3) := by decide +kernel
theorem dX3_sourceOf_25 : decode cX3_sourceOf 25 = .ok (.ifCond .ne 11, 3) := by decide +kernel
theorem dX3_sourceOf_28 : decode cX3_sourceOf 28 = .ok (.aload_n 0, 1) := by decide +kernel
theorem dX3_sourceOf_29 : decode cX3_sourceOf 29 = .ok (.iconst 2, 1) := by decide +kernel
theorem dX3_sourceOf_30 : decode cX3_sourceOf 30 = .ok (.invokevirtual 86, 3) := by decide +kernel
theorem dX3_sourceOf_33 : decode cX3_sourceOf 33 = .ok (.goto 9, 3) := by decide +kernel
theorem dX3_sourceOf_36 : decode cX3_sourceOf 36 = .ok (.aload_n 0, 1) := by decide +kernel
theorem dX3_sourceOf_37 : decode cX3_sourceOf 37 = .ok (.iload_n 1, 1) := by decide +kernel
theorem dX3_sourceOf_38 : decode cX3_sourceOf 38 = .ok (.iconst 4, 1) := by decide +kernel
theorem dX3_sourceOf_39 : decode cX3_sourceOf 39 = .ok (.invokevirtual 59, 3) := by decide +kernel
theorem dX3_sourceOf_42 : decode cX3_sourceOf 42 = .ok (.ireturn, 1) := by decide +kernel
set_option maxRecDepth 20000 in
theorem ggX3_isMistaken_X3_isHill : GoodIn wsX3_isMistaken wsX3_isHill := goodIn_r _ [6, 7, 8, 9, 5, 10, 20, 21, 22, 23, 24, 25, 26, 27, 28, 29, 30] (by decide +kernel) (by decide +kernel)
set_option maxRecDepth 20000 in
theorem gX3_isMistaken_X3_isHill : GoodIn wsX3_isMistaken (wsV RX3 89 RX3 yX3_isHill wsX3_isHill) := goodIn_app (goodIn_of _ (by decide +kernel)) ggX3_isMistaken_X3_isHill
set_option maxRecDepth 20000 in
theorem ggX3_isMistaken_X3_hi : GoodIn wsX3_isMistaken wsX3_hi := goodIn_r _ [14, 15, 20, 21, 22, 23, 24, 25, 26, 27, 28, 29, 30] (by decide +kernel) (by decide +kernel)
set_option maxRecDepth 20000 in
theorem gX3_isMistaken_X3_hi : GoodIn wsX3_isMistaken (wsV RX3 59 RX3 yX3_hi wsX3_hi) := goodIn_app (goodIn_of _ (by decide +kernel)) ggX3_isMistaken_X3_hi
set_option maxRecDepth 20000 in
theorem ggX3_isMistaken_X3_failed : GoodIn wsX3_isMistaken wsX3_failed := goodIn_r _ [19, 1, 20, 21, 22, 23, 24, 25, 26, 27, 28, 29, 30] (by decide +kernel) (by decide +kernel)
set_option maxRecDepth 20000 in
theorem gX3_isMistaken_X3_failed : GoodIn wsX3_isMistaken (wsV RX3 93 RX3 yX3_failed wsX3_failed) := goodIn_app (goodIn_of _ (by decide +kernel)) ggX3_isMistaken_X3_failed
theorem dX3_isMistaken_0 : decode cX3_isMistaken 0 = .ok (.aload_n 0, 1) := by decide +kernel
theorem dX3_isMistaken_1 : decode cX3_isMistaken 1 = .ok (.iconst 0, 1) := by decide +kernel
theorem dX3_isMistaken_2 : decode cX3_isMistaken 2 = .ok (.putfield 38, 3) := by decide +kernel
theorem dX3_isMistaken_5 : decode cX3_isMistaken 5 = .ok (.aload_n 0, 1) := by decide +kernel
theorem dX3_isMistaken_6 : decode cX3_isMistaken 6 = .ok (.iload_n 1, 1) := by decide +kernel
theorem dX3_isMistaken_7 : decode cX3_isMistaken 7 = .ok (.invokevirtual 89, 3) := by decide +kernel
theorem dX3_isMistaken_10 : decode cX3_isMistaken 10 = .ok (.ifCond .eq 30, 3) := by decide +kernel
theorem dX3_isMistaken_13 : decode cX3_isMistaken 13 = .ok (.aload_n 0, 1) := by decide +kernel
theorem dX3_isMistaken_14 : decode cX3_isMistaken 14 = .ok (.iload_n 1, 1) := by decide +kernel
theorem dX3_isMistaken_15 : decode cX3_isMistaken 15 = .ok (.iconst 1, 1) := by decide +kernel
theorem dX3_isMistaken_16 : decode cX3_isMistaken 16 = .ok (.invokevirtual 59, 3) := by decide +kernel
theorem dX3_isMistaken_19 : decode cX3_isMistaken 19 = .ok (.ifCond .eq 17, 3) := by decide +kernel
theorem dX3_isMistaken_22 : decode cX3_isMistaken 22 = .ok (.aload_n 0, 1) := by decide +kernel
theorem dX3_isMistaken_23 : decode cX3_isMistaken 23 = .ok (.iload_n 1, 1) := by decide +kernel
theorem dX3_isMistaken_24 : decode cX3_isMistaken 24 = .ok (.iconst 4, 1) := by decide +kernel
theorem dX3_isMistaken_25 : decode cX3_isMistaken 25 = .ok (.invokevirtual 59, 3) := by decide +kernel
theorem dX3_isMistaken_28 : decode cX3_isMistaken 28 = .ok (.iconst (-1), 1) := by decide +kernel
theorem dX3_isMistaken_29 : decode cX3_isMistaken 29 = .ok (.if_icmp .ne 7, 3) := by decide +kernel
theorem dX3_isMistaken_32 : decode cX3_isMistaken 32 = .ok (.iconst 1, 1) := by decide +kernel
theorem dX3_isMistaken_33 : decode cX3_isMistaken 33 = .ok (.goto 12, 3) := by decide +kernel
theorem dX3_isMistaken_36 : decode cX3_isMistaken 36 = .ok (.iconst 0, 1) := by decide +kernel
theorem dX3_isMistaken_37 : decode cX3_isMistaken 37 = .ok (.goto 8, 3) := by decide +kernel
theorem dX3_isMistaken_40 : decode cX3_isMistaken 40 = .ok (.aload_n 0, 1) := by decide +kernel
theorem dX3_isMistaken_41 : decode cX3_isMistaken 41 = .ok (.iconst 1, 1) := by decide +kernel
theorem dX3_isMistaken_42 : decode cX3_isMistaken 42 = .ok (.invokevirtual 93, 3) := by decide +kernel
theorem dX3_isMistaken_45 : decode cX3_isMistaken 45 = .ok (.ireturn, 1) := by decide +kernel
set_option maxRecDepth 20000 in
theorem ggX3_answersTo_X3_hill : GoodIn wsX3_answersTo wsX3_hill := goodIn_r _ [5, 6, 7, 8, 9, 4, 10, 11, 12, 13, 14, 15, 16, 17, 18, 19, 20, 21, 22, 23, 24, 25, 26, 27, 28, 29, 30, 31, 32, 33, 34] (by decide +kernel) (by decide +kernel)
set_option maxRecDepth 20000 in
theorem gX3_answersTo_X3_hill : GoodIn wsX3_answersTo (wsV RX3 108 RX3 yX3_hill wsX3_hill) := goodIn_app (goodIn_of _ (by decide +kernel)) ggX3_answersTo_X3_hill
theorem dX3_answersTo_0 : decode cX3_answersTo 0 = .ok (.aload_n 0, 1) := by decide +kernel
theorem dX3_answersTo_1 : decode cX3_answersTo 1 = .ok (.iload_n 1, 1) := by decide +kernel
theorem dX3_answersTo_2 : decode cX3_answersTo 2 = .ok (.iconst 5, 1) := by decide +kernel
theorem dX3_answersTo_3 : decode cX3_answersTo 3 = .ok (.invokevirtual 108, 3) := by decide +kernel
theorem dX3_answersTo_6 : decode cX3_answersTo 6 = .ok (.ireturn, 1) := by decide +kernel
theorem dX3_told_0 : decode cX3_told 0 = .ok (.aload_n 0, 1) := by decide +kernel
theorem dX3_told_1 : decode cX3_told 1 = .ok (.iconst 0, 1) := by decide +kernel
theorem dX3_told_2 : decode cX3_told 2 = .ok (.putfield 38, 3) := by decide +kernel
theorem dX3_told_5 : decode cX3_told 5 = .ok (.iload_n 1, 1) := by decide +kernel
theorem dX3_told_6 : decode cX3_told 6 = .ok (.ireturn, 1) := by decide +kernel
set_option maxRecDepth 20000 in
theorem ggX3_burning_X3_hi : GoodIn wsX3_burning wsX3_hi := goodIn_r _ [6, 7, 8, 9, 10, 11, 12, 13, 14, 15, 16, 17, 18] (by decide +kernel) (by decide +kernel)
set_option maxRecDepth 20000 in
theorem gX3_burning_X3_hi : GoodIn wsX3_burning (wsV RX3 59 RX3 yX3_hi wsX3_hi) := goodIn_app (goodIn_of _ (by decide +kernel)) ggX3_burning_X3_hi
theorem dX3_burning_0 : decode cX3_burning 0 = .ok (.iconst 0, 1) := by decide +kernel
theorem dX3_burning_1 : decode cX3_burning 1 = .ok (.istore_n 1, 1) := by decide +kernel
theorem dX3_burning_2 : decode cX3_burning 2 = .ok (.iconst 0, 1) := by decide +kernel
theorem dX3_burning_3 : decode cX3_burning 3 = .ok (.istore_n 2, 1) := by decide +kernel
theorem dX3_burning_4 : decode cX3_burning 4 = .ok (.iload_n 2, 1) := by decide +kernel
theorem dX3_burning_5 : decode cX3_burning 5 = .ok (.aload_n 0, 1) := by decide +kernel
theorem dX3_burning_6 : decode cX3_burning 6 = .ok (.getfield 42, 3) := by decide +kernel
theorem dX3_burning_9 : decode cX3_burning 9 = .ok (.if_icmp .ge 27, 3) := by decide +kernel
theorem dX3_burning_12 : decode cX3_burning 12 = .ok (.iload_n 1, 1) := by decide +kernel
theorem dX3_burning_13 : decode cX3_burning 13 = .ok (.aload_n 0, 1) := by decide +kernel
theorem dX3_burning_14 : decode cX3_burning 14 = .ok (.iload_n 2, 1) := by decide +kernel
theorem dX3_burning_15 : decode cX3_burning 15 = .ok (.iconst 1, 1) := by decide +kernel
theorem dX3_burning_16 : decode cX3_burning 16 = .ok (.invokevirtual 59, 3) := by decide +kernel
theorem dX3_burning_19 : decode cX3_burning 19 = .ok (.iconst 2, 1) := by decide +kernel
theorem dX3_burning_20 : decode cX3_burning 20 = .ok (.if_icmp .ne 7, 3) := by decide +kernel
theorem dX3_burning_23 : decode cX3_burning 23 = .ok (.iconst 1, 1) := by decide +kernel
theorem dX3_burning_24 : decode cX3_burning 24 = .ok (.goto 4, 3) := by decide +kernel
theorem dX3_burning_27 : decode cX3_burning 27 = .ok (.iconst 0, 1) := by decide +kernel
theorem dX3_burning_28 : decode cX3_burning 28 = .ok (.iadd, 1) := by decide +kernel
theorem dX3_burning_29 : decode cX3_burning 29 = .ok (.istore_n 1, 1) := by decide +kernel
theorem dX3_burning_30 : decode cX3_burning 30 = .ok (.iinc 2 1, 3) := by decide +kernel
theorem dX3_burning_33 : decode cX3_burning 33 = .ok (.goto (-29), 3) := by decide +kernel
theorem dX3_burning_36 : decode cX3_burning 36 = .ok (.iload_n 1, 1) := by decide +kernel
theorem dX3_burning_37 : decode cX3_burning 37 = .ok (.ireturn, 1) := by decide +kernel
set_option maxRecDepth 20000 in
theorem ggX3_hills_X3_told : GoodIn wsX3_hills wsX3_told := goodIn_r _ [6, 7, 8, 9, 10, 11, 12, 13, 14, 15, 16, 17, 18] (by decide +kernel) (by decide +kernel)
set_option maxRecDepth 20000 in
theorem gX3_hills_X3_told : GoodIn wsX3_hills (wsV RX3 114 RX3 yX3_told wsX3_told) := goodIn_app (goodIn_of _ (by decide +kernel)) ggX3_hills_X3_told
theorem dX3_hills_0 : decode cX3_hills 0 = .ok (.aload_n 0, 1) := by decide +kernel
theorem dX3_hills_1 : decode cX3_hills 1 = .ok (.aload_n 0, 1) := by decide +kernel
theorem dX3_hills_2 : decode cX3_hills 2 = .ok (.getfield 42, 3) := by decide +kernel
theorem dX3_hills_5 : decode cX3_hills 5 = .ok (.invokevirtual 114, 3) := by decide +kernel
theorem dX3_hills_8 : decode cX3_hills 8 = .ok (.ireturn, 1) := by decide +kernel
set_option maxRecDepth 20000 in
theorem ggX3_minute_X3_told : GoodIn wsX3_minute wsX3_told := goodIn_r _ [6, 7, 8, 9, 10, 11, 12, 13, 14, 15, 16, 17, 18] (by decide +kernel) (by decide +kernel)
set_option maxRecDepth 20000 in
theorem gX3_minute_X3_told : GoodIn wsX3_minute (wsV RX3 114 RX3 yX3_told wsX3_told) := goodIn_app (goodIn_of _ (by decide +kernel)) ggX3_minute_X3_told
theorem dX3_minute_0 : decode cX3_minute 0 = .ok (.aload_n 0, 1) := by decide +kernel
theorem dX3_minute_1 : decode cX3_minute 1 = .ok (.aload_n 0, 1) := by decide +kernel
theorem dX3_minute_2 : decode cX3_minute 2 = .ok (.getfield 23, 3) := by decide +kernel
theorem dX3_minute_5 : decode cX3_minute 5 = .ok (.iconst 0, 1) := by decide +kernel
theorem dX3_minute_6 : decode cX3_minute 6 = .ok (.iaload, 1) := by decide +kernel
theorem dX3_minute_7 : decode cX3_minute 7 = .ok (.invokevirtual 114, 3) := by decide +kernel
theorem dX3_minute_10 : decode cX3_minute 10 = .ok (.ireturn, 1) := by decide +kernel
set_option maxRecDepth 20000 in
theorem ggX3_haze_X3_told : GoodIn wsX3_haze wsX3_told := goodIn_r _ [6, 7, 8, 9, 10, 11, 12, 13, 14, 15, 16, 17, 18] (by decide +kernel) (by decide +kernel)
set_option maxRecDepth 20000 in
theorem gX3_haze_X3_told : GoodIn wsX3_haze (wsV RX3 114 RX3 yX3_told wsX3_told) := goodIn_app (goodIn_of _ (by decide +kernel)) ggX3_haze_X3_told
theorem dX3_haze_0 : decode cX3_haze 0 = .ok (.aload_n 0, 1) := by decide +kernel
theorem dX3_haze_1 : decode cX3_haze 1 = .ok (.aload_n 0, 1) := by decide +kernel
theorem dX3_haze_2 : decode cX3_haze 2 = .ok (.getfield 23, 3) := by decide +kernel
theorem dX3_haze_5 : decode cX3_haze 5 = .ok (.iconst 4, 1) := by decide +kernel
theorem dX3_haze_6 : decode cX3_haze 6 = .ok (.iaload, 1) := by decide +kernel
theorem dX3_haze_7 : decode cX3_haze 7 = .ok (.invokevirtual 114, 3) := by decide +kernel
theorem dX3_haze_10 : decode cX3_haze 10 = .ok (.ireturn, 1) := by decide +kernel
set_option maxRecDepth 20000 in
theorem ggX3_glowLeft_X3_told : GoodIn wsX3_glowLeft wsX3_told := goodIn_r _ [6, 7, 8, 9, 10, 11, 12, 13, 14, 15, 16, 17, 18] (by decide +kernel) (by decide +kernel)
set_option maxRecDepth 20000 in
theorem gX3_glowLeft_X3_told : GoodIn wsX3_glowLeft (wsV RX3 114 RX3 yX3_told wsX3_told) := goodIn_app (goodIn_of _ (by decide +kernel)) ggX3_glowLeft_X3_told
theorem dX3_glowLeft_0 : decode cX3_glowLeft 0 = .ok (.aload_n 0, 1) := by decide +kernel
theorem dX3_glowLeft_1 : decode cX3_glowLeft 1 = .ok (.aload_n 0, 1) := by decide +kernel
theorem dX3_glowLeft_2 : decode cX3_glowLeft 2 = .ok (.getfield 23, 3) := by decide +kernel
theorem dX3_glowLeft_5 : decode cX3_glowLeft 5 = .ok (.iconst 1, 1) := by decide +kernel
theorem dX3_glowLeft_6 : decode cX3_glowLeft 6 = .ok (.iaload, 1) := by decide +kernel
theorem dX3_glowLeft_7 : decode cX3_glowLeft 7 = .ok (.invokevirtual 114, 3) := by decide +kernel
theorem dX3_glowLeft_10 : decode cX3_glowLeft 10 = .ok (.ireturn, 1) := by decide +kernel
set_option maxRecDepth 20000 in
theorem ggX3_burningHills_X3_burning : GoodIn wsX3_burningHills wsX3_burning := goodIn_r _ [5, 6, 7, 8, 9, 4, 10, 11, 17, 18, 19, 20, 21, 22, 23, 24, 25, 26, 27] (by decide +kernel) (by decide +kernel)
set_option maxRecDepth 20000 in
theorem gX3_burningHills_X3_burning : GoodIn wsX3_burningHills (wsV RX3 117 RX3 yX3_burning wsX3_burning) := goodIn_app (goodIn_of _ (by decide +kernel)) ggX3_burningHills_X3_burning
set_option maxRecDepth 20000 in
theorem ggX3_burningHills_X3_told : GoodIn wsX3_burningHills wsX3_told := goodIn_r _ [15, 16, 17, 18, 19, 20, 21, 22, 23, 24, 25, 26, 27] (by decide +kernel) (by decide +kernel)
set_option maxRecDepth 20000 in
theorem gX3_burningHills_X3_told : GoodIn wsX3_burningHills (wsV RX3 114 RX3 yX3_told wsX3_told) := goodIn_app (goodIn_of _ (by decide +kernel)) ggX3_burningHills_X3_told
theorem dX3_burningHills_0 : decode cX3_burningHills 0 = .ok (.aload_n 0, 1) := by decide +kernel
theorem dX3_burningHills_1 : decode cX3_burningHills 1 = .ok (.aload_n 0, 1) := by decide +kernel
theorem dX3_burningHills_2 : decode cX3_burningHills 2 = .ok (.invokevirtual 117, 3) := by decide +kernel
theorem dX3_burningHills_5 : decode cX3_burningHills 5 = .ok (.invokevirtual 114, 3) := by decide +kernel
theorem dX3_burningHills_8 : decode cX3_burningHills 8 = .ok (.ireturn, 1) := by decide +kernel
set_option maxRecDepth 20000 in
theorem ggX3_timesLit_X3_told : GoodIn wsX3_timesLit wsX3_told := goodIn_r _ [6, 7, 8, 9, 10, 11, 12, 13, 14, 15, 16, 17, 18] (by decide +kernel) (by decide +kernel)
set_option maxRecDepth 20000 in
theorem gX3_timesLit_X3_told : GoodIn wsX3_timesLit (wsV RX3 114 RX3 yX3_told wsX3_told) := goodIn_app (goodIn_of _ (by decide +kernel)) ggX3_timesLit_X3_told
theorem dX3_timesLit_0 : decode cX3_timesLit 0 = .ok (.aload_n 0, 1) := by decide +kernel
theorem dX3_timesLit_1 : decode cX3_timesLit 1 = .ok (.aload_n 0, 1) := by decide +kernel
theorem dX3_timesLit_2 : decode cX3_timesLit 2 = .ok (.getfield 23, 3) := by decide +kernel
theorem dX3_timesLit_5 : decode cX3_timesLit 5 = .ok (.iconst 2, 1) := by decide +kernel
theorem dX3_timesLit_6 : decode cX3_timesLit 6 = .ok (.iaload, 1) := by decide +kernel
theorem dX3_timesLit_7 : decode cX3_timesLit 7 = .ok (.invokevirtual 114, 3) := by decide +kernel
theorem dX3_timesLit_10 : decode cX3_timesLit 10 = .ok (.ireturn, 1) := by decide +kernel
set_option maxRecDepth 20000 in
theorem ggX3_timesMistaken_X3_told : GoodIn wsX3_timesMistaken wsX3_told := goodIn_r _ [6, 7, 8, 9, 10, 11, 12, 13, 14, 15, 16, 17, 18] (by decide +kernel) (by decide +kernel)
set_option maxRecDepth 20000 in
theorem gX3_timesMistaken_X3_told : GoodIn wsX3_timesMistaken (wsV RX3 114 RX3 yX3_told wsX3_told) := goodIn_app (goodIn_of _ (by decide +kernel)) ggX3_timesMistaken_X3_told
theorem dX3_timesMistaken_0 : decode cX3_timesMistaken 0 = .ok (.aload_n 0, 1) := by decide +kernel
theorem dX3_timesMistaken_1 : decode cX3_timesMistaken 1 = .ok (.aload_n 0, 1) := by decide +kernel
theorem dX3_timesMistaken_2 : decode cX3_timesMistaken 2 = .ok (.getfield 23, 3) := by decide +kernel
theorem dX3_timesMistaken_5 : decode cX3_timesMistaken 5 = .ok (.iconst 3, 1) := by decide +kernel
theorem dX3_timesMistaken_6 : decode cX3_timesMistaken 6 = .ok (.iaload, 1) := by decide +kernel
theorem dX3_timesMistaken_7 : decode cX3_timesMistaken 7 = .ok (.invokevirtual 114, 3) := by decide +kernel
theorem dX3_timesMistaken_10 : decode cX3_timesMistaken 10 = .ok (.ireturn, 1) := by decide +kernel
set_option maxRecDepth 20000 in
theorem ggX3_minutesUntilBurning_X3_isHill : GoodIn wsX3_minutesUntilBurning wsX3_isHill := goodIn_r _ [6, 7, 8, 9, 5, 10, 70, 71, 72, 73, 74, 75, 76, 77, 78, 79, 80] (by decide +kernel) (by decide +kernel)
set_option maxRecDepth 20000 in
theorem gX3_minutesUntilBurning_X3_isHill : GoodIn wsX3_minutesUntilBurning (wsV RX3 89 RX3 yX3_isHill wsX3_isHill) := goodIn_app (goodIn_of _ (by decide +kernel)) ggX3_minutesUntilBurning_X3_isHill
set_option maxRecDepth 20000 in
theorem ggX3_minutesUntilBurning_X3_fail : GoodIn wsX3_minutesUntilBurning wsX3_fail := goodIn_r _ [14, 1, 70, 71, 72, 73, 74, 75, 76, 77, 78, 79, 80] (by decide +kernel) (by decide +kernel)
set_option maxRecDepth 20000 in
theorem gX3_minutesUntilBurning_X3_fail : GoodIn wsX3_minutesUntilBurning (wsV RX3 86 RX3 yX3_fail wsX3_fail) := goodIn_app (goodIn_of _ (by decide +kernel)) ggX3_minutesUntilBurning_X3_fail
set_option maxRecDepth 20000 in
theorem ggX3_minutesUntilBurning_X3_keep : GoodIn wsX3_minutesUntilBurning wsX3_keep := goodIn_r _ [18, 19, 20, 21, 22, 23, 24, 70, 71, 72, 73, 74, 75, 76, 77, 78, 79, 80] (by decide +kernel) (by decide +kernel)
set_option maxRecDepth 20000 in
theorem gX3_minutesUntilBurning_X3_keep : GoodIn wsX3_minutesUntilBurning (wsV RX3 121 RX3 yX3_keep wsX3_keep) := goodIn_app (goodIn_of _ (by decide +kernel)) ggX3_minutesUntilBurning_X3_keep
set_option maxRecDepth 20000 in
theorem ggX3_minutesUntilBurning_X3_hi : GoodIn wsX3_minutesUntilBurning wsX3_hi := goodIn_r _ [28, 19, 70, 71, 72, 73, 74, 75, 76, 77, 78, 79, 80] (by decide +kernel) (by decide +kernel)
set_option maxRecDepth 20000 in
theorem gX3_minutesUntilBurning_X3_hi : GoodIn wsX3_minutesUntilBurning (wsV RX3 59 RX3 yX3_hi wsX3_hi) := goodIn_app (goodIn_of _ (by decide +kernel)) ggX3_minutesUntilBurning_X3_hi
set_option maxRecDepth 20000 in
theorem ggX3_minutesUntilBurning_X3_minuteOn : GoodIn wsX3_minutesUntilBurning wsX3_minuteOn := goodIn_r _ [32, 7, 33, 34, 19, 35, 36, 37, 38, 25, 26, 27, 5, 28, 39, 40, 41, 42, 43, 44, 45, 46, 47, 48, 49, 50, 51, 52, 53, 54, 55, 56, 57, 58, 59, 60, 61, 62, 63, 64, 65, 70, 71, 72, 73, 74, 75, 76, 77, 78, 79, 80] (by decide +kernel) (by decide +kernel)
set_option maxRecDepth 20000 in
theorem gX3_minutesUntilBurning_X3_minuteOn : GoodIn wsX3_minutesUntilBurning (wsV RX3 105 RX3 yX3_minuteOn wsX3_minuteOn) := goodIn_app (goodIn_of _ (by decide +kernel)) ggX3_minutesUntilBurning_X3_minuteOn
set_option maxRecDepth 20000 in
theorem ggX3_minutesUntilBurning_X3_bringBack : GoodIn wsX3_minutesUntilBurning wsX3_bringBack := goodIn_r _ [69, 20, 19, 21, 22, 23, 24, 70, 71, 72, 73, 74, 75, 76, 77, 78, 79, 80] (by decide +kernel) (by decide +kernel)
set_option maxRecDepth 20000 in
theorem gX3_minutesUntilBurning_X3_bringBack : GoodIn wsX3_minutesUntilBurning (wsV RX3 124 RX3 yX3_bringBack wsX3_bringBack) := goodIn_app (goodIn_of _ (by decide +kernel)) ggX3_minutesUntilBurning_X3_bringBack
theorem dX3_minutesUntilBurning_0 : decode cX3_minutesUntilBurning 0 = .ok (.aload_n 0, 1) := by decide +kernel
theorem dX3_minutesUntilBurning_1 : decode cX3_minutesUntilBurning 1 = .ok (.iconst 0, 1) := by decide +kernel
theorem dX3_minutesUntilBurning_2 : decode cX3_minutesUntilBurning 2 = .ok (.putfield 38, 3) := by decide +kernel
theorem dX3_minutesUntilBurning_5 : decode cX3_minutesUntilBurning 5 = .ok (.aload_n 0, 1) := by decide +kernel
theorem dX3_minutesUntilBurning_6 : decode cX3_minutesUntilBurning 6 = .ok (.iload_n 1, 1) := by decide +kernel
theorem dX3_minutesUntilBurning_7 : decode cX3_minutesUntilBurning 7 = .ok (.invokevirtual 89, 3) := by decide +kernel
theorem dX3_minutesUntilBurning_10 : decode cX3_minutesUntilBurning 10 = .ok (.ifCond .ne 9, 3) := by decide +kernel
theorem dX3_minutesUntilBurning_13 : decode cX3_minutesUntilBurning 13 = .ok (.aload_n 0, 1) := by decide +kernel
theorem dX3_minutesUntilBurning_14 : decode cX3_minutesUntilBurning 14 = .ok (.iconst 1, 1) := by decide +kernel
theorem dX3_minutesUntilBurning_15 : decode cX3_minutesUntilBurning 15 = .ok (.invokevirtual 86, 3) := by decide +kernel
theorem dX3_minutesUntilBurning_18 : decode cX3_minutesUntilBurning 18 = .ok (.ireturn, 1) := by decide +kernel
theorem dX3_minutesUntilBurning_19 : decode cX3_minutesUntilBurning 19 = .ok (.aload_n 0, 1) := by decide +kernel
theorem dX3_minutesUntilBurning_20 : decode cX3_minutesUntilBurning 20 = .ok (.invokevirtual 121, 3) := by decide +kernel
theorem dX3_minutesUntilBurning_23 : decode cX3_minutesUntilBurning 23 = .ok (.iconst 0, 1) := by decide +kernel
theorem dX3_minutesUntilBurning_24 : decode cX3_minutesUntilBurning 24 = .ok (.istore_n 2, 1) := by decide +kernel
theorem dX3_minutesUntilBurning_25 : decode cX3_minutesUntilBurning 25 = .ok (.iload_n 2, 1) := by decide +kernel
theorem dX3_minutesUntilBurning_26 : decode cX3_minutesUntilBurning 26 = .ok (.sipush 150, 3) := by decide +kernel
theorem dX3_minutesUntilBurning_29 : decode cX3_minutesUntilBurning 29 = .ok (.if_icmp .gt 23, 3) := by decide +kernel
theorem dX3_minutesUntilBurning_32 : decode cX3_minutesUntilBurning 32 = .ok (.aload_n 0, 1) := by decide +kernel
theorem dX3_minutesUntilBurning_33 : decode cX3_minutesUntilBurning 33 = .ok (.iload_n 1, 1) := by decide +kernel
theorem dX3_minutesUntilBurning_34 : decode cX3_minutesUntilBurning 34 = .ok (.iconst 1, 1) := by decide +kernel
theorem dX3_minutesUntilBurning_35 : decode cX3_minutesUntilBurning 35 = .ok (.invokevirtual 59, 3) := by decide +kernel
theorem dX3_minutesUntilBurning_38 : decode cX3_minutesUntilBurning 38 = .ok (.iconst 2, 1) := by decide +kernel
theorem dX3_minutesUntilBurning_39 : decode cX3_minutesUntilBurning 39 = .ok (.if_icmp .eq 13, 3) := by decide +kernel
theorem dX3_minutesUntilBurning_42 : decode cX3_minutesUntilBurning 42 = .ok (.aload_n 0, 1) := by decide +kernel
theorem dX3_minutesUntilBurning_43 : decode cX3_minutesUntilBurning 43 = .ok (.invokevirtual 105, 3) := by decide +kernel
theorem dX3_minutesUntilBurning_46 : decode cX3_minutesUntilBurning 46 = .ok (.iinc 2 1, 3) := by decide +kernel
theorem dX3_minutesUntilBurning_49 : decode cX3_minutesUntilBurning 49 = .ok (.goto (-24), 3) := by decide +kernel
theorem dX3_minutesUntilBurning_52 : decode cX3_minutesUntilBurning 52 = .ok (.aload_n 0, 1) := by decide +kernel
theorem dX3_minutesUntilBurning_53 : decode cX3_minutesUntilBurning 53 = .ok (.invokevirtual 124, 3) := by decide +kernel
theorem dX3_minutesUntilBurning_56 : decode cX3_minutesUntilBurning 56 = .ok (.iload_n 2, 1) := by decide +kernel
theorem dX3_minutesUntilBurning_57 : decode cX3_minutesUntilBurning 57 = .ok (.sipush 150, 3) := by decide +kernel
theorem dX3_minutesUntilBurning_60 : decode cX3_minutesUntilBurning 60 = .ok (.if_icmp .le 7, 3) := by decide +kernel
theorem dX3_minutesUntilBurning_63 : decode cX3_minutesUntilBurning 63 = .ok (.iconst (-1), 1) := by decide +kernel
theorem dX3_minutesUntilBurning_64 : decode cX3_minutesUntilBurning 64 = .ok (.goto 4, 3) := by decide +kernel
theorem dX3_minutesUntilBurning_67 : decode cX3_minutesUntilBurning 67 = .ok (.iload_n 2, 1) := by decide +kernel
theorem dX3_minutesUntilBurning_68 : decode cX3_minutesUntilBurning 68 = .ok (.ireturn, 1) := by decide +kernel
set_option maxRecDepth 20000 in
theorem ggX3_burningAfter_X3_isIn : GoodIn wsX3_burningAfter wsX3_isIn := goodIn_r _ [5] (by decide +kernel) (by decide +kernel)
set_option maxRecDepth 20000 in
theorem gX3_burningAfter_X3_isIn : GoodIn wsX3_burningAfter (va_wsS RX3 45 yX3_isIn wsX3_isIn) := goodIn_app (goodIn_of _ (by decide +kernel)) ggX3_burningAfter_X3_isIn
set_option maxRecDepth 20000 in
theorem ggX3_burningAfter_X3_fail : GoodIn wsX3_burningAfter wsX3_fail := goodIn_r _ [9, 1, 70, 71, 72, 73, 74, 75, 76, 77, 78, 79, 80] (by decide +kernel) (by decide +kernel)
set_option maxRecDepth 20000 in
theorem gX3_burningAfter_X3_fail : GoodIn wsX3_burningAfter (wsV RX3 86 RX3 yX3_fail wsX3_fail) := goodIn_app (goodIn_of _ (by decide +kernel)) ggX3_burningAfter_X3_fail
set_option maxRecDepth 20000 in
theorem ggX3_burningAfter_X3_keep : GoodIn wsX3_burningAfter wsX3_keep := goodIn_r _ [13, 14, 15, 16, 17, 18, 19, 70, 71, 72, 73, 74, 75, 76, 77, 78, 79, 80] (by decide +kernel) (by decide +kernel)
set_option maxRecDepth 20000 in
theorem gX3_burningAfter_X3_keep : GoodIn wsX3_burningAfter (wsV RX3 121 RX3 yX3_keep wsX3_keep) := goodIn_app (goodIn_of _ (by decide +kernel)) ggX3_burningAfter_X3_keep
set_option maxRecDepth 20000 in
theorem ggX3_burningAfter_X3_minuteOn : GoodIn wsX3_burningAfter wsX3_minuteOn := goodIn_r _ [23, 24, 25, 26, 14, 27, 28, 29, 30, 31, 32, 33, 4, 34, 35, 36, 37, 38, 39, 40, 41, 42, 43, 44, 45, 46, 47, 48, 49, 50, 51, 52, 53, 54, 55, 56, 57, 58, 59, 60, 61, 70, 71, 72, 73, 74, 75, 76, 77, 78, 79, 80] (by decide +kernel) (by decide +kernel)
set_option maxRecDepth 20000 in
theorem gX3_burningAfter_X3_minuteOn : GoodIn wsX3_burningAfter (wsV RX3 105 RX3 yX3_minuteOn wsX3_minuteOn) := goodIn_app (goodIn_of _ (by decide +kernel)) ggX3_burningAfter_X3_minuteOn
set_option maxRecDepth 20000 in
theorem ggX3_burningAfter_X3_burning : GoodIn wsX3_burningAfter wsX3_burning := goodIn_r _ [65, 24, 31, 32, 33, 4, 34, 14, 70, 71, 72, 73, 74, 75, 76, 77, 78, 79, 80] (by decide +kernel) (by decide +kernel)
set_option maxRecDepth 20000 in
theorem gX3_burningAfter_X3_burning : GoodIn wsX3_burningAfter (wsV RX3 117 RX3 yX3_burning wsX3_burning) := goodIn_app (goodIn_of _ (by decide +kernel)) ggX3_burningAfter_X3_burning
set_option maxRecDepth 20000 in
theorem ggX3_burningAfter_X3_bringBack : GoodIn wsX3_burningAfter wsX3_bringBack := goodIn_r _ [69, 15, 14, 16, 17, 18, 19, 70, 71, 72, 73, 74, 75, 76, 77, 78, 79, 80] (by decide +kernel) (by decide +kernel)
set_option maxRecDepth 20000 in
theorem gX3_burningAfter_X3_bringBack : GoodIn wsX3_burningAfter (wsV RX3 124 RX3 yX3_bringBack wsX3_bringBack) := goodIn_app (goodIn_of _ (by decide +kernel)) ggX3_burningAfter_X3_bringBack
theorem dX3_burningAfter_0 : decode cX3_burningAfter 0 = .ok (.aload_n 0, 1) := by decide +kernel
theorem dX3_burningAfter_1 : decode cX3_burningAfter 1 = .ok (.iconst 0, 1) := by decide +kernel
theorem dX3_burningAfter_2 : decode cX3_burningAfter 2 = .ok (.putfield 38, 3) := by decide +kernel
theorem dX3_burningAfter_5 : decode cX3_burningAfter 5 = .ok (.iload_n 1, 1) := by decide +kernel
theorem dX3_burningAfter_6 : decode cX3_burningAfter 6 = .ok (.iconst 1, 1) := by decide +kernel
theorem dX3_burningAfter_7 : decode cX3_burningAfter 7 = .ok (.bipush 100, 2) := by decide +kernel
theorem dX3_burningAfter_9 : decode cX3_burningAfter 9 = .ok (.invokestatic 45, 3) := by decide +kernel
theorem dX3_burningAfter_12 : decode cX3_burningAfter 12 = .ok (.ifCond .ne 9, 3) := by decide +kernel
theorem dX3_burningAfter_15 : decode cX3_burningAfter 15 = .ok (.aload_n 0, 1) := by decide +kernel
theorem dX3_burningAfter_16 : decode cX3_burningAfter 16 = .ok (.iconst 1, 1) := by decide +kernel
theorem dX3_burningAfter_17 : decode cX3_burningAfter 17 = .ok (.invokevirtual 86, 3) := by decide +kernel
theorem dX3_burningAfter_20 : decode cX3_burningAfter 20 = .ok (.ireturn, 1) := by decide +kernel
theorem dX3_burningAfter_21 : decode cX3_burningAfter 21 = .ok (.aload_n 0, 1) := by decide +kernel
theorem dX3_burningAfter_22 : decode cX3_burningAfter 22 = .ok (.invokevirtual 121, 3) := by decide +kernel
theorem dX3_burningAfter_25 : decode cX3_burningAfter 25 = .ok (.iconst 0, 1) := by decide +kernel
theorem dX3_burningAfter_26 : decode cX3_burningAfter 26 = .ok (.istore_n 2, 1) := by decide +kernel
theorem dX3_burningAfter_27 : decode cX3_burningAfter 27 = .ok (.iload_n 2, 1) := by decide +kernel
theorem dX3_burningAfter_28 : decode cX3_burningAfter 28 = .ok (.iload_n 1, 1) := by decide +kernel
theorem dX3_burningAfter_29 : decode cX3_burningAfter 29 = .ok (.if_icmp .ge 13, 3) := by decide +kernel
theorem dX3_burningAfter_32 : decode cX3_burningAfter 32 = .ok (.aload_n 0, 1) := by decide +kernel
theorem dX3_burningAfter_33 : decode cX3_burningAfter 33 = .ok (.invokevirtual 105, 3) := by decide +kernel
theorem dX3_burningAfter_36 : decode cX3_burningAfter 36 = .ok (.iinc 2 1, 3) := by decide +kernel
theorem dX3_burningAfter_39 : decode cX3_burningAfter 39 = .ok (.goto (-12), 3) := by decide +kernel
theorem dX3_burningAfter_42 : decode cX3_burningAfter 42 = .ok (.aload_n 0, 1) := by decide +kernel
theorem dX3_burningAfter_43 : decode cX3_burningAfter 43 = .ok (.invokevirtual 117, 3) := by decide +kernel
theorem dX3_burningAfter_46 : decode cX3_burningAfter 46 = .ok (.istore_n 2, 1) := by decide +kernel
theorem dX3_burningAfter_47 : decode cX3_burningAfter 47 = .ok (.aload_n 0, 1) := by decide +kernel
theorem dX3_burningAfter_48 : decode cX3_burningAfter 48 = .ok (.invokevirtual 124, 3) := by decide +kernel
theorem dX3_burningAfter_51 : decode cX3_burningAfter 51 = .ok (.iload_n 2, 1) := by decide +kernel
theorem dX3_burningAfter_52 : decode cX3_burningAfter 52 = .ok (.ireturn, 1) := by decide +kernel
set_option maxRecDepth 20000 in
theorem ggX3_reach_X3_keep : GoodIn wsX3_reach wsX3_keep := goodIn_r _ [6, 7, 8, 9, 10, 11, 12, 62, 63, 64, 65, 66, 67, 68, 69, 70, 71, 72] (by decide +kernel) (by decide +kernel)
set_option maxRecDepth 20000 in
theorem gX3_reach_X3_keep : GoodIn wsX3_reach (wsV RX3 121 RX3 yX3_keep wsX3_keep) := goodIn_app (goodIn_of _ (by decide +kernel)) ggX3_reach_X3_keep
set_option maxRecDepth 20000 in
theorem ggX3_reach_X3_lightNow : GoodIn wsX3_reach wsX3_lightNow := goodIn_r _ [16, 17, 18, 19, 5, 20, 7, 21, 22, 23, 24, 25, 26, 27, 28, 62, 63, 64, 65, 66, 67, 68, 69, 70, 71, 72] (by decide +kernel) (by decide +kernel)
set_option maxRecDepth 20000 in
theorem gX3_reach_X3_lightNow : GoodIn wsX3_reach (wsV RX3 102 RX3 yX3_lightNow wsX3_lightNow) := goodIn_app (goodIn_of _ (by decide +kernel)) ggX3_reach_X3_lightNow
set_option maxRecDepth 20000 in
theorem ggX3_reach_X3_minuteOn : GoodIn wsX3_reach wsX3_minuteOn := goodIn_r _ [32, 1, 33, 34, 7, 35, 36, 37, 38, 25, 26, 27, 5, 28, 39, 40, 41, 42, 43, 44, 45, 46, 47, 48, 49, 50, 51, 52, 53, 17, 18, 19, 20, 21, 22, 23, 24, 54, 55, 56, 57, 62, 63, 64, 65, 66, 67, 68, 69, 70, 71, 72] (by decide +kernel) (by decide +kernel)
set_option maxRecDepth 20000 in
theorem gX3_reach_X3_minuteOn : GoodIn wsX3_reach (wsV RX3 105 RX3 yX3_minuteOn wsX3_minuteOn) := goodIn_app (goodIn_of _ (by decide +kernel)) ggX3_reach_X3_minuteOn
set_option maxRecDepth 20000 in
theorem ggX3_reach_X3_hi : GoodIn wsX3_reach wsX3_hi := goodIn_r _ [28, 7, 62, 63, 64, 65, 66, 67, 68, 69, 70, 71, 72] (by decide +kernel) (by decide +kernel)
set_option maxRecDepth 20000 in
theorem gX3_reach_X3_hi : GoodIn wsX3_reach (wsV RX3 59 RX3 yX3_hi wsX3_hi) := goodIn_app (goodIn_of _ (by decide +kernel)) ggX3_reach_X3_hi
set_option maxRecDepth 20000 in
theorem ggX3_reach_X3_bringBack : GoodIn wsX3_reach wsX3_bringBack := goodIn_r _ [61, 8, 7, 9, 10, 11, 12, 62, 63, 64, 65, 66, 67, 68, 69, 70, 71, 72] (by decide +kernel) (by decide +kernel)
set_option maxRecDepth 20000 in
theorem gX3_reach_X3_bringBack : GoodIn wsX3_reach (wsV RX3 124 RX3 yX3_bringBack wsX3_bringBack) := goodIn_app (goodIn_of _ (by decide +kernel)) ggX3_reach_X3_bringBack
theorem dX3_reach_0 : decode cX3_reach 0 = .ok (.aload_n 0, 1) := by decide +kernel
theorem dX3_reach_1 : decode cX3_reach 1 = .ok (.invokevirtual 121, 3) := by decide +kernel
theorem dX3_reach_4 : decode cX3_reach 4 = .ok (.aload_n 0, 1) := by decide +kernel
theorem dX3_reach_5 : decode cX3_reach 5 = .ok (.iload_n 1, 1) := by decide +kernel
theorem dX3_reach_6 : decode cX3_reach 6 = .ok (.invokevirtual 102, 3) := by decide +kernel
theorem dX3_reach_9 : decode cX3_reach 9 = .ok (.pop, 1) := by decide +kernel
theorem dX3_reach_10 : decode cX3_reach 10 = .ok (.iconst 0, 1) := by decide +kernel
theorem dX3_reach_11 : decode cX3_reach 11 = .ok (.istore_n 2, 1) := by decide +kernel
theorem dX3_reach_12 : decode cX3_reach 12 = .ok (.iconst 0, 1) := by decide +kernel
theorem dX3_reach_13 : decode cX3_reach 13 = .ok (.istore_n 3, 1) := by decide +kernel
theorem dX3_reach_14 : decode cX3_reach 14 = .ok (.iload_n 3, 1) := by decide +kernel
theorem dX3_reach_15 : decode cX3_reach 15 = .ok (.bipush 100, 2) := by decide +kernel
theorem dX3_reach_17 : decode cX3_reach 17 = .ok (.if_icmp .ge 60, 3) := by decide +kernel
theorem dX3_reach_20 : decode cX3_reach 20 = .ok (.aload_n 0, 1) := by decide +kernel
theorem dX3_reach_21 : decode cX3_reach 21 = .ok (.invokevirtual 105, 3) := by decide +kernel
theorem dX3_reach_24 : decode cX3_reach 24 = .ok (.iconst 0, 1) := by decide +kernel
theorem dX3_reach_25 : decode cX3_reach 25 = .ok (.istore 4, 2) := by decide +kernel
theorem dX3_reach_27 : decode cX3_reach 27 = .ok (.iload 4, 2) := by decide +kernel
theorem dX3_reach_29 : decode cX3_reach 29 = .ok (.aload_n 0, 1) := by decide +kernel
theorem dX3_reach_30 : decode cX3_reach 30 = .ok (.getfield 42, 3) := by decide +kernel
theorem dX3_reach_33 : decode cX3_reach 33 = .ok (.if_icmp .ge 38, 3) := by decide +kernel
theorem dX3_reach_36 : decode cX3_reach 36 = .ok (.aload_n 0, 1) := by decide +kernel
theorem dX3_reach_37 : decode cX3_reach 37 = .ok (.iload 4, 2) := by decide +kernel
theorem dX3_reach_39 : decode cX3_reach 39 = .ok (.iconst 1, 1) := by decide +kernel
theorem dX3_reach_40 : decode cX3_reach 40 = .ok (.invokevirtual 59, 3) := by decide +kernel
theorem dX3_reach_43 : decode cX3_reach 43 = .ok (.iconst 2, 1) := by decide +kernel
theorem dX3_reach_44 : decode cX3_reach 44 = .ok (.if_icmp .ne 21, 3) := by decide +kernel
theorem dX3_reach_47 : decode cX3_reach 47 = .ok (.aload_n 0, 1) := by decide +kernel
theorem dX3_reach_48 : decode cX3_reach 48 = .ok (.iload 4, 2) := by decide +kernel
theorem dX3_reach_50 : decode cX3_reach 50 = .ok (.iconst 4, 1) := by decide +kernel
theorem dX3_reach_51 : decode cX3_reach 51 = .ok (.invokevirtual 59, 3) := by decide +kernel
theorem dX3_reach_54 : decode cX3_reach 54 = .ok (.iload_n 1, 1) := by decide +kernel
theorem dX3_reach_55 : decode cX3_reach 55 = .ok (.if_icmp .ne 10, 3) := by decide +kernel
theorem dX3_reach_58 : decode cX3_reach 58 = .ok (.iload_n 2, 1) := by decide +kernel
theorem dX3_reach_59 : decode cX3_reach 59 = .ok (.iconst 1, 1) := by decide +kernel
theorem dX3_reach_60 : decode cX3_reach 60 = .ok (.iload 4, 2) := by decide +kernel
theorem dX3_reach_62 : decode cX3_reach 62 = .ok (.ishl, 1) := by decide +kernel
theorem dX3_reach_63 : decode cX3_reach 63 = .ok (.ior, 1) := by decide +kernel
theorem dX3_reach_64 : decode cX3_reach 64 = .ok (.istore_n 2, 1) := by decide +kernel
theorem dX3_reach_65 : decode cX3_reach 65 = .ok (.iinc 4 1, 3) := by decide +kernel
theorem dX3_reach_68 : decode cX3_reach 68 = .ok (.goto (-41), 3) := by decide +kernel
theorem dX3_reach_71 : decode cX3_reach 71 = .ok (.iinc 3 1, 3) := by decide +kernel
theorem dX3_reach_74 : decode cX3_reach 74 = .ok (.goto (-60), 3) := by decide +kernel
theorem dX3_reach_77 : decode cX3_reach 77 = .ok (.aload_n 0, 1) := by decide +kernel
theorem dX3_reach_78 : decode cX3_reach 78 = .ok (.invokevirtual 124, 3) := by decide +kernel
theorem dX3_reach_81 : decode cX3_reach 81 = .ok (.iconst 0, 1) := by decide +kernel
theorem dX3_reach_82 : decode cX3_reach 82 = .ok (.istore_n 3, 1) := by decide +kernel
theorem dX3_reach_83 : decode cX3_reach 83 = .ok (.iconst 0, 1) := by decide +kernel
theorem dX3_reach_84 : decode cX3_reach 84 = .ok (.istore 4, 2) := by decide +kernel
theorem dX3_reach_86 : decode cX3_reach 86 = .ok (.iload 4, 2) := by decide +kernel
theorem dX3_reach_88 : decode cX3_reach 88 = .ok (.aload_n 0, 1) := by decide +kernel
theorem dX3_reach_89 : decode cX3_reach 89 = .ok (.getfield 42, 3) := by decide +kernel
theorem dX3_reach_92 : decode cX3_reach 92 = .ok (.if_icmp .ge 18, 3) := by decide +kernel
theorem dX3_reach_95 : decode cX3_reach 95 = .ok (.iload_n 3, 1) := by decide +kernel
theorem dX3_reach_96 : decode cX3_reach 96 = .ok (.iload_n 2, 1) := by decide +kernel
theorem dX3_reach_97 : decode cX3_reach 97 = .ok (.iload 4, 2) := by decide +kernel
theorem dX3_reach_99 : decode cX3_reach 99 = .ok (.ishr, 1) := by decide +kernel
theorem dX3_reach_100 : decode cX3_reach 100 = .ok (.iconst 1, 1) := by decide +kernel
theorem dX3_reach_101 : decode cX3_reach 101 = .ok (.iand, 1) := by decide +kernel
theorem dX3_reach_102 : decode cX3_reach 102 = .ok (.iadd, 1) := by decide +kernel
theorem dX3_reach_103 : decode cX3_reach 103 = .ok (.istore_n 3, 1) := by decide +kernel
theorem dX3_reach_104 : decode cX3_reach 104 = .ok (.iinc 4 1, 3) := by decide +kernel
theorem dX3_reach_107 : decode cX3_reach 107 = .ok (.goto (-21), 3) := by decide +kernel
theorem dX3_reach_110 : decode cX3_reach 110 = .ok (.iload_n 3, 1) := by decide +kernel
theorem dX3_reach_111 : decode cX3_reach 111 = .ok (.ireturn, 1) := by decide +kernel
set_option maxRecDepth 20000 in
theorem ggX3_reachOf_X3_canLight : GoodIn wsX3_reachOf wsX3_canLight := goodIn_r _ [5, 6, 7, 8, 9, 4, 10, 11, 12, 13, 14, 15, 16, 17, 18, 19, 78, 79, 80, 81, 82, 83, 84, 85, 86, 87, 88] (by decide +kernel) (by decide +kernel)
set_option maxRecDepth 20000 in
theorem gX3_reachOf_X3_canLight : GoodIn wsX3_reachOf (wsV RX3 99 RX3 yX3_canLight wsX3_canLight) := goodIn_app (goodIn_of _ (by decide +kernel)) ggX3_reachOf_X3_canLight
set_option maxRecDepth 20000 in
theorem ggX3_reachOf_X3_reach : GoodIn wsX3_reachOf wsX3_reach := goodIn_r _ [23, 11, 24, 25, 26, 4, 27, 19, 28, 29, 30, 31, 32, 33, 34, 35, 36, 37, 38, 39, 40, 41, 42, 43, 44, 15, 16, 17, 18, 45, 46, 47, 48, 49, 50, 51, 52, 53, 54, 55, 56, 57, 58, 59, 60, 61, 62, 63, 64, 65, 66, 67, 68, 69, 70, 71, 72, 73, 74, 75, 76, 77, 78, 79, 80, 81, 82, 83, 84, 85, 86, 87, 88] (by decide +kernel) (by decide +kernel)
set_option maxRecDepth 20000 in
theorem gX3_reachOf_X3_reach : GoodIn wsX3_reachOf (wsV RX3 127 RX3 yX3_reach wsX3_reach) := goodIn_app (goodIn_of _ (by decide +kernel)) ggX3_reachOf_X3_reach
theorem dX3_reachOf_0 : decode cX3_reachOf 0 = .ok (.aload_n 0, 1) := by decide +kernel
theorem dX3_reachOf_1 : decode cX3_reachOf 1 = .ok (.iload_n 1, 1) := by decide +kernel
theorem dX3_reachOf_2 : decode cX3_reachOf 2 = .ok (.invokevirtual 99, 3) := by decide +kernel
theorem dX3_reachOf_5 : decode cX3_reachOf 5 = .ok (.ifCond .eq 11, 3) := by decide +kernel
theorem dX3_reachOf_8 : decode cX3_reachOf 8 = .ok (.aload_n 0, 1) := by decide +kernel
theorem dX3_reachOf_9 : decode cX3_reachOf 9 = .ok (.iload_n 1, 1) := by decide +kernel
theorem dX3_reachOf_10 : decode cX3_reachOf 10 = .ok (.invokevirtual 127, 3) := by decide +kernel
theorem dX3_reachOf_13 : decode cX3_reachOf 13 = .ok (.goto 4, 3) := by decide +kernel
theorem dX3_reachOf_16 : decode cX3_reachOf 16 = .ok (.iconst 0, 1) := by decide +kernel
theorem dX3_reachOf_17 : decode cX3_reachOf 17 = .ok (.ireturn, 1) := by decide +kernel
set_option maxRecDepth 20000 in
theorem ggX3_bestHill_X3_hi : GoodIn wsX3_bestHill wsX3_hi := goodIn_r _ [7, 8, 67, 68, 69, 70, 71, 72, 73, 74, 75, 76, 77] (by decide +kernel) (by decide +kernel)
set_option maxRecDepth 20000 in
theorem gX3_bestHill_X3_hi : GoodIn wsX3_bestHill (wsV RX3 59 RX3 yX3_hi wsX3_hi) := goodIn_app (goodIn_of _ (by decide +kernel)) ggX3_bestHill_X3_hi
set_option maxRecDepth 20000 in
theorem ggX3_bestHill_X3_reach : GoodIn wsX3_bestHill wsX3_reach := goodIn_r _ [12, 2, 13, 14, 15, 6, 16, 8, 17, 18, 19, 20, 21, 22, 23, 24, 25, 26, 27, 28, 29, 30, 31, 32, 33, 3, 4, 5, 7, 34, 35, 36, 37, 38, 39, 40, 41, 42, 43, 44, 45, 46, 47, 48, 49, 50, 51, 52, 53, 54, 55, 56, 57, 58, 59, 60, 61, 62, 63, 64, 65, 66, 67, 68, 69, 70, 71, 72, 73, 74, 75, 76, 77] (by decide +kernel) (by decide +kernel)
set_option maxRecDepth 20000 in
theorem gX3_bestHill_X3_reach : GoodIn wsX3_bestHill (wsV RX3 127 RX3 yX3_reach wsX3_reach) := goodIn_app (goodIn_of _ (by decide +kernel)) ggX3_bestHill_X3_reach
theorem dX3_bestHill_0 : decode cX3_bestHill 0 = .ok (.aload_n 0, 1) := by decide +kernel
theorem dX3_bestHill_1 : decode cX3_bestHill 1 = .ok (.iconst 0, 1) := by decide +kernel
theorem dX3_bestHill_2 : decode cX3_bestHill 2 = .ok (.putfield 38, 3) := by decide +kernel
theorem dX3_bestHill_5 : decode cX3_bestHill 5 = .ok (.iconst (-1), 1) := by decide +kernel
theorem dX3_bestHill_6 : decode cX3_bestHill 6 = .ok (.istore_n 1, 1) := by decide +kernel
theorem dX3_bestHill_7 : decode cX3_bestHill 7 = .ok (.iconst (-1), 1) := by decide +kernel
theorem dX3_bestHill_8 : decode cX3_bestHill 8 = .ok (.istore_n 2, 1) := by decide +kernel
theorem dX3_bestHill_9 : decode cX3_bestHill 9 = .ok (.iconst 0, 1) := by decide +kernel
theorem dX3_bestHill_10 : decode cX3_bestHill 10 = .ok (.istore_n 3, 1) := by decide +kernel
theorem dX3_bestHill_11 : decode cX3_bestHill 11 = .ok (.iload_n 3, 1) := by decide +kernel
theorem dX3_bestHill_12 : decode cX3_bestHill 12 = .ok (.aload_n 0, 1) := by decide +kernel
theorem dX3_bestHill_13 : decode cX3_bestHill 13 = .ok (.getfield 42, 3) := by decide +kernel
theorem dX3_bestHill_16 : decode cX3_bestHill 16 = .ok (.if_icmp .ge 51, 3) := by decide +kernel
theorem dX3_bestHill_19 : decode cX3_bestHill 19 = .ok (.aload_n 0, 1) := by decide +kernel
theorem dX3_bestHill_20 : decode cX3_bestHill 20 = .ok (.iload_n 3, 1) := by decide +kernel
theorem dX3_bestHill_21 : decode cX3_bestHill 21 = .ok (.iconst 1, 1) := by decide +kernel
theorem dX3_bestHill_22 : decode cX3_bestHill 22 = .ok (.invokevirtual 59, 3) := by decide +kernel
theorem dX3_bestHill_25 : decode cX3_bestHill 25 = .ok (.ifCond .ne 36, 3) := by decide +kernel
theorem dX3_bestHill_28 : decode cX3_bestHill 28 = .ok (.aload_n 0, 1) := by decide +kernel
theorem dX3_bestHill_29 : decode cX3_bestHill 29 = .ok (.iload_n 3, 1) := by decide +kernel
theorem dX3_bestHill_30 : decode cX3_bestHill 30 = .ok (.iconst 0, 1) := by decide +kernel
theorem dX3_bestHill_31 : decode cX3_bestHill 31 = .ok (.invokevirtual 59, 3) := by decide +kernel
theorem dX3_bestHill_34 : decode cX3_bestHill 34 = .ok (.ifCond .ne 6, 3) := by decide +kernel
theorem dX3_bestHill_37 : decode cX3_bestHill 37 = .ok (.goto 24, 3) := by decide +kernel
theorem dX3_bestHill_40 : decode cX3_bestHill 40 = .ok (.aload_n 0, 1) := by decide +kernel
theorem dX3_bestHill_41 : decode cX3_bestHill 41 = .ok (.iload_n 3, 1) := by decide +kernel
theorem dX3_bestHill_42 : decode cX3_bestHill 42 = .ok (.invokevirtual 127, 3) := by decide +kernel
theorem dX3_bestHill_45 : decode cX3_bestHill 45 = .ok (.istore 4, 2) := by decide +kernel
theorem dX3_bestHill_47 : decode cX3_bestHill 47 = .ok (.iload 4, 2) := by decide +kernel
theorem dX3_bestHill_49 : decode cX3_bestHill 49 = .ok (.iload_n 2, 1) := by decide +kernel
theorem dX3_bestHill_50 : decode cX3_bestHill 50 = .ok (.if_icmp .gt 6, 3) := by decide +kernel
theorem dX3_bestHill_53 : decode cX3_bestHill 53 = .ok (.goto 8, 3) := by decide +kernel
theorem dX3_bestHill_56 : decode cX3_bestHill 56 = .ok (.iload_n 3, 1) := by decide +kernel
theorem dX3_bestHill_57 : decode cX3_bestHill 57 = .ok (.istore_n 1, 1) := by decide +kernel
theorem dX3_bestHill_58 : decode cX3_bestHill 58 = .ok (.iload 4, 2) := by decide +kernel
theorem dX3_bestHill_60 : decode cX3_bestHill 60 = .ok (.istore_n 2, 1) := by decide +kernel
theorem dX3_bestHill_61 : decode cX3_bestHill 61 = .ok (.iinc 3 1, 3) := by decide +kernel
theorem dX3_bestHill_64 : decode cX3_bestHill 64 = .ok (.goto (-53), 3) := by decide +kernel
theorem dX3_bestHill_67 : decode cX3_bestHill 67 = .ok (.iload_n 1, 1) := by decide +kernel
theorem dX3_bestHill_68 : decode cX3_bestHill 68 = .ok (.ireturn, 1) := by decide +kernel
set_option maxRecDepth 20000 in
theorem ggX3_meanWood_X3_hi : GoodIn wsX3_meanWood wsX3_hi := goodIn_r _ [7, 8, 9, 10, 11, 12, 13, 14, 15, 16, 17, 18, 19] (by decide +kernel) (by decide +kernel)
set_option maxRecDepth 20000 in
theorem gX3_meanWood_X3_hi : GoodIn wsX3_meanWood (wsV RX3 59 RX3 yX3_hi wsX3_hi) := goodIn_app (goodIn_of _ (by decide +kernel)) ggX3_meanWood_X3_hi
theorem dX3_meanWood_0 : decode cX3_meanWood 0 = .ok (.aload_n 0, 1) := by decide +kernel
theorem dX3_meanWood_1 : decode cX3_meanWood 1 = .ok (.iconst 0, 1) := by decide +kernel
theorem dX3_meanWood_2 : decode cX3_meanWood 2 = .ok (.putfield 38, 3) := by decide +kernel
theorem dX3_meanWood_5 : decode cX3_meanWood 5 = .ok (.iconst 0, 1) := by decide +kernel
theorem dX3_meanWood_6 : decode cX3_meanWood 6 = .ok (.istore_n 1, 1) := by decide +kernel
theorem dX3_meanWood_7 : decode cX3_meanWood 7 = .ok (.iconst 0, 1) := by decide +kernel
theorem dX3_meanWood_8 : decode cX3_meanWood 8 = .ok (.istore_n 2, 1) := by decide +kernel
theorem dX3_meanWood_9 : decode cX3_meanWood 9 = .ok (.iload_n 2, 1) := by decide +kernel
theorem dX3_meanWood_10 : decode cX3_meanWood 10 = .ok (.aload_n 0, 1) := by decide +kernel
theorem dX3_meanWood_11 : decode cX3_meanWood 11 = .ok (.getfield 42, 3) := by decide +kernel
theorem dX3_meanWood_14 : decode cX3_meanWood 14 = .ok (.if_icmp .ge 18, 3) := by decide +kernel
theorem dX3_meanWood_17 : decode cX3_meanWood 17 = .ok (.iload_n 1, 1) := by decide +kernel
theorem dX3_meanWood_18 : decode cX3_meanWood 18 = .ok (.aload_n 0, 1) := by decide +kernel
theorem dX3_meanWood_19 : decode cX3_meanWood 19 = .ok (.iload_n 2, 1) := by decide +kernel
theorem dX3_meanWood_20 : decode cX3_meanWood 20 = .ok (.iconst 0, 1) := by decide +kernel
theorem dX3_meanWood_21 : decode cX3_meanWood 21 = .ok (.invokevirtual 59, 3) := by decide +kernel
theorem dX3_meanWood_24 : decode cX3_meanWood 24 = .ok (.iadd, 1) := by decide +kernel
theorem dX3_meanWood_25 : decode cX3_meanWood 25 = .ok (.istore_n 1, 1) := by decide +kernel
theorem dX3_meanWood_26 : decode cX3_meanWood 26 = .ok (.iinc 2 1, 3) := by decide +kernel
theorem dX3_meanWood_29 : decode cX3_meanWood 29 = .ok (.goto (-20), 3) := by decide +kernel
theorem dX3_meanWood_32 : decode cX3_meanWood 32 = .ok (.aload_n 0, 1) := by decide +kernel
theorem dX3_meanWood_33 : decode cX3_meanWood 33 = .ok (.getfield 42, 3) := by decide +kernel
theorem dX3_meanWood_36 : decode cX3_meanWood 36 = .ok (.ifCond .ne 7, 3) := by decide +kernel
theorem dX3_meanWood_39 : decode cX3_meanWood 39 = .ok (.dconst 0, 1) := by decide +kernel
theorem dX3_meanWood_40 : decode cX3_meanWood 40 = .ok (.goto 11, 3) := by decide +kernel
theorem dX3_meanWood_43 : decode cX3_meanWood 43 = .ok (.iload_n 1, 1) := by decide +kernel
theorem dX3_meanWood_44 : decode cX3_meanWood 44 = .ok (.i2d, 1) := by decide +kernel
theorem dX3_meanWood_45 : decode cX3_meanWood 45 = .ok (.aload_n 0, 1) := by decide +kernel
theorem dX3_meanWood_46 : decode cX3_meanWood 46 = .ok (.getfield 42, 3) := by decide +kernel
theorem dX3_meanWood_49 : decode cX3_meanWood 49 = .ok (.i2d, 1) := by decide +kernel
theorem dX3_meanWood_50 : decode cX3_meanWood 50 = .ok (.ddiv, 1) := by decide +kernel
theorem dX3_meanWood_51 : decode cX3_meanWood 51 = .ok (.dreturn, 1) := by decide +kernel
set_option maxRecDepth 20000 in
theorem ggX3_digest_X3_burning : GoodIn wsX3_digest wsX3_burning := goodIn_r _ [15, 3, 16, 17, 18, 14, 19, 4, 24, 25, 26, 27, 28, 29, 30, 31, 32, 33, 34] (by decide +kernel) (by decide +kernel)
set_option maxRecDepth 20000 in
theorem gX3_digest_X3_burning : GoodIn wsX3_digest (wsV RX3 117 RX3 yX3_burning wsX3_burning) := goodIn_app (goodIn_of _ (by decide +kernel)) ggX3_digest_X3_burning
set_option maxRecDepth 20000 in
theorem ggX3_digest_X3_hi : GoodIn wsX3_digest wsX3_hi := goodIn_r _ [19, 4, 24, 25, 26, 27, 28, 29, 30, 31, 32, 33, 34] (by decide +kernel) (by decide +kernel)
set_option maxRecDepth 20000 in
theorem gX3_digest_X3_hi : GoodIn wsX3_digest (wsV RX3 59 RX3 yX3_hi wsX3_hi) := goodIn_app (goodIn_of _ (by decide +kernel)) ggX3_digest_X3_hi
set_option maxRecDepth 20000 in
theorem ggX3_digest_X3_sees : GoodIn wsX3_digest wsX3_sees := goodIn_r _ [23, 10, 4, 24, 25, 26, 27, 28, 29, 30, 31, 32, 33, 34] (by decide +kernel) (by decide +kernel)
set_option maxRecDepth 20000 in
theorem gX3_digest_X3_sees : GoodIn wsX3_digest (wsV RX3 55 RX3 yX3_sees wsX3_sees) := goodIn_app (goodIn_of _ (by decide +kernel)) ggX3_digest_X3_sees
theorem dX3_digest_0 : decode cX3_digest 0 = .ok (.aload_n 0, 1) := by decide +kernel
theorem dX3_digest_1 : decode cX3_digest 1 = .ok (.iconst 0, 1) := by decide +kernel
theorem dX3_digest_2 : decode cX3_digest 2 = .ok (.putfield 38, 3) := by decide +kernel
theorem dX3_digest_5 : decode cX3_digest 5 = .ok (.bipush 7, 2) := by decide +kernel
theorem dX3_digest_7 : decode cX3_digest 7 = .ok (.newarray .int, 2) := by decide +kernel
theorem dX3_digest_9 : decode cX3_digest 9 = .ok (.dup, 1) := by decide +kernel
theorem dX3_digest_10 : decode cX3_digest 10 = .ok (.iconst 0, 1) := by decide +kernel
theorem dX3_digest_11 : decode cX3_digest 11 = .ok (.aload_n 0, 1) := by decide +kernel
theorem dX3_digest_12 : decode cX3_digest 12 = .ok (.getfield 42, 3) := by decide +kernel
theorem dX3_digest_15 : decode cX3_digest 15 = .ok (.iastore, 1) := by decide +kernel
theorem dX3_digest_16 : decode cX3_digest 16 = .ok (.dup, 1) := by decide +kernel
theorem dX3_digest_17 : decode cX3_digest 17 = .ok (.iconst 1, 1) := by decide +kernel
theorem dX3_digest_18 : decode cX3_digest 18 = .ok (.aload_n 0, 1) := by decide +kernel
theorem dX3_digest_19 : decode cX3_digest 19 = .ok (.getfield 23, 3) := by decide +kernel
theorem dX3_digest_22 : decode cX3_digest 22 = .ok (.iconst 0, 1) := by decide +kernel
theorem dX3_digest_23 : decode cX3_digest 23 = .ok (.iaload, 1) := by decide +kernel
theorem dX3_digest_24 : decode cX3_digest 24 = .ok (.iastore, 1) := by decide +kernel
theorem dX3_digest_25 : decode cX3_digest 25 = .ok (.dup, 1) := by decide +kernel
theorem dX3_digest_26 : decode cX3_digest 26 = .ok (.iconst 2, 1) := by decide +kernel
theorem dX3_digest_27 : decode cX3_digest 27 = .ok (.aload_n 0, 1) := by decide +kernel
theorem dX3_digest_28 : decode cX3_digest 28 = .ok (.getfield 23, 3) := by decide +kernel
theorem dX3_digest_31 : decode cX3_digest 31 = .ok (.iconst 4, 1) := by decide +kernel
theorem dX3_digest_32 : decode cX3_digest 32 = .ok (.iaload, 1) := by decide +kernel
theorem dX3_digest_33 : decode cX3_digest 33 = .ok (.iastore, 1) := by decide +kernel
theorem dX3_digest_34 : decode cX3_digest 34 = .ok (.dup, 1) := by decide +kernel
theorem dX3_digest_35 : decode cX3_digest 35 = .ok (.iconst 3, 1) := by decide +kernel
theorem dX3_digest_36 : decode cX3_digest 36 = .ok (.aload_n 0, 1) := by decide +kernel
theorem dX3_digest_37 : decode cX3_digest 37 = .ok (.getfield 23, 3) := by decide +kernel
theorem dX3_digest_40 : decode cX3_digest 40 = .ok (.iconst 1, 1) := by decide +kernel
theorem dX3_digest_41 : decode cX3_digest 41 = .ok (.iaload, 1) := by decide +kernel
theorem dX3_digest_42 : decode cX3_digest 42 = .ok (.iastore, 1) := by decide +kernel
theorem dX3_digest_43 : decode cX3_digest 43 = .ok (.dup, 1) := by decide +kernel
theorem dX3_digest_44 : decode cX3_digest 44 = .ok (.iconst 4, 1) := by decide +kernel
theorem dX3_digest_45 : decode cX3_digest 45 = .ok (.aload_n 0, 1) := by decide +kernel
theorem dX3_digest_46 : decode cX3_digest 46 = .ok (.invokevirtual 117, 3) := by decide +kernel
theorem dX3_digest_49 : decode cX3_digest 49 = .ok (.iastore, 1) := by decide +kernel
theorem dX3_digest_50 : decode cX3_digest 50 = .ok (.dup, 1) := by decide +kernel
theorem dX3_digest_51 : decode cX3_digest 51 = .ok (.iconst 5, 1) := by decide +kernel
theorem dX3_digest_52 : decode cX3_digest 52 = .ok (.aload_n 0, 1) := by decide +kernel
theorem dX3_digest_53 : decode cX3_digest 53 = .ok (.getfield 23, 3) := by decide +kernel
theorem dX3_digest_56 : decode cX3_digest 56 = .ok (.iconst 2, 1) := by decide +kernel
theorem dX3_digest_57 : decode cX3_digest 57 = .ok (.iaload, 1) := by decide +kernel
theorem dX3_digest_58 : decode cX3_digest 58 = .ok (.iastore, 1) := by decide +kernel
theorem dX3_digest_59 : decode cX3_digest 59 = .ok (.dup, 1) := by decide +kernel
theorem dX3_digest_60 : decode cX3_digest 60 = .ok (.bipush 6, 2) := by decide +kernel
theorem dX3_digest_62 : decode cX3_digest 62 = .ok (.aload_n 0, 1) := by decide +kernel
theorem dX3_digest_63 : decode cX3_digest 63 = .ok (.getfield 23, 3) := by decide +kernel
theorem dX3_digest_66 : decode cX3_digest 66 = .ok (.iconst 3, 1) := by decide +kernel
theorem dX3_digest_67 : decode cX3_digest 67 = .ok (.iaload, 1) := by decide +kernel
theorem dX3_digest_68 : decode cX3_digest 68 = .ok (.iastore, 1) := by decide +kernel
theorem dX3_digest_69 : decode cX3_digest 69 = .ok (.astore_n 1, 1) := by decide +kernel
theorem dX3_digest_70 : decode cX3_digest 70 = .ok (.ldc2_w 130, 3) := by decide +kernel
theorem dX3_digest_73 : decode cX3_digest 73 = .ok (.lstore_n 2, 1) := by decide +kernel
theorem dX3_digest_74 : decode cX3_digest 74 = .ok (.aload_n 1, 1) := by decide +kernel
theorem dX3_digest_75 : decode cX3_digest 75 = .ok (.astore 4, 2) := by decide +kernel
theorem dX3_digest_77 : decode cX3_digest 77 = .ok (.aload 4, 2) := by decide +kernel
theorem dX3_digest_79 : decode cX3_digest 79 = .ok (.arraylength, 1) := by decide +kernel
theorem dX3_digest_80 : decode cX3_digest 80 = .ok (.istore 5, 2) := by decide +kernel
theorem dX3_digest_82 : decode cX3_digest 82 = .ok (.iconst 0, 1) := by decide +kernel
theorem dX3_digest_83 : decode cX3_digest 83 = .ok (.istore 6, 2) := by decide +kernel
theorem dX3_digest_85 : decode cX3_digest 85 = .ok (.iload 6, 2) := by decide +kernel
theorem dX3_digest_87 : decode cX3_digest 87 = .ok (.iload 5, 2) := by decide +kernel
theorem dX3_digest_89 : decode cX3_digest 89 = .ok (.if_icmp .ge 26, 3) := by decide +kernel
theorem dX3_digest_92 : decode cX3_digest 92 = .ok (.aload 4, 2) := by decide +kernel
theorem dX3_digest_94 : decode cX3_digest 94 = .ok (.iload 6, 2) := by decide +kernel
theorem dX3_digest_96 : decode cX3_digest 96 = .ok (.iaload, 1) := by decide +kernel
theorem dX3_digest_97 : decode cX3_digest 97 = .ok (.istore 7, 2) := by decide +kernel
theorem dX3_digest_99 : decode cX3_digest 99 = .ok (.lload_n 2, 1) := by decide +kernel
theorem dX3_digest_100 : decode cX3_digest 100 = .ok (.ldc2_w 132, 3) := by decide +kernel
theorem dX3_digest_103 : decode cX3_digest 103 = .ok (.lmul, 1) := by decide +kernel
theorem dX3_digest_104 : decode cX3_digest 104 = .ok (.iload 7, 2) := by decide +kernel
theorem dX3_digest_106 : decode cX3_digest 106 = .ok (.i2l, 1) := by decide +kernel
theorem dX3_digest_107 : decode cX3_digest 107 = .ok (.ladd, 1) := by decide +kernel
theorem dX3_digest_108 : decode cX3_digest 108 = .ok (.lstore_n 2, 1) := by decide +kernel
theorem dX3_digest_109 : decode cX3_digest 109 = .ok (.iinc 6 1, 3) := by decide +kernel
theorem dX3_digest_112 : decode cX3_digest 112 = .ok (.goto (-27), 3) := by decide +kernel
theorem dX3_digest_115 : decode cX3_digest 115 = .ok (.iconst 0, 1) := by decide +kernel
theorem dX3_digest_116 : decode cX3_digest 116 = .ok (.istore 4, 2) := by decide +kernel
theorem dX3_digest_118 : decode cX3_digest 118 = .ok (.iload 4, 2) := by decide +kernel
theorem dX3_digest_120 : decode cX3_digest 120 = .ok (.aload_n 0, 1) := by decide +kernel
theorem dX3_digest_121 : decode cX3_digest 121 = .ok (.getfield 42, 3) := by decide +kernel
theorem dX3_digest_124 : decode cX3_digest 124 = .ok (.if_icmp .ge 215, 3) := by decide +kernel
theorem dX3_digest_127 : decode cX3_digest 127 = .ok (.aload_n 0, 1) := by decide +kernel
theorem dX3_digest_128 : decode cX3_digest 128 = .ok (.iload 4, 2) := by decide +kernel
theorem dX3_digest_130 : decode cX3_digest 130 = .ok (.iconst 1, 1) := by decide +kernel
theorem dX3_digest_131 : decode cX3_digest 131 = .ok (.invokevirtual 59, 3) := by decide +kernel
theorem dX3_digest_134 : decode cX3_digest 134 = .ok (.istore 5, 2) := by decide +kernel
theorem dX3_digest_136 : decode cX3_digest 136 = .ok (.bipush 11, 2) := by decide +kernel
theorem dX3_digest_138 : decode cX3_digest 138 = .ok (.newarray .int, 2) := by decide +kernel
theorem dX3_digest_140 : decode cX3_digest 140 = .ok (.dup, 1) := by decide +kernel
theorem dX3_digest_141 : decode cX3_digest 141 = .ok (.iconst 0, 1) := by decide +kernel
theorem dX3_digest_142 : decode cX3_digest 142 = .ok (.aload_n 0, 1) := by decide +kernel
theorem dX3_digest_143 : decode cX3_digest 143 = .ok (.iload 4, 2) := by decide +kernel
theorem dX3_digest_145 : decode cX3_digest 145 = .ok (.iconst 0, 1) := by decide +kernel
theorem dX3_digest_146 : decode cX3_digest 146 = .ok (.invokevirtual 59, 3) := by decide +kernel
theorem dX3_digest_149 : decode cX3_digest 149 = .ok (.iastore, 1) := by decide +kernel
theorem dX3_digest_150 : decode cX3_digest 150 = .ok (.dup, 1) := by decide +kernel
theorem dX3_digest_151 : decode cX3_digest 151 = .ok (.iconst 1, 1) := by decide +kernel
theorem dX3_digest_152 : decode cX3_digest 152 = .ok (.aload_n 0, 1) := by decide +kernel
theorem dX3_digest_153 : decode cX3_digest 153 = .ok (.iload 4, 2) := by decide +kernel
theorem dX3_digest_155 : decode cX3_digest 155 = .ok (.bipush 6, 2) := by decide +kernel
theorem dX3_digest_157 : decode cX3_digest 157 = .ok (.invokevirtual 59, 3) := by decide +kernel
theorem dX3_digest_160 : decode cX3_digest 160 = .ok (.iastore, 1) := by decide +kernel
theorem dX3_digest_161 : decode cX3_digest 161 = .ok (.dup, 1) := by decide +kernel
theorem dX3_digest_162 : decode cX3_digest 162 = .ok (.iconst 2, 1) := by decide +kernel
theorem dX3_digest_163 : decode cX3_digest 163 = .ok (.aload_n 0, 1) := by decide +kernel
theorem dX3_digest_164 : decode cX3_digest 164 = .ok (.getfield 9, 3) := by decide +kernel
theorem dX3_digest_167 : decode cX3_digest 167 = .ok (.iload 4, 2) := by decide +kernel
theorem dX3_digest_169 : decode cX3_digest 169 = .ok (.iaload, 1) := by decide +kernel
theorem dX3_digest_170 : decode cX3_digest 170 = .ok (.iastore, 1) := by decide +kernel
theorem dX3_digest_171 : decode cX3_digest 171 = .ok (.dup, 1) := by decide +kernel
theorem dX3_digest_172 : decode cX3_digest 172 = .ok (.iconst 3, 1) := by decide +kernel
theorem dX3_digest_173 : decode cX3_digest 173 = .ok (.aload_n 0, 1) := by decide +kernel
theorem dX3_digest_174 : decode cX3_digest 174 = .ok (.getfield 13, 3) := by decide +kernel
theorem dX3_digest_177 : decode cX3_digest 177 = .ok (.iload 4, 2) := by decide +kernel
theorem dX3_digest_179 : decode cX3_digest 179 = .ok (.baload, 1) := by decide +kernel
theorem dX3_digest_180 : decode cX3_digest 180 = .ok (.ifCond .eq 7, 3) := by decide +kernel
theorem dX3_digest_183 : decode cX3_digest 183 = .ok (.iconst 1, 1) := by decide +kernel
theorem dX3_digest_184 : decode cX3_digest 184 = .ok (.goto 4, 3) := by decide +kernel
theorem dX3_digest_187 : decode cX3_digest 187 = .ok (.iconst 0, 1) := by decide +kernel
theorem dX3_digest_188 : decode cX3_digest 188 = .ok (.iastore, 1) := by decide +kernel
theorem dX3_digest_189 : decode cX3_digest 189 = .ok (.dup, 1) := by decide +kernel
theorem dX3_digest_190 : decode cX3_digest 190 = .ok (.iconst 4, 1) := by decide +kernel
theorem dX3_digest_191 : decode cX3_digest 191 = .ok (.aload_n 0, 1) := by decide +kernel
theorem dX3_digest_192 : decode cX3_digest 192 = .ok (.getfield 17, 3) := by decide +kernel
theorem dX3_digest_195 : decode cX3_digest 195 = .ok (.iload 4, 2) := by decide +kernel
theorem dX3_digest_197 : decode cX3_digest 197 = .ok (.baload, 1) := by decide +kernel
theorem dX3_digest_198 : decode cX3_digest 198 = .ok (.ifCond .eq 7, 3) := by decide +kernel
theorem dX3_digest_201 : decode cX3_digest 201 = .ok (.iconst 1, 1) := by decide +kernel
theorem dX3_digest_202 : decode cX3_digest 202 = .ok (.goto 4, 3) := by decide +kernel
theorem dX3_digest_205 : decode cX3_digest 205 = .ok (.iconst 0, 1) := by decide +kernel
theorem dX3_digest_206 : decode cX3_digest 206 = .ok (.iastore, 1) := by decide +kernel
theorem dX3_digest_207 : decode cX3_digest 207 = .ok (.dup, 1) := by decide +kernel
theorem dX3_digest_208 : decode cX3_digest 208 = .ok (.iconst 5, 1) := by decide +kernel
theorem dX3_digest_209 : decode cX3_digest 209 = .ok (.iload 5, 2) := by decide +kernel
theorem dX3_digest_211 : decode cX3_digest 211 = .ok (.ifCond .ne 7, 3) := by decide +kernel
theorem dX3_digest_214 : decode cX3_digest 214 = .ok (.iconst 1, 1) := by decide +kernel
theorem dX3_digest_215 : decode cX3_digest 215 = .ok (.goto 4, 3) := by decide +kernel
theorem dX3_digest_218 : decode cX3_digest 218 = .ok (.iconst 0, 1) := by decide +kernel
theorem dX3_digest_219 : decode cX3_digest 219 = .ok (.iastore, 1) := by decide +kernel
theorem dX3_digest_220 : decode cX3_digest 220 = .ok (.dup, 1) := by decide +kernel
theorem dX3_digest_221 : decode cX3_digest 221 = .ok (.bipush 6, 2) := by decide +kernel
theorem dX3_digest_223 : decode cX3_digest 223 = .ok (.iload 5, 2) := by decide +kernel
theorem dX3_digest_225 : decode cX3_digest 225 = .ok (.iconst 2, 1) := by decide +kernel
theorem dX3_digest_226 : decode cX3_digest 226 = .ok (.if_icmp .ne 7, 3) := by decide +kernel
theorem dX3_digest_229 : decode cX3_digest 229 = .ok (.iconst 1, 1) := by decide +kernel
theorem dX3_digest_230 : decode cX3_digest 230 = .ok (.goto 4, 3) := by decide +kernel
theorem dX3_digest_233 : decode cX3_digest 233 = .ok (.iconst 0, 1) := by decide +kernel
theorem dX3_digest_234 : decode cX3_digest 234 = .ok (.iastore, 1) := by decide +kernel
theorem dX3_digest_235 : decode cX3_digest 235 = .ok (.dup, 1) := by decide +kernel
theorem dX3_digest_236 : decode cX3_digest 236 = .ok (.bipush 7, 2) := by decide +kernel
theorem dX3_digest_238 : decode cX3_digest 238 = .ok (.aload_n 0, 1) := by decide +kernel
theorem dX3_digest_239 : decode cX3_digest 239 = .ok (.iload 4, 2) := by decide +kernel
theorem dX3_digest_241 : decode cX3_digest 241 = .ok (.iconst 2, 1) := by decide +kernel
theorem dX3_digest_242 : decode cX3_digest 242 = .ok (.invokevirtual 59, 3) := by decide +kernel
theorem dX3_digest_245 : decode cX3_digest 245 = .ok (.iastore, 1) := by decide +kernel
theorem dX3_digest_246 : decode cX3_digest 246 = .ok (.dup, 1) := by decide +kernel
theorem dX3_digest_247 : decode cX3_digest 247 = .ok (.bipush 8, 2) := by decide +kernel
theorem dX3_digest_249 : decode cX3_digest 249 = .ok (.aload_n 0, 1) := by decide +kernel
theorem dX3_digest_250 : decode cX3_digest 250 = .ok (.iload 4, 2) := by decide +kernel
theorem dX3_digest_252 : decode cX3_digest 252 = .ok (.iconst 3, 1) := by decide +kernel
theorem dX3_digest_253 : decode cX3_digest 253 = .ok (.invokevirtual 59, 3) := by decide +kernel
theorem dX3_digest_256 : decode cX3_digest 256 = .ok (.iastore, 1) := by decide +kernel
theorem dX3_digest_257 : decode cX3_digest 257 = .ok (.dup, 1) := by decide +kernel
theorem dX3_digest_258 : decode cX3_digest 258 = .ok (.bipush 9, 2) := by decide +kernel
theorem dX3_digest_260 : decode cX3_digest 260 = .ok (.iload 5, 2) := by decide +kernel
theorem dX3_digest_262 : decode cX3_digest 262 = .ok (.ifCond .ne 8, 3) := by decide +kernel
theorem dX3_digest_265 : decode cX3_digest 265 = .ok (.bipush (-2), 2) := by decide +kernel
theorem dX3_digest_267 : decode cX3_digest 267 = .ok (.goto 10, 3) := by decide +kernel
theorem dX3_digest_270 : decode cX3_digest 270 = .ok (.aload_n 0, 1) := by decide +kernel
theorem dX3_digest_271 : decode cX3_digest 271 = .ok (.iload 4, 2) := by decide +kernel
theorem dX3_digest_273 : decode cX3_digest 273 = .ok (.iconst 4, 1) := by decide +kernel
theorem dX3_digest_274 : decode cX3_digest 274 = .ok (.invokevirtual 59, 3) := by decide +kernel
theorem dX3_digest_277 : decode cX3_digest 277 = .ok (.iastore, 1) := by decide +kernel
theorem dX3_digest_278 : decode cX3_digest 278 = .ok (.dup, 1) := by decide +kernel
theorem dX3_digest_279 : decode cX3_digest 279 = .ok (.bipush 10, 2) := by decide +kernel
theorem dX3_digest_281 : decode cX3_digest 281 = .ok (.aload_n 0, 1) := by decide +kernel
theorem dX3_digest_282 : decode cX3_digest 282 = .ok (.iload 4, 2) := by decide +kernel
theorem dX3_digest_284 : decode cX3_digest 284 = .ok (.iconst 5, 1) := by decide +kernel
theorem dX3_digest_285 : decode cX3_digest 285 = .ok (.invokevirtual 59, 3) := by decide +kernel
theorem dX3_digest_288 : decode cX3_digest 288 = .ok (.iastore, 1) := by decide +kernel
theorem dX3_digest_289 : decode cX3_digest 289 = .ok (.astore 6, 2) := by decide +kernel
theorem dX3_digest_291 : decode cX3_digest 291 = .ok (.aload 6, 2) := by decide +kernel
theorem dX3_digest_293 : decode cX3_digest 293 = .ok (.astore 7, 2) := by decide +kernel
theorem dX3_digest_295 : decode cX3_digest 295 = .ok (.aload 7, 2) := by decide +kernel
theorem dX3_digest_297 : decode cX3_digest 297 = .ok (.arraylength, 1) := by decide +kernel
theorem dX3_digest_298 : decode cX3_digest 298 = .ok (.istore 8, 2) := by decide +kernel
theorem dX3_digest_300 : decode cX3_digest 300 = .ok (.iconst 0, 1) := by decide +kernel
theorem dX3_digest_301 : decode cX3_digest 301 = .ok (.istore 9, 2) := by decide +kernel
theorem dX3_digest_303 : decode cX3_digest 303 = .ok (.iload 9, 2) := by decide +kernel
theorem dX3_digest_305 : decode cX3_digest 305 = .ok (.iload 8, 2) := by decide +kernel
theorem dX3_digest_307 : decode cX3_digest 307 = .ok (.if_icmp .ge 26, 3) := by decide +kernel
theorem dX3_digest_310 : decode cX3_digest 310 = .ok (.aload 7, 2) := by decide +kernel
theorem dX3_digest_312 : decode cX3_digest 312 = .ok (.iload 9, 2) := by decide +kernel
theorem dX3_digest_314 : decode cX3_digest 314 = .ok (.iaload, 1) := by decide +kernel
theorem dX3_digest_315 : decode cX3_digest 315 = .ok (.istore 10, 2) := by decide +kernel
theorem dX3_digest_317 : decode cX3_digest 317 = .ok (.lload_n 2, 1) := by decide +kernel
theorem dX3_digest_318 : decode cX3_digest 318 = .ok (.ldc2_w 132, 3) := by decide +kernel
theorem dX3_digest_321 : decode cX3_digest 321 = .ok (.lmul, 1) := by decide +kernel
theorem dX3_digest_322 : decode cX3_digest 322 = .ok (.iload 10, 2) := by decide +kernel
theorem dX3_digest_324 : decode cX3_digest 324 = .ok (.i2l, 1) := by decide +kernel
theorem dX3_digest_325 : decode cX3_digest 325 = .ok (.ladd, 1) := by decide +kernel
theorem dX3_digest_326 : decode cX3_digest 326 = .ok (.lstore_n 2, 1) := by decide +kernel
theorem dX3_digest_327 : decode cX3_digest 327 = .ok (.iinc 9 1, 3) := by decide +kernel
theorem dX3_digest_330 : decode cX3_digest 330 = .ok (.goto (-27), 3) := by decide +kernel
theorem dX3_digest_333 : decode cX3_digest 333 = .ok (.iinc 4 1, 3) := by decide +kernel
theorem dX3_digest_336 : decode cX3_digest 336 = .ok (.goto (-218), 3) := by decide +kernel
theorem dX3_digest_339 : decode cX3_digest 339 = .ok (.iconst 0, 1) := by decide +kernel
theorem dX3_digest_340 : decode cX3_digest 340 = .ok (.istore 4, 2) := by decide +kernel
theorem dX3_digest_342 : decode cX3_digest 342 = .ok (.iload 4, 2) := by decide +kernel
theorem dX3_digest_344 : decode cX3_digest 344 = .ok (.aload_n 0, 1) := by decide +kernel
theorem dX3_digest_345 : decode cX3_digest 345 = .ok (.getfield 42, 3) := by decide +kernel
theorem dX3_digest_348 : decode cX3_digest 348 = .ok (.if_icmp .ge 72, 3) := by decide +kernel
theorem dX3_digest_351 : decode cX3_digest 351 = .ok (.iconst 0, 1) := by decide +kernel
theorem dX3_digest_352 : decode cX3_digest 352 = .ok (.istore 5, 2) := by decide +kernel
theorem dX3_digest_354 : decode cX3_digest 354 = .ok (.iload 5, 2) := by decide +kernel
theorem dX3_digest_356 : decode cX3_digest 356 = .ok (.aload_n 0, 1) := by decide +kernel
theorem dX3_digest_357 : decode cX3_digest 357 = .ok (.getfield 42, 3) := by decide +kernel
theorem dX3_digest_360 : decode cX3_digest 360 = .ok (.if_icmp .ge 54, 3) := by decide +kernel
theorem dX3_digest_363 : decode cX3_digest 363 = .ok (.lload_n 2, 1) := by decide +kernel
theorem dX3_digest_364 : decode cX3_digest 364 = .ok (.ldc2_w 132, 3) := by decide +kernel
theorem dX3_digest_367 : decode cX3_digest 367 = .ok (.lmul, 1) := by decide +kernel
theorem dX3_digest_368 : decode cX3_digest 368 = .ok (.aload_n 0, 1) := by decide +kernel
theorem dX3_digest_369 : decode cX3_digest 369 = .ok (.getfield 20, 3) := by decide +kernel
theorem dX3_digest_372 : decode cX3_digest 372 = .ok (.bipush 10, 2) := by decide +kernel
theorem dX3_digest_374 : decode cX3_digest 374 = .ok (.iload 4, 2) := by decide +kernel
theorem dX3_digest_376 : decode cX3_digest 376 = .ok (.imul, 1) := by decide +kernel
theorem dX3_digest_377 : decode cX3_digest 377 = .ok (.iload 5, 2) := by decide +kernel
theorem dX3_digest_379 : decode cX3_digest 379 = .ok (.iadd, 1) := by decide +kernel
theorem dX3_digest_380 : decode cX3_digest 380 = .ok (.iaload, 1) := by decide +kernel
theorem dX3_digest_381 : decode cX3_digest 381 = .ok (.i2l, 1) := by decide +kernel
theorem dX3_digest_382 : decode cX3_digest 382 = .ok (.ladd, 1) := by decide +kernel
theorem dX3_digest_383 : decode cX3_digest 383 = .ok (.lstore_n 2, 1) := by decide +kernel
theorem dX3_digest_384 : decode cX3_digest 384 = .ok (.lload_n 2, 1) := by decide +kernel
theorem dX3_digest_385 : decode cX3_digest 385 = .ok (.ldc2_w 132, 3) := by decide +kernel
theorem dX3_digest_388 : decode cX3_digest 388 = .ok (.lmul, 1) := by decide +kernel
theorem dX3_digest_389 : decode cX3_digest 389 = .ok (.aload_n 0, 1) := by decide +kernel
theorem dX3_digest_390 : decode cX3_digest 390 = .ok (.iload 4, 2) := by decide +kernel
theorem dX3_digest_392 : decode cX3_digest 392 = .ok (.iload 5, 2) := by decide +kernel
theorem dX3_digest_394 : decode cX3_digest 394 = .ok (.invokevirtual 55, 3) := by decide +kernel
theorem dX3_digest_397 : decode cX3_digest 397 = .ok (.ifCond .eq 7, 3) := by decide +kernel
theorem dX3_digest_400 : decode cX3_digest 400 = .ok (.iconst 1, 1) := by decide +kernel
theorem dX3_digest_401 : decode cX3_digest 401 = .ok (.goto 4, 3) := by decide +kernel
theorem dX3_digest_404 : decode cX3_digest 404 = .ok (.iconst 0, 1) := by decide +kernel
theorem dX3_digest_405 : decode cX3_digest 405 = .ok (.i2l, 1) := by decide +kernel
theorem dX3_digest_406 : decode cX3_digest 406 = .ok (.ladd, 1) := by decide +kernel
theorem dX3_digest_407 : decode cX3_digest 407 = .ok (.lstore_n 2, 1) := by decide +kernel
theorem dX3_digest_408 : decode cX3_digest 408 = .ok (.iinc 5 1, 3) := by decide +kernel
theorem dX3_digest_411 : decode cX3_digest 411 = .ok (.goto (-57), 3) := by decide +kernel
theorem dX3_digest_414 : decode cX3_digest 414 = .ok (.iinc 4 1, 3) := by decide +kernel
theorem dX3_digest_417 : decode cX3_digest 417 = .ok (.goto (-75), 3) := by decide +kernel
theorem dX3_digest_420 : decode cX3_digest 420 = .ok (.lload_n 2, 1) := by decide +kernel
theorem dX3_digest_421 : decode cX3_digest 421 = .ok (.lreturn, 1) := by decide +kernel
theorem dJ6_bitCount_0f7a4_0 : decode cJ6_bitCount_0f7a4 0 = .ok (.iload_n 0, 1) := by decide +kernel
theorem dJ6_bitCount_0f7a4_1 : decode cJ6_bitCount_0f7a4 1 = .ok (.iload_n 0, 1) := by decide +kernel
theorem dJ6_bitCount_0f7a4_2 : decode cJ6_bitCount_0f7a4 2 = .ok (.iconst 1, 1) := by decide +kernel
theorem dJ6_bitCount_0f7a4_3 : decode cJ6_bitCount_0f7a4 3 = .ok (.iushr, 1) := by decide +kernel
theorem dJ6_bitCount_0f7a4_4 : decode cJ6_bitCount_0f7a4 4 = .ok (.ldc_w 265, 3) := by decide +kernel
theorem dJ6_bitCount_0f7a4_7 : decode cJ6_bitCount_0f7a4 7 = .ok (.iand, 1) := by decide +kernel
theorem dJ6_bitCount_0f7a4_8 : decode cJ6_bitCount_0f7a4 8 = .ok (.isub, 1) := by decide +kernel
theorem dJ6_bitCount_0f7a4_9 : decode cJ6_bitCount_0f7a4 9 = .ok (.istore_n 0, 1) := by decide +kernel
theorem dJ6_bitCount_0f7a4_10 : decode cJ6_bitCount_0f7a4 10 = .ok (.iload_n 0, 1) := by decide +kernel
theorem dJ6_bitCount_0f7a4_11 : decode cJ6_bitCount_0f7a4 11 = .ok (.ldc_w 266, 3) := by decide +kernel
theorem dJ6_bitCount_0f7a4_14 : decode cJ6_bitCount_0f7a4 14 = .ok (.iand, 1) := by decide +kernel
theorem dJ6_bitCount_0f7a4_15 : decode cJ6_bitCount_0f7a4 15 = .ok (.iload_n 0, 1) := by decide +kernel
theorem dJ6_bitCount_0f7a4_16 : decode cJ6_bitCount_0f7a4 16 = .ok (.iconst 2, 1) := by decide +kernel
theorem dJ6_bitCount_0f7a4_17 : decode cJ6_bitCount_0f7a4 17 = .ok (.iushr, 1) := by decide +kernel
theorem dJ6_bitCount_0f7a4_18 : decode cJ6_bitCount_0f7a4 18 = .ok (.ldc_w 266, 3) := by decide +kernel
theorem dJ6_bitCount_0f7a4_21 : decode cJ6_bitCount_0f7a4 21 = .ok (.iand, 1) := by decide +kernel
theorem dJ6_bitCount_0f7a4_22 : decode cJ6_bitCount_0f7a4 22 = .ok (.iadd, 1) := by decide +kernel
theorem dJ6_bitCount_0f7a4_23 : decode cJ6_bitCount_0f7a4 23 = .ok (.istore_n 0, 1) := by decide +kernel
theorem dJ6_bitCount_0f7a4_24 : decode cJ6_bitCount_0f7a4 24 = .ok (.iload_n 0, 1) := by decide +kernel
theorem dJ6_bitCount_0f7a4_25 : decode cJ6_bitCount_0f7a4 25 = .ok (.iload_n 0, 1) := by decide +kernel
theorem dJ6_bitCount_0f7a4_26 : decode cJ6_bitCount_0f7a4 26 = .ok (.iconst 4, 1) := by decide +kernel
theorem dJ6_bitCount_0f7a4_27 : decode cJ6_bitCount_0f7a4 27 = .ok (.iushr, 1) := by decide +kernel
theorem dJ6_bitCount_0f7a4_28 : decode cJ6_bitCount_0f7a4 28 = .ok (.iadd, 1) := by decide +kernel
theorem dJ6_bitCount_0f7a4_29 : decode cJ6_bitCount_0f7a4 29 = .ok (.ldc_w 267, 3) := by decide +kernel
theorem dJ6_bitCount_0f7a4_32 : decode cJ6_bitCount_0f7a4 32 = .ok (.iand, 1) := by decide +kernel
theorem dJ6_bitCount_0f7a4_33 : decode cJ6_bitCount_0f7a4 33 = .ok (.istore_n 0, 1) := by decide +kernel
theorem dJ6_bitCount_0f7a4_34 : decode cJ6_bitCount_0f7a4 34 = .ok (.iload_n 0, 1) := by decide +kernel
theorem dJ6_bitCount_0f7a4_35 : decode cJ6_bitCount_0f7a4 35 = .ok (.iload_n 0, 1) := by decide +kernel
theorem dJ6_bitCount_0f7a4_36 : decode cJ6_bitCount_0f7a4 36 = .ok (.bipush 8, 2) := by decide +kernel
theorem dJ6_bitCount_0f7a4_38 : decode cJ6_bitCount_0f7a4 38 = .ok (.iushr, 1) := by decide +kernel
theorem dJ6_bitCount_0f7a4_39 : decode cJ6_bitCount_0f7a4 39 = .ok (.iadd, 1) := by decide +kernel
theorem dJ6_bitCount_0f7a4_40 : decode cJ6_bitCount_0f7a4 40 = .ok (.istore_n 0, 1) := by decide +kernel
theorem dJ6_bitCount_0f7a4_41 : decode cJ6_bitCount_0f7a4 41 = .ok (.iload_n 0, 1) := by decide +kernel
theorem dJ6_bitCount_0f7a4_42 : decode cJ6_bitCount_0f7a4 42 = .ok (.iload_n 0, 1) := by decide +kernel
theorem dJ6_bitCount_0f7a4_43 : decode cJ6_bitCount_0f7a4 43 = .ok (.bipush 16, 2) := by decide +kernel
theorem dJ6_bitCount_0f7a4_45 : decode cJ6_bitCount_0f7a4 45 = .ok (.iushr, 1) := by decide +kernel
theorem dJ6_bitCount_0f7a4_46 : decode cJ6_bitCount_0f7a4 46 = .ok (.iadd, 1) := by decide +kernel
theorem dJ6_bitCount_0f7a4_47 : decode cJ6_bitCount_0f7a4 47 = .ok (.istore_n 0, 1) := by decide +kernel
theorem dJ6_bitCount_0f7a4_48 : decode cJ6_bitCount_0f7a4 48 = .ok (.iload_n 0, 1) := by decide +kernel
theorem dJ6_bitCount_0f7a4_49 : decode cJ6_bitCount_0f7a4 49 = .ok (.bipush 63, 2) := by decide +kernel
theorem dJ6_bitCount_0f7a4_51 : decode cJ6_bitCount_0f7a4 51 = .ok (.iand, 1) := by decide +kernel
theorem dJ6_bitCount_0f7a4_52 : decode cJ6_bitCount_0f7a4 52 = .ok (.ireturn, 1) := by decide +kernel
theorem dJ9_max_7cf53_0 : decode cJ9_max_7cf53 0 = .ok (.iload_n 0, 1) := by decide +kernel
theorem dJ9_max_7cf53_1 : decode cJ9_max_7cf53 1 = .ok (.iload_n 1, 1) := by decide +kernel
theorem dJ9_max_7cf53_2 : decode cJ9_max_7cf53 2 = .ok (.if_icmp .lt 7, 3) := by decide +kernel
theorem dJ9_max_7cf53_5 : decode cJ9_max_7cf53 5 = .ok (.iload_n 0, 1) := by decide +kernel
theorem dJ9_max_7cf53_6 : decode cJ9_max_7cf53 6 = .ok (.goto 4, 3) := by decide +kernel
theorem dJ9_max_7cf53_9 : decode cJ9_max_7cf53 9 = .ok (.iload_n 1, 1) := by decide +kernel
theorem dJ9_max_7cf53_10 : decode cJ9_max_7cf53 10 = .ok (.ireturn, 1) := by decide +kernel
theorem dJ9_min_7cf53_0 : decode cJ9_min_7cf53 0 = .ok (.iload_n 0, 1) := by decide +kernel
theorem dJ9_min_7cf53_1 : decode cJ9_min_7cf53 1 = .ok (.iload_n 1, 1) := by decide +kernel
theorem dJ9_min_7cf53_2 : decode cJ9_min_7cf53 2 = .ok (.if_icmp .gt 7, 3) := by decide +kernel
theorem dJ9_min_7cf53_5 : decode cJ9_min_7cf53 5 = .ok (.iload_n 0, 1) := by decide +kernel
theorem dJ9_min_7cf53_6 : decode cJ9_min_7cf53 6 = .ok (.goto 4, 3) := by decide +kernel
theorem dJ9_min_7cf53_9 : decode cJ9_min_7cf53 9 = .ok (.iload_n 1, 1) := by decide +kernel
theorem dJ9_min_7cf53_10 : decode cJ9_min_7cf53 10 = .ok (.ireturn, 1) := by decide +kernel
set_option maxRecDepth 20000 in
theorem ggL_addHill_X2_addHill : GoodIn wsL_addHill wsX2_addHill := goodIn_ca (goodIn_ca (goodIn_r _ [7, 8, 9, 10, 11, 12, 13, 6, 14, 15, 16, 17, 18, 19, 20, 21, 22, 23, 24, 25, 26, 27, 28, 29, 30, 31, 32, 33, 34, 35, 36, 37, 38, 39, 40, 41, 42, 43, 44, 45, 46, 47, 48, 49, 50, 51, 52, 53] (by decide +kernel) (by decide +kernel)) (goodIn_sub (fun _ h => List.mem_cons_of_mem _ (List.mem_append_left _ (List.mem_append_right _ h))) (by decide +kernel))) (goodIn_sub (fun _ h => List.mem_cons_of_mem _ (List.mem_append_right _ h)) (by decide +kernel))
set_option maxRecDepth 20000 in
theorem gL_addHill_X2_addHill : GoodIn wsL_addHill (wsV RL 7 RX2 yX2_addHill wsX2_addHill) := goodIn_app (goodIn_of _ (by decide +kernel)) ggL_addHill_X2_addHill
