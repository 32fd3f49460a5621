theorem dX5_newDish_48 : decode cX5_newDish 48 = .ok (.getfield 28, 3) := by decide +kernel
theorem dX5_newDish_51 : decode cX5_newDish 51 = .ok (.iload 5, 2) := by decide +kernel
theorem dX5_newDish_53 : decode cX5_newDish 53 = .ok (.iconst (-1), 1) := by decide +kernel
theorem dX5_newDish_54 : decode cX5_newDish 54 = .ok (.invokestatic 55, 3) := by decide +kernel
theorem dX5_newDish_57 : decode cX5_newDish 57 = .ok (.aload_n 0, 1) := by decide +kernel
theorem dX5_newDish_58 : decode cX5_newDish 58 = .ok (.getfield 31, 3) := by decide +kernel
theorem dX5_newDish_61 : decode cX5_newDish 61 = .ok (.iload 5, 2) := by decide +kernel
theorem dX5_newDish_63 : decode cX5_newDish 63 = .ok (.iconst 0, 1) := by decide +kernel
theorem dX5_newDish_64 : decode cX5_newDish 64 = .ok (.invokestatic 55, 3) := by decide +kernel
theorem dX5_newDish_67 : decode cX5_newDish 67 = .ok (.aload_n 0, 1) := by decide +kernel
theorem dX5_newDish_68 : decode cX5_newDish 68 = .ok (.dup, 1) := by decide +kernel
theorem dX5_newDish_69 : decode cX5_newDish 69 = .ok (.getfield 9, 3) := by decide +kernel
theorem dX5_newDish_72 : decode cX5_newDish 72 = .ok (.iconst 1, 1) := by decide +kernel
theorem dX5_newDish_73 : decode cX5_newDish 73 = .ok (.iadd, 1) := by decide +kernel
theorem dX5_newDish_74 : decode cX5_newDish 74 = .ok (.putfield 9, 3) := by decide +kernel
theorem dX5_newDish_77 : decode cX5_newDish 77 = .ok (.iload 5, 2) := by decide +kernel
theorem dX5_newDish_79 : decode cX5_newDish 79 = .ok (.ireturn, 1) := by decide +kernel
set_option maxRecDepth 20000 in
theorem ggX5_newGuest_X6_put : GoodIn wsX5_newGuest wsX6_put := goodIn_r _ [6] (by decide +kernel) (by decide +kernel)
set_option maxRecDepth 20000 in
theorem gX5_newGuest_X6_put_n55 : GoodIn wsX5_newGuest (wsX6_put) := ggX5_newGuest_X6_put
theorem dX5_newGuest_0 : decode cX5_newGuest 0 = .ok (.aload_n 0, 1) := by decide +kernel
theorem dX5_newGuest_1 : decode cX5_newGuest 1 = .ok (.getfield 34, 3) := by decide +kernel
theorem dX5_newGuest_4 : decode cX5_newGuest 4 = .ok (.istore_n 1, 1) := by decide +kernel
theorem dX5_newGuest_5 : decode cX5_newGuest 5 = .ok (.aload_n 0, 1) := by decide +kernel
theorem dX5_newGuest_6 : decode cX5_newGuest 6 = .ok (.getfield 37, 3) := by decide +kernel
theorem dX5_newGuest_9 : decode cX5_newGuest 9 = .ok (.iload_n 1, 1) := by decide +kernel
theorem dX5_newGuest_10 : decode cX5_newGuest 10 = .ok (.bipush 127, 2) := by decide +kernel
theorem dX5_newGuest_12 : decode cX5_newGuest 12 = .ok (.invokestatic 55, 3) := by decide +kernel
theorem dX5_newGuest_15 : decode cX5_newGuest 15 = .ok (.aload_n 0, 1) := by decide +kernel
theorem dX5_newGuest_16 : decode cX5_newGuest 16 = .ok (.getfield 40, 3) := by decide +kernel
theorem dX5_newGuest_19 : decode cX5_newGuest 19 = .ok (.iload_n 1, 1) := by decide +kernel
theorem dX5_newGuest_20 : decode cX5_newGuest 20 = .ok (.iconst 0, 1) := by decide +kernel
theorem dX5_newGuest_21 : decode cX5_newGuest 21 = .ok (.invokestatic 55, 3) := by decide +kernel
theorem dX5_newGuest_24 : decode cX5_newGuest 24 = .ok (.aload_n 0, 1) := by decide +kernel
theorem dX5_newGuest_25 : decode cX5_newGuest 25 = .ok (.dup, 1) := by decide +kernel
theorem dX5_newGuest_26 : decode cX5_newGuest 26 = .ok (.getfield 34, 3) := by decide +kernel
theorem dX5_newGuest_29 : decode cX5_newGuest 29 = .ok (.iconst 1, 1) := by decide +kernel
theorem dX5_newGuest_30 : decode cX5_newGuest 30 = .ok (.iadd, 1) := by decide +kernel
theorem dX5_newGuest_31 : decode cX5_newGuest 31 = .ok (.putfield 34, 3) := by decide +kernel
theorem dX5_newGuest_34 : decode cX5_newGuest 34 = .ok (.iload_n 1, 1) := by decide +kernel
theorem dX5_newGuest_35 : decode cX5_newGuest 35 = .ok (.ireturn, 1) := by decide +kernel
theorem dX5_hasDish_0 : decode cX5_hasDish 0 = .ok (.iload_n 1, 1) := by decide +kernel
theorem dX5_hasDish_1 : decode cX5_hasDish 1 = .ok (.ifCond .lt 15, 3) := by decide +kernel
theorem dX5_hasDish_4 : decode cX5_hasDish 4 = .ok (.iload_n 1, 1) := by decide +kernel
theorem dX5_hasDish_5 : decode cX5_hasDish 5 = .ok (.aload_n 0, 1) := by decide +kernel
theorem dX5_hasDish_6 : decode cX5_hasDish 6 = .ok (.getfield 9, 3) := by decide +kernel
theorem dX5_hasDish_9 : decode cX5_hasDish 9 = .ok (.if_icmp .ge 7, 3) := by decide +kernel
theorem dX5_hasDish_12 : decode cX5_hasDish 12 = .ok (.iconst 1, 1) := by decide +kernel
theorem dX5_hasDish_13 : decode cX5_hasDish 13 = .ok (.goto 4, 3) := by decide +kernel
theorem dX5_hasDish_16 : decode cX5_hasDish 16 = .ok (.iconst 0, 1) := by decide +kernel
theorem dX5_hasDish_17 : decode cX5_hasDish 17 = .ok (.ireturn, 1) := by decide +kernel
theorem dX5_hasGuest_0 : decode cX5_hasGuest 0 = .ok (.iload_n 1, 1) := by decide +kernel
theorem dX5_hasGuest_1 : decode cX5_hasGuest 1 = .ok (.ifCond .lt 15, 3) := by decide +kernel
theorem dX5_hasGuest_4 : decode cX5_hasGuest 4 = .ok (.iload_n 1, 1) := by decide +kernel
theorem dX5_hasGuest_5 : decode cX5_hasGuest 5 = .ok (.aload_n 0, 1) := by decide +kernel
theorem dX5_hasGuest_6 : decode cX5_hasGuest 6 = .ok (.getfield 34, 3) := by decide +kernel
theorem dX5_hasGuest_9 : decode cX5_hasGuest 9 = .ok (.if_icmp .ge 7, 3) := by decide +kernel
theorem dX5_hasGuest_12 : decode cX5_hasGuest 12 = .ok (.iconst 1, 1) := by decide +kernel
theorem dX5_hasGuest_13 : decode cX5_hasGuest 13 = .ok (.goto 4, 3) := by decide +kernel
theorem dX5_hasGuest_16 : decode cX5_hasGuest 16 = .ok (.iconst 0, 1) := by decide +kernel
theorem dX5_hasGuest_17 : decode cX5_hasGuest 17 = .ok (.ireturn, 1) := by decide +kernel
set_option maxRecDepth 20000 in
theorem ggX5_isLeftover_X6_at : GoodIn wsX5_isLeftover wsX6_at := goodIn_r _ [5] (by decide +kernel) (by decide +kernel)
set_option maxRecDepth 20000 in
theorem gX5_isLeftover_X6_at_n63 : GoodIn wsX5_isLeftover (wsX6_at) := ggX5_isLeftover_X6_at
theorem dX5_isLeftover_0 : decode cX5_isLeftover 0 = .ok (.iconst 0, 1) := by decide +kernel
theorem dX5_isLeftover_1 : decode cX5_isLeftover 1 = .ok (.istore_n 2, 1) := by decide +kernel
theorem dX5_isLeftover_2 : decode cX5_isLeftover 2 = .ok (.iload_n 2, 1) := by decide +kernel
theorem dX5_isLeftover_3 : decode cX5_isLeftover 3 = .ok (.aload_n 0, 1) := by decide +kernel
theorem dX5_isLeftover_4 : decode cX5_isLeftover 4 = .ok (.getfield 9, 3) := by decide +kernel
theorem dX5_isLeftover_7 : decode cX5_isLeftover 7 = .ok (.if_icmp .ge 23, 3) := by decide +kernel
theorem dX5_isLeftover_10 : decode cX5_isLeftover 10 = .ok (.aload_n 0, 1) := by decide +kernel
theorem dX5_isLeftover_11 : decode cX5_isLeftover 11 = .ok (.getfield 28, 3) := by decide +kernel
theorem dX5_isLeftover_14 : decode cX5_isLeftover 14 = .ok (.iload_n 2, 1) := by decide +kernel
theorem dX5_isLeftover_15 : decode cX5_isLeftover 15 = .ok (.invokestatic 63, 3) := by decide +kernel
theorem dX5_isLeftover_18 : decode cX5_isLeftover 18 = .ok (.iload_n 1, 1) := by decide +kernel
theorem dX5_isLeftover_19 : decode cX5_isLeftover 19 = .ok (.if_icmp .ne 5, 3) := by decide +kernel
theorem dX5_isLeftover_22 : decode cX5_isLeftover 22 = .ok (.iconst 1, 1) := by decide +kernel
theorem dX5_isLeftover_23 : decode cX5_isLeftover 23 = .ok (.ireturn, 1) := by decide +kernel
theorem dX5_isLeftover_24 : decode cX5_isLeftover 24 = .ok (.iinc 2 1, 3) := by decide +kernel
theorem dX5_isLeftover_27 : decode cX5_isLeftover 27 = .ok (.goto (-25), 3) := by decide +kernel
theorem dX5_isLeftover_30 : decode cX5_isLeftover 30 = .ok (.iconst 0, 1) := by decide +kernel
theorem dX5_isLeftover_31 : decode cX5_isLeftover 31 = .ok (.ireturn, 1) := by decide +kernel
set_option maxRecDepth 20000 in
theorem ggX5_timesPlanned_X6_at : GoodIn wsX5_timesPlanned wsX6_at := goodIn_r _ [4] (by decide +kernel) (by decide +kernel)
set_option maxRecDepth 20000 in
theorem gX5_timesPlanned_X6_at_n63 : GoodIn wsX5_timesPlanned (wsX6_at) := ggX5_timesPlanned_X6_at
theorem dX5_timesPlanned_0 : decode cX5_timesPlanned 0 = .ok (.iconst 0, 1) := by decide +kernel
theorem dX5_timesPlanned_1 : decode cX5_timesPlanned 1 = .ok (.istore_n 2, 1) := by decide +kernel
theorem dX5_timesPlanned_2 : decode cX5_timesPlanned 2 = .ok (.iconst 0, 1) := by decide +kernel
theorem dX5_timesPlanned_3 : decode cX5_timesPlanned 3 = .ok (.istore_n 3, 1) := by decide +kernel
theorem dX5_timesPlanned_4 : decode cX5_timesPlanned 4 = .ok (.iload_n 3, 1) := by decide +kernel
theorem dX5_timesPlanned_5 : decode cX5_timesPlanned 5 = .ok (.bipush 84, 2) := by decide +kernel
theorem dX5_timesPlanned_7 : decode cX5_timesPlanned 7 = .ok (.if_icmp .ge 24, 3) := by decide +kernel
theorem dX5_timesPlanned_10 : decode cX5_timesPlanned 10 = .ok (.aload_n 0, 1) := by decide +kernel
theorem dX5_timesPlanned_11 : decode cX5_timesPlanned 11 = .ok (.getfield 46, 3) := by decide +kernel
theorem dX5_timesPlanned_14 : decode cX5_timesPlanned 14 = .ok (.iload_n 3, 1) := by decide +kernel
theorem dX5_timesPlanned_15 : decode cX5_timesPlanned 15 = .ok (.invokestatic 63, 3) := by decide +kernel
theorem dX5_timesPlanned_18 : decode cX5_timesPlanned 18 = .ok (.iload_n 1, 1) := by decide +kernel
theorem dX5_timesPlanned_19 : decode cX5_timesPlanned 19 = .ok (.if_icmp .ne 6, 3) := by decide +kernel
theorem dX5_timesPlanned_22 : decode cX5_timesPlanned 22 = .ok (.iinc 2 1, 3) := by decide +kernel
theorem dX5_timesPlanned_25 : decode cX5_timesPlanned 25 = .ok (.iinc 3 1, 3) := by decide +kernel
theorem dX5_timesPlanned_28 : decode cX5_timesPlanned 28 = .ok (.goto (-24), 3) := by decide +kernel
theorem dX5_timesPlanned_31 : decode cX5_timesPlanned 31 = .ok (.iload_n 2, 1) := by decide +kernel
theorem dX5_timesPlanned_32 : decode cX5_timesPlanned 32 = .ok (.ireturn, 1) := by decide +kernel
set_option maxRecDepth 20000 in
theorem ggX5_planCount_X5_timesPlanned : GoodIn wsX5_planCount wsX5_timesPlanned := goodIn_r _ [5, 6, 7, 8, 9, 10, 11, 12, 13, 14, 15, 16, 17, 18, 19, 20, 21] (by decide +kernel) (by decide +kernel)
set_option maxRecDepth 20000 in
theorem gX5_planCount_X5_timesPlanned : GoodIn wsX5_planCount (wsV RX5 67 RX5 yX5_timesPlanned wsX5_timesPlanned) := goodIn_app (goodIn_of _ (by decide +kernel)) ggX5_planCount_X5_timesPlanned
theorem dX5_planCount_0 : decode cX5_planCount 0 = .ok (.bipush 84, 2) := by decide +kernel
theorem dX5_planCount_2 : decode cX5_planCount 2 = .ok (.aload_n 0, 1) := by decide +kernel
theorem dX5_planCount_3 : decode cX5_planCount 3 = .ok (.iconst (-1), 1) := by decide +kernel
theorem dX5_planCount_4 : decode cX5_planCount 4 = .ok (.invokevirtual 67, 3) := by decide +kernel
theorem dX5_planCount_7 : decode cX5_planCount 7 = .ok (.isub, 1) := by decide +kernel
theorem dX5_planCount_8 : decode cX5_planCount 8 = .ok (.ireturn, 1) := by decide +kernel
set_option maxRecDepth 20000 in
theorem ggX5_planCost_X5_weekCost : GoodIn wsX5_planCost wsX5_weekCost := goodIn_r _ [5, 6, 7, 8, 4, 9, 10, 11, 12, 13, 14, 15, 16, 17, 18, 19, 20, 21, 22, 23, 24, 25, 26, 27, 28] (by decide +kernel) (by decide +kernel)
set_option maxRecDepth 20000 in
theorem gX5_planCost_X5_weekCost : GoodIn wsX5_planCost (wsV RX5 71 RX5 yX5_weekCost wsX5_weekCost) := goodIn_app (goodIn_of _ (by decide +kernel)) ggX5_planCost_X5_weekCost
theorem dX5_planCost_0 : decode cX5_planCost 0 = .ok (.iconst 0, 1) := by decide +kernel
theorem dX5_planCost_1 : decode cX5_planCost 1 = .ok (.istore_n 1, 1) := by decide +kernel
theorem dX5_planCost_2 : decode cX5_planCost 2 = .ok (.iconst 0, 1) := by decide +kernel
theorem dX5_planCost_3 : decode cX5_planCost 3 = .ok (.istore_n 2, 1) := by decide +kernel
theorem dX5_planCost_4 : decode cX5_planCost 4 = .ok (.iload_n 2, 1) := by decide +kernel
theorem dX5_planCost_5 : decode cX5_planCost 5 = .ok (.iconst 4, 1) := by decide +kernel
theorem dX5_planCost_6 : decode cX5_planCost 6 = .ok (.if_icmp .ge 17, 3) := by decide +kernel
theorem dX5_planCost_9 : decode cX5_planCost 9 = .ok (.iload_n 1, 1) := by decide +kernel
theorem dX5_planCost_10 : decode cX5_planCost 10 = .ok (.aload_n 0, 1) := by decide +kernel
theorem dX5_planCost_11 : decode cX5_planCost 11 = .ok (.iload_n 2, 1) := by decide +kernel
theorem dX5_planCost_12 : decode cX5_planCost 12 = .ok (.invokevirtual 71, 3) := by decide +kernel
theorem dX5_planCost_15 : decode cX5_planCost 15 = .ok (.iadd, 1) := by decide +kernel
theorem dX5_planCost_16 : decode cX5_planCost 16 = .ok (.istore_n 1, 1) := by decide +kernel
theorem dX5_planCost_17 : decode cX5_planCost 17 = .ok (.iinc 2 1, 3) := by decide +kernel
theorem dX5_planCost_20 : decode cX5_planCost 20 = .ok (.goto (-16), 3) := by decide +kernel
theorem dX5_planCost_23 : decode cX5_planCost 23 = .ok (.iload_n 1, 1) := by decide +kernel
theorem dX5_planCost_24 : decode cX5_planCost 24 = .ok (.ireturn, 1) := by decide +kernel
set_option maxRecDepth 20000 in
theorem ggX5_weekCost_X5_mealCost : GoodIn wsX5_weekCost wsX5_mealCost := goodIn_r _ [5, 6, 7, 8, 9, 10, 11, 12, 13, 14, 15, 16, 17, 18, 19, 20, 21, 22, 23, 24] (by decide +kernel) (by decide +kernel)
set_option maxRecDepth 20000 in
theorem gX5_weekCost_X5_mealCost : GoodIn wsX5_weekCost (wsV RX5 74 RX5 yX5_mealCost wsX5_mealCost) := goodIn_app (goodIn_of _ (by decide +kernel)) ggX5_weekCost_X5_mealCost
theorem dX5_weekCost_0 : decode cX5_weekCost 0 = .ok (.iconst 0, 1) := by decide +kernel
theorem dX5_weekCost_1 : decode cX5_weekCost 1 = .ok (.istore_n 2, 1) := by decide +kernel
theorem dX5_weekCost_2 : decode cX5_weekCost 2 = .ok (.iload_n 1, 1) := by decide +kernel
theorem dX5_weekCost_3 : decode cX5_weekCost 3 = .ok (.bipush 7, 2) := by decide +kernel
theorem dX5_weekCost_5 : decode cX5_weekCost 5 = .ok (.imul, 1) := by decide +kernel
theorem dX5_weekCost_6 : decode cX5_weekCost 6 = .ok (.istore_n 3, 1) := by decide +kernel
theorem dX5_weekCost_7 : decode cX5_weekCost 7 = .ok (.iload_n 3, 1) := by decide +kernel
theorem dX5_weekCost_8 : decode cX5_weekCost 8 = .ok (.istore 4, 2) := by decide +kernel
theorem dX5_weekCost_10 : decode cX5_weekCost 10 = .ok (.iload 4, 2) := by decide +kernel
theorem dX5_weekCost_12 : decode cX5_weekCost 12 = .ok (.iload_n 3, 1) := by decide +kernel
theorem dX5_weekCost_13 : decode cX5_weekCost 13 = .ok (.bipush 7, 2) := by decide +kernel
theorem dX5_weekCost_15 : decode cX5_weekCost 15 = .ok (.iadd, 1) := by decide +kernel
theorem dX5_weekCost_16 : decode cX5_weekCost 16 = .ok (.if_icmp .ge 18, 3) := by decide +kernel
theorem dX5_weekCost_19 : decode cX5_weekCost 19 = .ok (.iload_n 2, 1) := by decide +kernel
theorem dX5_weekCost_20 : decode cX5_weekCost 20 = .ok (.aload_n 0, 1) := by decide +kernel
theorem dX5_weekCost_21 : decode cX5_weekCost 21 = .ok (.iload 4, 2) := by decide +kernel
theorem dX5_weekCost_23 : decode cX5_weekCost 23 = .ok (.invokevirtual 74, 3) := by decide +kernel
theorem dX5_weekCost_26 : decode cX5_weekCost 26 = .ok (.iadd, 1) := by decide +kernel
theorem dX5_weekCost_27 : decode cX5_weekCost 27 = .ok (.istore_n 2, 1) := by decide +kernel
theorem dX5_weekCost_28 : decode cX5_weekCost 28 = .ok (.iinc 4 1, 3) := by decide +kernel
theorem dX5_weekCost_31 : decode cX5_weekCost 31 = .ok (.goto (-21), 3) := by decide +kernel
theorem dX5_weekCost_34 : decode cX5_weekCost 34 = .ok (.iload_n 2, 1) := by decide +kernel
theorem dX5_weekCost_35 : decode cX5_weekCost 35 = .ok (.ireturn, 1) := by decide +kernel
set_option maxRecDepth 20000 in
theorem ggX5_isAboveBudget_X5_weekCost : GoodIn wsX5_isAboveBudget wsX5_weekCost := goodIn_r _ [6, 7, 8, 9, 5, 10, 11, 12, 13, 14, 15, 16, 17, 18, 19, 20, 21, 22, 23, 24, 25, 26, 27, 28, 29] (by decide +kernel) (by decide +kernel)
set_option maxRecDepth 20000 in
theorem gX5_isAboveBudget_X5_weekCost : GoodIn wsX5_isAboveBudget (wsV RX5 71 RX5 yX5_weekCost wsX5_weekCost) := goodIn_app (goodIn_of _ (by decide +kernel)) ggX5_isAboveBudget_X5_weekCost
set_option maxRecDepth 20000 in
theorem ggX5_isAboveBudget_X6_at : GoodIn wsX5_isAboveBudget wsX6_at := goodIn_r _ [17] (by decide +kernel) (by decide +kernel)
set_option maxRecDepth 20000 in
theorem gX5_isAboveBudget_X6_at_n63 : GoodIn wsX5_isAboveBudget (wsX6_at) := ggX5_isAboveBudget_X6_at
theorem dX5_isAboveBudget_0 : decode cX5_isAboveBudget 0 = .ok (.iconst 0, 1) := by decide +kernel
theorem dX5_isAboveBudget_1 : decode cX5_isAboveBudget 1 = .ok (.istore_n 1, 1) := by decide +kernel
theorem dX5_isAboveBudget_2 : decode cX5_isAboveBudget 2 = .ok (.iload_n 1, 1) := by decide +kernel
theorem dX5_isAboveBudget_3 : decode cX5_isAboveBudget 3 = .ok (.iconst 4, 1) := by decide +kernel
theorem dX5_isAboveBudget_4 : decode cX5_isAboveBudget 4 = .ok (.if_icmp .ge 27, 3) := by decide +kernel
theorem dX5_isAboveBudget_7 : decode cX5_isAboveBudget 7 = .ok (.aload_n 0, 1) := by decide +kernel
theorem dX5_isAboveBudget_8 : decode cX5_isAboveBudget 8 = .ok (.iload_n 1, 1) := by decide +kernel
theorem dX5_isAboveBudget_9 : decode cX5_isAboveBudget 9 = .ok (.invokevirtual 71, 3) := by decide +kernel
theorem dX5_isAboveBudget_12 : decode cX5_isAboveBudget 12 = .ok (.aload_n 0, 1) := by decide +kernel
theorem dX5_isAboveBudget_13 : decode cX5_isAboveBudget 13 = .ok (.getfield 43, 3) := by decide +kernel
theorem dX5_isAboveBudget_16 : decode cX5_isAboveBudget 16 = .ok (.iconst 2, 1) := by decide +kernel
theorem dX5_isAboveBudget_17 : decode cX5_isAboveBudget 17 = .ok (.invokestatic 63, 3) := by decide +kernel
theorem dX5_isAboveBudget_20 : decode cX5_isAboveBudget 20 = .ok (.if_icmp .le 5, 3) := by decide +kernel
theorem dX5_isAboveBudget_23 : decode cX5_isAboveBudget 23 = .ok (.iconst 1, 1) := by decide +kernel
theorem dX5_isAboveBudget_24 : decode cX5_isAboveBudget 24 = .ok (.ireturn, 1) := by decide +kernel
theorem dX5_isAboveBudget_25 : decode cX5_isAboveBudget 25 = .ok (.iinc 1 1, 3) := by decide +kernel
theorem dX5_isAboveBudget_28 : decode cX5_isAboveBudget 28 = .ok (.goto (-26), 3) := by decide +kernel
theorem dX5_isAboveBudget_31 : decode cX5_isAboveBudget 31 = .ok (.iconst 0, 1) := by decide +kernel
theorem dX5_isAboveBudget_32 : decode cX5_isAboveBudget 32 = .ok (.ireturn, 1) := by decide +kernel
set_option maxRecDepth 20000 in
theorem ggX5_mealCount_X6_cellOf : GoodIn wsX5_mealCount wsX6_cellOf := goodIn_r _ [4] (by decide +kernel) (by decide +kernel)
set_option maxRecDepth 20000 in
theorem gX5_mealCount_X6_cellOf_n77 : GoodIn wsX5_mealCount (wsX6_cellOf) := ggX5_mealCount_X6_cellOf
set_option maxRecDepth 20000 in
theorem ggX5_mealCount_X6_at : GoodIn wsX5_mealCount wsX6_at := goodIn_r _ [6] (by decide +kernel) (by decide +kernel)
set_option maxRecDepth 20000 in
theorem gX5_mealCount_X6_at_n63 : GoodIn wsX5_mealCount (wsX6_at) := ggX5_mealCount_X6_at
theorem dX5_mealCount_0 : decode cX5_mealCount 0 = .ok (.iconst 0, 1) := by decide +kernel
theorem dX5_mealCount_1 : decode cX5_mealCount 1 = .ok (.istore_n 2, 1) := by decide +kernel
theorem dX5_mealCount_2 : decode cX5_mealCount 2 = .ok (.iconst 0, 1) := by decide +kernel
theorem dX5_mealCount_3 : decode cX5_mealCount 3 = .ok (.istore_n 3, 1) := by decide +kernel
theorem dX5_mealCount_4 : decode cX5_mealCount 4 = .ok (.iload_n 3, 1) := by decide +kernel
theorem dX5_mealCount_5 : decode cX5_mealCount 5 = .ok (.iconst 3, 1) := by decide +kernel
theorem dX5_mealCount_6 : decode cX5_mealCount 6 = .ok (.if_icmp .ge 28, 3) := by decide +kernel
theorem dX5_mealCount_9 : decode cX5_mealCount 9 = .ok (.aload_n 0, 1) := by decide +kernel
theorem dX5_mealCount_10 : decode cX5_mealCount 10 = .ok (.getfield 46, 3) := by decide +kernel
theorem dX5_mealCount_13 : decode cX5_mealCount 13 = .ok (.iload_n 1, 1) := by decide +kernel
theorem dX5_mealCount_14 : decode cX5_mealCount 14 = .ok (.iload_n 3, 1) := by decide +kernel
theorem dX5_mealCount_15 : decode cX5_mealCount 15 = .ok (.invokestatic 77, 3) := by decide +kernel
theorem dX5_mealCount_18 : decode cX5_mealCount 18 = .ok (.invokestatic 63, 3) := by decide +kernel
theorem dX5_mealCount_21 : decode cX5_mealCount 21 = .ok (.iconst (-1), 1) := by decide +kernel
theorem dX5_mealCount_22 : decode cX5_mealCount 22 = .ok (.if_icmp .eq 6, 3) := by decide +kernel
theorem dX5_mealCount_25 : decode cX5_mealCount 25 = .ok (.iinc 2 1, 3) := by decide +kernel
theorem dX5_mealCount_28 : decode cX5_mealCount 28 = .ok (.iinc 3 1, 3) := by decide +kernel
theorem dX5_mealCount_31 : decode cX5_mealCount 31 = .ok (.goto (-27), 3) := by decide +kernel
theorem dX5_mealCount_34 : decode cX5_mealCount 34 = .ok (.iload_n 2, 1) := by decide +kernel
theorem dX5_mealCount_35 : decode cX5_mealCount 35 = .ok (.ireturn, 1) := by decide +kernel
set_option maxRecDepth 20000 in
theorem ggX5_mealCost_X6_cellOf : GoodIn wsX5_mealCost wsX6_cellOf := goodIn_r _ [5] (by decide +kernel) (by decide +kernel)
set_option maxRecDepth 20000 in
theorem gX5_mealCost_X6_cellOf_n77 : GoodIn wsX5_mealCost (wsX6_cellOf) := ggX5_mealCost_X6_cellOf
set_option maxRecDepth 20000 in
theorem ggX5_mealCost_X6_at : GoodIn wsX5_mealCost wsX6_at := goodIn_r _ [7] (by decide +kernel) (by decide +kernel)
set_option maxRecDepth 20000 in
theorem gX5_mealCost_X6_at_n63 : GoodIn wsX5_mealCost (wsX6_at) := ggX5_mealCost_X6_at
theorem dX5_mealCost_0 : decode cX5_mealCost 0 = .ok (.iconst 0, 1) := by decide +kernel
theorem dX5_mealCost_1 : decode cX5_mealCost 1 = .ok (.istore_n 2, 1) := by decide +kernel
theorem dX5_mealCost_2 : decode cX5_mealCost 2 = .ok (.iconst 0, 1) := by decide +kernel
theorem dX5_mealCost_3 : decode cX5_mealCost 3 = .ok (.istore_n 3, 1) := by decide +kernel
theorem dX5_mealCost_4 : decode cX5_mealCost 4 = .ok (.iload_n 3, 1) := by decide +kernel
theorem dX5_mealCost_5 : decode cX5_mealCost 5 = .ok (.iconst 3, 1) := by decide +kernel
theorem dX5_mealCost_6 : decode cX5_mealCost 6 = .ok (.if_icmp .ge 41, 3) := by decide +kernel
theorem dX5_mealCost_9 : decode cX5_mealCost 9 = .ok (.aload_n 0, 1) := by decide +kernel
theorem dX5_mealCost_10 : decode cX5_mealCost 10 = .ok (.getfield 46, 3) := by decide +kernel
theorem dX5_mealCost_13 : decode cX5_mealCost 13 = .ok (.iload_n 1, 1) := by decide +kernel
theorem dX5_mealCost_14 : decode cX5_mealCost 14 = .ok (.iload_n 3, 1) := by decide +kernel
theorem dX5_mealCost_15 : decode cX5_mealCost 15 = .ok (.invokestatic 77, 3) := by decide +kernel
theorem dX5_mealCost_18 : decode cX5_mealCost 18 = .ok (.invokestatic 63, 3) := by decide +kernel
theorem dX5_mealCost_21 : decode cX5_mealCost 21 = .ok (.istore 4, 2) := by decide +kernel
theorem dX5_mealCost_23 : decode cX5_mealCost 23 = .ok (.iload 4, 2) := by decide +kernel
theorem dX5_mealCost_25 : decode cX5_mealCost 25 = .ok (.iconst (-1), 1) := by decide +kernel
theorem dX5_mealCost_26 : decode cX5_mealCost 26 = .ok (.if_icmp .eq 15, 3) := by decide +kernel
theorem dX5_mealCost_29 : decode cX5_mealCost 29 = .ok (.iload_n 2, 1) := by decide +kernel
theorem dX5_mealCost_30 : decode cX5_mealCost 30 = .ok (.aload_n 0, 1) := by decide +kernel
theorem dX5_mealCost_31 : decode cX5_mealCost 31 = .ok (.getfield 19, 3) := by decide +kernel
theorem dX5_mealCost_34 : decode cX5_mealCost 34 = .ok (.iload 4, 2) := by decide +kernel
theorem dX5_mealCost_36 : decode cX5_mealCost 36 = .ok (.invokestatic 63, 3) := by decide +kernel
theorem dX5_mealCost_39 : decode cX5_mealCost 39 = .ok (.iadd, 1) := by decide +kernel
theorem dX5_mealCost_40 : decode cX5_mealCost 40 = .ok (.istore_n 2, 1) := by decide +kernel
theorem dX5_mealCost_41 : decode cX5_mealCost 41 = .ok (.iinc 3 1, 3) := by decide +kernel
theorem dX5_mealCost_44 : decode cX5_mealCost 44 = .ok (.goto (-40), 3) := by decide +kernel
theorem dX5_mealCost_47 : decode cX5_mealCost 47 = .ok (.iload_n 2, 1) := by decide +kernel
theorem dX5_mealCost_48 : decode cX5_mealCost 48 = .ok (.ireturn, 1) := by decide +kernel
set_option maxRecDepth 20000 in
theorem ggX5_wholeMeals_X5_mealCount : GoodIn wsX5_wholeMeals wsX5_mealCount := goodIn_r _ [5, 6, 7, 8, 9, 10, 11, 12, 13, 14, 15, 16, 17, 18, 19, 20, 21, 22, 23] (by decide +kernel) (by decide +kernel)
set_option maxRecDepth 20000 in
theorem gX5_wholeMeals_X5_mealCount : GoodIn wsX5_wholeMeals (wsV RX5 81 RX5 yX5_mealCount wsX5_mealCount) := goodIn_app (goodIn_of _ (by decide +kernel)) ggX5_wholeMeals_X5_mealCount
theorem dX5_wholeMeals_0 : decode cX5_wholeMeals 0 = .ok (.iconst 0, 1) := by decide +kernel
theorem dX5_wholeMeals_1 : decode cX5_wholeMeals 1 = .ok (.istore_n 1, 1) := by decide +kernel
theorem dX5_wholeMeals_2 : decode cX5_wholeMeals 2 = .ok (.iconst 0, 1) := by decide +kernel
theorem dX5_wholeMeals_3 : decode cX5_wholeMeals 3 = .ok (.istore_n 2, 1) := by decide +kernel
theorem dX5_wholeMeals_4 : decode cX5_wholeMeals 4 = .ok (.iload_n 2, 1) := by decide +kernel
theorem dX5_wholeMeals_5 : decode cX5_wholeMeals 5 = .ok (.bipush 28, 2) := by decide +kernel
theorem dX5_wholeMeals_7 : decode cX5_wholeMeals 7 = .ok (.if_icmp .ge 21, 3) := by decide +kernel
theorem dX5_wholeMeals_10 : decode cX5_wholeMeals 10 = .ok (.aload_n 0, 1) := by decide +kernel
theorem dX5_wholeMeals_11 : decode cX5_wholeMeals 11 = .ok (.iload_n 2, 1) := by decide +kernel
theorem dX5_wholeMeals_12 : decode cX5_wholeMeals 12 = .ok (.invokevirtual 81, 3) := by decide +kernel
theorem dX5_wholeMeals_15 : decode cX5_wholeMeals 15 = .ok (.iconst 3, 1) := by decide +kernel
theorem dX5_wholeMeals_16 : decode cX5_wholeMeals 16 = .ok (.if_icmp .ne 6, 3) := by decide +kernel
theorem dX5_wholeMeals_19 : decode cX5_wholeMeals 19 = .ok (.iinc 1 1, 3) := by decide +kernel
theorem dX5_wholeMeals_22 : decode cX5_wholeMeals 22 = .ok (.iinc 2 1, 3) := by decide +kernel
theorem dX5_wholeMeals_25 : decode cX5_wholeMeals 25 = .ok (.goto (-21), 3) := by decide +kernel
theorem dX5_wholeMeals_28 : decode cX5_wholeMeals 28 = .ok (.iload_n 1, 1) := by decide +kernel
theorem dX5_wholeMeals_29 : decode cX5_wholeMeals 29 = .ok (.ireturn, 1) := by decide +kernel
set_option maxRecDepth 20000 in
theorem ggX5_sourceCount_X6_at : GoodIn wsX5_sourceCount wsX6_at := goodIn_r _ [5] (by decide +kernel) (by decide +kernel)
set_option maxRecDepth 20000 in
theorem gX5_sourceCount_X6_at_n63 : GoodIn wsX5_sourceCount (wsX6_at) := ggX5_sourceCount_X6_at
theorem dX5_sourceCount_0 : decode cX5_sourceCount 0 = .ok (.iconst 0, 1) := by decide +kernel
theorem dX5_sourceCount_1 : decode cX5_sourceCount 1 = .ok (.istore_n 1, 1) := by decide +kernel
theorem dX5_sourceCount_2 : decode cX5_sourceCount 2 = .ok (.iconst 0, 1) := by decide +kernel
theorem dX5_sourceCount_3 : decode cX5_sourceCount 3 = .ok (.istore_n 2, 1) := by decide +kernel
theorem dX5_sourceCount_4 : decode cX5_sourceCount 4 = .ok (.iload_n 2, 1) := by decide +kernel
theorem dX5_sourceCount_5 : decode cX5_sourceCount 5 = .ok (.bipush 84, 2) := by decide +kernel
theorem dX5_sourceCount_7 : decode cX5_sourceCount 7 = .ok (.if_icmp .ge 31, 3) := by decide +kernel
theorem dX5_sourceCount_10 : decode cX5_sourceCount 10 = .ok (.aload_n 0, 1) := by decide +kernel
theorem dX5_sourceCount_11 : decode cX5_sourceCount 11 = .ok (.getfield 28, 3) := by decide +kernel
theorem dX5_sourceCount_14 : decode cX5_sourceCount 14 = .ok (.aload_n 0, 1) := by decide +kernel
theorem dX5_sourceCount_15 : decode cX5_sourceCount 15 = .ok (.getfield 46, 3) := by decide +kernel
theorem dX5_sourceCount_18 : decode cX5_sourceCount 18 = .ok (.iload_n 2, 1) := by decide +kernel
theorem dX5_sourceCount_19 : decode cX5_sourceCount 19 = .ok (.invokestatic 63, 3) := by decide +kernel
theorem dX5_sourceCount_22 : decode cX5_sourceCount 22 = .ok (.invokestatic 63, 3) := by decide +kernel
theorem dX5_sourceCount_25 : decode cX5_sourceCount 25 = .ok (.iconst (-1), 1) := by decide +kernel
theorem dX5_sourceCount_26 : decode cX5_sourceCount 26 = .ok (.if_icmp .eq 6, 3) := by decide +kernel
theorem dX5_sourceCount_29 : decode cX5_sourceCount 29 = .ok (.iinc 1 1, 3) := by decide +kernel
theorem dX5_sourceCount_32 : decode cX5_sourceCount 32 = .ok (.iinc 2 1, 3) := by decide +kernel
theorem dX5_sourceCount_35 : decode cX5_sourceCount 35 = .ok (.goto (-31), 3) := by decide +kernel
theorem dX5_sourceCount_38 : decode cX5_sourceCount 38 = .ok (.iload_n 1, 1) := by decide +kernel
theorem dX5_sourceCount_39 : decode cX5_sourceCount 39 = .ok (.ireturn, 1) := by decide +kernel
set_option maxRecDepth 20000 in
theorem ggX5_comesOn_X6_at : GoodIn wsX5_comesOn wsX6_at := goodIn_r _ [4] (by decide +kernel) (by decide +kernel)
set_option maxRecDepth 20000 in
theorem gX5_comesOn_X6_at_n63 : GoodIn wsX5_comesOn (wsX6_at) := ggX5_comesOn_X6_at
theorem dX5_comesOn_0 : decode cX5_comesOn 0 = .ok (.aload_n 0, 1) := by decide +kernel
theorem dX5_comesOn_1 : decode cX5_comesOn 1 = .ok (.getfield 37, 3) := by decide +kernel
theorem dX5_comesOn_4 : decode cX5_comesOn 4 = .ok (.iload_n 1, 1) := by decide +kernel
theorem dX5_comesOn_5 : decode cX5_comesOn 5 = .ok (.invokestatic 63, 3) := by decide +kernel
theorem dX5_comesOn_8 : decode cX5_comesOn 8 = .ok (.iload_n 2, 1) := by decide +kernel
theorem dX5_comesOn_9 : decode cX5_comesOn 9 = .ok (.bipush 7, 2) := by decide +kernel
theorem dX5_comesOn_11 : decode cX5_comesOn 11 = .ok (.irem, 1) := by decide +kernel
theorem dX5_comesOn_12 : decode cX5_comesOn 12 = .ok (.ishr, 1) := by decide +kernel
theorem dX5_comesOn_13 : decode cX5_comesOn 13 = .ok (.iconst 1, 1) := by decide +kernel
theorem dX5_comesOn_14 : decode cX5_comesOn 14 = .ok (.iand, 1) := by decide +kernel
theorem dX5_comesOn_15 : decode cX5_comesOn 15 = .ok (.iconst 1, 1) := by decide +kernel
theorem dX5_comesOn_16 : decode cX5_comesOn 16 = .ok (.if_icmp .ne 7, 3) := by decide +kernel
theorem dX5_comesOn_19 : decode cX5_comesOn 19 = .ok (.iconst 1, 1) := by decide +kernel
theorem dX5_comesOn_20 : decode cX5_comesOn 20 = .ok (.goto 4, 3) := by decide +kernel
theorem dX5_comesOn_23 : decode cX5_comesOn 23 = .ok (.iconst 0, 1) := by decide +kernel
theorem dX5_comesOn_24 : decode cX5_comesOn 24 = .ok (.ireturn, 1) := by decide +kernel
set_option maxRecDepth 20000 in
theorem ggX5_guestsOn_X5_comesOn : GoodIn wsX5_guestsOn wsX5_comesOn := goodIn_r _ [6, 7, 8, 9, 10, 11, 12, 13, 14, 15, 16, 17, 18, 19, 20, 21, 22] (by decide +kernel) (by decide +kernel)
set_option maxRecDepth 20000 in
theorem gX5_guestsOn_X5_comesOn : GoodIn wsX5_guestsOn (wsV RX5 84 RX5 yX5_comesOn wsX5_comesOn) := goodIn_app (goodIn_of _ (by decide +kernel)) ggX5_guestsOn_X5_comesOn
theorem dX5_guestsOn_0 : decode cX5_guestsOn 0 = .ok (.iconst 0, 1) := by decide +kernel
theorem dX5_guestsOn_1 : decode cX5_guestsOn 1 = .ok (.istore_n 2, 1) := by decide +kernel
theorem dX5_guestsOn_2 : decode cX5_guestsOn 2 = .ok (.iconst 0, 1) := by decide +kernel
theorem dX5_guestsOn_3 : decode cX5_guestsOn 3 = .ok (.istore_n 3, 1) := by decide +kernel
theorem dX5_guestsOn_4 : decode cX5_guestsOn 4 = .ok (.iload_n 3, 1) := by decide +kernel
theorem dX5_guestsOn_5 : decode cX5_guestsOn 5 = .ok (.aload_n 0, 1) := by decide +kernel
theorem dX5_guestsOn_6 : decode cX5_guestsOn 6 = .ok (.getfield 34, 3) := by decide +kernel
theorem dX5_guestsOn_9 : decode cX5_guestsOn 9 = .ok (.if_icmp .ge 21, 3) := by decide +kernel
theorem dX5_guestsOn_12 : decode cX5_guestsOn 12 = .ok (.aload_n 0, 1) := by decide +kernel
theorem dX5_guestsOn_13 : decode cX5_guestsOn 13 = .ok (.iload_n 3, 1) := by decide +kernel
theorem dX5_guestsOn_14 : decode cX5_guestsOn 14 = .ok (.iload_n 1, 1) := by decide +kernel
theorem dX5_guestsOn_15 : decode cX5_guestsOn 15 = .ok (.invokevirtual 84, 3) := by decide +kernel
theorem dX5_guestsOn_18 : decode cX5_guestsOn 18 = .ok (.ifCond .eq 6, 3) := by decide +kernel
theorem dX5_guestsOn_21 : decode cX5_guestsOn 21 = .ok (.iinc 2 1, 3) := by decide +kernel
theorem dX5_guestsOn_24 : decode cX5_guestsOn 24 = .ok (.iinc 3 1, 3) := by decide +kernel
theorem dX5_guestsOn_27 : decode cX5_guestsOn 27 = .ok (.goto (-23), 3) := by decide +kernel
theorem dX5_guestsOn_30 : decode cX5_guestsOn 30 = .ok (.iload_n 2, 1) := by decide +kernel
theorem dX5_guestsOn_31 : decode cX5_guestsOn 31 = .ok (.ireturn, 1) := by decide +kernel
set_option maxRecDepth 20000 in
theorem ggX5_dishesBefore_X5_comesOn : GoodIn wsX5_dishesBefore wsX5_comesOn := goodIn_r _ [5, 6, 7, 8, 9, 17, 18, 19, 20, 21, 22, 23, 24, 25, 26, 27, 28] (by decide +kernel) (by decide +kernel)
set_option maxRecDepth 20000 in
theorem gX5_dishesBefore_X5_comesOn : GoodIn wsX5_dishesBefore (wsV RX5 84 RX5 yX5_comesOn wsX5_comesOn) := goodIn_app (goodIn_of _ (by decide +kernel)) ggX5_dishesBefore_X5_comesOn
set_option maxRecDepth 20000 in
theorem ggX5_dishesBefore_X5_mealCount : GoodIn wsX5_dishesBefore wsX5_mealCount := goodIn_r _ [13, 14, 15, 8, 16, 7, 9, 17, 18, 19, 20, 21, 22, 23, 24, 25, 26, 27, 28] (by decide +kernel) (by decide +kernel)
set_option maxRecDepth 20000 in
theorem gX5_dishesBefore_X5_mealCount : GoodIn wsX5_dishesBefore (wsV RX5 81 RX5 yX5_mealCount wsX5_mealCount) := goodIn_app (goodIn_of _ (by decide +kernel)) ggX5_dishesBefore_X5_mealCount
theorem dX5_dishesBefore_0 : decode cX5_dishesBefore 0 = .ok (.iconst 0, 1) := by decide +kernel
theorem dX5_dishesBefore_1 : decode cX5_dishesBefore 1 = .ok (.istore_n 2, 1) := by decide +kernel
theorem dX5_dishesBefore_2 : decode cX5_dishesBefore 2 = .ok (.iconst 0, 1) := by decide +kernel
theorem dX5_dishesBefore_3 : decode cX5_dishesBefore 3 = .ok (.istore_n 3, 1) := by decide +kernel
theorem dX5_dishesBefore_4 : decode cX5_dishesBefore 4 = .ok (.iload_n 3, 1) := by decide +kernel
theorem dX5_dishesBefore_5 : decode cX5_dishesBefore 5 = .ok (.bipush 28, 2) := by decide +kernel
theorem dX5_dishesBefore_7 : decode cX5_dishesBefore 7 = .ok (.if_icmp .ge 26, 3) := by decide +kernel
theorem dX5_dishesBefore_10 : decode cX5_dishesBefore 10 = .ok (.aload_n 0, 1) := by decide +kernel
theorem dX5_dishesBefore_11 : decode cX5_dishesBefore 11 = .ok (.iload_n 1, 1) := by decide +kernel
theorem dX5_dishesBefore_12 : decode cX5_dishesBefore 12 = .ok (.iload_n 3, 1) := by decide +kernel
theorem dX5_dishesBefore_13 : decode cX5_dishesBefore 13 = .ok (.invokevirtual 84, 3) := by decide +kernel
theorem dX5_dishesBefore_16 : decode cX5_dishesBefore 16 = .ok (.ifCond .eq 11, 3) := by decide +kernel
theorem dX5_dishesBefore_19 : decode cX5_dishesBefore 19 = .ok (.iload_n 2, 1) := by decide +kernel
theorem dX5_dishesBefore_20 : decode cX5_dishesBefore 20 = .ok (.aload_n 0, 1) := by decide +kernel
theorem dX5_dishesBefore_21 : decode cX5_dishesBefore 21 = .ok (.iload_n 3, 1) := by decide +kernel
theorem dX5_dishesBefore_22 : decode cX5_dishesBefore 22 = .ok (.invokevirtual 81, 3) := by decide +kernel
theorem dX5_dishesBefore_25 : decode cX5_dishesBefore 25 = .ok (.iadd, 1) := by decide +kernel
theorem dX5_dishesBefore_26 : decode cX5_dishesBefore 26 = .ok (.istore_n 2, 1) := by decide +kernel
theorem dX5_dishesBefore_27 : decode cX5_dishesBefore 27 = .ok (.iinc 3 1, 3) := by decide +kernel
theorem dX5_dishesBefore_30 : decode cX5_dishesBefore 30 = .ok (.goto (-26), 3) := by decide +kernel
theorem dX5_dishesBefore_33 : decode cX5_dishesBefore 33 = .ok (.iload_n 2, 1) := by decide +kernel
theorem dX5_dishesBefore_34 : decode cX5_dishesBefore 34 = .ok (.ireturn, 1) := by decide +kernel
set_option maxRecDepth 20000 in
theorem ggX5_vetoedTastes_X5_comesOn : GoodIn wsX5_vetoedTastes wsX5_comesOn := goodIn_r _ [7, 8, 9, 10, 11, 12, 13, 14, 15, 16, 17, 18, 19, 20, 21, 22, 23] (by decide +kernel) (by decide +kernel)
set_option maxRecDepth 20000 in
theorem gX5_vetoedTastes_X5_comesOn : GoodIn wsX5_vetoedTastes (wsV RX5 84 RX5 yX5_comesOn wsX5_comesOn) := goodIn_app (goodIn_of _ (by decide +kernel)) ggX5_vetoedTastes_X5_comesOn
set_option maxRecDepth 20000 in
theorem ggX5_vetoedTastes_X6_at : GoodIn wsX5_vetoedTastes wsX6_at := goodIn_r _ [11] (by decide +kernel) (by decide +kernel)
set_option maxRecDepth 20000 in
theorem gX5_vetoedTastes_X6_at_n63 : GoodIn wsX5_vetoedTastes (wsX6_at) := ggX5_vetoedTastes_X6_at
theorem dX5_vetoedTastes_0 : decode cX5_vetoedTastes 0 = .ok (.iconst 0, 1) := by decide +kernel
theorem dX5_vetoedTastes_1 : decode cX5_vetoedTastes 1 = .ok (.istore_n 2, 1) := by decide +kernel
theorem dX5_vetoedTastes_2 : decode cX5_vetoedTastes 2 = .ok (.iconst 0, 1) := by decide +kernel
theorem dX5_vetoedTastes_3 : decode cX5_vetoedTastes 3 = .ok (.istore_n 3, 1) := by decide +kernel
theorem dX5_vetoedTastes_4 : decode cX5_vetoedTastes 4 = .ok (.iload_n 3, 1) := by decide +kernel
theorem dX5_vetoedTastes_5 : decode cX5_vetoedTastes 5 = .ok (.aload_n 0, 1) := by decide +kernel
theorem dX5_vetoedTastes_6 : decode cX5_vetoedTastes 6 = .ok (.getfield 34, 3) := by decide +kernel
theorem dX5_vetoedTastes_9 : decode cX5_vetoedTastes 9 = .ok (.if_icmp .ge 29, 3) := by decide +kernel
theorem dX5_vetoedTastes_12 : decode cX5_vetoedTastes 12 = .ok (.aload_n 0, 1) := by decide +kernel
theorem dX5_vetoedTastes_13 : decode cX5_vetoedTastes 13 = .ok (.iload_n 3, 1) := by decide +kernel
theorem dX5_vetoedTastes_14 : decode cX5_vetoedTastes 14 = .ok (.iload_n 1, 1) := by decide +kernel
theorem dX5_vetoedTastes_15 : decode cX5_vetoedTastes 15 = .ok (.invokevirtual 84, 3) := by decide +kernel
theorem dX5_vetoedTastes_18 : decode cX5_vetoedTastes 18 = .ok (.ifCond .eq 14, 3) := by decide +kernel
theorem dX5_vetoedTastes_21 : decode cX5_vetoedTastes 21 = .ok (.iload_n 2, 1) := by decide +kernel
theorem dX5_vetoedTastes_22 : decode cX5_vetoedTastes 22 = .ok (.aload_n 0, 1) := by decide +kernel
theorem dX5_vetoedTastes_23 : decode cX5_vetoedTastes 23 = .ok (.getfield 40, 3) := by decide +kernel
theorem dX5_vetoedTastes_26 : decode cX5_vetoedTastes 26 = .ok (.iload_n 3, 1) := by decide +kernel
theorem dX5_vetoedTastes_27 : decode cX5_vetoedTastes 27 = .ok (.invokestatic 63, 3) := by decide +kernel
theorem dX5_vetoedTastes_30 : decode cX5_vetoedTastes 30 = .ok (.ior, 1) := by decide +kernel
theorem dX5_vetoedTastes_31 : decode cX5_vetoedTastes 31 = .ok (.istore_n 2, 1) := by decide +kernel
theorem dX5_vetoedTastes_32 : decode cX5_vetoedTastes 32 = .ok (.iinc 3 1, 3) := by decide +kernel
theorem dX5_vetoedTastes_35 : decode cX5_vetoedTastes 35 = .ok (.goto (-31), 3) := by decide +kernel
theorem dX5_vetoedTastes_38 : decode cX5_vetoedTastes 38 = .ok (.iload_n 2, 1) := by decide +kernel
theorem dX5_vetoedTastes_39 : decode cX5_vetoedTastes 39 = .ok (.ireturn, 1) := by decide +kernel
set_option maxRecDepth 20000 in
theorem ggX5_isVetoed_X5_vetoedTastes : GoodIn wsX5_isVetoed wsX5_vetoedTastes := goodIn_r _ [6, 7, 8, 9, 10, 11, 5, 12, 13, 14, 15, 16, 17, 18, 19, 20, 21, 22, 23, 24, 25, 26, 27, 28] (by decide +kernel) (by decide +kernel)
set_option maxRecDepth 20000 in
theorem gX5_isVetoed_X5_vetoedTastes : GoodIn wsX5_isVetoed (wsV RX5 88 RX5 yX5_vetoedTastes wsX5_vetoedTastes) := goodIn_app (goodIn_of _ (by decide +kernel)) ggX5_isVetoed_X5_vetoedTastes
set_option maxRecDepth 20000 in
theorem ggX5_isVetoed_X6_at : GoodIn wsX5_isVetoed wsX6_at := goodIn_r _ [16] (by decide +kernel) (by decide +kernel)
set_option maxRecDepth 20000 in
theorem gX5_isVetoed_X6_at_n63 : GoodIn wsX5_isVetoed (wsX6_at) := ggX5_isVetoed_X6_at
theorem dX5_isVetoed_0 : decode cX5_isVetoed 0 = .ok (.aload_n 0, 1) := by decide +kernel
theorem dX5_isVetoed_1 : decode cX5_isVetoed 1 = .ok (.iload_n 1, 1) := by decide +kernel
theorem dX5_isVetoed_2 : decode cX5_isVetoed 2 = .ok (.invokevirtual 88, 3) := by decide +kernel
theorem dX5_isVetoed_5 : decode cX5_isVetoed 5 = .ok (.aload_n 0, 1) := by decide +kernel
theorem dX5_isVetoed_6 : decode cX5_isVetoed 6 = .ok (.getfield 22, 3) := by decide +kernel
theorem dX5_isVetoed_9 : decode cX5_isVetoed 9 = .ok (.iload_n 2, 1) := by decide +kernel
theorem dX5_isVetoed_10 : decode cX5_isVetoed 10 = .ok (.invokestatic 63, 3) := by decide +kernel
theorem dX5_isVetoed_13 : decode cX5_isVetoed 13 = .ok (.ishr, 1) := by decide +kernel
theorem dX5_isVetoed_14 : decode cX5_isVetoed 14 = .ok (.iconst 1, 1) := by decide +kernel
theorem dX5_isVetoed_15 : decode cX5_isVetoed 15 = .ok (.iand, 1) := by decide +kernel
theorem dX5_isVetoed_16 : decode cX5_isVetoed 16 = .ok (.iconst 1, 1) := by decide +kernel
theorem dX5_isVetoed_17 : decode cX5_isVetoed 17 = .ok (.if_icmp .ne 7, 3) := by decide +kernel
theorem dX5_isVetoed_20 : decode cX5_isVetoed 20 = .ok (.iconst 1, 1) := by decide +kernel
theorem dX5_isVetoed_21 : decode cX5_isVetoed 21 = .ok (.goto 4, 3) := by decide +kernel
theorem dX5_isVetoed_24 : decode cX5_isVetoed 24 = .ok (.iconst 0, 1) := by decide +kernel
theorem dX5_isVetoed_25 : decode cX5_isVetoed 25 = .ok (.ireturn, 1) := by decide +kernel
set_option maxRecDepth 20000 in
theorem ggX5_hasVetoedDish_X6_at : GoodIn wsX5_hasVetoedDish wsX6_at := goodIn_r _ [4] (by decide +kernel) (by decide +kernel)
set_option maxRecDepth 20000 in
theorem gX5_hasVetoedDish_X6_at_n63 : GoodIn wsX5_hasVetoedDish (wsX6_at) := ggX5_hasVetoedDish_X6_at
set_option maxRecDepth 20000 in
theorem ggX5_hasVetoedDish_X5_isVetoed : GoodIn wsX5_hasVetoedDish wsX5_isVetoed := goodIn_r _ [9, 10, 11, 12, 13, 8, 14, 15, 16, 17, 18, 19, 20, 21, 2, 3, 4, 22, 23, 24, 25, 26, 27, 28, 29, 30, 31, 32, 33] (by decide +kernel) (by decide +kernel)
set_option maxRecDepth 20000 in
theorem gX5_hasVetoedDish_X5_isVetoed : GoodIn wsX5_hasVetoedDish (wsV RX5 91 RX5 yX5_isVetoed wsX5_isVetoed) := goodIn_app (goodIn_of _ (by decide +kernel)) ggX5_hasVetoedDish_X5_isVetoed
theorem dX5_hasVetoedDish_0 : decode cX5_hasVetoedDish 0 = .ok (.iconst 0, 1) := by decide +kernel
theorem dX5_hasVetoedDish_1 : decode cX5_hasVetoedDish 1 = .ok (.istore_n 1, 1) := by decide +kernel
theorem dX5_hasVetoedDish_2 : decode cX5_hasVetoedDish 2 = .ok (.iload_n 1, 1) := by decide +kernel
theorem dX5_hasVetoedDish_3 : decode cX5_hasVetoedDish 3 = .ok (.bipush 84, 2) := by decide +kernel
theorem dX5_hasVetoedDish_5 : decode cX5_hasVetoedDish 5 = .ok (.if_icmp .ge 36, 3) := by decide +kernel
theorem dX5_hasVetoedDish_8 : decode cX5_hasVetoedDish 8 = .ok (.aload_n 0, 1) := by decide +kernel
theorem dX5_hasVetoedDish_9 : decode cX5_hasVetoedDish 9 = .ok (.getfield 46, 3) := by decide +kernel
theorem dX5_hasVetoedDish_12 : decode cX5_hasVetoedDish 12 = .ok (.iload_n 1, 1) := by decide +kernel
theorem dX5_hasVetoedDish_13 : decode cX5_hasVetoedDish 13 = .ok (.invokestatic 63, 3) := by decide +kernel
theorem dX5_hasVetoedDish_16 : decode cX5_hasVetoedDish 16 = .ok (.istore_n 2, 1) := by decide +kernel
theorem dX5_hasVetoedDish_17 : decode cX5_hasVetoedDish 17 = .ok (.iload_n 2, 1) := by decide +kernel
theorem dX5_hasVetoedDish_18 : decode cX5_hasVetoedDish 18 = .ok (.iconst (-1), 1) := by decide +kernel
theorem dX5_hasVetoedDish_19 : decode cX5_hasVetoedDish 19 = .ok (.if_icmp .eq 16, 3) := by decide +kernel
theorem dX5_hasVetoedDish_22 : decode cX5_hasVetoedDish 22 = .ok (.aload_n 0, 1) := by decide +kernel
theorem dX5_hasVetoedDish_23 : decode cX5_hasVetoedDish 23 = .ok (.iload_n 1, 1) := by decide +kernel
theorem dX5_hasVetoedDish_24 : decode cX5_hasVetoedDish 24 = .ok (.iconst 3, 1) := by decide +kernel
theorem dX5_hasVetoedDish_25 : decode cX5_hasVetoedDish 25 = .ok (.idiv, 1) := by decide +kernel
theorem dX5_hasVetoedDish_26 : decode cX5_hasVetoedDish 26 = .ok (.iload_n 2, 1) := by decide +kernel
theorem dX5_hasVetoedDish_27 : decode cX5_hasVetoedDish 27 = .ok (.invokevirtual 91, 3) := by decide +kernel
theorem dX5_hasVetoedDish_30 : decode cX5_hasVetoedDish 30 = .ok (.ifCond .eq 5, 3) := by decide +kernel
theorem dX5_hasVetoedDish_33 : decode cX5_hasVetoedDish 33 = .ok (.iconst 1, 1) := by decide +kernel
theorem dX5_hasVetoedDish_34 : decode cX5_hasVetoedDish 34 = .ok (.ireturn, 1) := by decide +kernel
theorem dX5_hasVetoedDish_35 : decode cX5_hasVetoedDish 35 = .ok (.iinc 1 1, 3) := by decide +kernel
theorem dX5_hasVetoedDish_38 : decode cX5_hasVetoedDish 38 = .ok (.goto (-36), 3) := by decide +kernel
theorem dX5_hasVetoedDish_41 : decode cX5_hasVetoedDish 41 = .ok (.iconst 0, 1) := by decide +kernel
theorem dX5_hasVetoedDish_42 : decode cX5_hasVetoedDish 42 = .ok (.ireturn, 1) := by decide +kernel
set_option maxRecDepth 20000 in
theorem ggX5_hasStrangeDish_X6_at : GoodIn wsX5_hasStrangeDish wsX6_at := goodIn_r _ [5] (by decide +kernel) (by decide +kernel)
set_option maxRecDepth 20000 in
theorem gX5_hasStrangeDish_X6_at_n63 : GoodIn wsX5_hasStrangeDish (wsX6_at) := ggX5_hasStrangeDish_X6_at
set_option maxRecDepth 20000 in
theorem ggX5_hasStrangeDish_X5_hasDish : GoodIn wsX5_hasStrangeDish wsX5_hasDish := goodIn_r _ [10, 11, 12, 13, 14, 15, 16, 17, 18, 19, 20, 21, 22, 23] (by decide +kernel) (by decide +kernel)
set_option maxRecDepth 20000 in
theorem gX5_hasStrangeDish_X5_hasDish : GoodIn wsX5_hasStrangeDish (wsV RX5 94 RX5 yX5_hasDish wsX5_hasDish) := goodIn_app (goodIn_of _ (by decide +kernel)) ggX5_hasStrangeDish_X5_hasDish
theorem dX5_hasStrangeDish_0 : decode cX5_hasStrangeDish 0 = .ok (.iconst 0, 1) := by decide +kernel
theorem dX5_hasStrangeDish_1 : decode cX5_hasStrangeDish 1 = .ok (.istore_n 1, 1) := by decide +kernel
theorem dX5_hasStrangeDish_2 : decode cX5_hasStrangeDish 2 = .ok (.iload_n 1, 1) := by decide +kernel
theorem dX5_hasStrangeDish_3 : decode cX5_hasStrangeDish 3 = .ok (.bipush 84, 2) := by decide +kernel
theorem dX5_hasStrangeDish_5 : decode cX5_hasStrangeDish 5 = .ok (.if_icmp .ge 47, 3) := by decide +kernel
theorem dX5_hasStrangeDish_8 : decode cX5_hasStrangeDish 8 = .ok (.aload_n 0, 1) := by decide +kernel
theorem dX5_hasStrangeDish_9 : decode cX5_hasStrangeDish 9 = .ok (.getfield 46, 3) := by decide +kernel
theorem dX5_hasStrangeDish_12 : decode cX5_hasStrangeDish 12 = .ok (.iload_n 1, 1) := by decide +kernel
theorem dX5_hasStrangeDish_13 : decode cX5_hasStrangeDish 13 = .ok (.invokestatic 63, 3) := by decide +kernel
theorem dX5_hasStrangeDish_16 : decode cX5_hasStrangeDish 16 = .ok (.istore_n 2, 1) := by decide +kernel
theorem dX5_hasStrangeDish_17 : decode cX5_hasStrangeDish 17 = .ok (.iload_n 2, 1) := by decide +kernel
theorem dX5_hasStrangeDish_18 : decode cX5_hasStrangeDish 18 = .ok (.iconst (-1), 1) := by decide +kernel
theorem dX5_hasStrangeDish_19 : decode cX5_hasStrangeDish 19 = .ok (.if_icmp .eq 27, 3) := by decide +kernel
theorem dX5_hasStrangeDish_22 : decode cX5_hasStrangeDish 22 = .ok (.aload_n 0, 1) := by decide +kernel
theorem dX5_hasStrangeDish_23 : decode cX5_hasStrangeDish 23 = .ok (.iload_n 2, 1) := by decide +kernel
theorem dX5_hasStrangeDish_24 : decode cX5_hasStrangeDish 24 = .ok (.invokevirtual 94, 3) := by decide +kernel
theorem dX5_hasStrangeDish_27 : decode cX5_hasStrangeDish 27 = .ok (.ifCond .eq 17, 3) := by decide +kernel
theorem dX5_hasStrangeDish_30 : decode cX5_hasStrangeDish 30 = .ok (.aload_n 0, 1) := by decide +kernel
theorem dX5_hasStrangeDish_31 : decode cX5_hasStrangeDish 31 = .ok (.getfield 15, 3) := by decide +kernel
theorem dX5_hasStrangeDish_34 : decode cX5_hasStrangeDish 34 = .ok (.iload_n 2, 1) := by decide +kernel
theorem dX5_hasStrangeDish_35 : decode cX5_hasStrangeDish 35 = .ok (.invokestatic 63, 3) := by decide +kernel
theorem dX5_hasStrangeDish_38 : decode cX5_hasStrangeDish 38 = .ok (.iload_n 1, 1) := by decide +kernel
theorem dX5_hasStrangeDish_39 : decode cX5_hasStrangeDish 39 = .ok (.iconst 3, 1) := by decide +kernel
theorem dX5_hasStrangeDish_40 : decode cX5_hasStrangeDish 40 = .ok (.irem, 1) := by decide +kernel
theorem dX5_hasStrangeDish_41 : decode cX5_hasStrangeDish 41 = .ok (.if_icmp .eq 5, 3) := by decide +kernel
theorem dX5_hasStrangeDish_44 : decode cX5_hasStrangeDish 44 = .ok (.iconst 1, 1) := by decide +kernel
theorem dX5_hasStrangeDish_45 : decode cX5_hasStrangeDish 45 = .ok (.ireturn, 1) := by decide +kernel
theorem dX5_hasStrangeDish_46 : decode cX5_hasStrangeDish 46 = .ok (.iinc 1 1, 3) := by decide +kernel
theorem dX5_hasStrangeDish_49 : decode cX5_hasStrangeDish 49 = .ok (.goto (-47), 3) := by decide +kernel
theorem dX5_hasStrangeDish_52 : decode cX5_hasStrangeDish 52 = .ok (.iconst 0, 1) := by decide +kernel
theorem dX5_hasStrangeDish_53 : decode cX5_hasStrangeDish 53 = .ok (.ireturn, 1) := by decide +kernel
set_option maxRecDepth 20000 in
theorem ggX5_exchangeMeals_X6_cellOf : GoodIn wsX5_exchangeMeals wsX6_cellOf := goodIn_r _ [4] (by decide +kernel) (by decide +kernel)
set_option maxRecDepth 20000 in
theorem gX5_exchangeMeals_X6_cellOf_n77 : GoodIn wsX5_exchangeMeals (wsX6_cellOf) := ggX5_exchangeMeals_X6_cellOf
set_option maxRecDepth 20000 in
theorem ggX5_exchangeMeals_X6_at : GoodIn wsX5_exchangeMeals wsX6_at := goodIn_r _ [6] (by decide +kernel) (by decide +kernel)
set_option maxRecDepth 20000 in
theorem gX5_exchangeMeals_X6_at_n63 : GoodIn wsX5_exchangeMeals (wsX6_at) := ggX5_exchangeMeals_X6_at
set_option maxRecDepth 20000 in
theorem ggX5_exchangeMeals_X6_put : GoodIn wsX5_exchangeMeals wsX6_put := goodIn_r _ [8] (by decide +kernel) (by decide +kernel)
set_option maxRecDepth 20000 in
theorem gX5_exchangeMeals_X6_put_n55 : GoodIn wsX5_exchangeMeals (wsX6_put) := ggX5_exchangeMeals_X6_put
theorem dX5_exchangeMeals_0 : decode cX5_exchangeMeals 0 = .ok (.iconst 0, 1) := by decide +kernel
theorem dX5_exchangeMeals_1 : decode cX5_exchangeMeals 1 = .ok (.istore_n 3, 1) := by decide +kernel
theorem dX5_exchangeMeals_2 : decode cX5_exchangeMeals 2 = .ok (.iload_n 3, 1) := by decide +kernel
theorem dX5_exchangeMeals_3 : decode cX5_exchangeMeals 3 = .ok (.iconst 3, 1) := by decide +kernel
theorem dX5_exchangeMeals_4 : decode cX5_exchangeMeals 4 = .ok (.if_icmp .ge 61, 3) := by decide +kernel
theorem dX5_exchangeMeals_7 : decode cX5_exchangeMeals 7 = .ok (.aload_n 0, 1) := by decide +kernel
theorem dX5_exchangeMeals_8 : decode cX5_exchangeMeals 8 = .ok (.getfield 46, 3) := by decide +kernel
theorem dX5_exchangeMeals_11 : decode cX5_exchangeMeals 11 = .ok (.iload_n 1, 1) := by decide +kernel
theorem dX5_exchangeMeals_12 : decode cX5_exchangeMeals 12 = .ok (.iload_n 3, 1) := by decide +kernel
theorem dX5_exchangeMeals_13 : decode cX5_exchangeMeals 13 = .ok (.invokestatic 77, 3) := by decide +kernel
theorem dX5_exchangeMeals_16 : decode cX5_exchangeMeals 16 = .ok (.invokestatic 63, 3) := by decide +kernel
theorem dX5_exchangeMeals_19 : decode cX5_exchangeMeals 19 = .ok (.istore 4, 2) := by decide +kernel
theorem dX5_exchangeMeals_21 : decode cX5_exchangeMeals 21 = .ok (.aload_n 0, 1) := by decide +kernel
theorem dX5_exchangeMeals_22 : decode cX5_exchangeMeals 22 = .ok (.getfield 46, 3) := by decide +kernel
theorem dX5_exchangeMeals_25 : decode cX5_exchangeMeals 25 = .ok (.iload_n 1, 1) := by decide +kernel
theorem dX5_exchangeMeals_26 : decode cX5_exchangeMeals 26 = .ok (.iload_n 3, 1) := by decide +kernel
theorem dX5_exchangeMeals_27 : decode cX5_exchangeMeals 27 = .ok (.invokestatic 77, 3) := by decide +kernel
theorem dX5_exchangeMeals_30 : decode cX5_exchangeMeals 30 = .ok (.aload_n 0, 1) := by decide +kernel
theorem dX5_exchangeMeals_31 : decode cX5_exchangeMeals 31 = .ok (.getfield 46, 3) := by decide +kernel
theorem dX5_exchangeMeals_34 : decode cX5_exchangeMeals 34 = .ok (.iload_n 2, 1) := by decide +kernel
theorem dX5_exchangeMeals_35 : decode cX5_exchangeMeals 35 = .ok (.iload_n 3, 1) := by decide +kernel
theorem dX5_exchangeMeals_36 : decode cX5_exchangeMeals 36 = .ok (.invokestatic 77, 3) := by decide +kernel
theorem dX5_exchangeMeals_39 : decode cX5_exchangeMeals 39 = .ok (.invokestatic 63, 3) := by decide +kernel
theorem dX5_exchangeMeals_42 : decode cX5_exchangeMeals 42 = .ok (.invokestatic 55, 3) := by decide +kernel
theorem dX5_exchangeMeals_45 : decode cX5_exchangeMeals 45 = .ok (.aload_n 0, 1) := by decide +kernel
theorem dX5_exchangeMeals_46 : decode cX5_exchangeMeals 46 = .ok (.getfield 46, 3) := by decide +kernel
theorem dX5_exchangeMeals_49 : decode cX5_exchangeMeals 49 = .ok (.iload_n 2, 1) := by decide +kernel
theorem dX5_exchangeMeals_50 : decode cX5_exchangeMeals 50 = .ok (.iload_n 3, 1) := by decide +kernel
theorem dX5_exchangeMeals_51 : decode cX5_exchangeMeals 51 = .ok (.invokestatic 77, 3) := by decide +kernel
theorem dX5_exchangeMeals_54 : decode cX5_exchangeMeals 54 = .ok (.iload 4, 2) := by decide +kernel
theorem dX5_exchangeMeals_56 : decode cX5_exchangeMeals 56 = .ok (.invokestatic 55, 3) := by decide +kernel
theorem dX5_exchangeMeals_59 : decode cX5_exchangeMeals 59 = .ok (.iinc 3 1, 3) := by decide +kernel
theorem dX5_exchangeMeals_62 : decode cX5_exchangeMeals 62 = .ok (.goto (-60), 3) := by decide +kernel
theorem dX5_exchangeMeals_65 : decode cX5_exchangeMeals 65 = .ok (.return_, 1) := by decide +kernel
set_option maxRecDepth 20000 in
theorem ggX6_init_X5_init : GoodIn wsX6_init wsX5_init := goodIn_r _ [31, 32, 2, 3, 33, 34, 35, 36, 37, 38, 39, 40, 41, 42, 43, 44, 45, 46, 47, 48, 49, 50, 51, 52, 87, 88, 89, 90, 91, 92, 93, 94, 95, 96, 97, 98] (by decide +kernel) (by decide +kernel)
set_option maxRecDepth 20000 in
theorem gX6_init_X5_init : GoodIn wsX6_init (wsX5_init) := ggX6_init_X5_init
set_option maxRecDepth 20000 in
theorem ggX6_init_X1_init : GoodIn wsX6_init wsX1_init := goodIn_r _ [55, 56, 2, 3, 34, 57, 58, 106, 107] (by decide +kernel) (by decide +kernel)
set_option maxRecDepth 20000 in
theorem gX6_init_X1_init : GoodIn wsX6_init (wsX1_init) := ggX6_init_X1_init
set_option maxRecDepth 20000 in
theorem ggX6_init_X2_init : GoodIn wsX6_init wsX2_init := goodIn_r _ [61, 62, 2, 3, 63, 64, 108, 109] (by decide +kernel) (by decide +kernel)
set_option maxRecDepth 20000 in
theorem gX6_init_X2_init : GoodIn wsX6_init (wsX2_init) := ggX6_init_X2_init
set_option maxRecDepth 20000 in
theorem ggX6_init_X0_init : GoodIn wsX6_init wsX0_init := goodIn_r _ [67, 68, 2, 3, 69, 70, 5, 6, 71, 72, 73, 30, 31, 32, 33, 34, 35, 36, 37, 38, 39, 40, 41, 42, 43, 44, 45, 46, 47, 48, 49, 50, 51, 52, 110, 111, 112, 87, 88, 89, 90, 91, 92, 93, 94, 95, 96, 97, 98] (by decide +kernel) (by decide +kernel)
set_option maxRecDepth 20000 in
theorem gX6_init_X0_init : GoodIn wsX6_init (wsX0_init) := ggX6_init_X0_init
set_option maxRecDepth 20000 in
theorem ggX6_init_X4_init : GoodIn wsX6_init wsX4_init := goodIn_r _ [76, 77, 2, 3, 34, 78, 79, 80, 113, 114] (by decide +kernel) (by decide +kernel)
set_option maxRecDepth 20000 in
theorem gX6_init_X4_init : GoodIn wsX6_init (wsX4_init) := ggX6_init_X4_init
set_option maxRecDepth 20000 in
theorem ggX6_init_X3_init : GoodIn wsX6_init wsX3_init := goodIn_r _ [83, 84, 2, 3, 34, 85, 86, 115, 116] (by decide +kernel) (by decide +kernel)
set_option maxRecDepth 20000 in
theorem gX6_init_X3_init : GoodIn wsX6_init (wsX3_init) := ggX6_init_X3_init
theorem dX6_init_0 : decode cX6_init 0 = .ok (.aload_n 0, 1) := by decide +kernel
theorem dX6_init_1 : decode cX6_init 1 = .ok (.invokespecial 1, 3) := by decide +kernel
theorem dX6_init_4 : decode cX6_init 4 = .ok (.aload_n 0, 1) := by decide +kernel
theorem dX6_init_5 : decode cX6_init 5 = .ok (.new 7, 3) := by decide +kernel
theorem dX6_init_8 : decode cX6_init 8 = .ok (.dup, 1) := by decide +kernel
theorem dX6_init_9 : decode cX6_init 9 = .ok (.invokespecial 9, 3) := by decide +kernel
theorem dX6_init_12 : decode cX6_init 12 = .ok (.putfield 10, 3) := by decide +kernel
theorem dX6_init_15 : decode cX6_init 15 = .ok (.aload_n 0, 1) := by decide +kernel
theorem dX6_init_16 : decode cX6_init 16 = .ok (.new 7, 3) := by decide +kernel
theorem dX6_init_19 : decode cX6_init 19 = .ok (.dup, 1) := by decide +kernel
theorem dX6_init_20 : decode cX6_init 20 = .ok (.invokespecial 9, 3) := by decide +kernel
theorem dX6_init_23 : decode cX6_init 23 = .ok (.putfield 16, 3) := by decide +kernel
theorem dX6_init_26 : decode cX6_init 26 = .ok (.aload_n 0, 1) := by decide +kernel
theorem dX6_init_27 : decode cX6_init 27 = .ok (.new 19, 3) := by decide +kernel
theorem dX6_init_30 : decode cX6_init 30 = .ok (.dup, 1) := by decide +kernel
theorem dX6_init_31 : decode cX6_init 31 = .ok (.invokespecial 21, 3) := by decide +kernel
theorem dX6_init_34 : decode cX6_init 34 = .ok (.putfield 22, 3) := by decide +kernel
theorem dX6_init_37 : decode cX6_init 37 = .ok (.aload_n 0, 1) := by decide +kernel
theorem dX6_init_38 : decode cX6_init 38 = .ok (.new 26, 3) := by decide +kernel
theorem dX6_init_41 : decode cX6_init 41 = .ok (.dup, 1) := by decide +kernel
theorem dX6_init_42 : decode cX6_init 42 = .ok (.aload_n 0, 1) := by decide +kernel
theorem dX6_init_43 : decode cX6_init 43 = .ok (.getfield 10, 3) := by decide +kernel
theorem dX6_init_46 : decode cX6_init 46 = .ok (.aload_n 0, 1) := by decide +kernel
theorem dX6_init_47 : decode cX6_init 47 = .ok (.getfield 22, 3) := by decide +kernel
theorem dX6_init_50 : decode cX6_init 50 = .ok (.invokespecial 28, 3) := by decide +kernel
theorem dX6_init_53 : decode cX6_init 53 = .ok (.putfield 31, 3) := by decide +kernel
theorem dX6_init_56 : decode cX6_init 56 = .ok (.aload_n 0, 1) := by decide +kernel
theorem dX6_init_57 : decode cX6_init 57 = .ok (.new 35, 3) := by decide +kernel
theorem dX6_init_60 : decode cX6_init 60 = .ok (.dup, 1) := by decide +kernel
theorem dX6_init_61 : decode cX6_init 61 = .ok (.invokespecial 37, 3) := by decide +kernel
theorem dX6_init_64 : decode cX6_init 64 = .ok (.putfield 38, 3) := by decide +kernel
theorem dX6_init_67 : decode cX6_init 67 = .ok (.aload_n 0, 1) := by decide +kernel
theorem dX6_init_68 : decode cX6_init 68 = .ok (.new 42, 3) := by decide +kernel
theorem dX6_init_71 : decode cX6_init 71 = .ok (.dup, 1) := by decide +kernel
theorem dX6_init_72 : decode cX6_init 72 = .ok (.invokespecial 44, 3) := by decide +kernel
theorem dX6_init_75 : decode cX6_init 75 = .ok (.putfield 45, 3) := by decide +kernel
theorem dX6_init_78 : decode cX6_init 78 = .ok (.aload_n 0, 1) := by decide +kernel
theorem dX6_init_79 : decode cX6_init 79 = .ok (.new 49, 3) := by decide +kernel
theorem dX6_init_82 : decode cX6_init 82 = .ok (.dup, 1) := by decide +kernel
theorem dX6_init_83 : decode cX6_init 83 = .ok (.invokespecial 51, 3) := by decide +kernel
theorem dX6_init_86 : decode cX6_init 86 = .ok (.putfield 52, 3) := by decide +kernel
theorem dX6_init_89 : decode cX6_init 89 = .ok (.return_, 1) := by decide +kernel
set_option maxRecDepth 20000 in
theorem ggX6_addDish_X6_isWithin : GoodIn wsX6_addDish wsX6_isWithin := goodIn_r _ [11] (by decide +kernel) (by decide +kernel)
set_option maxRecDepth 20000 in
theorem gX6_addDish_X6_isWithin : GoodIn wsX6_addDish (va_wsS RX6 56 yX6_isWithin wsX6_isWithin) := goodIn_app (goodIn_of _ (by decide +kernel)) ggX6_addDish_X6_isWithin
set_option maxRecDepth 20000 in
theorem ggX6_addDish_X0_save : GoodIn wsX6_addDish wsX0_save := goodIn_r _ [16, 17, 18, 19, 20, 21, 15, 22, 23, 24, 25, 26, 27, 28, 29, 30, 31, 32, 33, 34, 35, 36, 37, 38, 39, 40, 41, 10, 42, 43, 44, 45, 46, 47, 48, 49, 50, 76, 77, 78, 64, 65, 66, 67, 68, 69, 70, 71, 72, 73, 74, 75] (by decide +kernel) (by decide +kernel)
set_option maxRecDepth 20000 in
theorem gX6_addDish_X0_save : GoodIn wsX6_addDish (wsV RX6 76 RX0 yX0_save wsX0_save) := goodIn_app (goodIn_of _ (by decide +kernel)) ggX6_addDish_X0_save
set_option maxRecDepth 20000 in
theorem ggX6_addDish_X5_newDish : GoodIn wsX6_addDish wsX5_newDish := goodIn_r _ [54, 29, 30, 31, 32, 33, 34, 35, 55, 10, 56, 64, 65, 66, 67, 68, 69, 70, 71, 72, 73, 74, 75] (by decide +kernel) (by decide +kernel)
set_option maxRecDepth 20000 in
theorem gX6_addDish_X5_newDish : GoodIn wsX6_addDish (wsV RX6 80 RX5 yX5_newDish wsX5_newDish) := goodIn_app (goodIn_of _ (by decide +kernel)) ggX6_addDish_X5_newDish
theorem dX6_addDish_0 : decode cX6_addDish 0 = .ok (.iload_n 1, 1) := by decide +kernel
theorem dX6_addDish_1 : decode cX6_addDish 1 = .ok (.iconst 0, 1) := by decide +kernel
theorem dX6_addDish_2 : decode cX6_addDish 2 = .ok (.iconst 2, 1) := by decide +kernel
theorem dX6_addDish_3 : decode cX6_addDish 3 = .ok (.invokestatic 56, 3) := by decide +kernel
theorem dX6_addDish_6 : decode cX6_addDish 6 = .ok (.ifCond .eq 33, 3) := by decide +kernel
theorem dX6_addDish_9 : decode cX6_addDish 9 = .ok (.iload_n 2, 1) := by decide +kernel
theorem dX6_addDish_10 : decode cX6_addDish 10 = .ok (.iconst 0, 1) := by decide +kernel
theorem dX6_addDish_11 : decode cX6_addDish 11 = .ok (.bipush 30, 2) := by decide +kernel
theorem dX6_addDish_13 : decode cX6_addDish 13 = .ok (.invokestatic 56, 3) := by decide +kernel
theorem dX6_addDish_16 : decode cX6_addDish 16 = .ok (.ifCond .eq 23, 3) := by decide +kernel
theorem dX6_addDish_19 : decode cX6_addDish 19 = .ok (.iload_n 3, 1) := by decide +kernel
theorem dX6_addDish_20 : decode cX6_addDish 20 = .ok (.iconst 0, 1) := by decide +kernel
theorem dX6_addDish_21 : decode cX6_addDish 21 = .ok (.iconst 5, 1) := by decide +kernel
theorem dX6_addDish_22 : decode cX6_addDish 22 = .ok (.invokestatic 56, 3) := by decide +kernel
theorem dX6_addDish_25 : decode cX6_addDish 25 = .ok (.ifCond .eq 14, 3) := by decide +kernel
theorem dX6_addDish_28 : decode cX6_addDish 28 = .ok (.iload 4, 2) := by decide +kernel
theorem dX6_addDish_30 : decode cX6_addDish 30 = .ok (.iconst 1, 1) := by decide +kernel
theorem dX6_addDish_31 : decode cX6_addDish 31 = .ok (.bipush 9, 2) := by decide +kernel
theorem dX6_addDish_33 : decode cX6_addDish 33 = .ok (.invokestatic 56, 3) := by decide +kernel
theorem dX6_addDish_36 : decode cX6_addDish 36 = .ok (.ifCond .ne 13, 3) := by decide +kernel
theorem dX6_addDish_39 : decode cX6_addDish 39 = .ok (.new 60, 3) := by decide +kernel
theorem dX6_addDish_42 : decode cX6_addDish 42 = .ok (.dup, 1) := by decide +kernel
theorem dX6_addDish_43 : decode cX6_addDish 43 = .ok (.ldc 62, 2) := by decide +kernel
theorem dX6_addDish_45 : decode cX6_addDish 45 = .ok (.invokespecial 64, 3) := by decide +kernel
theorem dX6_addDish_48 : decode cX6_addDish 48 = .ok (.athrow, 1) := by decide +kernel
theorem dX6_addDish_49 : decode cX6_addDish 49 = .ok (.aload_n 0, 1) := by decide +kernel
theorem dX6_addDish_50 : decode cX6_addDish 50 = .ok (.getfield 10, 3) := by decide +kernel
theorem dX6_addDish_53 : decode cX6_addDish 53 = .ok (.getfield 67, 3) := by decide +kernel
theorem dX6_addDish_56 : decode cX6_addDish 56 = .ok (.bipush 12, 2) := by decide +kernel
theorem dX6_addDish_58 : decode cX6_addDish 58 = .ok (.if_icmp .lt 13, 3) := by decide +kernel
theorem dX6_addDish_61 : decode cX6_addDish 61 = .ok (.new 71, 3) := by decide +kernel
theorem dX6_addDish_64 : decode cX6_addDish 64 = .ok (.dup, 1) := by decide +kernel
theorem dX6_addDish_65 : decode cX6_addDish 65 = .ok (.ldc 73, 2) := by decide +kernel
theorem dX6_addDish_67 : decode cX6_addDish 67 = .ok (.invokespecial 75, 3) := by decide +kernel
theorem dX6_addDish_70 : decode cX6_addDish 70 = .ok (.athrow, 1) := by decide +kernel
theorem dX6_addDish_71 : decode cX6_addDish 71 = .ok (.aload_n 0, 1) := by decide +kernel
theorem dX6_addDish_72 : decode cX6_addDish 72 = .ok (.getfield 38, 3) := by decide +kernel
theorem dX6_addDish_75 : decode cX6_addDish 75 = .ok (.aload_n 0, 1) := by decide +kernel
theorem dX6_addDish_76 : decode cX6_addDish 76 = .ok (.getfield 10, 3) := by decide +kernel
theorem dX6_addDish_79 : decode cX6_addDish 79 = .ok (.invokevirtual 76, 3) := by decide +kernel
theorem dX6_addDish_82 : decode cX6_addDish 82 = .ok (.aload_n 0, 1) := by decide +kernel
theorem dX6_addDish_83 : decode cX6_addDish 83 = .ok (.getfield 10, 3) := by decide +kernel
theorem dX6_addDish_86 : decode cX6_addDish 86 = .ok (.iload_n 1, 1) := by decide +kernel
theorem dX6_addDish_87 : decode cX6_addDish 87 = .ok (.iload_n 2, 1) := by decide +kernel
theorem dX6_addDish_88 : decode cX6_addDish 88 = .ok (.iload_n 3, 1) := by decide +kernel
theorem dX6_addDish_89 : decode cX6_addDish 89 = .ok (.iload 4, 2) := by decide +kernel
theorem dX6_addDish_91 : decode cX6_addDish 91 = .ok (.invokevirtual 80, 3) := by decide +kernel
theorem dX6_addDish_94 : decode cX6_addDish 94 = .ok (.ireturn, 1) := by decide +kernel
set_option maxRecDepth 20000 in
theorem ggX6_leave_X5_hasDish : GoodIn wsX6_leave wsX5_hasDish := goodIn_r _ [16, 17, 119, 120, 121, 122, 123, 124, 125, 126, 127, 128, 129, 130] (by decide +kernel) (by decide +kernel)
set_option maxRecDepth 20000 in
theorem gX6_leave_X5_hasDish : GoodIn wsX6_leave (wsV RX6 84 RX5 yX5_hasDish wsX5_hasDish) := goodIn_app (goodIn_of _ (by decide +kernel)) ggX6_leave_X5_hasDish
set_option maxRecDepth 20000 in
theorem ggX6_leave_X6_isWithin : GoodIn wsX6_leave wsX6_isWithin := goodIn_r _ [21] (by decide +kernel) (by decide +kernel)
set_option maxRecDepth 20000 in
theorem gX6_leave_X6_isWithin : GoodIn wsX6_leave (va_wsS RX6 56 yX6_isWithin wsX6_isWithin) := goodIn_app (goodIn_of _ (by decide +kernel)) ggX6_leave_X6_isWithin
set_option maxRecDepth 20000 in
theorem ggX6_leave_X5_copyFrom : GoodIn wsX6_leave wsX5_copyFrom := goodIn_r _ [25, 17, 26, 27, 28, 29, 30, 31, 32, 33, 34, 35, 36, 37, 20, 38, 39, 40, 41, 42, 43, 44, 45, 46, 119, 120, 121, 122, 123, 124, 125, 126, 127, 128, 129, 130] (by decide +kernel) (by decide +kernel)
set_option maxRecDepth 20000 in
theorem gX6_leave_X5_copyFrom : GoodIn wsX6_leave (wsV RX6 95 RX5 yX5_copyFrom wsX5_copyFrom) := goodIn_app (goodIn_of _ (by decide +kernel)) ggX6_leave_X5_copyFrom
set_option maxRecDepth 20000 in
theorem ggX6_leave_X6_put : GoodIn wsX6_leave wsX6_put := goodIn_r _ [49] (by decide +kernel) (by decide +kernel)
set_option maxRecDepth 20000 in
theorem gX6_leave_X6_put : GoodIn wsX6_leave (va_wsS RX6 102 yX6_put wsX6_put) := goodIn_app (goodIn_of _ (by decide +kernel)) ggX6_leave_X6_put
set_option maxRecDepth 20000 in
theorem ggX6_leave_X1_areSound : GoodIn wsX6_leave wsX1_areSound := goodIn_r _ [54, 55, 56, 57, 53, 58, 59, 60, 61, 62, 63, 64, 65, 66, 67, 68, 69, 70, 71, 72, 15, 73, 17, 30, 74, 20, 75, 76, 77, 78, 79, 80, 81, 82, 83, 84, 85, 86, 87, 88, 89, 41, 90, 91, 92, 48, 49, 119, 120, 121, 122, 123, 124, 125, 126, 127, 128, 129, 130, 131, 132] (by decide +kernel) (by decide +kernel)
set_option maxRecDepth 20000 in
theorem gX6_leave_X1_areSound : GoodIn wsX6_leave (wsV RX6 109 RX1 yX1_areSound wsX1_areSound) := goodIn_app (goodIn_of _ (by decide +kernel)) ggX6_leave_X1_areSound
set_option maxRecDepth 20000 in
theorem ggX6_leave_X6_at : GoodIn wsX6_leave wsX6_at := goodIn_r _ [75] (by decide +kernel) (by decide +kernel)
set_option maxRecDepth 20000 in
theorem gX6_leave_X6_at : GoodIn wsX6_leave (va_wsS RX6 115 yX6_at wsX6_at) := goodIn_app (goodIn_of _ (by decide +kernel)) ggX6_leave_X6_at
set_option maxRecDepth 20000 in
theorem ggX6_leave_X6_takeOverTrial : GoodIn wsX6_leave wsX6_takeOverTrial := goodIn_r _ [97, 98, 7, 8, 99, 100, 101, 102, 103, 104, 105, 106, 107, 108, 109, 110, 111, 23, 24, 15, 25, 17, 26, 27, 28, 29, 30, 31, 32, 33, 34, 35, 36, 37, 20, 38, 39, 40, 41, 42, 43, 44, 45, 46, 22, 112, 113, 114, 115, 116, 117, 118, 133, 134, 135, 119, 120, 121, 122, 123, 124, 125, 126, 127, 128, 129, 130] (by decide +kernel) (by decide +kernel)
set_option maxRecDepth 20000 in
theorem gX6_leave_X6_takeOverTrial : GoodIn wsX6_leave (wsV RX6 119 RX6 yX6_takeOverTrial wsX6_takeOverTrial) := goodIn_app (goodIn_of _ (by decide +kernel)) ggX6_leave_X6_takeOverTrial
theorem dX6_leave_0 : decode cX6_leave 0 = .ok (.aload_n 0, 1) := by decide +kernel
theorem dX6_leave_1 : decode cX6_leave 1 = .ok (.getfield 10, 3) := by decide +kernel
theorem dX6_leave_4 : decode cX6_leave 4 = .ok (.iload_n 1, 1) := by decide +kernel
theorem dX6_leave_5 : decode cX6_leave 5 = .ok (.invokevirtual 84, 3) := by decide +kernel
theorem dX6_leave_8 : decode cX6_leave 8 = .ok (.ifCond .eq 19, 3) := by decide +kernel
theorem dX6_leave_11 : decode cX6_leave 11 = .ok (.iload_n 2, 1) := by decide +kernel
theorem dX6_leave_12 : decode cX6_leave 12 = .ok (.iconst (-1), 1) := by decide +kernel
theorem dX6_leave_13 : decode cX6_leave 13 = .ok (.if_icmp .eq 24, 3) := by decide +kernel
theorem dX6_leave_16 : decode cX6_leave 16 = .ok (.aload_n 0, 1) := by decide +kernel
theorem dX6_leave_17 : decode cX6_leave 17 = .ok (.getfield 10, 3) := by decide +kernel
theorem dX6_leave_20 : decode cX6_leave 20 = .ok (.iload_n 2, 1) := by decide +kernel
theorem dX6_leave_21 : decode cX6_leave 21 = .ok (.invokevirtual 84, 3) := by decide +kernel
theorem dX6_leave_24 : decode cX6_leave 24 = .ok (.ifCond .ne 13, 3) := by decide +kernel
theorem dX6_leave_27 : decode cX6_leave 27 = .ok (.new 88, 3) := by decide +kernel
theorem dX6_leave_30 : decode cX6_leave 30 = .ok (.dup, 1) := by decide +kernel
theorem dX6_leave_31 : decode cX6_leave 31 = .ok (.ldc 90, 2) := by decide +kernel
theorem dX6_leave_33 : decode cX6_leave 33 = .ok (.invokespecial 92, 3) := by decide +kernel
theorem dX6_leave_36 : decode cX6_leave 36 = .ok (.athrow, 1) := by decide +kernel
theorem dX6_leave_37 : decode cX6_leave 37 = .ok (.iload_n 1, 1) := by decide +kernel
theorem dX6_leave_38 : decode cX6_leave 38 = .ok (.iload_n 2, 1) := by decide +kernel
theorem dX6_leave_39 : decode cX6_leave 39 = .ok (.if_icmp .eq 18, 3) := by decide +kernel
theorem dX6_leave_42 : decode cX6_leave 42 = .ok (.iload_n 2, 1) := by decide +kernel
theorem dX6_leave_43 : decode cX6_leave 43 = .ok (.iconst (-1), 1) := by decide +kernel
theorem dX6_leave_44 : decode cX6_leave 44 = .ok (.if_icmp .eq 23, 3) := by decide +kernel
theorem dX6_leave_47 : decode cX6_leave 47 = .ok (.iload_n 3, 1) := by decide +kernel
theorem dX6_leave_48 : decode cX6_leave 48 = .ok (.iconst 1, 1) := by decide +kernel
theorem dX6_leave_49 : decode cX6_leave 49 = .ok (.bipush 6, 2) := by decide +kernel
theorem dX6_leave_51 : decode cX6_leave 51 = .ok (.invokestatic 56, 3) := by decide +kernel
theorem dX6_leave_54 : decode cX6_leave 54 = .ok (.ifCond .ne 13, 3) := by decide +kernel
theorem dX6_leave_57 : decode cX6_leave 57 = .ok (.new 60, 3) := by decide +kernel
theorem dX6_leave_60 : decode cX6_leave 60 = .ok (.dup, 1) := by decide +kernel
theorem dX6_leave_61 : decode cX6_leave 61 = .ok (.ldc 93, 2) := by decide +kernel
theorem dX6_leave_63 : decode cX6_leave 63 = .ok (.invokespecial 64, 3) := by decide +kernel
theorem dX6_leave_66 : decode cX6_leave 66 = .ok (.athrow, 1) := by decide +kernel
theorem dX6_leave_67 : decode cX6_leave 67 = .ok (.aload_n 0, 1) := by decide +kernel
theorem dX6_leave_68 : decode cX6_leave 68 = .ok (.getfield 16, 3) := by decide +kernel
theorem dX6_leave_71 : decode cX6_leave 71 = .ok (.aload_n 0, 1) := by decide +kernel
theorem dX6_leave_72 : decode cX6_leave 72 = .ok (.getfield 10, 3) := by decide +kernel
theorem dX6_leave_75 : decode cX6_leave 75 = .ok (.invokevirtual 95, 3) := by decide +kernel
theorem dX6_leave_78 : decode cX6_leave 78 = .ok (.aload_n 0, 1) := by decide +kernel
theorem dX6_leave_79 : decode cX6_leave 79 = .ok (.getfield 16, 3) := by decide +kernel
theorem dX6_leave_82 : decode cX6_leave 82 = .ok (.getfield 98, 3) := by decide +kernel
theorem dX6_leave_85 : decode cX6_leave 85 = .ok (.iload_n 1, 1) := by decide +kernel
theorem dX6_leave_86 : decode cX6_leave 86 = .ok (.iload_n 2, 1) := by decide +kernel
theorem dX6_leave_87 : decode cX6_leave 87 = .ok (.invokestatic 102, 3) := by decide +kernel
theorem dX6_leave_90 : decode cX6_leave 90 = .ok (.aload_n 0, 1) := by decide +kernel
theorem dX6_leave_91 : decode cX6_leave 91 = .ok (.getfield 16, 3) := by decide +kernel
theorem dX6_leave_94 : decode cX6_leave 94 = .ok (.getfield 106, 3) := by decide +kernel
theorem dX6_leave_97 : decode cX6_leave 97 = .ok (.iload_n 1, 1) := by decide +kernel
theorem dX6_leave_98 : decode cX6_leave 98 = .ok (.iload_n 2, 1) := by decide +kernel
theorem dX6_leave_99 : decode cX6_leave 99 = .ok (.iconst (-1), 1) := by decide +kernel
theorem dX6_leave_100 : decode cX6_leave 100 = .ok (.if_icmp .ne 7, 3) := by decide +kernel
theorem dX6_leave_103 : decode cX6_leave 103 = .ok (.iconst 0, 1) := by decide +kernel
theorem dX6_leave_104 : decode cX6_leave 104 = .ok (.goto 4, 3) := by decide +kernel
theorem dX6_leave_107 : decode cX6_leave 107 = .ok (.iload_n 3, 1) := by decide +kernel
theorem dX6_leave_108 : decode cX6_leave 108 = .ok (.invokestatic 102, 3) := by decide +kernel
theorem dX6_leave_111 : decode cX6_leave 111 = .ok (.aload_n 0, 1) := by decide +kernel
theorem dX6_leave_112 : decode cX6_leave 112 = .ok (.getfield 22, 3) := by decide +kernel
theorem dX6_leave_115 : decode cX6_leave 115 = .ok (.aload_n 0, 1) := by decide +kernel
theorem dX6_leave_116 : decode cX6_leave 116 = .ok (.getfield 16, 3) := by decide +kernel
theorem dX6_leave_119 : decode cX6_leave 119 = .ok (.invokevirtual 109, 3) := by decide +kernel
theorem dX6_leave_122 : decode cX6_leave 122 = .ok (.ifCond .ne 13, 3) := by decide +kernel
theorem dX6_leave_125 : decode cX6_leave 125 = .ok (.new 71, 3) := by decide +kernel
theorem dX6_leave_128 : decode cX6_leave 128 = .ok (.dup, 1) := by decide +kernel
theorem dX6_leave_129 : decode cX6_leave 129 = .ok (.ldc 113, 2) := by decide +kernel
theorem dX6_leave_131 : decode cX6_leave 131 = .ok (.invokespecial 75, 3) := by decide +kernel
theorem dX6_leave_134 : decode cX6_leave 134 = .ok (.athrow, 1) := by decide +kernel
theorem dX6_leave_135 : decode cX6_leave 135 = .ok (.aload_n 0, 1) := by decide +kernel
theorem dX6_leave_136 : decode cX6_leave 136 = .ok (.getfield 10, 3) := by decide +kernel
theorem dX6_leave_139 : decode cX6_leave 139 = .ok (.getfield 98, 3) := by decide +kernel
theorem dX6_leave_142 : decode cX6_leave 142 = .ok (.iload_n 1, 1) := by decide +kernel
theorem dX6_leave_143 : decode cX6_leave 143 = .ok (.invokestatic 115, 3) := by decide +kernel
theorem dX6_leave_146 : decode cX6_leave 146 = .ok (.istore 4, 2) := by decide +kernel
theorem dX6_leave_148 : decode cX6_leave 148 = .ok (.aload_n 0, 1) := by decide +kernel
theorem dX6_leave_149 : decode cX6_leave 149 = .ok (.invokevirtual 119, 3) := by decide +kernel
theorem dX6_leave_152 : decode cX6_leave 152 = .ok (.iload 4, 2) := by decide +kernel
theorem dX6_leave_154 : decode cX6_leave 154 = .ok (.ireturn, 1) := by decide +kernel
set_option maxRecDepth 20000 in
theorem ggX6_addGuest_X0_save : GoodIn wsX6_addGuest wsX0_save := goodIn_r _ [10, 11, 12, 13, 14, 15, 9, 16, 17, 18, 19, 20, 21, 22, 23, 24, 25, 26, 27, 28, 29, 30, 31, 32, 33, 34, 35, 36, 37, 38, 39, 40, 41, 42, 43, 44, 45, 71, 72, 73, 59, 60, 61, 62, 63, 64, 65, 66, 67, 68, 69, 70] (by decide +kernel) (by decide +kernel)
set_option maxRecDepth 20000 in
theorem gX6_addGuest_X0_save : GoodIn wsX6_addGuest (wsV RX6 76 RX0 yX0_save wsX0_save) := goodIn_app (goodIn_of _ (by decide +kernel)) ggX6_addGuest_X0_save
set_option maxRecDepth 20000 in
theorem ggX6_addGuest_X5_newGuest : GoodIn wsX6_addGuest wsX5_newGuest := goodIn_r _ [49, 30, 31, 32, 50, 36, 51, 59, 60, 61, 62, 63, 64, 65, 66, 67, 68, 69, 70] (by decide +kernel) (by decide +kernel)
set_option maxRecDepth 20000 in
theorem gX6_addGuest_X5_newGuest : GoodIn wsX6_addGuest (wsV RX6 127 RX5 yX5_newGuest wsX5_newGuest) := goodIn_app (goodIn_of _ (by decide +kernel)) ggX6_addGuest_X5_newGuest
theorem dX6_addGuest_0 : decode cX6_addGuest 0 = .ok (.aload_n 0, 1) := by decide +kernel
theorem dX6_addGuest_1 : decode cX6_addGuest 1 = .ok (.getfield 10, 3) := by decide +kernel
theorem dX6_addGuest_4 : decode cX6_addGuest 4 = .ok (.getfield 122, 3) := by decide +kernel
theorem dX6_addGuest_7 : decode cX6_addGuest 7 = .ok (.bipush 6, 2) := by decide +kernel
theorem dX6_addGuest_9 : decode cX6_addGuest 9 = .ok (.if_icmp .lt 13, 3) := by decide +kernel
theorem dX6_addGuest_12 : decode cX6_addGuest 12 = .ok (.new 71, 3) := by decide +kernel
theorem dX6_addGuest_15 : decode cX6_addGuest 15 = .ok (.dup, 1) := by decide +kernel
theorem dX6_addGuest_16 : decode cX6_addGuest 16 = .ok (.ldc 125, 2) := by decide +kernel
theorem dX6_addGuest_18 : decode cX6_addGuest 18 = .ok (.invokespecial 75, 3) := by decide +kernel
theorem dX6_addGuest_21 : decode cX6_addGuest 21 = .ok (.athrow, 1) := by decide +kernel
theorem dX6_addGuest_22 : decode cX6_addGuest 22 = .ok (.aload_n 0, 1) := by decide +kernel
theorem dX6_addGuest_23 : decode cX6_addGuest 23 = .ok (.getfield 38, 3) := by decide +kernel
theorem dX6_addGuest_26 : decode cX6_addGuest 26 = .ok (.aload_n 0, 1) := by decide +kernel
theorem dX6_addGuest_27 : decode cX6_addGuest 27 = .ok (.getfield 10, 3) := by decide +kernel
theorem dX6_addGuest_30 : decode cX6_addGuest 30 = .ok (.invokevirtual 76, 3) := by decide +kernel
theorem dX6_addGuest_33 : decode cX6_addGuest 33 = .ok (.aload_n 0, 1) := by decide +kernel
theorem dX6_addGuest_34 : decode cX6_addGuest 34 = .ok (.getfield 10, 3) := by decide +kernel
theorem dX6_addGuest_37 : decode cX6_addGuest 37 = .ok (.invokevirtual 127, 3) := by decide +kernel
theorem dX6_addGuest_40 : decode cX6_addGuest 40 = .ok (.ireturn, 1) := by decide +kernel
set_option maxRecDepth 20000 in
theorem ggX6_come_X5_hasGuest : GoodIn wsX6_come wsX5_hasGuest := goodIn_r _ [14, 15, 92, 93, 94, 95, 96, 97, 98, 99, 100, 101, 102, 103] (by decide +kernel) (by decide +kernel)
set_option maxRecDepth 20000 in
theorem gX6_come_X5_hasGuest : GoodIn wsX6_come (wsV RX6 131 RX5 yX5_hasGuest wsX5_hasGuest) := goodIn_app (goodIn_of _ (by decide +kernel)) ggX6_come_X5_hasGuest
set_option maxRecDepth 20000 in
theorem ggX6_come_X6_isWithin : GoodIn wsX6_come wsX6_isWithin := goodIn_r _ [19] (by decide +kernel) (by decide +kernel)
set_option maxRecDepth 20000 in
theorem gX6_come_X6_isWithin : GoodIn wsX6_come (va_wsS RX6 56 yX6_isWithin wsX6_isWithin) := goodIn_app (goodIn_of _ (by decide +kernel)) ggX6_come_X6_isWithin
set_option maxRecDepth 20000 in
theorem ggX6_come_X5_copyFrom : GoodIn wsX6_come wsX5_copyFrom := goodIn_r _ [23, 24, 25, 26, 27, 28, 29, 30, 15, 31, 32, 33, 34, 35, 18, 36, 37, 38, 39, 40, 41, 42, 43, 44, 92, 93, 94, 95, 96, 97, 98, 99, 100, 101, 102, 103] (by decide +kernel) (by decide +kernel)
set_option maxRecDepth 20000 in
theorem gX6_come_X5_copyFrom : GoodIn wsX6_come (wsV RX6 95 RX5 yX5_copyFrom wsX5_copyFrom) := goodIn_app (goodIn_of _ (by decide +kernel)) ggX6_come_X5_copyFrom
set_option maxRecDepth 20000 in
theorem ggX6_come_X6_put : GoodIn wsX6_come wsX6_put := goodIn_r _ [47] (by decide +kernel) (by decide +kernel)
set_option maxRecDepth 20000 in
theorem gX6_come_X6_put : GoodIn wsX6_come (va_wsS RX6 102 yX6_put wsX6_put) := goodIn_app (goodIn_of _ (by decide +kernel)) ggX6_come_X6_put
set_option maxRecDepth 20000 in
theorem ggX6_come_X5_hasVetoedDish : GoodIn wsX6_come wsX5_hasVetoedDish := goodIn_r _ [51, 34, 52, 18, 53, 54, 55, 56, 13, 57, 27, 58, 59, 60, 61, 15, 32, 62, 63, 64, 65, 31, 92, 93, 94, 95, 96, 97, 98, 99, 100, 101, 102, 103] (by decide +kernel) (by decide +kernel)
set_option maxRecDepth 20000 in
theorem gX6_come_X5_hasVetoedDish : GoodIn wsX6_come (wsV RX6 141 RX5 yX5_hasVetoedDish wsX5_hasVetoedDish) := goodIn_app (goodIn_of _ (by decide +kernel)) ggX6_come_X5_hasVetoedDish
set_option maxRecDepth 20000 in
theorem ggX6_come_X6_at : GoodIn wsX6_come wsX6_at := goodIn_r _ [53] (by decide +kernel) (by decide +kernel)
set_option maxRecDepth 20000 in
theorem gX6_come_X6_at : GoodIn wsX6_come (va_wsS RX6 115 yX6_at wsX6_at) := goodIn_app (goodIn_of _ (by decide +kernel)) ggX6_come_X6_at
set_option maxRecDepth 20000 in
theorem ggX6_come_X6_takeOverTrial : GoodIn wsX6_come wsX6_takeOverTrial := goodIn_r _ [70, 71, 7, 8, 72, 73, 74, 75, 76, 77, 78, 79, 80, 81, 82, 83, 84, 21, 22, 13, 23, 24, 25, 26, 27, 28, 29, 30, 15, 31, 32, 33, 34, 35, 18, 36, 37, 38, 39, 40, 41, 42, 43, 44, 20, 85, 86, 87, 88, 89, 90, 91, 104, 105, 106, 92, 93, 94, 95, 96, 97, 98, 99, 100, 101, 102, 103] (by decide +kernel) (by decide +kernel)
set_option maxRecDepth 20000 in
theorem gX6_come_X6_takeOverTrial : GoodIn wsX6_come (wsV RX6 119 RX6 yX6_takeOverTrial wsX6_takeOverTrial) := goodIn_app (goodIn_of _ (by decide +kernel)) ggX6_come_X6_takeOverTrial
theorem dX6_come_0 : decode cX6_come 0 = .ok (.aload_n 0, 1) := by decide +kernel
theorem dX6_come_1 : decode cX6_come 1 = .ok (.getfield 10, 3) := by decide +kernel
theorem dX6_come_4 : decode cX6_come 4 = .ok (.iload_n 1, 1) := by decide +kernel
theorem dX6_come_5 : decode cX6_come 5 = .ok (.invokevirtual 131, 3) := by decide +kernel
theorem dX6_come_8 : decode cX6_come 8 = .ok (.ifCond .ne 13, 3) := by decide +kernel
theorem dX6_come_11 : decode cX6_come 11 = .ok (.new 88, 3) := by decide +kernel
theorem dX6_come_14 : decode cX6_come 14 = .ok (.dup, 1) := by decide +kernel
theorem dX6_come_15 : decode cX6_come 15 = .ok (.ldc 134, 2) := by decide +kernel
theorem dX6_come_17 : decode cX6_come 17 = .ok (.invokespecial 92, 3) := by decide +kernel
theorem dX6_come_20 : decode cX6_come 20 = .ok (.athrow, 1) := by decide +kernel
theorem dX6_come_21 : decode cX6_come 21 = .ok (.iload_n 2, 1) := by decide +kernel
theorem dX6_come_22 : decode cX6_come 22 = .ok (.iconst 0, 1) := by decide +kernel
theorem dX6_come_23 : decode cX6_come 23 = .ok (.bipush 127, 2) := by decide +kernel
theorem dX6_come_25 : decode cX6_come 25 = .ok (.invokestatic 56, 3) := by decide +kernel
theorem dX6_come_28 : decode cX6_come 28 = .ok (.ifCond .ne 13, 3) := by decide +kernel
theorem dX6_come_31 : decode cX6_come 31 = .ok (.new 60, 3) := by decide +kernel
theorem dX6_come_34 : decode cX6_come 34 = .ok (.dup, 1) := by decide +kernel
theorem dX6_come_35 : decode cX6_come 35 = .ok (.ldc 136, 2) := by decide +kernel
theorem dX6_come_37 : decode cX6_come 37 = .ok (.invokespecial 64, 3) := by decide +kernel
theorem dX6_come_40 : decode cX6_come 40 = .ok (.athrow, 1) := by decide +kernel
theorem dX6_come_41 : decode cX6_come 41 = .ok (.aload_n 0, 1) := by decide +kernel
theorem dX6_come_42 : decode cX6_come 42 = .ok (.getfield 16, 3) := by decide +kernel
theorem dX6_come_45 : decode cX6_come 45 = .ok (.aload_n 0, 1) := by decide +kernel
theorem dX6_come_46 : decode cX6_come 46 = .ok (.getfield 10, 3) := by decide +kernel
theorem dX6_come_49 : decode cX6_come 49 = .ok (.invokevirtual 95, 3) := by decide +kernel
theorem dX6_come_52 : decode cX6_come 52 = .ok (.aload_n 0, 1) := by decide +kernel
theorem dX6_come_53 : decode cX6_come 53 = .ok (.getfield 16, 3) := by decide +kernel
theorem dX6_come_56 : decode cX6_come 56 = .ok (.getfield 138, 3) := by decide +kernel
theorem dX6_come_59 : decode cX6_come 59 = .ok (.iload_n 1, 1) := by decide +kernel
theorem dX6_come_60 : decode cX6_come 60 = .ok (.iload_n 2, 1) := by decide +kernel
theorem dX6_come_61 : decode cX6_come 61 = .ok (.invokestatic 102, 3) := by decide +kernel
theorem dX6_come_64 : decode cX6_come 64 = .ok (.aload_n 0, 1) := by decide +kernel
theorem dX6_come_65 : decode cX6_come 65 = .ok (.getfield 16, 3) := by decide +kernel
theorem dX6_come_68 : decode cX6_come 68 = .ok (.invokevirtual 141, 3) := by decide +kernel
theorem dX6_come_71 : decode cX6_come 71 = .ok (.ifCond .eq 13, 3) := by decide +kernel
theorem dX6_come_74 : decode cX6_come 74 = .ok (.new 71, 3) := by decide +kernel
theorem dX6_come_77 : decode cX6_come 77 = .ok (.dup, 1) := by decide +kernel
theorem dX6_come_78 : decode cX6_come 78 = .ok (.ldc 145, 2) := by decide +kernel
theorem dX6_come_80 : decode cX6_come 80 = .ok (.invokespecial 75, 3) := by decide +kernel
theorem dX6_come_83 : decode cX6_come 83 = .ok (.athrow, 1) := by decide +kernel
theorem dX6_come_84 : decode cX6_come 84 = .ok (.aload_n 0, 1) := by decide +kernel
theorem dX6_come_85 : decode cX6_come 85 = .ok (.getfield 10, 3) := by decide +kernel
theorem dX6_come_88 : decode cX6_come 88 = .ok (.getfield 138, 3) := by decide +kernel
theorem dX6_come_91 : decode cX6_come 91 = .ok (.iload_n 1, 1) := by decide +kernel
theorem dX6_come_92 : decode cX6_come 92 = .ok (.invokestatic 115, 3) := by decide +kernel
theorem dX6_come_95 : decode cX6_come 95 = .ok (.istore_n 3, 1) := by decide +kernel
theorem dX6_come_96 : decode cX6_come 96 = .ok (.aload_n 0, 1) := by decide +kernel
theorem dX6_come_97 : decode cX6_come 97 = .ok (.invokevirtual 119, 3) := by decide +kernel
theorem dX6_come_100 : decode cX6_come 100 = .ok (.iload_n 3, 1) := by decide +kernel
theorem dX6_come_101 : decode cX6_come 101 = .ok (.ireturn, 1) := by decide +kernel
set_option maxRecDepth 20000 in
theorem ggX6_veto_X5_hasGuest : GoodIn wsX6_veto wsX5_hasGuest := goodIn_r _ [14, 15, 92, 93, 94, 95, 96, 97, 98, 99, 100, 101, 102, 103] (by decide +kernel) (by decide +kernel)
set_option maxRecDepth 20000 in
theorem gX6_veto_X5_hasGuest : GoodIn wsX6_veto (wsV RX6 131 RX5 yX5_hasGuest wsX5_hasGuest) := goodIn_app (goodIn_of _ (by decide +kernel)) ggX6_veto_X5_hasGuest
set_option maxRecDepth 20000 in
theorem ggX6_veto_X6_isWithin : GoodIn wsX6_veto wsX6_isWithin := goodIn_r _ [19] (by decide +kernel) (by decide +kernel)
set_option maxRecDepth 20000 in
theorem gX6_veto_X6_isWithin : GoodIn wsX6_veto (va_wsS RX6 56 yX6_isWithin wsX6_isWithin) := goodIn_app (goodIn_of _ (by decide +kernel)) ggX6_veto_X6_isWithin
set_option maxRecDepth 20000 in
theorem ggX6_veto_X5_copyFrom : GoodIn wsX6_veto wsX5_copyFrom := goodIn_r _ [23, 24, 25, 26, 27, 28, 29, 30, 15, 31, 32, 33, 34, 35, 18, 36, 37, 38, 39, 40, 41, 42, 43, 44, 92, 93, 94, 95, 96, 97, 98, 99, 100, 101, 102, 103] (by decide +kernel) (by decide +kernel)
set_option maxRecDepth 20000 in
theorem gX6_veto_X5_copyFrom : GoodIn wsX6_veto (wsV RX6 95 RX5 yX5_copyFrom wsX5_copyFrom) := goodIn_app (goodIn_of _ (by decide +kernel)) ggX6_veto_X5_copyFrom
set_option maxRecDepth 20000 in
theorem ggX6_veto_X6_put : GoodIn wsX6_veto wsX6_put := goodIn_r _ [47] (by decide +kernel) (by decide +kernel)
set_option maxRecDepth 20000 in
theorem gX6_veto_X6_put : GoodIn wsX6_veto (va_wsS RX6 102 yX6_put wsX6_put) := goodIn_app (goodIn_of _ (by decide +kernel)) ggX6_veto_X6_put
set_option maxRecDepth 20000 in
theorem ggX6_veto_X5_hasVetoedDish : GoodIn wsX6_veto wsX5_hasVetoedDish := goodIn_r _ [51, 34, 52, 18, 53, 54, 55, 56, 13, 57, 27, 58, 59, 60, 61, 15, 32, 62, 63, 64, 65, 31, 92, 93, 94, 95, 96, 97, 98, 99, 100, 101, 102, 103] (by decide +kernel) (by decide +kernel)
set_option maxRecDepth 20000 in
theorem gX6_veto_X5_hasVetoedDish : GoodIn wsX6_veto (wsV RX6 141 RX5 yX5_hasVetoedDish wsX5_hasVetoedDish) := goodIn_app (goodIn_of _ (by decide +kernel)) ggX6_veto_X5_hasVetoedDish
set_option maxRecDepth 20000 in
theorem ggX6_veto_X6_at : GoodIn wsX6_veto wsX6_at := goodIn_r _ [53] (by decide +kernel) (by decide +kernel)
set_option maxRecDepth 20000 in
theorem gX6_veto_X6_at : GoodIn wsX6_veto (va_wsS RX6 115 yX6_at wsX6_at) := goodIn_app (goodIn_of _ (by decide +kernel)) ggX6_veto_X6_at
set_option maxRecDepth 20000 in
theorem ggX6_veto_X6_takeOverTrial : GoodIn wsX6_veto wsX6_takeOverTrial := goodIn_r _ [70, 71, 7, 8, 72, 73, 74, 75, 76, 77, 78, 79, 80, 81, 82, 83, 84, 21, 22, 13, 23, 24, 25, 26, 27, 28, 29, 30, 15, 31, 32, 33, 34, 35, 18, 36, 37, 38, 39, 40, 41, 42, 43, 44, 20, 85, 86, 87, 88, 89, 90, 91, 104, 105, 106, 92, 93, 94, 95, 96, 97, 98, 99, 100, 101, 102, 103] (by decide +kernel) (by decide +kernel)
set_option maxRecDepth 20000 in
theorem gX6_veto_X6_takeOverTrial : GoodIn wsX6_veto (wsV RX6 119 RX6 yX6_takeOverTrial wsX6_takeOverTrial) := goodIn_app (goodIn_of _ (by decide +kernel)) ggX6_veto_X6_takeOverTrial
theorem dX6_veto_0 : decode cX6_veto 0 = .ok (.aload_n 0, 1) := by decide +kernel
theorem dX6_veto_1 : decode cX6_veto 1 = .ok (.getfield 10, 3) := by decide +kernel
theorem dX6_veto_4 : decode cX6_veto 4 = .ok (.iload_n 1, 1) := by decide +kernel
theorem dX6_veto_5 : decode cX6_veto 5 = .ok (.invokevirtual 131, 3) := by decide +kernel
theorem dX6_veto_8 : decode cX6_veto 8 = .ok (.ifCond .ne 13, 3) := by decide +kernel
theorem dX6_veto_11 : decode cX6_veto 11 = .ok (.new 88, 3) := by decide +kernel
theorem dX6_veto_14 : decode cX6_veto 14 = .ok (.dup, 1) := by decide +kernel
theorem dX6_veto_15 : decode cX6_veto 15 = .ok (.ldc 134, 2) := by decide +kernel
theorem dX6_veto_17 : decode cX6_veto 17 = .ok (.invokespecial 92, 3) := by decide +kernel
theorem dX6_veto_20 : decode cX6_veto 20 = .ok (.athrow, 1) := by decide +kernel
theorem dX6_veto_21 : decode cX6_veto 21 = .ok (.iload_n 2, 1) := by decide +kernel
theorem dX6_veto_22 : decode cX6_veto 22 = .ok (.iconst 0, 1) := by decide +kernel
theorem dX6_veto_23 : decode cX6_veto 23 = .ok (.bipush 63, 2) := by decide +kernel
theorem dX6_veto_25 : decode cX6_veto 25 = .ok (.invokestatic 56, 3) := by decide +kernel
theorem dX6_veto_28 : decode cX6_veto 28 = .ok (.ifCond .ne 13, 3) := by decide +kernel
theorem dX6_veto_31 : decode cX6_veto 31 = .ok (.new 60, 3) := by decide +kernel
theorem dX6_veto_34 : decode cX6_veto 34 = .ok (.dup, 1) := by decide +kernel
theorem dX6_veto_35 : decode cX6_veto 35 = .ok (.ldc 147, 2) := by decide +kernel
theorem dX6_veto_37 : decode cX6_veto 37 = .ok (.invokespecial 64, 3) := by decide +kernel
theorem dX6_veto_40 : decode cX6_veto 40 = .ok (.athrow, 1) := by decide +kernel
theorem dX6_veto_41 : decode cX6_veto 41 = .ok (.aload_n 0, 1) := by decide +kernel
theorem dX6_veto_42 : decode cX6_veto 42 = .ok (.getfield 16, 3) := by decide +kernel
theorem dX6_veto_45 : decode cX6_veto 45 = .ok (.aload_n 0, 1) := by decide +kernel
theorem dX6_veto_46 : decode cX6_veto 46 = .ok (.getfield 10, 3) := by decide +kernel
theorem dX6_veto_49 : decode cX6_veto 49 = .ok (.invokevirtual 95, 3) := by decide +kernel
theorem dX6_veto_52 : decode cX6_veto 52 = .ok (.aload_n 0, 1) := by decide +kernel
theorem dX6_veto_53 : decode cX6_veto 53 = .ok (.getfield 16, 3) := by decide +kernel
theorem dX6_veto_56 : decode cX6_veto 56 = .ok (.getfield 149, 3) := by decide +kernel
theorem dX6_veto_59 : decode cX6_veto 59 = .ok (.iload_n 1, 1) := by decide +kernel
theorem dX6_veto_60 : decode cX6_veto 60 = .ok (.iload_n 2, 1) := by decide +kernel
theorem dX6_veto_61 : decode cX6_veto 61 = .ok (.invokestatic 102, 3) := by decide +kernel
theorem dX6_veto_64 : decode cX6_veto 64 = .ok (.aload_n 0, 1) := by decide +kernel
theorem dX6_veto_65 : decode cX6_veto 65 = .ok (.getfield 16, 3) := by decide +kernel
theorem dX6_veto_68 : decode cX6_veto 68 = .ok (.invokevirtual 141, 3) := by decide +kernel
theorem dX6_veto_71 : decode cX6_veto 71 = .ok (.ifCond .eq 13, 3) := by decide +kernel
theorem dX6_veto_74 : decode cX6_veto 74 = .ok (.new 71, 3) := by decide +kernel
theorem dX6_veto_77 : decode cX6_veto 77 = .ok (.dup, 1) := by decide +kernel
theorem dX6_veto_78 : decode cX6_veto 78 = .ok (.ldc 145, 2) := by decide +kernel
theorem dX6_veto_80 : decode cX6_veto 80 = .ok (.invokespecial 75, 3) := by decide +kernel
theorem dX6_veto_83 : decode cX6_veto 83 = .ok (.athrow, 1) := by decide +kernel
theorem dX6_veto_84 : decode cX6_veto 84 = .ok (.aload_n 0, 1) := by decide +kernel
theorem dX6_veto_85 : decode cX6_veto 85 = .ok (.getfield 10, 3) := by decide +kernel
theorem dX6_veto_88 : decode cX6_veto 88 = .ok (.getfield 149, 3) := by decide +kernel
theorem dX6_veto_91 : decode cX6_veto 91 = .ok (.iload_n 1, 1) := by decide +kernel
theorem dX6_veto_92 : decode cX6_veto 92 = .ok (.invokestatic 115, 3) := by decide +kernel
theorem dX6_veto_95 : decode cX6_veto 95 = .ok (.istore_n 3, 1) := by decide +kernel
theorem dX6_veto_96 : decode cX6_veto 96 = .ok (.aload_n 0, 1) := by decide +kernel
theorem dX6_veto_97 : decode cX6_veto 97 = .ok (.invokevirtual 119, 3) := by decide +kernel
theorem dX6_veto_100 : decode cX6_veto 100 = .ok (.iload_n 3, 1) := by decide +kernel
theorem dX6_veto_101 : decode cX6_veto 101 = .ok (.ireturn, 1) := by decide +kernel
set_option maxRecDepth 20000 in
theorem ggX6_set_X6_isWithin : GoodIn wsX6_set wsX6_isWithin := goodIn_r _ [13] (by decide +kernel) (by decide +kernel)
set_option maxRecDepth 20000 in
theorem gX6_set_X6_isWithin : GoodIn wsX6_set (va_wsS RX6 56 yX6_isWithin wsX6_isWithin) := goodIn_app (goodIn_of _ (by decide +kernel)) ggX6_set_X6_isWithin
set_option maxRecDepth 20000 in
theorem ggX6_set_X6_leastValue : GoodIn wsX6_set wsX6_leastValue := goodIn_r _ [16] (by decide +kernel) (by decide +kernel)
set_option maxRecDepth 20000 in
theorem gX6_set_X6_leastValue : GoodIn wsX6_set (va_wsS RX6 154 yX6_leastValue wsX6_leastValue) := goodIn_app (goodIn_of _ (by decide +kernel)) ggX6_set_X6_leastValue
set_option maxRecDepth 20000 in
theorem ggX6_set_X6_greatestValue : GoodIn wsX6_set wsX6_greatestValue := goodIn_r _ [19] (by decide +kernel) (by decide +kernel)
set_option maxRecDepth 20000 in
theorem gX6_set_X6_greatestValue : GoodIn wsX6_set (va_wsS RX6 158 yX6_greatestValue wsX6_greatestValue) := goodIn_app (goodIn_of _ (by decide +kernel)) ggX6_set_X6_greatestValue
set_option maxRecDepth 20000 in
theorem ggX6_set_X5_copyFrom : GoodIn wsX6_set wsX5_copyFrom := goodIn_r _ [24, 25, 26, 27, 28, 29, 30, 31, 32, 33, 34, 35, 36, 37, 12, 38, 39, 40, 41, 42, 43, 44, 45, 46, 92, 93, 94, 95, 96, 97, 98, 99, 100, 101, 102, 103] (by decide +kernel) (by decide +kernel)
set_option maxRecDepth 20000 in
theorem gX6_set_X5_copyFrom : GoodIn wsX6_set (wsV RX6 95 RX5 yX5_copyFrom wsX5_copyFrom) := goodIn_app (goodIn_of _ (by decide +kernel)) ggX6_set_X5_copyFrom
set_option maxRecDepth 20000 in
theorem ggX6_set_X6_put : GoodIn wsX6_set wsX6_put := goodIn_r _ [49] (by decide +kernel) (by decide +kernel)
set_option maxRecDepth 20000 in
theorem gX6_set_X6_put : GoodIn wsX6_set (va_wsS RX6 102 yX6_put wsX6_put) := goodIn_app (goodIn_of _ (by decide +kernel)) ggX6_set_X6_put
set_option maxRecDepth 20000 in
theorem ggX6_set_X5_isAboveBudget : GoodIn wsX6_set wsX5_isAboveBudget := goodIn_r _ [53, 35, 54, 55, 56, 23, 57, 58, 59, 60, 61, 36, 27, 62, 12, 63, 64, 65, 92, 93, 94, 95, 96, 97, 98, 99, 100, 101, 102, 103] (by decide +kernel) (by decide +kernel)
set_option maxRecDepth 20000 in
theorem gX6_set_X5_isAboveBudget : GoodIn wsX6_set (wsV RX6 166 RX5 yX5_isAboveBudget wsX5_isAboveBudget) := goodIn_app (goodIn_of _ (by decide +kernel)) ggX6_set_X5_isAboveBudget
set_option maxRecDepth 20000 in
theorem ggX6_set_X6_at : GoodIn wsX6_set wsX6_at := goodIn_r _ [65] (by decide +kernel) (by decide +kernel)
set_option maxRecDepth 20000 in
theorem gX6_set_X6_at : GoodIn wsX6_set (va_wsS RX6 115 yX6_at wsX6_at) := goodIn_app (goodIn_of _ (by decide +kernel)) ggX6_set_X6_at
set_option maxRecDepth 20000 in
theorem ggX6_set_X6_takeOverTrial : GoodIn wsX6_set wsX6_takeOverTrial := goodIn_r _ [70, 71, 8, 7, 72, 73, 74, 75, 76, 77, 78, 79, 80, 81, 82, 83, 84, 21, 22, 23, 24, 25, 26, 27, 28, 29, 30, 31, 32, 33, 34, 35, 36, 37, 12, 38, 39, 40, 41, 42, 43, 44, 45, 46, 20, 85, 86, 87, 88, 89, 90, 91, 104, 105, 106, 92, 93, 94, 95, 96, 97, 98, 99, 100, 101, 102, 103] (by decide +kernel) (by decide +kernel)
set_option maxRecDepth 20000 in
theorem gX6_set_X6_takeOverTrial : GoodIn wsX6_set (wsV RX6 119 RX6 yX6_takeOverTrial wsX6_takeOverTrial) := goodIn_app (goodIn_of _ (by decide +kernel)) ggX6_set_X6_takeOverTrial
theorem dX6_set_0 : decode cX6_set 0 = .ok (.iload_n 1, 1) := by decide +kernel
theorem dX6_set_1 : decode cX6_set 1 = .ok (.iconst 0, 1) := by decide +kernel
theorem dX6_set_2 : decode cX6_set 2 = .ok (.iconst 2, 1) := by decide +kernel
theorem dX6_set_3 : decode cX6_set 3 = .ok (.invokestatic 56, 3) := by decide +kernel
theorem dX6_set_6 : decode cX6_set 6 = .ok (.ifCond .ne 13, 3) := by decide +kernel
theorem dX6_set_9 : decode cX6_set 9 = .ok (.new 88, 3) := by decide +kernel
theorem dX6_set_12 : decode cX6_set 12 = .ok (.dup, 1) := by decide +kernel
theorem dX6_set_13 : decode cX6_set 13 = .ok (.ldc 152, 2) := by decide +kernel
theorem dX6_set_15 : decode cX6_set 15 = .ok (.invokespecial 92, 3) := by decide +kernel
theorem dX6_set_18 : decode cX6_set 18 = .ok (.athrow, 1) := by decide +kernel
theorem dX6_set_19 : decode cX6_set 19 = .ok (.iload_n 2, 1) := by decide +kernel
theorem dX6_set_20 : decode cX6_set 20 = .ok (.iload_n 1, 1) := by decide +kernel
theorem dX6_set_21 : decode cX6_set 21 = .ok (.invokestatic 154, 3) := by decide +kernel
theorem dX6_set_24 : decode cX6_set 24 = .ok (.iload_n 1, 1) := by decide +kernel
theorem dX6_set_25 : decode cX6_set 25 = .ok (.invokestatic 158, 3) := by decide +kernel
theorem dX6_set_28 : decode cX6_set 28 = .ok (.invokestatic 56, 3) := by decide +kernel
theorem dX6_set_31 : decode cX6_set 31 = .ok (.ifCond .ne 13, 3) := by decide +kernel
theorem dX6_set_34 : decode cX6_set 34 = .ok (.new 60, 3) := by decide +kernel
theorem dX6_set_37 : decode cX6_set 37 = .ok (.dup, 1) := by decide +kernel
theorem dX6_set_38 : decode cX6_set 38 = .ok (.ldc 161, 2) := by decide +kernel
theorem dX6_set_40 : decode cX6_set 40 = .ok (.invokespecial 64, 3) := by decide +kernel
theorem dX6_set_43 : decode cX6_set 43 = .ok (.athrow, 1) := by decide +kernel
theorem dX6_set_44 : decode cX6_set 44 = .ok (.aload_n 0, 1) := by decide +kernel
theorem dX6_set_45 : decode cX6_set 45 = .ok (.getfield 16, 3) := by decide +kernel
theorem dX6_set_48 : decode cX6_set 48 = .ok (.aload_n 0, 1) := by decide +kernel
theorem dX6_set_49 : decode cX6_set 49 = .ok (.getfield 10, 3) := by decide +kernel
theorem dX6_set_52 : decode cX6_set 52 = .ok (.invokevirtual 95, 3) := by decide +kernel
theorem dX6_set_55 : decode cX6_set 55 = .ok (.aload_n 0, 1) := by decide +kernel
theorem dX6_set_56 : decode cX6_set 56 = .ok (.getfield 16, 3) := by decide +kernel
theorem dX6_set_59 : decode cX6_set 59 = .ok (.getfield 163, 3) := by decide +kernel
theorem dX6_set_62 : decode cX6_set 62 = .ok (.iload_n 1, 1) := by decide +kernel
theorem dX6_set_63 : decode cX6_set 63 = .ok (.iload_n 2, 1) := by decide +kernel
theorem dX6_set_64 : decode cX6_set 64 = .ok (.invokestatic 102, 3) := by decide +kernel
theorem dX6_set_67 : decode cX6_set 67 = .ok (.aload_n 0, 1) := by decide +kernel
theorem dX6_set_68 : decode cX6_set 68 = .ok (.getfield 16, 3) := by decide +kernel
theorem dX6_set_71 : decode cX6_set 71 = .ok (.invokevirtual 166, 3) := by decide +kernel
theorem dX6_set_74 : decode cX6_set 74 = .ok (.ifCond .eq 13, 3) := by decide +kernel
theorem dX6_set_77 : decode cX6_set 77 = .ok (.new 71, 3) := by decide +kernel
theorem dX6_set_80 : decode cX6_set 80 = .ok (.dup, 1) := by decide +kernel
theorem dX6_set_81 : decode cX6_set 81 = .ok (.ldc 169, 2) := by decide +kernel
theorem dX6_set_83 : decode cX6_set 83 = .ok (.invokespecial 75, 3) := by decide +kernel
theorem dX6_set_86 : decode cX6_set 86 = .ok (.athrow, 1) := by decide +kernel
theorem dX6_set_87 : decode cX6_set 87 = .ok (.aload_n 0, 1) := by decide +kernel
theorem dX6_set_88 : decode cX6_set 88 = .ok (.getfield 10, 3) := by decide +kernel
theorem dX6_set_91 : decode cX6_set 91 = .ok (.getfield 163, 3) := by decide +kernel
theorem dX6_set_94 : decode cX6_set 94 = .ok (.iload_n 1, 1) := by decide +kernel
theorem dX6_set_95 : decode cX6_set 95 = .ok (.invokestatic 115, 3) := by decide +kernel
theorem dX6_set_98 : decode cX6_set 98 = .ok (.istore_n 3, 1) := by decide +kernel
theorem dX6_set_99 : decode cX6_set 99 = .ok (.aload_n 0, 1) := by decide +kernel
theorem dX6_set_100 : decode cX6_set 100 = .ok (.invokevirtual 119, 3) := by decide +kernel
theorem dX6_set_103 : decode cX6_set 103 = .ok (.iload_n 3, 1) := by decide +kernel
theorem dX6_set_104 : decode cX6_set 104 = .ok (.ireturn, 1) := by decide +kernel
set_option maxRecDepth 20000 in
theorem ggX6_serve_X6_isDay : GoodIn wsX6_serve wsX6_isDay := goodIn_r _ [13] (by decide +kernel) (by decide +kernel)
set_option maxRecDepth 20000 in
theorem gX6_serve_X6_isDay : GoodIn wsX6_serve (va_wsS RX6 171 yX6_isDay wsX6_isDay) := goodIn_app (goodIn_of _ (by decide +kernel)) ggX6_serve_X6_isDay
set_option maxRecDepth 20000 in
theorem ggX6_serve_X5_hasDish : GoodIn wsX6_serve wsX5_hasDish := goodIn_r _ [18, 19, 153, 154, 155, 156, 157, 158, 159, 160, 161, 162, 163, 164] (by decide +kernel) (by decide +kernel)
set_option maxRecDepth 20000 in
theorem gX6_serve_X5_hasDish : GoodIn wsX6_serve (wsV RX6 84 RX5 yX5_hasDish wsX5_hasDish) := goodIn_app (goodIn_of _ (by decide +kernel)) ggX6_serve_X5_hasDish
set_option maxRecDepth 20000 in
theorem ggX6_serve_X6_at : GoodIn wsX6_serve wsX6_at := goodIn_r _ [22] (by decide +kernel) (by decide +kernel)
set_option maxRecDepth 20000 in
theorem gX6_serve_X6_at : GoodIn wsX6_serve (va_wsS RX6 115 yX6_at wsX6_at) := goodIn_app (goodIn_of _ (by decide +kernel)) ggX6_serve_X6_at
set_option maxRecDepth 20000 in
theorem ggX6_serve_X2_reasonAgainst : GoodIn wsX6_serve wsX2_reasonAgainst := goodIn_r _ [27, 28, 29, 30, 31, 32, 33, 34, 12, 35, 21, 22, 36, 37, 38, 17, 39, 40, 41, 42, 43, 44, 45, 46, 47, 48, 49, 50, 51, 52, 53, 54, 55, 56, 57, 58, 59, 60, 61, 62, 63, 64, 65, 66, 67, 68, 69, 70, 71, 19, 72, 73, 74, 75, 76, 77, 78, 79, 80, 81, 82, 83, 84, 85, 86, 87, 88, 89, 90, 91, 92, 93, 94, 95, 96, 97, 98, 99, 165, 166, 153, 154, 155, 156, 157, 158, 159, 160, 161, 162, 163, 164, 167, 168] (by decide +kernel) (by decide +kernel)
set_option maxRecDepth 20000 in
theorem gX6_serve_X2_reasonAgainst : GoodIn wsX6_serve (wsV RX6 179 RX2 yX2_reasonAgainst wsX2_reasonAgainst) := goodIn_app (goodIn_of _ (by decide +kernel)) ggX6_serve_X2_reasonAgainst
set_option maxRecDepth 20000 in
theorem ggX6_serve_X0_save : GoodIn wsX6_serve wsX0_save := goodIn_r _ [104, 105, 106, 107, 108, 109, 103, 110, 111, 112, 113, 114, 17, 115, 19, 116, 61, 40, 117, 72, 118, 45, 51, 46, 119, 60, 120, 12, 121, 122, 123, 96, 124, 125, 126, 127, 128, 169, 170, 171, 153, 154, 155, 156, 157, 158, 159, 160, 161, 162, 163, 164] (by decide +kernel) (by decide +kernel)
set_option maxRecDepth 20000 in
theorem gX6_serve_X0_save : GoodIn wsX6_serve (wsV RX6 76 RX0 yX0_save wsX0_save) := goodIn_app (goodIn_of _ (by decide +kernel)) ggX6_serve_X0_save
set_option maxRecDepth 20000 in
theorem ggX6_serve_X6_cellOf : GoodIn wsX6_serve wsX6_cellOf := goodIn_r _ [35] (by decide +kernel) (by decide +kernel)
set_option maxRecDepth 20000 in
theorem gX6_serve_X6_cellOf : GoodIn wsX6_serve (va_wsS RX6 188 yX6_cellOf wsX6_cellOf) := goodIn_app (goodIn_of _ (by decide +kernel)) ggX6_serve_X6_cellOf
set_option maxRecDepth 20000 in
theorem ggX6_serve_X6_put : GoodIn wsX6_serve wsX6_put := goodIn_r _ [84] (by decide +kernel) (by decide +kernel)
set_option maxRecDepth 20000 in
theorem gX6_serve_X6_put : GoodIn wsX6_serve (va_wsS RX6 102 yX6_put wsX6_put) := goodIn_app (goodIn_of _ (by decide +kernel)) ggX6_serve_X6_put
set_option maxRecDepth 20000 in
theorem ggX6_serve_X2_joyOfDish : GoodIn wsX6_serve wsX2_joyOfDish := goodIn_r _ [134, 135, 136, 137, 26, 138, 28, 139, 32, 140, 95, 96, 97, 29, 21, 12, 22, 34, 35, 141, 142, 143, 144, 145, 165, 166, 153, 154, 155, 156, 157, 158, 159, 160, 161, 162, 163, 164] (by decide +kernel) (by decide +kernel)
set_option maxRecDepth 20000 in
theorem gX6_serve_X2_joyOfDish : GoodIn wsX6_serve (wsV RX6 192 RX2 yX2_joyOfDish wsX2_joyOfDish) := goodIn_app (goodIn_of _ (by decide +kernel)) ggX6_serve_X2_joyOfDish
theorem dX6_serve_0 : decode cX6_serve 0 = .ok (.iload_n 1, 1) := by decide +kernel
theorem dX6_serve_1 : decode cX6_serve 1 = .ok (.invokestatic 171, 3) := by decide +kernel
theorem dX6_serve_4 : decode cX6_serve 4 = .ok (.ifCond .eq 14, 3) := by decide +kernel
theorem dX6_serve_7 : decode cX6_serve 7 = .ok (.aload_n 0, 1) := by decide +kernel
theorem dX6_serve_8 : decode cX6_serve 8 = .ok (.getfield 10, 3) := by decide +kernel
theorem dX6_serve_11 : decode cX6_serve 11 = .ok (.iload_n 2, 1) := by decide +kernel
theorem dX6_serve_12 : decode cX6_serve 12 = .ok (.invokevirtual 84, 3) := by decide +kernel
theorem dX6_serve_15 : decode cX6_serve 15 = .ok (.ifCond .ne 13, 3) := by decide +kernel
theorem dX6_serve_18 : decode cX6_serve 18 = .ok (.new 88, 3) := by decide +kernel
theorem dX6_serve_21 : decode cX6_serve 21 = .ok (.dup, 1) := by decide +kernel
theorem dX6_serve_22 : decode cX6_serve 22 = .ok (.ldc 174, 2) := by decide +kernel
theorem dX6_serve_24 : decode cX6_serve 24 = .ok (.invokespecial 92, 3) := by decide +kernel
theorem dX6_serve_27 : decode cX6_serve 27 = .ok (.athrow, 1) := by decide +kernel
theorem dX6_serve_28 : decode cX6_serve 28 = .ok (.aload_n 0, 1) := by decide +kernel
theorem dX6_serve_29 : decode cX6_serve 29 = .ok (.getfield 10, 3) := by decide +kernel
theorem dX6_serve_32 : decode cX6_serve 32 = .ok (.getfield 176, 3) := by decide +kernel
theorem dX6_serve_35 : decode cX6_serve 35 = .ok (.iload_n 2, 1) := by decide +kernel
theorem dX6_serve_36 : decode cX6_serve 36 = .ok (.invokestatic 115, 3) := by decide +kernel
theorem dX6_serve_39 : decode cX6_serve 39 = .ok (.istore_n 3, 1) := by decide +kernel
theorem dX6_serve_40 : decode cX6_serve 40 = .ok (.aload_n 0, 1) := by decide +kernel
theorem dX6_serve_41 : decode cX6_serve 41 = .ok (.getfield 31, 3) := by decide +kernel
theorem dX6_serve_44 : decode cX6_serve 44 = .ok (.iload_n 1, 1) := by decide +kernel
theorem dX6_serve_45 : decode cX6_serve 45 = .ok (.iload_n 3, 1) := by decide +kernel
theorem dX6_serve_46 : decode cX6_serve 46 = .ok (.iload_n 2, 1) := by decide +kernel
theorem dX6_serve_47 : decode cX6_serve 47 = .ok (.invokevirtual 179, 3) := by decide +kernel
theorem dX6_serve_50 : decode cX6_serve 50 = .ok (.ifCond .eq 13, 3) := by decide +kernel
theorem dX6_serve_53 : decode cX6_serve 53 = .ok (.new 71, 3) := by decide +kernel
theorem dX6_serve_56 : decode cX6_serve 56 = .ok (.dup, 1) := by decide +kernel
theorem dX6_serve_57 : decode cX6_serve 57 = .ok (.ldc 183, 2) := by decide +kernel
theorem dX6_serve_59 : decode cX6_serve 59 = .ok (.invokespecial 75, 3) := by decide +kernel
theorem dX6_serve_62 : decode cX6_serve 62 = .ok (.athrow, 1) := by decide +kernel
theorem dX6_serve_63 : decode cX6_serve 63 = .ok (.aload_n 0, 1) := by decide +kernel
theorem dX6_serve_64 : decode cX6_serve 64 = .ok (.getfield 38, 3) := by decide +kernel
theorem dX6_serve_67 : decode cX6_serve 67 = .ok (.aload_n 0, 1) := by decide +kernel
theorem dX6_serve_68 : decode cX6_serve 68 = .ok (.getfield 10, 3) := by decide +kernel
theorem dX6_serve_71 : decode cX6_serve 71 = .ok (.invokevirtual 76, 3) := by decide +kernel
theorem dX6_serve_74 : decode cX6_serve 74 = .ok (.aload_n 0, 1) := by decide +kernel
theorem dX6_serve_75 : decode cX6_serve 75 = .ok (.getfield 10, 3) := by decide +kernel
theorem dX6_serve_78 : decode cX6_serve 78 = .ok (.getfield 185, 3) := by decide +kernel
theorem dX6_serve_81 : decode cX6_serve 81 = .ok (.iload_n 1, 1) := by decide +kernel
theorem dX6_serve_82 : decode cX6_serve 82 = .ok (.iload_n 3, 1) := by decide +kernel
theorem dX6_serve_83 : decode cX6_serve 83 = .ok (.invokestatic 188, 3) := by decide +kernel
theorem dX6_serve_86 : decode cX6_serve 86 = .ok (.iload_n 2, 1) := by decide +kernel
theorem dX6_serve_87 : decode cX6_serve 87 = .ok (.invokestatic 102, 3) := by decide +kernel
theorem dX6_serve_90 : decode cX6_serve 90 = .ok (.aload_n 0, 1) := by decide +kernel
theorem dX6_serve_91 : decode cX6_serve 91 = .ok (.getfield 31, 3) := by decide +kernel
theorem dX6_serve_94 : decode cX6_serve 94 = .ok (.iload_n 1, 1) := by decide +kernel
theorem dX6_serve_95 : decode cX6_serve 95 = .ok (.iload_n 2, 1) := by decide +kernel
theorem dX6_serve_96 : decode cX6_serve 96 = .ok (.invokevirtual 192, 3) := by decide +kernel
theorem dX6_serve_99 : decode cX6_serve 99 = .ok (.ireturn, 1) := by decide +kernel
set_option maxRecDepth 20000 in
theorem ggX6_drop_X6_isDay : GoodIn wsX6_drop wsX6_isDay := goodIn_r _ [12] (by decide +kernel) (by decide +kernel)
set_option maxRecDepth 20000 in
theorem gX6_drop_X6_isDay : GoodIn wsX6_drop (va_wsS RX6 171 yX6_isDay wsX6_isDay) := goodIn_app (goodIn_of _ (by decide +kernel)) ggX6_drop_X6_isDay
set_option maxRecDepth 20000 in
theorem ggX6_drop_X6_isPart : GoodIn wsX6_drop wsX6_isPart := goodIn_r _ [15] (by decide +kernel) (by decide +kernel)
set_option maxRecDepth 20000 in
theorem gX6_drop_X6_isPart : GoodIn wsX6_drop (va_wsS RX6 195 yX6_isPart wsX6_isPart) := goodIn_app (goodIn_of _ (by decide +kernel)) ggX6_drop_X6_isPart
set_option maxRecDepth 20000 in
theorem ggX6_drop_X6_cellOf : GoodIn wsX6_drop wsX6_cellOf := goodIn_r _ [18] (by decide +kernel) (by decide +kernel)
set_option maxRecDepth 20000 in
theorem gX6_drop_X6_cellOf : GoodIn wsX6_drop (va_wsS RX6 188 yX6_cellOf wsX6_cellOf) := goodIn_app (goodIn_of _ (by decide +kernel)) ggX6_drop_X6_cellOf
set_option maxRecDepth 20000 in
theorem ggX6_drop_X6_at : GoodIn wsX6_drop wsX6_at := goodIn_r _ [21] (by decide +kernel) (by decide +kernel)
set_option maxRecDepth 20000 in
theorem gX6_drop_X6_at : GoodIn wsX6_drop (va_wsS RX6 115 yX6_at wsX6_at) := goodIn_app (goodIn_of _ (by decide +kernel)) ggX6_drop_X6_at
set_option maxRecDepth 20000 in
theorem ggX6_drop_X5_copyFrom : GoodIn wsX6_drop wsX5_copyFrom := goodIn_r _ [26, 27, 28, 29, 30, 31, 32, 33, 34, 35, 36, 37, 38, 39, 11, 40, 41, 42, 43, 44, 45, 46, 47, 48, 116, 117, 118, 119, 120, 121, 122, 123, 124, 125, 126, 127] (by decide +kernel) (by decide +kernel)
set_option maxRecDepth 20000 in
theorem gX6_drop_X5_copyFrom : GoodIn wsX6_drop (wsV RX6 95 RX5 yX5_copyFrom wsX5_copyFrom) := goodIn_app (goodIn_of _ (by decide +kernel)) ggX6_drop_X5_copyFrom
set_option maxRecDepth 20000 in
theorem ggX6_drop_X6_put : GoodIn wsX6_drop wsX6_put := goodIn_r _ [51] (by decide +kernel) (by decide +kernel)
set_option maxRecDepth 20000 in
theorem gX6_drop_X6_put : GoodIn wsX6_drop (va_wsS RX6 102 yX6_put wsX6_put) := goodIn_app (goodIn_of _ (by decide +kernel)) ggX6_drop_X6_put
set_option maxRecDepth 20000 in
theorem ggX6_drop_X1_areSound : GoodIn wsX6_drop wsX1_areSound := goodIn_r _ [56, 57, 58, 59, 55, 60, 61, 62, 63, 64, 65, 66, 67, 68, 69, 70, 71, 72, 73, 74, 25, 75, 27, 32, 20, 11, 21, 76, 77, 78, 79, 80, 81, 17, 18, 82, 83, 84, 85, 86, 87, 43, 88, 89, 90, 50, 51, 116, 117, 118, 119, 120, 121, 122, 123, 124, 125, 126, 127, 128, 129] (by decide +kernel) (by decide +kernel)
set_option maxRecDepth 20000 in
theorem gX6_drop_X1_areSound : GoodIn wsX6_drop (wsV RX6 109 RX1 yX1_areSound wsX1_areSound) := goodIn_app (goodIn_of _ (by decide +kernel)) ggX6_drop_X1_areSound
set_option maxRecDepth 20000 in
theorem ggX6_drop_X6_takeOverTrial : GoodIn wsX6_drop wsX6_takeOverTrial := goodIn_r _ [94, 95, 5, 7, 96, 97, 98, 99, 100, 101, 102, 103, 104, 105, 106, 107, 108, 23, 24, 25, 26, 27, 28, 29, 30, 31, 32, 33, 34, 35, 36, 37, 38, 39, 11, 40, 41, 42, 43, 44, 45, 46, 47, 48, 22, 109, 110, 111, 112, 113, 114, 115, 130, 131, 132, 116, 117, 118, 119, 120, 121, 122, 123, 124, 125, 126, 127] (by decide +kernel) (by decide +kernel)
set_option maxRecDepth 20000 in
theorem gX6_drop_X6_takeOverTrial : GoodIn wsX6_drop (wsV RX6 119 RX6 yX6_takeOverTrial wsX6_takeOverTrial) := goodIn_app (goodIn_of _ (by decide +kernel)) ggX6_drop_X6_takeOverTrial
theorem dX6_drop_0 : decode cX6_drop 0 = .ok (.iload_n 1, 1) := by decide +kernel
theorem dX6_drop_1 : decode cX6_drop 1 = .ok (.invokestatic 171, 3) := by decide +kernel
theorem dX6_drop_4 : decode cX6_drop 4 = .ok (.ifCond .eq 10, 3) := by decide +kernel
theorem dX6_drop_7 : decode cX6_drop 7 = .ok (.iload_n 2, 1) := by decide +kernel
theorem dX6_drop_8 : decode cX6_drop 8 = .ok (.invokestatic 195, 3) := by decide +kernel
theorem dX6_drop_11 : decode cX6_drop 11 = .ok (.ifCond .ne 13, 3) := by decide +kernel
theorem dX6_drop_14 : decode cX6_drop 14 = .ok (.new 88, 3) := by decide +kernel
theorem dX6_drop_17 : decode cX6_drop 17 = .ok (.dup, 1) := by decide +kernel
theorem dX6_drop_18 : decode cX6_drop 18 = .ok (.ldc 198, 2) := by decide +kernel
theorem dX6_drop_20 : decode cX6_drop 20 = .ok (.invokespecial 92, 3) := by decide +kernel
theorem dX6_drop_23 : decode cX6_drop 23 = .ok (.athrow, 1) := by decide +kernel
theorem dX6_drop_24 : decode cX6_drop 24 = .ok (.iload_n 1, 1) := by decide +kernel
theorem dX6_drop_25 : decode cX6_drop 25 = .ok (.iload_n 2, 1) := by decide +kernel
theorem dX6_drop_26 : decode cX6_drop 26 = .ok (.invokestatic 188, 3) := by decide +kernel
theorem dX6_drop_29 : decode cX6_drop 29 = .ok (.istore_n 3, 1) := by decide +kernel
theorem dX6_drop_30 : decode cX6_drop 30 = .ok (.aload_n 0, 1) := by decide +kernel
theorem dX6_drop_31 : decode cX6_drop 31 = .ok (.getfield 10, 3) := by decide +kernel
theorem dX6_drop_34 : decode cX6_drop 34 = .ok (.getfield 185, 3) := by decide +kernel
theorem dX6_drop_37 : decode cX6_drop 37 = .ok (.iload_n 3, 1) := by decide +kernel
theorem dX6_drop_38 : decode cX6_drop 38 = .ok (.invokestatic 115, 3) := by decide +kernel
theorem dX6_drop_41 : decode cX6_drop 41 = .ok (.istore 4, 2) := by decide +kernel
theorem dX6_drop_43 : decode cX6_drop 43 = .ok (.iload 4, 2) := by decide +kernel
theorem dX6_drop_45 : decode cX6_drop 45 = .ok (.iconst (-1), 1) := by decide +kernel
theorem dX6_drop_46 : decode cX6_drop 46 = .ok (.if_icmp .ne 13, 3) := by decide +kernel
theorem dX6_drop_49 : decode cX6_drop 49 = .ok (.new 71, 3) := by decide +kernel
theorem dX6_drop_52 : decode cX6_drop 52 = .ok (.dup, 1) := by decide +kernel
theorem dX6_drop_53 : decode cX6_drop 53 = .ok (.ldc 200, 2) := by decide +kernel
theorem dX6_drop_55 : decode cX6_drop 55 = .ok (.invokespecial 75, 3) := by decide +kernel
theorem dX6_drop_58 : decode cX6_drop 58 = .ok (.athrow, 1) := by decide +kernel
theorem dX6_drop_59 : decode cX6_drop 59 = .ok (.aload_n 0, 1) := by decide +kernel
theorem dX6_drop_60 : decode cX6_drop 60 = .ok (.getfield 16, 3) := by decide +kernel
theorem dX6_drop_63 : decode cX6_drop 63 = .ok (.aload_n 0, 1) := by decide +kernel
theorem dX6_drop_64 : decode cX6_drop 64 = .ok (.getfield 10, 3) := by decide +kernel
theorem dX6_drop_67 : decode cX6_drop 67 = .ok (.invokevirtual 95, 3) := by decide +kernel
theorem dX6_drop_70 : decode cX6_drop 70 = .ok (.aload_n 0, 1) := by decide +kernel
theorem dX6_drop_71 : decode cX6_drop 71 = .ok (.getfield 16, 3) := by decide +kernel
theorem dX6_drop_74 : decode cX6_drop 74 = .ok (.getfield 185, 3) := by decide +kernel
theorem dX6_drop_77 : decode cX6_drop 77 = .ok (.iload_n 3, 1) := by decide +kernel
theorem dX6_drop_78 : decode cX6_drop 78 = .ok (.iconst (-1), 1) := by decide +kernel
theorem dX6_drop_79 : decode cX6_drop 79 = .ok (.invokestatic 102, 3) := by decide +kernel
theorem dX6_drop_82 : decode cX6_drop 82 = .ok (.aload_n 0, 1) := by decide +kernel
theorem dX6_drop_83 : decode cX6_drop 83 = .ok (.getfield 22, 3) := by decide +kernel
theorem dX6_drop_86 : decode cX6_drop 86 = .ok (.aload_n 0, 1) := by decide +kernel
theorem dX6_drop_87 : decode cX6_drop 87 = .ok (.getfield 16, 3) := by decide +kernel
theorem dX6_drop_90 : decode cX6_drop 90 = .ok (.invokevirtual 109, 3) := by decide +kernel
theorem dX6_drop_93 : decode cX6_drop 93 = .ok (.ifCond .ne 13, 3) := by decide +kernel
theorem dX6_drop_96 : decode cX6_drop 96 = .ok (.new 71, 3) := by decide +kernel
theorem dX6_drop_99 : decode cX6_drop 99 = .ok (.dup, 1) := by decide +kernel
theorem dX6_drop_100 : decode cX6_drop 100 = .ok (.ldc 113, 2) := by decide +kernel
theorem dX6_drop_102 : decode cX6_drop 102 = .ok (.invokespecial 75, 3) := by decide +kernel
theorem dX6_drop_105 : decode cX6_drop 105 = .ok (.athrow, 1) := by decide +kernel
theorem dX6_drop_106 : decode cX6_drop 106 = .ok (.aload_n 0, 1) := by decide +kernel
theorem dX6_drop_107 : decode cX6_drop 107 = .ok (.invokevirtual 119, 3) := by decide +kernel
theorem dX6_drop_110 : decode cX6_drop 110 = .ok (.iload 4, 2) := by decide +kernel
theorem dX6_drop_112 : decode cX6_drop 112 = .ok (.ireturn, 1) := by decide +kernel
set_option maxRecDepth 20000 in
theorem ggX6_exchange_X6_isDay : GoodIn wsX6_exchange wsX6_isDay := goodIn_r _ [11] (by decide +kernel) (by decide +kernel)
set_option maxRecDepth 20000 in
theorem gX6_exchange_X6_isDay : GoodIn wsX6_exchange (va_wsS RX6 171 yX6_isDay wsX6_isDay) := goodIn_app (goodIn_of _ (by decide +kernel)) ggX6_exchange_X6_isDay
set_option maxRecDepth 20000 in
theorem ggX6_exchange_X5_copyFrom : GoodIn wsX6_exchange wsX5_copyFrom := goodIn_r _ [16, 17, 18, 19, 20, 21, 22, 23, 24, 25, 26, 27, 28, 29, 10, 30, 31, 32, 33, 34, 35, 36, 37, 38, 173, 174, 175, 176, 177, 178, 179, 180, 181, 182, 183, 184] (by decide +kernel) (by decide +kernel)
set_option maxRecDepth 20000 in
theorem gX6_exchange_X5_copyFrom : GoodIn wsX6_exchange (wsV RX6 95 RX5 yX5_copyFrom wsX5_copyFrom) := goodIn_app (goodIn_of _ (by decide +kernel)) ggX6_exchange_X5_copyFrom
set_option maxRecDepth 20000 in
theorem ggX6_exchange_X5_exchangeMeals : GoodIn wsX6_exchange wsX5_exchangeMeals := goodIn_r _ [42, 28, 43, 10, 44, 45, 46, 47, 48, 173, 174, 175, 176, 177, 178, 179, 180, 181, 182, 183, 184] (by decide +kernel) (by decide +kernel)
set_option maxRecDepth 20000 in
theorem gX6_exchange_X5_exchangeMeals : GoodIn wsX6_exchange (wsV RX6 204 RX5 yX5_exchangeMeals wsX5_exchangeMeals) := goodIn_app (goodIn_of _ (by decide +kernel)) ggX6_exchange_X5_exchangeMeals
set_option maxRecDepth 20000 in
theorem ggX6_exchange_X6_canStand : GoodIn wsX6_exchange wsX6_canStand := goodIn_r _ [52, 53, 54, 55, 56, 15, 57, 28, 45, 10, 46, 58, 59, 60, 61, 20, 62, 63, 64, 65, 24, 26, 66, 67, 68, 69, 25, 70, 71, 72, 73, 27, 74, 75, 76, 77, 78, 79, 80, 81, 19, 43, 44, 82, 83, 84, 85, 86, 87, 88, 89, 90, 91, 92, 93, 94, 95, 96, 97, 98, 99, 100, 101, 102, 103, 104, 105, 17, 22, 106, 107, 108, 109, 110, 111, 112, 113, 114, 115, 116, 117, 33, 118, 119, 120, 47, 48, 166, 167, 168, 169, 170, 171, 172, 173, 174, 175, 176, 177, 178, 179, 180, 181, 182, 183, 184, 185, 186] (by decide +kernel) (by decide +kernel)
set_option maxRecDepth 20000 in
theorem gX6_exchange_X6_canStand : GoodIn wsX6_exchange (wsV RX6 208 RX6 yX6_canStand wsX6_canStand) := goodIn_app (goodIn_of _ (by decide +kernel)) ggX6_exchange_X6_canStand
set_option maxRecDepth 20000 in
theorem ggX6_exchange_X6_takeOverTrial : GoodIn wsX6_exchange wsX6_takeOverTrial := goodIn_r _ [124, 125, 6, 5, 126, 127, 128, 129, 130, 131, 132, 133, 134, 135, 136, 137, 138, 13, 14, 15, 16, 17, 18, 19, 20, 21, 22, 23, 24, 25, 26, 27, 28, 29, 10, 30, 31, 32, 33, 34, 35, 36, 37, 38, 12, 166, 167, 168, 169, 170, 171, 172, 187, 188, 189, 173, 174, 175, 176, 177, 178, 179, 180, 181, 182, 183, 184] (by decide +kernel) (by decide +kernel)
set_option maxRecDepth 20000 in
theorem gX6_exchange_X6_takeOverTrial : GoodIn wsX6_exchange (wsV RX6 119 RX6 yX6_takeOverTrial wsX6_takeOverTrial) := goodIn_app (goodIn_of _ (by decide +kernel)) ggX6_exchange_X6_takeOverTrial
set_option maxRecDepth 20000 in
theorem ggX6_exchange_X2_joyOfPlan : GoodIn wsX6_exchange wsX2_joyOfPlan := goodIn_r _ [143, 144, 145, 146, 142, 147, 148, 149, 43, 10, 44, 45, 46, 150, 151, 152, 153, 154, 155, 156, 157, 158, 159, 160, 117, 33, 118, 161, 162, 163, 164, 165, 190, 191, 173, 174, 175, 176, 177, 178, 179, 180, 181, 182, 183, 184] (by decide +kernel) (by decide +kernel)
set_option maxRecDepth 20000 in
theorem gX6_exchange_X2_joyOfPlan : GoodIn wsX6_exchange (wsV RX6 213 RX2 yX2_joyOfPlan wsX2_joyOfPlan) := goodIn_app (goodIn_of _ (by decide +kernel)) ggX6_exchange_X2_joyOfPlan
theorem dX6_exchange_0 : decode cX6_exchange 0 = .ok (.iload_n 1, 1) := by decide +kernel
theorem dX6_exchange_1 : decode cX6_exchange 1 = .ok (.invokestatic 171, 3) := by decide +kernel
theorem dX6_exchange_4 : decode cX6_exchange 4 = .ok (.ifCond .eq 10, 3) := by decide +kernel
theorem dX6_exchange_7 : decode cX6_exchange 7 = .ok (.iload_n 2, 1) := by decide +kernel
theorem dX6_exchange_8 : decode cX6_exchange 8 = .ok (.invokestatic 171, 3) := by decide +kernel
theorem dX6_exchange_11 : decode cX6_exchange 11 = .ok (.ifCond .ne 13, 3) := by decide +kernel
theorem dX6_exchange_14 : decode cX6_exchange 14 = .ok (.new 88, 3) := by decide +kernel
theorem dX6_exchange_17 : decode cX6_exchange 17 = .ok (.dup, 1) := by decide +kernel
theorem dX6_exchange_18 : decode cX6_exchange 18 = .ok (.ldc 202, 2) := by decide +kernel
theorem dX6_exchange_20 : decode cX6_exchange 20 = .ok (.invokespecial 92, 3) := by decide +kernel
theorem dX6_exchange_23 : decode cX6_exchange 23 = .ok (.athrow, 1) := by decide +kernel
theorem dX6_exchange_24 : decode cX6_exchange 24 = .ok (.aload_n 0, 1) := by decide +kernel
theorem dX6_exchange_25 : decode cX6_exchange 25 = .ok (.getfield 16, 3) := by decide +kernel
theorem dX6_exchange_28 : decode cX6_exchange 28 = .ok (.aload_n 0, 1) := by decide +kernel
theorem dX6_exchange_29 : decode cX6_exchange 29 = .ok (.getfield 10, 3) := by decide +kernel
theorem dX6_exchange_32 : decode cX6_exchange 32 = .ok (.invokevirtual 95, 3) := by decide +kernel
theorem dX6_exchange_35 : decode cX6_exchange 35 = .ok (.aload_n 0, 1) := by decide +kernel
theorem dX6_exchange_36 : decode cX6_exchange 36 = .ok (.getfield 16, 3) := by decide +kernel
theorem dX6_exchange_39 : decode cX6_exchange 39 = .ok (.iload_n 1, 1) := by decide +kernel
theorem dX6_exchange_40 : decode cX6_exchange 40 = .ok (.iload_n 2, 1) := by decide +kernel
theorem dX6_exchange_41 : decode cX6_exchange 41 = .ok (.invokevirtual 204, 3) := by decide +kernel
theorem dX6_exchange_44 : decode cX6_exchange 44 = .ok (.aload_n 0, 1) := by decide +kernel
theorem dX6_exchange_45 : decode cX6_exchange 45 = .ok (.aload_n 0, 1) := by decide +kernel
theorem dX6_exchange_46 : decode cX6_exchange 46 = .ok (.getfield 16, 3) := by decide +kernel
theorem dX6_exchange_49 : decode cX6_exchange 49 = .ok (.invokevirtual 208, 3) := by decide +kernel
theorem dX6_exchange_52 : decode cX6_exchange 52 = .ok (.ifCond .ne 13, 3) := by decide +kernel
theorem dX6_exchange_55 : decode cX6_exchange 55 = .ok (.new 71, 3) := by decide +kernel
theorem dX6_exchange_58 : decode cX6_exchange 58 = .ok (.dup, 1) := by decide +kernel
theorem dX6_exchange_59 : decode cX6_exchange 59 = .ok (.ldc 211, 2) := by decide +kernel
theorem dX6_exchange_61 : decode cX6_exchange 61 = .ok (.invokespecial 75, 3) := by decide +kernel
theorem dX6_exchange_64 : decode cX6_exchange 64 = .ok (.athrow, 1) := by decide +kernel
theorem dX6_exchange_65 : decode cX6_exchange 65 = .ok (.aload_n 0, 1) := by decide +kernel
theorem dX6_exchange_66 : decode cX6_exchange 66 = .ok (.invokevirtual 119, 3) := by decide +kernel
theorem dX6_exchange_69 : decode cX6_exchange 69 = .ok (.aload_n 0, 1) := by decide +kernel
theorem dX6_exchange_70 : decode cX6_exchange 70 = .ok (.getfield 31, 3) := by decide +kernel
theorem dX6_exchange_73 : decode cX6_exchange 73 = .ok (.invokevirtual 213, 3) := by decide +kernel
theorem dX6_exchange_76 : decode cX6_exchange 76 = .ok (.ireturn, 1) := by decide +kernel
set_option maxRecDepth 20000 in
theorem ggX6_fill_X6_isDay : GoodIn wsX6_fill wsX6_isDay := goodIn_r _ [10] (by decide +kernel) (by decide +kernel)
set_option maxRecDepth 20000 in
theorem gX6_fill_X6_isDay : GoodIn wsX6_fill (va_wsS RX6 171 yX6_isDay wsX6_isDay) := goodIn_app (goodIn_of _ (by decide +kernel)) ggX6_fill_X6_isDay
set_option maxRecDepth 20000 in
theorem ggX6_fill_X0_save : GoodIn wsX6_fill wsX0_save := goodIn_r _ [15, 16, 17, 18, 19, 20, 14, 21, 22, 23, 24, 25, 26, 27, 28, 29, 30, 31, 32, 33, 34, 35, 36, 37, 38, 39, 40, 9, 41, 42, 43, 44, 45, 46, 47, 48, 49, 166, 167, 168, 154, 155, 156, 157, 158, 159, 160, 161, 162, 163, 164, 165] (by decide +kernel) (by decide +kernel)
set_option maxRecDepth 20000 in
theorem gX6_fill_X0_save : GoodIn wsX6_fill (wsV RX6 76 RX0 yX0_save wsX0_save) := goodIn_app (goodIn_of _ (by decide +kernel)) ggX6_fill_X0_save
set_option maxRecDepth 20000 in
theorem ggX6_fill_X2_bestDish : GoodIn wsX6_fill wsX2_bestDish := goodIn_r _ [54, 55, 56, 57, 58, 59, 53, 60, 61, 62, 63, 64, 65, 66, 9, 67, 68, 69, 70, 71, 72, 26, 73, 31, 74, 75, 76, 77, 35, 37, 78, 79, 80, 81, 36, 82, 83, 84, 85, 86, 87, 88, 89, 39, 30, 90, 91, 92, 93, 94, 95, 96, 97, 98, 99, 28, 33, 100, 101, 102, 103, 104, 105, 106, 107, 108, 109, 110, 111, 112, 113, 114, 115, 116, 117, 118, 119, 120, 121, 122, 44, 123, 124, 125, 126, 127, 128, 129, 130, 131, 132, 133, 134, 135, 136, 137, 138, 139, 140, 141, 142, 143, 144, 169, 170, 154, 155, 156, 157, 158, 159, 160, 161, 162, 163, 164, 165, 171, 172] (by decide +kernel) (by decide +kernel)
set_option maxRecDepth 20000 in
theorem gX6_fill_X2_bestDish : GoodIn wsX6_fill (wsV RX6 216 RX2 yX2_bestDish wsX2_bestDish) := goodIn_app (goodIn_of _ (by decide +kernel)) ggX6_fill_X2_bestDish
set_option maxRecDepth 20000 in
theorem ggX6_fill_X6_cellOf : GoodIn wsX6_fill wsX6_cellOf := goodIn_r _ [67] (by decide +kernel) (by decide +kernel)
set_option maxRecDepth 20000 in
theorem gX6_fill_X6_cellOf : GoodIn wsX6_fill (va_wsS RX6 188 yX6_cellOf wsX6_cellOf) := goodIn_app (goodIn_of _ (by decide +kernel)) ggX6_fill_X6_cellOf
set_option maxRecDepth 20000 in
theorem ggX6_fill_X6_put : GoodIn wsX6_fill wsX6_put := goodIn_r _ [111] (by decide +kernel) (by decide +kernel)
set_option maxRecDepth 20000 in
theorem gX6_fill_X6_put : GoodIn wsX6_fill (va_wsS RX6 102 yX6_put wsX6_put) := goodIn_app (goodIn_of _ (by decide +kernel)) ggX6_fill_X6_put
theorem dX6_fill_0 : decode cX6_fill 0 = .ok (.iload_n 1, 1) := by decide +kernel
theorem dX6_fill_1 : decode cX6_fill 1 = .ok (.invokestatic 171, 3) := by decide +kernel
theorem dX6_fill_4 : decode cX6_fill 4 = .ok (.ifCond .ne 13, 3) := by decide +kernel
theorem dX6_fill_7 : decode cX6_fill 7 = .ok (.new 88, 3) := by decide +kernel
theorem dX6_fill_10 : decode cX6_fill 10 = .ok (.dup, 1) := by decide +kernel
theorem dX6_fill_11 : decode cX6_fill 11 = .ok (.ldc 202, 2) := by decide +kernel
theorem dX6_fill_13 : decode cX6_fill 13 = .ok (.invokespecial 92, 3) := by decide +kernel
theorem dX6_fill_16 : decode cX6_fill 16 = .ok (.athrow, 1) := by decide +kernel
theorem dX6_fill_17 : decode cX6_fill 17 = .ok (.aload_n 0, 1) := by decide +kernel
theorem dX6_fill_18 : decode cX6_fill 18 = .ok (.getfield 38, 3) := by decide +kernel
theorem dX6_fill_21 : decode cX6_fill 21 = .ok (.aload_n 0, 1) := by decide +kernel
theorem dX6_fill_22 : decode cX6_fill 22 = .ok (.getfield 10, 3) := by decide +kernel
theorem dX6_fill_25 : decode cX6_fill 25 = .ok (.invokevirtual 76, 3) := by decide +kernel
theorem dX6_fill_28 : decode cX6_fill 28 = .ok (.iconst 0, 1) := by decide +kernel
theorem dX6_fill_29 : decode cX6_fill 29 = .ok (.istore_n 2, 1) := by decide +kernel
theorem dX6_fill_30 : decode cX6_fill 30 = .ok (.iconst 0, 1) := by decide +kernel
theorem dX6_fill_31 : decode cX6_fill 31 = .ok (.istore_n 3, 1) := by decide +kernel
theorem dX6_fill_32 : decode cX6_fill 32 = .ok (.iload_n 3, 1) := by decide +kernel
theorem dX6_fill_33 : decode cX6_fill 33 = .ok (.iconst 3, 1) := by decide +kernel
theorem dX6_fill_34 : decode cX6_fill 34 = .ok (.if_icmp .ge 46, 3) := by decide +kernel
theorem dX6_fill_37 : decode cX6_fill 37 = .ok (.aload_n 0, 1) := by decide +kernel
theorem dX6_fill_38 : decode cX6_fill 38 = .ok (.getfield 31, 3) := by decide +kernel
theorem dX6_fill_41 : decode cX6_fill 41 = .ok (.iload_n 1, 1) := by decide +kernel
theorem dX6_fill_42 : decode cX6_fill 42 = .ok (.iload_n 3, 1) := by decide +kernel
theorem dX6_fill_43 : decode cX6_fill 43 = .ok (.invokevirtual 216, 3) := by decide +kernel
theorem dX6_fill_46 : decode cX6_fill 46 = .ok (.istore 4, 2) := by decide +kernel
theorem dX6_fill_48 : decode cX6_fill 48 = .ok (.iload 4, 2) := by decide +kernel
theorem dX6_fill_50 : decode cX6_fill 50 = .ok (.iconst (-1), 1) := by decide +kernel
theorem dX6_fill_51 : decode cX6_fill 51 = .ok (.if_icmp .eq 23, 3) := by decide +kernel
theorem dX6_fill_54 : decode cX6_fill 54 = .ok (.aload_n 0, 1) := by decide +kernel
theorem dX6_fill_55 : decode cX6_fill 55 = .ok (.getfield 10, 3) := by decide +kernel
theorem dX6_fill_58 : decode cX6_fill 58 = .ok (.getfield 185, 3) := by decide +kernel
theorem dX6_fill_61 : decode cX6_fill 61 = .ok (.iload_n 1, 1) := by decide +kernel
theorem dX6_fill_62 : decode cX6_fill 62 = .ok (.iload_n 3, 1) := by decide +kernel
theorem dX6_fill_63 : decode cX6_fill 63 = .ok (.invokestatic 188, 3) := by decide +kernel
theorem dX6_fill_66 : decode cX6_fill 66 = .ok (.iload 4, 2) := by decide +kernel
theorem dX6_fill_68 : decode cX6_fill 68 = .ok (.invokestatic 102, 3) := by decide +kernel
theorem dX6_fill_71 : decode cX6_fill 71 = .ok (.iinc 2 1, 3) := by decide +kernel
theorem dX6_fill_74 : decode cX6_fill 74 = .ok (.iinc 3 1, 3) := by decide +kernel
theorem dX6_fill_77 : decode cX6_fill 77 = .ok (.goto (-45), 3) := by decide +kernel
theorem dX6_fill_80 : decode cX6_fill 80 = .ok (.iload_n 2, 1) := by decide +kernel
theorem dX6_fill_81 : decode cX6_fill 81 = .ok (.ireturn, 1) := by decide +kernel
set_option maxRecDepth 20000 in
theorem ggX6_clear_X5_planCount : GoodIn wsX6_clear wsX5_planCount := goodIn_r _ [8, 9, 10, 11, 7, 12, 13, 14, 15, 16, 65, 66, 67, 68, 69, 70, 71, 72, 73, 74, 75, 76] (by decide +kernel) (by decide +kernel)
set_option maxRecDepth 20000 in
theorem gX6_clear_X5_planCount : GoodIn wsX6_clear (wsV RX6 219 RX5 yX5_planCount wsX5_planCount) := goodIn_app (goodIn_of _ (by decide +kernel)) ggX6_clear_X5_planCount
set_option maxRecDepth 20000 in
theorem ggX6_clear_X0_save : GoodIn wsX6_clear wsX0_save := goodIn_r _ [21, 22, 23, 24, 25, 26, 20, 27, 28, 29, 30, 31, 7, 32, 33, 34, 35, 36, 37, 38, 39, 40, 41, 42, 43, 13, 44, 15, 45, 46, 47, 48, 49, 50, 51, 52, 53, 77, 78, 79, 65, 66, 67, 68, 69, 70, 71, 72, 73, 74, 75, 76] (by decide +kernel) (by decide +kernel)
set_option maxRecDepth 20000 in
theorem gX6_clear_X0_save : GoodIn wsX6_clear (wsV RX6 76 RX0 yX0_save wsX0_save) := goodIn_app (goodIn_of _ (by decide +kernel)) ggX6_clear_X0_save
set_option maxRecDepth 20000 in
theorem ggX6_clear_J7_fill_53178 : GoodIn wsX6_clear wsJ7_fill_53178 := goodIn_r _ [57] (by decide +kernel) (by decide +kernel)
set_option maxRecDepth 20000 in
theorem gX6_clear_J7_fill_53178 : GoodIn wsX6_clear (va_wsS RX6 222 yJ7_fill_53178 wsJ7_fill_53178) := goodIn_app (goodIn_of _ (by decide +kernel)) ggX6_clear_J7_fill_53178
theorem dX6_clear_0 : decode cX6_clear 0 = .ok (.aload_n 0, 1) := by decide +kernel
theorem dX6_clear_1 : decode cX6_clear 1 = .ok (.getfield 10, 3) := by decide +kernel
theorem dX6_clear_4 : decode cX6_clear 4 = .ok (.invokevirtual 219, 3) := by decide +kernel
theorem dX6_clear_7 : decode cX6_clear 7 = .ok (.istore_n 1, 1) := by decide +kernel
theorem dX6_clear_8 : decode cX6_clear 8 = .ok (.aload_n 0, 1) := by decide +kernel
theorem dX6_clear_9 : decode cX6_clear 9 = .ok (.getfield 38, 3) := by decide +kernel
theorem dX6_clear_12 : decode cX6_clear 12 = .ok (.aload_n 0, 1) := by decide +kernel
theorem dX6_clear_13 : decode cX6_clear 13 = .ok (.getfield 10, 3) := by decide +kernel
theorem dX6_clear_16 : decode cX6_clear 16 = .ok (.invokevirtual 76, 3) := by decide +kernel
theorem dX6_clear_19 : decode cX6_clear 19 = .ok (.aload_n 0, 1) := by decide +kernel
theorem dX6_clear_20 : decode cX6_clear 20 = .ok (.getfield 10, 3) := by decide +kernel
theorem dX6_clear_23 : decode cX6_clear 23 = .ok (.getfield 185, 3) := by decide +kernel
theorem dX6_clear_26 : decode cX6_clear 26 = .ok (.iconst (-1), 1) := by decide +kernel
theorem dX6_clear_27 : decode cX6_clear 27 = .ok (.invokestatic 222, 3) := by decide +kernel
theorem dX6_clear_30 : decode cX6_clear 30 = .ok (.iload_n 1, 1) := by decide +kernel
theorem dX6_clear_31 : decode cX6_clear 31 = .ok (.ireturn, 1) := by decide +kernel
set_option maxRecDepth 20000 in
theorem ggX6_append_X6_isWithin : GoodIn wsX6_append wsX6_isWithin := goodIn_r _ [10] (by decide +kernel) (by decide +kernel)
set_option maxRecDepth 20000 in
theorem gX6_append_X6_isWithin : GoodIn wsX6_append (va_wsS RX6 56 yX6_isWithin wsX6_isWithin) := goodIn_app (goodIn_of _ (by decide +kernel)) ggX6_append_X6_isWithin
set_option maxRecDepth 20000 in
theorem ggX6_append_X3_addCode : GoodIn wsX6_append wsX3_addCode := goodIn_r _ [15, 16, 17, 18, 9, 19, 27, 28] (by decide +kernel) (by decide +kernel)
set_option maxRecDepth 20000 in
theorem gX6_append_X3_addCode : GoodIn wsX6_append (wsV RX6 235 RX3 yX3_addCode wsX3_addCode) := goodIn_app (goodIn_of _ (by decide +kernel)) ggX6_append_X3_addCode
theorem dX6_append_0 : decode cX6_append 0 = .ok (.iload_n 1, 1) := by decide +kernel
theorem dX6_append_1 : decode cX6_append 1 = .ok (.bipush 33, 2) := by decide +kernel
theorem dX6_append_3 : decode cX6_append 3 = .ok (.bipush 126, 2) := by decide +kernel
theorem dX6_append_5 : decode cX6_append 5 = .ok (.invokestatic 56, 3) := by decide +kernel
theorem dX6_append_8 : decode cX6_append 8 = .ok (.ifCond .ne 13, 3) := by decide +kernel
theorem dX6_append_11 : decode cX6_append 11 = .ok (.new 60, 3) := by decide +kernel
theorem dX6_append_14 : decode cX6_append 14 = .ok (.dup, 1) := by decide +kernel
theorem dX6_append_15 : decode cX6_append 15 = .ok (.ldc 228, 2) := by decide +kernel
theorem dX6_append_17 : decode cX6_append 17 = .ok (.invokespecial 64, 3) := by decide +kernel
theorem dX6_append_20 : decode cX6_append 20 = .ok (.athrow, 1) := by decide +kernel
theorem dX6_append_21 : decode cX6_append 21 = .ok (.aload_n 0, 1) := by decide +kernel
theorem dX6_append_22 : decode cX6_append 22 = .ok (.getfield 52, 3) := by decide +kernel
theorem dX6_append_25 : decode cX6_append 25 = .ok (.getfield 230, 3) := by decide +kernel
theorem dX6_append_28 : decode cX6_append 28 = .ok (.bipush 60, 2) := by decide +kernel
theorem dX6_append_30 : decode cX6_append 30 = .ok (.if_icmp .lt 13, 3) := by decide +kernel
theorem dX6_append_33 : decode cX6_append 33 = .ok (.new 71, 3) := by decide +kernel
theorem dX6_append_36 : decode cX6_append 36 = .ok (.dup, 1) := by decide +kernel
theorem dX6_append_37 : decode cX6_append 37 = .ok (.ldc 233, 2) := by decide +kernel
theorem dX6_append_39 : decode cX6_append 39 = .ok (.invokespecial 75, 3) := by decide +kernel
theorem dX6_append_42 : decode cX6_append 42 = .ok (.athrow, 1) := by decide +kernel
theorem dX6_append_43 : decode cX6_append 43 = .ok (.aload_n 0, 1) := by decide +kernel
theorem dX6_append_44 : decode cX6_append 44 = .ok (.getfield 52, 3) := by decide +kernel
theorem dX6_append_47 : decode cX6_append 47 = .ok (.iload_n 1, 1) := by decide +kernel
theorem dX6_append_48 : decode cX6_append 48 = .ok (.invokevirtual 235, 3) := by decide +kernel
theorem dX6_append_51 : decode cX6_append 51 = .ok (.aload_n 0, 1) := by decide +kernel
theorem dX6_append_52 : decode cX6_append 52 = .ok (.getfield 52, 3) := by decide +kernel
theorem dX6_append_55 : decode cX6_append 55 = .ok (.getfield 230, 3) := by decide +kernel
theorem dX6_append_58 : decode cX6_append 58 = .ok (.ireturn, 1) := by decide +kernel
set_option maxRecDepth 20000 in
theorem ggX6_clearBuffer_X3_makeEmpty : GoodIn wsX6_clearBuffer wsX3_makeEmpty := goodIn_r _ [7, 8, 16, 17] (by decide +kernel) (by decide +kernel)
set_option maxRecDepth 20000 in
theorem gX6_clearBuffer_X3_makeEmpty : GoodIn wsX6_clearBuffer (wsV RX6 239 RX3 yX3_makeEmpty wsX3_makeEmpty) := goodIn_app (goodIn_of _ (by decide +kernel)) ggX6_clearBuffer_X3_makeEmpty
theorem dX6_clearBuffer_0 : decode cX6_clearBuffer 0 = .ok (.aload_n 0, 1) := by decide +kernel
theorem dX6_clearBuffer_1 : decode cX6_clearBuffer 1 = .ok (.getfield 52, 3) := by decide +kernel
theorem dX6_clearBuffer_4 : decode cX6_clearBuffer 4 = .ok (.getfield 230, 3) := by decide +kernel
theorem dX6_clearBuffer_7 : decode cX6_clearBuffer 7 = .ok (.istore_n 1, 1) := by decide +kernel
theorem dX6_clearBuffer_8 : decode cX6_clearBuffer 8 = .ok (.aload_n 0, 1) := by decide +kernel
theorem dX6_clearBuffer_9 : decode cX6_clearBuffer 9 = .ok (.getfield 52, 3) := by decide +kernel
theorem dX6_clearBuffer_12 : decode cX6_clearBuffer 12 = .ok (.invokevirtual 239, 3) := by decide +kernel
theorem dX6_clearBuffer_15 : decode cX6_clearBuffer 15 = .ok (.iload_n 1, 1) := by decide +kernel
theorem dX6_clearBuffer_16 : decode cX6_clearBuffer 16 = .ok (.ireturn, 1) := by decide +kernel
set_option maxRecDepth 20000 in
theorem ggX6_firstError_X3_errorIndex : GoodIn wsX6_firstError wsX3_errorIndex := goodIn_r _ [6, 7, 8, 9, 10, 11, 12, 13, 5, 14, 15, 16, 17, 18, 19, 20, 21, 22, 30, 31] (by decide +kernel) (by decide +kernel)
set_option maxRecDepth 20000 in
theorem gX6_firstError_X3_errorIndex : GoodIn wsX6_firstError (wsV RX6 242 RX3 yX3_errorIndex wsX3_errorIndex) := goodIn_app (goodIn_of _ (by decide +kernel)) ggX6_firstError_X3_errorIndex
theorem dX6_firstError_0 : decode cX6_firstError 0 = .ok (.aload_n 0, 1) := by decide +kernel
theorem dX6_firstError_1 : decode cX6_firstError 1 = .ok (.getfield 52, 3) := by decide +kernel
theorem dX6_firstError_4 : decode cX6_firstError 4 = .ok (.invokevirtual 242, 3) := by decide +kernel
theorem dX6_firstError_7 : decode cX6_firstError 7 = .ok (.ireturn, 1) := by decide +kernel
set_option maxRecDepth 20000 in
theorem ggX6_read_X3_isComplete : GoodIn wsX6_read wsX3_isComplete := goodIn_r _ [10, 11, 12, 13, 14, 15, 9, 16, 17, 18, 19, 20, 21, 22, 23, 24, 25, 26, 27, 28, 29, 30, 180, 181] (by decide +kernel) (by decide +kernel)
set_option maxRecDepth 20000 in
theorem gX6_read_X3_isComplete : GoodIn wsX6_read (wsV RX6 245 RX3 yX3_isComplete wsX3_isComplete) := goodIn_app (goodIn_of _ (by decide +kernel)) ggX6_read_X3_isComplete
set_option maxRecDepth 20000 in
theorem ggX6_read_X0_save : GoodIn wsX6_read wsX0_save := goodIn_r _ [35, 36, 37, 38, 39, 40, 34, 41, 42, 43, 44, 45, 46, 47, 48, 49, 50, 51, 52, 53, 54, 55, 56, 57, 58, 59, 60, 18, 61, 62, 63, 64, 65, 66, 67, 68, 69, 182, 183, 184, 185, 186, 187, 188, 189, 190, 191, 192, 193, 194, 195, 196] (by decide +kernel) (by decide +kernel)
set_option maxRecDepth 20000 in
theorem gX6_read_X0_save : GoodIn wsX6_read (wsV RX6 76 RX0 yX0_save wsX0_save) := goodIn_app (goodIn_of _ (by decide +kernel)) ggX6_read_X0_save
set_option maxRecDepth 20000 in
theorem ggX6_read_X3_entryCount : GoodIn wsX6_read wsX3_entryCount := goodIn_r _ [73, 11, 12, 17, 18, 19, 180, 181] (by decide +kernel) (by decide +kernel)
set_option maxRecDepth 20000 in
theorem gX6_read_X3_entryCount : GoodIn wsX6_read (wsV RX6 250 RX3 yX3_entryCount wsX3_entryCount) := goodIn_app (goodIn_of _ (by decide +kernel)) ggX6_read_X3_entryCount
set_option maxRecDepth 20000 in
theorem ggX6_read_X3_startOf : GoodIn wsX6_read wsX3_startOf := goodIn_r _ [77, 11, 12, 17, 18, 19, 180, 181] (by decide +kernel) (by decide +kernel)
set_option maxRecDepth 20000 in
theorem gX6_read_X3_startOf : GoodIn wsX6_read (wsV RX6 253 RX3 yX3_startOf wsX3_startOf) := goodIn_app (goodIn_of _ (by decide +kernel)) ggX6_read_X3_startOf
set_option maxRecDepth 20000 in
theorem ggX6_read_X3_dayFrom : GoodIn wsX6_read wsX3_dayFrom := goodIn_r _ [81, 11, 12, 17, 18, 19, 180, 181] (by decide +kernel) (by decide +kernel)
set_option maxRecDepth 20000 in
theorem gX6_read_X3_dayFrom : GoodIn wsX6_read (wsV RX6 256 RX3 yX3_dayFrom wsX3_dayFrom) := goodIn_app (goodIn_of _ (by decide +kernel)) ggX6_read_X3_dayFrom
set_option maxRecDepth 20000 in
theorem ggX6_read_X3_dishFrom : GoodIn wsX6_read wsX3_dishFrom := goodIn_r _ [85, 11, 12, 17, 18, 19, 180, 181] (by decide +kernel) (by decide +kernel)
set_option maxRecDepth 20000 in
theorem gX6_read_X3_dishFrom : GoodIn wsX6_read (wsV RX6 259 RX3 yX3_dishFrom wsX3_dishFrom) := goodIn_app (goodIn_of _ (by decide +kernel)) ggX6_read_X3_dishFrom
set_option maxRecDepth 20000 in
theorem ggX6_read_X6_servesIfItCan : GoodIn wsX6_read wsX6_servesIfItCan := goodIn_r _ [89, 5, 90, 91, 92, 93, 94, 95, 46, 96, 48, 97, 17, 18, 19, 98, 99, 100, 101, 102, 103, 104, 105, 106, 107, 108, 109, 110, 111, 112, 113, 114, 51, 115, 116, 117, 118, 55, 57, 119, 120, 121, 122, 56, 123, 124, 125, 126, 127, 128, 129, 130, 59, 50, 131, 132, 133, 134, 135, 136, 137, 138, 139, 140, 53, 141, 142, 143, 144, 145, 146, 147, 148, 149, 150, 151, 152, 153, 154, 155, 156, 157, 158, 159, 160, 161, 162, 163, 64, 164, 165, 166, 167, 168, 173, 174, 175, 176, 177, 178, 179, 185, 186, 187, 188, 189, 190, 191, 192, 193, 194, 195, 196, 197, 198, 199, 200] (by decide +kernel) (by decide +kernel)
set_option maxRecDepth 20000 in
theorem gX6_read_X6_servesIfItCan : GoodIn wsX6_read (wsV RX6 262 RX6 yX6_servesIfItCan wsX6_servesIfItCan) := goodIn_app (goodIn_of _ (by decide +kernel)) ggX6_read_X6_servesIfItCan
set_option maxRecDepth 20000 in
theorem ggX6_read_X3_makeEmpty : GoodIn wsX6_read wsX3_makeEmpty := goodIn_r _ [172, 11, 180, 181] (by decide +kernel) (by decide +kernel)
set_option maxRecDepth 20000 in
theorem gX6_read_X3_makeEmpty : GoodIn wsX6_read (wsV RX6 239 RX3 yX3_makeEmpty wsX3_makeEmpty) := goodIn_app (goodIn_of _ (by decide +kernel)) ggX6_read_X3_makeEmpty
