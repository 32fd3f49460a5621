theorem dX7_whyNot_16 : decode cX7_whyNot 16 = .ok (.iload_n 3, 1) := by decide +kernel
theorem dX7_whyNot_17 : decode cX7_whyNot 17 = .ok (.invokevirtual 114, 3) := by decide +kernel
theorem dX7_whyNot_20 : decode cX7_whyNot 20 = .ok (.ifCond .eq 7, 3) := by decide +kernel
theorem dX7_whyNot_23 : decode cX7_whyNot 23 = .ok (.iconst 0, 1) := by decide +kernel
theorem dX7_whyNot_24 : decode cX7_whyNot 24 = .ok (.goto 4, 3) := by decide +kernel
theorem dX7_whyNot_27 : decode cX7_whyNot 27 = .ok (.iconst 1, 1) := by decide +kernel
theorem dX7_whyNot_28 : decode cX7_whyNot 28 = .ok (.putfield 34, 3) := by decide +kernel
theorem dX7_whyNot_31 : decode cX7_whyNot 31 = .ok (.aload_n 0, 1) := by decide +kernel
theorem dX7_whyNot_32 : decode cX7_whyNot 32 = .ok (.getfield 34, 3) := by decide +kernel
theorem dX7_whyNot_35 : decode cX7_whyNot 35 = .ok (.ifCond .le 7, 3) := by decide +kernel
theorem dX7_whyNot_38 : decode cX7_whyNot 38 = .ok (.iconst 0, 1) := by decide +kernel
theorem dX7_whyNot_39 : decode cX7_whyNot 39 = .ok (.goto 10, 3) := by decide +kernel
theorem dX7_whyNot_42 : decode cX7_whyNot 42 = .ok (.aload_n 0, 1) := by decide +kernel
theorem dX7_whyNot_43 : decode cX7_whyNot 43 = .ok (.iload_n 1, 1) := by decide +kernel
theorem dX7_whyNot_44 : decode cX7_whyNot 44 = .ok (.iload_n 2, 1) := by decide +kernel
theorem dX7_whyNot_45 : decode cX7_whyNot 45 = .ok (.iload_n 3, 1) := by decide +kernel
theorem dX7_whyNot_46 : decode cX7_whyNot 46 = .ok (.invokevirtual 142, 3) := by decide +kernel
theorem dX7_whyNot_49 : decode cX7_whyNot 49 = .ok (.ireturn, 1) := by decide +kernel
set_option maxRecDepth 20000 in
theorem ggX7_joyOn_X7_isDay : GoodIn wsX7_joyOn wsX7_isDay := goodIn_r _ [5, 6, 7, 4, 8] (by decide +kernel) (by decide +kernel)
set_option maxRecDepth 20000 in
theorem gX7_joyOn_X7_isDay : GoodIn wsX7_joyOn (va_wsS RX7 146 yX7_isDay wsX7_isDay) := goodIn_app (goodIn_of _ (by decide +kernel)) ggX7_joyOn_X7_isDay
set_option maxRecDepth 20000 in
theorem ggX7_joyOn_X7_isDish : GoodIn wsX7_joyOn wsX7_isDish := goodIn_r _ [12, 13, 6, 7, 4, 8, 22, 23, 24, 25, 26, 27, 28, 29, 30, 31, 32, 33, 34, 35, 36] (by decide +kernel) (by decide +kernel)
set_option maxRecDepth 20000 in
theorem gX7_joyOn_X7_isDish : GoodIn wsX7_joyOn (wsV RX7 114 RX7 yX7_isDish wsX7_isDish) := goodIn_app (goodIn_of _ (by decide +kernel)) ggX7_joyOn_X7_isDish
set_option maxRecDepth 20000 in
theorem ggX7_joyOn_X7_joyNow : GoodIn wsX7_joyOn wsX7_joyNow := goodIn_r _ [17, 13, 18, 19, 20, 4, 21, 22, 23, 24, 25, 26, 27, 28, 29, 30, 31, 32, 33, 34, 35, 36] (by decide +kernel) (by decide +kernel)
set_option maxRecDepth 20000 in
theorem gX7_joyOn_X7_joyNow : GoodIn wsX7_joyOn (wsV RX7 98 RX7 yX7_joyNow wsX7_joyNow) := goodIn_app (goodIn_of _ (by decide +kernel)) ggX7_joyOn_X7_joyNow
theorem dX7_joyOn_0 : decode cX7_joyOn 0 = .ok (.aload_n 0, 1) := by decide +kernel
theorem dX7_joyOn_1 : decode cX7_joyOn 1 = .ok (.iload_n 1, 1) := by decide +kernel
theorem dX7_joyOn_2 : decode cX7_joyOn 2 = .ok (.invokestatic 146, 3) := by decide +kernel
theorem dX7_joyOn_5 : decode cX7_joyOn 5 = .ok (.ifCond .eq 15, 3) := by decide +kernel
theorem dX7_joyOn_8 : decode cX7_joyOn 8 = .ok (.aload_n 0, 1) := by decide +kernel
theorem dX7_joyOn_9 : decode cX7_joyOn 9 = .ok (.iload_n 2, 1) := by decide +kernel
theorem dX7_joyOn_10 : decode cX7_joyOn 10 = .ok (.invokevirtual 114, 3) := by decide +kernel
theorem dX7_joyOn_13 : decode cX7_joyOn 13 = .ok (.ifCond .eq 7, 3) := by decide +kernel
theorem dX7_joyOn_16 : decode cX7_joyOn 16 = .ok (.iconst 0, 1) := by decide +kernel
theorem dX7_joyOn_17 : decode cX7_joyOn 17 = .ok (.goto 4, 3) := by decide +kernel
theorem dX7_joyOn_20 : decode cX7_joyOn 20 = .ok (.iconst 1, 1) := by decide +kernel
theorem dX7_joyOn_21 : decode cX7_joyOn 21 = .ok (.putfield 34, 3) := by decide +kernel
theorem dX7_joyOn_24 : decode cX7_joyOn 24 = .ok (.aload_n 0, 1) := by decide +kernel
theorem dX7_joyOn_25 : decode cX7_joyOn 25 = .ok (.getfield 34, 3) := by decide +kernel
theorem dX7_joyOn_28 : decode cX7_joyOn 28 = .ok (.ifCond .le 7, 3) := by decide +kernel
theorem dX7_joyOn_31 : decode cX7_joyOn 31 = .ok (.iconst 0, 1) := by decide +kernel
theorem dX7_joyOn_32 : decode cX7_joyOn 32 = .ok (.goto 9, 3) := by decide +kernel
theorem dX7_joyOn_35 : decode cX7_joyOn 35 = .ok (.aload_n 0, 1) := by decide +kernel
theorem dX7_joyOn_36 : decode cX7_joyOn 36 = .ok (.iload_n 1, 1) := by decide +kernel
theorem dX7_joyOn_37 : decode cX7_joyOn 37 = .ok (.iload_n 2, 1) := by decide +kernel
theorem dX7_joyOn_38 : decode cX7_joyOn 38 = .ok (.invokevirtual 98, 3) := by decide +kernel
theorem dX7_joyOn_41 : decode cX7_joyOn 41 = .ok (.ireturn, 1) := by decide +kernel
set_option maxRecDepth 20000 in
theorem ggX7_best_X7_isDay : GoodIn wsX7_best wsX7_isDay := goodIn_r _ [5, 6, 7, 4, 8] (by decide +kernel) (by decide +kernel)
set_option maxRecDepth 20000 in
theorem gX7_best_X7_isDay : GoodIn wsX7_best (va_wsS RX7 146 yX7_isDay wsX7_isDay) := goodIn_app (goodIn_of _ (by decide +kernel)) ggX7_best_X7_isDay
set_option maxRecDepth 20000 in
theorem ggX7_best_X7_isPart : GoodIn wsX7_best wsX7_isPart := goodIn_r _ [11, 6, 7, 4, 8] (by decide +kernel) (by decide +kernel)
set_option maxRecDepth 20000 in
theorem gX7_best_X7_isPart : GoodIn wsX7_best (va_wsS RX7 104 yX7_isPart wsX7_isPart) := goodIn_app (goodIn_of _ (by decide +kernel)) ggX7_best_X7_isPart
set_option maxRecDepth 20000 in
theorem ggX7_best_X7_bestFor : GoodIn wsX7_best wsX7_bestFor := goodIn_r _ [15, 16, 17, 18, 19, 4, 20, 21, 22, 23, 24, 25, 26, 27, 28, 29, 30, 31, 32, 33, 34, 35, 36, 37, 38, 39, 40, 41, 42, 43, 44, 45, 46, 47, 48, 49, 50, 51, 52, 53, 54, 55, 56, 57, 58, 59, 60, 61, 62, 63, 64, 65, 66, 67, 68, 69, 70, 71, 72, 73, 74, 75, 76, 77, 78, 79, 80, 81, 82, 83, 84, 85, 86, 87, 88, 89, 90, 91, 92, 93, 94, 95, 96, 97, 98, 99, 100, 101, 102, 103, 104] (by decide +kernel) (by decide +kernel)
set_option maxRecDepth 20000 in
theorem gX7_best_X7_bestFor : GoodIn wsX7_best (wsV RX7 166 RX7 yX7_bestFor wsX7_bestFor) := goodIn_app (goodIn_of _ (by decide +kernel)) ggX7_best_X7_bestFor
theorem dX7_best_0 : decode cX7_best 0 = .ok (.aload_n 0, 1) := by decide +kernel
theorem dX7_best_1 : decode cX7_best 1 = .ok (.iload_n 1, 1) := by decide +kernel
theorem dX7_best_2 : decode cX7_best 2 = .ok (.invokestatic 146, 3) := by decide +kernel
theorem dX7_best_5 : decode cX7_best 5 = .ok (.ifCond .eq 14, 3) := by decide +kernel
theorem dX7_best_8 : decode cX7_best 8 = .ok (.iload_n 2, 1) := by decide +kernel
theorem dX7_best_9 : decode cX7_best 9 = .ok (.invokestatic 104, 3) := by decide +kernel
theorem dX7_best_12 : decode cX7_best 12 = .ok (.ifCond .eq 7, 3) := by decide +kernel
theorem dX7_best_15 : decode cX7_best 15 = .ok (.iconst 0, 1) := by decide +kernel
theorem dX7_best_16 : decode cX7_best 16 = .ok (.goto 4, 3) := by decide +kernel
theorem dX7_best_19 : decode cX7_best 19 = .ok (.iconst 1, 1) := by decide +kernel
theorem dX7_best_20 : decode cX7_best 20 = .ok (.putfield 34, 3) := by decide +kernel
theorem dX7_best_23 : decode cX7_best 23 = .ok (.aload_n 0, 1) := by decide +kernel
theorem dX7_best_24 : decode cX7_best 24 = .ok (.getfield 34, 3) := by decide +kernel
theorem dX7_best_27 : decode cX7_best 27 = .ok (.ifCond .le 7, 3) := by decide +kernel
theorem dX7_best_30 : decode cX7_best 30 = .ok (.iconst 0, 1) := by decide +kernel
theorem dX7_best_31 : decode cX7_best 31 = .ok (.goto 9, 3) := by decide +kernel
theorem dX7_best_34 : decode cX7_best 34 = .ok (.aload_n 0, 1) := by decide +kernel
theorem dX7_best_35 : decode cX7_best 35 = .ok (.iload_n 1, 1) := by decide +kernel
theorem dX7_best_36 : decode cX7_best 36 = .ok (.iload_n 2, 1) := by decide +kernel
theorem dX7_best_37 : decode cX7_best 37 = .ok (.invokevirtual 166, 3) := by decide +kernel
theorem dX7_best_40 : decode cX7_best 40 = .ok (.ireturn, 1) := by decide +kernel
set_option maxRecDepth 20000 in
theorem ggX7_gainNow_X7_joyOfAll : GoodIn wsX7_gainNow wsX7_joyOfAll := goodIn_r _ [5, 6, 7, 8, 4, 9, 10, 11, 12, 13, 14, 15, 16, 17, 18, 19, 20, 21, 22, 27, 28, 29, 30, 31, 32, 33, 34, 35, 36, 37, 38, 39, 40, 41] (by decide +kernel) (by decide +kernel)
set_option maxRecDepth 20000 in
theorem gX7_gainNow_X7_joyOfAll : GoodIn wsX7_gainNow (wsV RX7 162 RX7 yX7_joyOfAll wsX7_joyOfAll) := goodIn_app (goodIn_of _ (by decide +kernel)) ggX7_gainNow_X7_joyOfAll
set_option maxRecDepth 20000 in
theorem ggX7_gainNow_X7_of : GoodIn wsX7_gainNow wsX7_of := goodIn_r _ [22, 14, 27, 28, 29, 30, 31, 32, 33, 34, 35, 36, 37, 38, 39, 40, 41] (by decide +kernel) (by decide +kernel)
set_option maxRecDepth 20000 in
theorem gX7_gainNow_X7_of : GoodIn wsX7_gainNow (wsV RX7 45 RX7 yX7_of wsX7_of) := goodIn_app (goodIn_of _ (by decide +kernel)) ggX7_gainNow_X7_of
set_option maxRecDepth 20000 in
theorem ggX7_gainNow_X7_put : GoodIn wsX7_gainNow wsX7_put := goodIn_r _ [26, 14, 27, 28, 29, 30, 31, 32, 33, 34, 35, 36, 37, 38, 39, 40, 41] (by decide +kernel) (by decide +kernel)
set_option maxRecDepth 20000 in
theorem gX7_gainNow_X7_put : GoodIn wsX7_gainNow (wsV RX7 136 RX7 yX7_put wsX7_put) := goodIn_app (goodIn_of _ (by decide +kernel)) ggX7_gainNow_X7_put
theorem dX7_gainNow_0 : decode cX7_gainNow 0 = .ok (.aload_n 0, 1) := by decide +kernel
theorem dX7_gainNow_1 : decode cX7_gainNow 1 = .ok (.invokevirtual 162, 3) := by decide +kernel
theorem dX7_gainNow_4 : decode cX7_gainNow 4 = .ok (.istore_n 3, 1) := by decide +kernel
theorem dX7_gainNow_5 : decode cX7_gainNow 5 = .ok (.aload_n 0, 1) := by decide +kernel
theorem dX7_gainNow_6 : decode cX7_gainNow 6 = .ok (.iload_n 1, 1) := by decide +kernel
theorem dX7_gainNow_7 : decode cX7_gainNow 7 = .ok (.aload_n 0, 1) := by decide +kernel
theorem dX7_gainNow_8 : decode cX7_gainNow 8 = .ok (.iload_n 2, 1) := by decide +kernel
theorem dX7_gainNow_9 : decode cX7_gainNow 9 = .ok (.iconst 0, 1) := by decide +kernel
theorem dX7_gainNow_10 : decode cX7_gainNow 10 = .ok (.invokevirtual 45, 3) := by decide +kernel
theorem dX7_gainNow_13 : decode cX7_gainNow 13 = .ok (.iload_n 2, 1) := by decide +kernel
theorem dX7_gainNow_14 : decode cX7_gainNow 14 = .ok (.invokevirtual 136, 3) := by decide +kernel
theorem dX7_gainNow_17 : decode cX7_gainNow 17 = .ok (.aload_n 0, 1) := by decide +kernel
theorem dX7_gainNow_18 : decode cX7_gainNow 18 = .ok (.invokevirtual 162, 3) := by decide +kernel
theorem dX7_gainNow_21 : decode cX7_gainNow 21 = .ok (.istore 4, 2) := by decide +kernel
theorem dX7_gainNow_23 : decode cX7_gainNow 23 = .ok (.aload_n 0, 1) := by decide +kernel
theorem dX7_gainNow_24 : decode cX7_gainNow 24 = .ok (.iload_n 1, 1) := by decide +kernel
theorem dX7_gainNow_25 : decode cX7_gainNow 25 = .ok (.aload_n 0, 1) := by decide +kernel
theorem dX7_gainNow_26 : decode cX7_gainNow 26 = .ok (.iload_n 2, 1) := by decide +kernel
theorem dX7_gainNow_27 : decode cX7_gainNow 27 = .ok (.iconst 0, 1) := by decide +kernel
theorem dX7_gainNow_28 : decode cX7_gainNow 28 = .ok (.invokevirtual 45, 3) := by decide +kernel
theorem dX7_gainNow_31 : decode cX7_gainNow 31 = .ok (.iconst (-1), 1) := by decide +kernel
theorem dX7_gainNow_32 : decode cX7_gainNow 32 = .ok (.invokevirtual 136, 3) := by decide +kernel
theorem dX7_gainNow_35 : decode cX7_gainNow 35 = .ok (.iload 4, 2) := by decide +kernel
theorem dX7_gainNow_37 : decode cX7_gainNow 37 = .ok (.iload_n 3, 1) := by decide +kernel
theorem dX7_gainNow_38 : decode cX7_gainNow 38 = .ok (.isub, 1) := by decide +kernel
theorem dX7_gainNow_39 : decode cX7_gainNow 39 = .ok (.ireturn, 1) := by decide +kernel
set_option maxRecDepth 20000 in
theorem ggX7_gain_X7_isDay : GoodIn wsX7_gain wsX7_isDay := goodIn_r _ [5, 6, 7, 4, 8] (by decide +kernel) (by decide +kernel)
set_option maxRecDepth 20000 in
theorem gX7_gain_X7_isDay : GoodIn wsX7_gain (va_wsS RX7 146 yX7_isDay wsX7_isDay) := goodIn_app (goodIn_of _ (by decide +kernel)) ggX7_gain_X7_isDay
set_option maxRecDepth 20000 in
theorem ggX7_gain_X7_isDish : GoodIn wsX7_gain wsX7_isDish := goodIn_r _ [12, 13, 6, 7, 4, 8, 103, 104, 105, 106, 107, 108, 109, 110, 111, 112, 113, 114, 115, 116, 117] (by decide +kernel) (by decide +kernel)
set_option maxRecDepth 20000 in
theorem gX7_gain_X7_isDish : GoodIn wsX7_gain (wsV RX7 114 RX7 yX7_isDish wsX7_isDish) := goodIn_app (goodIn_of _ (by decide +kernel)) ggX7_gain_X7_isDish
set_option maxRecDepth 20000 in
theorem ggX7_gain_X7_canServe : GoodIn wsX7_gain wsX7_canServe := goodIn_r _ [17, 18, 19, 20, 4, 21, 13, 22, 23, 24, 25, 26, 27, 28, 29, 30, 31, 32, 33, 34, 35, 36, 37, 38, 39, 40, 41, 42, 43, 44, 45, 46, 47, 48, 49, 50, 51, 52, 53, 54, 55, 56, 57, 58, 59, 60, 61, 62, 63, 64, 65, 66, 67, 68, 69, 70, 71, 72, 73, 74, 75, 76, 77, 78, 79, 80, 81, 82, 83, 84, 85, 86, 103, 104, 105, 106, 107, 108, 109, 110, 111, 112, 113, 114, 115, 116, 117] (by decide +kernel) (by decide +kernel)
set_option maxRecDepth 20000 in
theorem gX7_gain_X7_canServe : GoodIn wsX7_gain (wsV RX7 149 RX7 yX7_canServe wsX7_canServe) := goodIn_app (goodIn_of _ (by decide +kernel)) ggX7_gain_X7_canServe
set_option maxRecDepth 20000 in
theorem ggX7_gain_X7_gainNow : GoodIn wsX7_gain wsX7_gainNow := goodIn_r _ [90, 91, 92, 93, 4, 94, 95, 96, 97, 98, 26, 27, 28, 29, 13, 99, 100, 101, 102, 18, 19, 20, 21, 57, 58, 59, 60, 103, 104, 105, 106, 107, 108, 109, 110, 111, 112, 113, 114, 115, 116, 117] (by decide +kernel) (by decide +kernel)
set_option maxRecDepth 20000 in
theorem gX7_gain_X7_gainNow : GoodIn wsX7_gain (wsV RX7 247 RX7 yX7_gainNow wsX7_gainNow) := goodIn_app (goodIn_of _ (by decide +kernel)) ggX7_gain_X7_gainNow
theorem dX7_gain_0 : decode cX7_gain 0 = .ok (.aload_n 0, 1) := by decide +kernel
theorem dX7_gain_1 : decode cX7_gain 1 = .ok (.iload_n 1, 1) := by decide +kernel
theorem dX7_gain_2 : decode cX7_gain 2 = .ok (.invokestatic 146, 3) := by decide +kernel
theorem dX7_gain_5 : decode cX7_gain 5 = .ok (.ifCond .eq 15, 3) := by decide +kernel
theorem dX7_gain_8 : decode cX7_gain 8 = .ok (.aload_n 0, 1) := by decide +kernel
theorem dX7_gain_9 : decode cX7_gain 9 = .ok (.iload_n 2, 1) := by decide +kernel
theorem dX7_gain_10 : decode cX7_gain 10 = .ok (.invokevirtual 114, 3) := by decide +kernel
theorem dX7_gain_13 : decode cX7_gain 13 = .ok (.ifCond .eq 7, 3) := by decide +kernel
theorem dX7_gain_16 : decode cX7_gain 16 = .ok (.iconst 0, 1) := by decide +kernel
theorem dX7_gain_17 : decode cX7_gain 17 = .ok (.goto 4, 3) := by decide +kernel
theorem dX7_gain_20 : decode cX7_gain 20 = .ok (.iconst 1, 1) := by decide +kernel
theorem dX7_gain_21 : decode cX7_gain 21 = .ok (.putfield 34, 3) := by decide +kernel
theorem dX7_gain_24 : decode cX7_gain 24 = .ok (.aload_n 0, 1) := by decide +kernel
theorem dX7_gain_25 : decode cX7_gain 25 = .ok (.getfield 34, 3) := by decide +kernel
theorem dX7_gain_28 : decode cX7_gain 28 = .ok (.ifCond .gt 12, 3) := by decide +kernel
theorem dX7_gain_31 : decode cX7_gain 31 = .ok (.aload_n 0, 1) := by decide +kernel
theorem dX7_gain_32 : decode cX7_gain 32 = .ok (.iload_n 1, 1) := by decide +kernel
theorem dX7_gain_33 : decode cX7_gain 33 = .ok (.iload_n 2, 1) := by decide +kernel
theorem dX7_gain_34 : decode cX7_gain 34 = .ok (.invokevirtual 149, 3) := by decide +kernel
theorem dX7_gain_37 : decode cX7_gain 37 = .ok (.ifCond .ne 7, 3) := by decide +kernel
theorem dX7_gain_40 : decode cX7_gain 40 = .ok (.iconst 0, 1) := by decide +kernel
theorem dX7_gain_41 : decode cX7_gain 41 = .ok (.goto 9, 3) := by decide +kernel
theorem dX7_gain_44 : decode cX7_gain 44 = .ok (.aload_n 0, 1) := by decide +kernel
theorem dX7_gain_45 : decode cX7_gain 45 = .ok (.iload_n 1, 1) := by decide +kernel
theorem dX7_gain_46 : decode cX7_gain 46 = .ok (.iload_n 2, 1) := by decide +kernel
theorem dX7_gain_47 : decode cX7_gain 47 = .ok (.invokevirtual 247, 3) := by decide +kernel
theorem dX7_gain_50 : decode cX7_gain 50 = .ok (.ireturn, 1) := by decide +kernel
set_option maxRecDepth 20000 in
theorem ggX7_dayFor_X7_canServe : GoodIn wsX7_dayFor wsX7_canServe := goodIn_r _ [5, 6, 7, 8, 4, 9, 10, 11, 12, 13, 14, 15, 16, 17, 18, 19, 20, 21, 22, 23, 24, 25, 26, 27, 28, 29, 30, 31, 32, 33, 34, 35, 36, 37, 38, 39, 40, 41, 42, 43, 44, 45, 46, 47, 48, 49, 50, 51, 52, 53, 54, 55, 56, 57, 58, 59, 60, 61, 62, 63, 64, 65, 66, 67, 68, 69, 70, 71, 72, 73, 74, 75, 92, 93, 94, 95, 96, 97, 98, 99, 100, 101, 102, 103, 104, 105, 106] (by decide +kernel) (by decide +kernel)
set_option maxRecDepth 20000 in
theorem gX7_dayFor_X7_canServe : GoodIn wsX7_dayFor (wsV RX7 149 RX7 yX7_canServe wsX7_canServe) := goodIn_app (goodIn_of _ (by decide +kernel)) ggX7_dayFor_X7_canServe
set_option maxRecDepth 20000 in
theorem ggX7_dayFor_X7_gainNow : GoodIn wsX7_dayFor wsX7_gainNow := goodIn_r _ [79, 80, 81, 82, 4, 83, 84, 85, 86, 87, 15, 16, 17, 18, 10, 88, 89, 90, 91, 6, 7, 8, 9, 46, 47, 48, 49, 92, 93, 94, 95, 96, 97, 98, 99, 100, 101, 102, 103, 104, 105, 106] (by decide +kernel) (by decide +kernel)
set_option maxRecDepth 20000 in
theorem gX7_dayFor_X7_gainNow : GoodIn wsX7_dayFor (wsV RX7 247 RX7 yX7_gainNow wsX7_gainNow) := goodIn_app (goodIn_of _ (by decide +kernel)) ggX7_dayFor_X7_gainNow
theorem dX7_dayFor_0 : decode cX7_dayFor 0 = .ok (.iconst (-1), 1) := by decide +kernel
theorem dX7_dayFor_1 : decode cX7_dayFor 1 = .ok (.istore_n 2, 1) := by decide +kernel
theorem dX7_dayFor_2 : decode cX7_dayFor 2 = .ok (.iconst 0, 1) := by decide +kernel
theorem dX7_dayFor_3 : decode cX7_dayFor 3 = .ok (.istore_n 3, 1) := by decide +kernel
theorem dX7_dayFor_4 : decode cX7_dayFor 4 = .ok (.iconst 0, 1) := by decide +kernel
theorem dX7_dayFor_5 : decode cX7_dayFor 5 = .ok (.istore 4, 2) := by decide +kernel
theorem dX7_dayFor_7 : decode cX7_dayFor 7 = .ok (.iload 4, 2) := by decide +kernel
theorem dX7_dayFor_9 : decode cX7_dayFor 9 = .ok (.bipush 28, 2) := by decide +kernel
theorem dX7_dayFor_11 : decode cX7_dayFor 11 = .ok (.if_icmp .ge 70, 3) := by decide +kernel
theorem dX7_dayFor_14 : decode cX7_dayFor 14 = .ok (.aload_n 0, 1) := by decide +kernel
theorem dX7_dayFor_15 : decode cX7_dayFor 15 = .ok (.iload 4, 2) := by decide +kernel
theorem dX7_dayFor_17 : decode cX7_dayFor 17 = .ok (.iload_n 1, 1) := by decide +kernel
theorem dX7_dayFor_18 : decode cX7_dayFor 18 = .ok (.invokevirtual 149, 3) := by decide +kernel
theorem dX7_dayFor_21 : decode cX7_dayFor 21 = .ok (.ifCond .eq 54, 3) := by decide +kernel
theorem dX7_dayFor_24 : decode cX7_dayFor 24 = .ok (.aload_n 0, 1) := by decide +kernel
theorem dX7_dayFor_25 : decode cX7_dayFor 25 = .ok (.iload 4, 2) := by decide +kernel
theorem dX7_dayFor_27 : decode cX7_dayFor 27 = .ok (.iload_n 1, 1) := by decide +kernel
theorem dX7_dayFor_28 : decode cX7_dayFor 28 = .ok (.invokevirtual 247, 3) := by decide +kernel
theorem dX7_dayFor_31 : decode cX7_dayFor 31 = .ok (.istore 5, 2) := by decide +kernel
theorem dX7_dayFor_33 : decode cX7_dayFor 33 = .ok (.iload_n 2, 1) := by decide +kernel
theorem dX7_dayFor_34 : decode cX7_dayFor 34 = .ok (.iconst (-1), 1) := by decide +kernel
theorem dX7_dayFor_35 : decode cX7_dayFor 35 = .ok (.if_icmp .eq 9, 3) := by decide +kernel
theorem dX7_dayFor_38 : decode cX7_dayFor 38 = .ok (.iload 5, 2) := by decide +kernel
theorem dX7_dayFor_40 : decode cX7_dayFor 40 = .ok (.iload_n 3, 1) := by decide +kernel
theorem dX7_dayFor_41 : decode cX7_dayFor 41 = .ok (.if_icmp .le 7, 3) := by decide +kernel
theorem dX7_dayFor_44 : decode cX7_dayFor 44 = .ok (.iconst 1, 1) := by decide +kernel
theorem dX7_dayFor_45 : decode cX7_dayFor 45 = .ok (.goto 4, 3) := by decide +kernel
theorem dX7_dayFor_48 : decode cX7_dayFor 48 = .ok (.iconst 0, 1) := by decide +kernel
theorem dX7_dayFor_49 : decode cX7_dayFor 49 = .ok (.istore 6, 2) := by decide +kernel
theorem dX7_dayFor_51 : decode cX7_dayFor 51 = .ok (.iload 6, 2) := by decide +kernel
theorem dX7_dayFor_53 : decode cX7_dayFor 53 = .ok (.ifCond .eq 8, 3) := by decide +kernel
theorem dX7_dayFor_56 : decode cX7_dayFor 56 = .ok (.iload 4, 2) := by decide +kernel
theorem dX7_dayFor_58 : decode cX7_dayFor 58 = .ok (.goto 4, 3) := by decide +kernel
theorem dX7_dayFor_61 : decode cX7_dayFor 61 = .ok (.iload_n 2, 1) := by decide +kernel
theorem dX7_dayFor_62 : decode cX7_dayFor 62 = .ok (.istore_n 2, 1) := by decide +kernel
theorem dX7_dayFor_63 : decode cX7_dayFor 63 = .ok (.iload 6, 2) := by decide +kernel
theorem dX7_dayFor_65 : decode cX7_dayFor 65 = .ok (.ifCond .eq 8, 3) := by decide +kernel
theorem dX7_dayFor_68 : decode cX7_dayFor 68 = .ok (.iload 5, 2) := by decide +kernel
theorem dX7_dayFor_70 : decode cX7_dayFor 70 = .ok (.goto 4, 3) := by decide +kernel
theorem dX7_dayFor_73 : decode cX7_dayFor 73 = .ok (.iload_n 3, 1) := by decide +kernel
theorem dX7_dayFor_74 : decode cX7_dayFor 74 = .ok (.istore_n 3, 1) := by decide +kernel
theorem dX7_dayFor_75 : decode cX7_dayFor 75 = .ok (.iinc 4 1, 3) := by decide +kernel
theorem dX7_dayFor_78 : decode cX7_dayFor 78 = .ok (.goto (-71), 3) := by decide +kernel
theorem dX7_dayFor_81 : decode cX7_dayFor 81 = .ok (.iload_n 2, 1) := by decide +kernel
theorem dX7_dayFor_82 : decode cX7_dayFor 82 = .ok (.ireturn, 1) := by decide +kernel
set_option maxRecDepth 20000 in
theorem ggX7_bestDay_X7_isDish : GoodIn wsX7_bestDay wsX7_isDish := goodIn_r _ [6, 7, 8, 9, 5, 10, 104, 105, 106, 107, 108, 109, 110, 111, 112, 113, 114, 115, 116, 117, 118] (by decide +kernel) (by decide +kernel)
set_option maxRecDepth 20000 in
theorem gX7_bestDay_X7_isDish : GoodIn wsX7_bestDay (wsV RX7 114 RX7 yX7_isDish wsX7_isDish) := goodIn_app (goodIn_of _ (by decide +kernel)) ggX7_bestDay_X7_isDish
set_option maxRecDepth 20000 in
theorem ggX7_bestDay_X7_dayFor : GoodIn wsX7_bestDay wsX7_dayFor := goodIn_r _ [14, 15, 16, 17, 5, 18, 19, 20, 21, 22, 7, 23, 24, 25, 26, 27, 28, 29, 30, 31, 32, 33, 34, 35, 36, 37, 38, 39, 40, 41, 42, 43, 44, 45, 46, 47, 48, 49, 50, 51, 52, 53, 54, 55, 56, 57, 58, 59, 60, 61, 62, 63, 64, 65, 66, 67, 68, 69, 70, 71, 72, 73, 74, 75, 76, 77, 78, 79, 80, 81, 82, 83, 84, 85, 86, 87, 88, 89, 90, 91, 92, 93, 94, 95, 96, 97, 98, 99, 100, 101, 102, 103, 104, 105, 106, 107, 108, 109, 110, 111, 112, 113, 114, 115, 116, 117, 118] (by decide +kernel) (by decide +kernel)
set_option maxRecDepth 20000 in
theorem gX7_bestDay_X7_dayFor : GoodIn wsX7_bestDay (wsV RX7 250 RX7 yX7_dayFor wsX7_dayFor) := goodIn_app (goodIn_of _ (by decide +kernel)) ggX7_bestDay_X7_dayFor
theorem dX7_bestDay_0 : decode cX7_bestDay 0 = .ok (.aload_n 0, 1) := by decide +kernel
theorem dX7_bestDay_1 : decode cX7_bestDay 1 = .ok (.aload_n 0, 1) := by decide +kernel
theorem dX7_bestDay_2 : decode cX7_bestDay 2 = .ok (.iload_n 1, 1) := by decide +kernel
theorem dX7_bestDay_3 : decode cX7_bestDay 3 = .ok (.invokevirtual 114, 3) := by decide +kernel
theorem dX7_bestDay_6 : decode cX7_bestDay 6 = .ok (.ifCond .eq 7, 3) := by decide +kernel
theorem dX7_bestDay_9 : decode cX7_bestDay 9 = .ok (.iconst 0, 1) := by decide +kernel
theorem dX7_bestDay_10 : decode cX7_bestDay 10 = .ok (.goto 4, 3) := by decide +kernel
theorem dX7_bestDay_13 : decode cX7_bestDay 13 = .ok (.iconst 1, 1) := by decide +kernel
theorem dX7_bestDay_14 : decode cX7_bestDay 14 = .ok (.putfield 34, 3) := by decide +kernel
theorem dX7_bestDay_17 : decode cX7_bestDay 17 = .ok (.aload_n 0, 1) := by decide +kernel
theorem dX7_bestDay_18 : decode cX7_bestDay 18 = .ok (.getfield 34, 3) := by decide +kernel
theorem dX7_bestDay_21 : decode cX7_bestDay 21 = .ok (.ifCond .le 7, 3) := by decide +kernel
theorem dX7_bestDay_24 : decode cX7_bestDay 24 = .ok (.iconst 0, 1) := by decide +kernel
theorem dX7_bestDay_25 : decode cX7_bestDay 25 = .ok (.goto 8, 3) := by decide +kernel
theorem dX7_bestDay_28 : decode cX7_bestDay 28 = .ok (.aload_n 0, 1) := by decide +kernel
theorem dX7_bestDay_29 : decode cX7_bestDay 29 = .ok (.iload_n 1, 1) := by decide +kernel
theorem dX7_bestDay_30 : decode cX7_bestDay 30 = .ok (.invokevirtual 250, 3) := by decide +kernel
theorem dX7_bestDay_33 : decode cX7_bestDay 33 = .ok (.ireturn, 1) := by decide +kernel
set_option maxRecDepth 20000 in
theorem ggX7_used_X7_sources : GoodIn wsX7_used wsX7_sources := goodIn_r _ [5, 6, 7, 8, 9, 4, 10, 11, 12, 13, 14, 15, 16, 17, 18, 19, 20, 21, 22, 23, 24, 25, 26, 27, 28, 29, 30, 31, 32, 33, 34, 35, 36, 37, 38, 39, 40, 41, 42, 43, 44, 45, 46, 47, 48, 49, 50, 51] (by decide +kernel) (by decide +kernel)
set_option maxRecDepth 20000 in
theorem gX7_used_X7_sources : GoodIn wsX7_used (wsV RX7 237 RX7 yX7_sources wsX7_sources) := goodIn_app (goodIn_of _ (by decide +kernel)) ggX7_used_X7_sources
theorem dX7_used_0 : decode cX7_used 0 = .ok (.aload_n 0, 1) := by decide +kernel
theorem dX7_used_1 : decode cX7_used 1 = .ok (.iconst 0, 1) := by decide +kernel
theorem dX7_used_2 : decode cX7_used 2 = .ok (.invokevirtual 237, 3) := by decide +kernel
theorem dX7_used_5 : decode cX7_used 5 = .ok (.istore_n 1, 1) := by decide +kernel
theorem dX7_used_6 : decode cX7_used 6 = .ok (.iload_n 1, 1) := by decide +kernel
theorem dX7_used_7 : decode cX7_used 7 = .ok (.ifCond .ne 7, 3) := by decide +kernel
theorem dX7_used_10 : decode cX7_used 10 = .ok (.dconst 1, 1) := by decide +kernel
theorem dX7_used_11 : decode cX7_used 11 = .ok (.goto 14, 3) := by decide +kernel
theorem dX7_used_14 : decode cX7_used 14 = .ok (.iload_n 1, 1) := by decide +kernel
theorem dX7_used_15 : decode cX7_used 15 = .ok (.aload_n 0, 1) := by decide +kernel
theorem dX7_used_16 : decode cX7_used 16 = .ok (.iconst 1, 1) := by decide +kernel
theorem dX7_used_17 : decode cX7_used 17 = .ok (.invokevirtual 237, 3) := by decide +kernel
theorem dX7_used_20 : decode cX7_used 20 = .ok (.isub, 1) := by decide +kernel
theorem dX7_used_21 : decode cX7_used 21 = .ok (.i2d, 1) := by decide +kernel
theorem dX7_used_22 : decode cX7_used 22 = .ok (.iload_n 1, 1) := by decide +kernel
theorem dX7_used_23 : decode cX7_used 23 = .ok (.i2d, 1) := by decide +kernel
theorem dX7_used_24 : decode cX7_used 24 = .ok (.ddiv, 1) := by decide +kernel
theorem dX7_used_25 : decode cX7_used 25 = .ok (.dreturn, 1) := by decide +kernel
set_option maxRecDepth 20000 in
theorem ggX7_usedShare_X7_used : GoodIn wsX7_usedShare wsX7_used := goodIn_r _ [6, 7, 8, 9, 5, 10, 11, 12, 13, 14, 15, 16, 17, 18, 19, 20, 21, 22, 23, 24, 25, 26, 27, 28, 29, 30, 31, 32, 33, 34, 35, 36, 37, 38, 39, 40, 41, 42, 43, 44, 45, 46, 47, 48, 49, 50, 51, 52, 53, 54, 55, 56] (by decide +kernel) (by decide +kernel)
set_option maxRecDepth 20000 in
theorem gX7_usedShare_X7_used : GoodIn wsX7_usedShare (wsV RX7 253 RX7 yX7_used wsX7_used) := goodIn_app (goodIn_of _ (by decide +kernel)) ggX7_usedShare_X7_used
theorem dX7_usedShare_0 : decode cX7_usedShare 0 = .ok (.aload_n 0, 1) := by decide +kernel
theorem dX7_usedShare_1 : decode cX7_usedShare 1 = .ok (.iconst 0, 1) := by decide +kernel
theorem dX7_usedShare_2 : decode cX7_usedShare 2 = .ok (.putfield 34, 3) := by decide +kernel
theorem dX7_usedShare_5 : decode cX7_usedShare 5 = .ok (.aload_n 0, 1) := by decide +kernel
theorem dX7_usedShare_6 : decode cX7_usedShare 6 = .ok (.invokevirtual 253, 3) := by decide +kernel
theorem dX7_usedShare_9 : decode cX7_usedShare 9 = .ok (.dreturn, 1) := by decide +kernel
theorem dX7_mix_0 : decode cX7_mix 0 = .ok (.aload_n 0, 1) := by decide +kernel
theorem dX7_mix_1 : decode cX7_mix 1 = .ok (.ldc2_w 257, 3) := by decide +kernel
theorem dX7_mix_4 : decode cX7_mix 4 = .ok (.aload_n 0, 1) := by decide +kernel
theorem dX7_mix_5 : decode cX7_mix 5 = .ok (.getfield 259, 3) := by decide +kernel
theorem dX7_mix_8 : decode cX7_mix 8 = .ok (.lmul, 1) := by decide +kernel
theorem dX7_mix_9 : decode cX7_mix 9 = .ok (.lload_n 1, 1) := by decide +kernel
theorem dX7_mix_10 : decode cX7_mix 10 = .ok (.ladd, 1) := by decide +kernel
theorem dX7_mix_11 : decode cX7_mix 11 = .ok (.putfield 259, 3) := by decide +kernel
theorem dX7_mix_14 : decode cX7_mix 14 = .ok (.return_, 1) := by decide +kernel
set_option maxRecDepth 20000 in
theorem ggX7_mixDay_X7_dayNow : GoodIn wsX7_mixDay wsX7_dayNow := goodIn_r _ [5, 6, 7, 8, 4, 9, 10, 11, 12, 13, 14, 15, 16, 17, 18, 19, 20, 21, 22, 23, 24, 25, 26, 27, 28, 29, 30, 31, 32, 33, 34, 35, 36, 37, 38, 39, 40, 41, 42, 43, 44, 45, 46, 47, 48, 109, 110, 111, 112, 113, 114, 115, 116, 117, 118, 119, 120, 121, 122, 123] (by decide +kernel) (by decide +kernel)
set_option maxRecDepth 20000 in
theorem gX7_mixDay_X7_dayNow : GoodIn wsX7_mixDay (wsV RX7 228 RX7 yX7_dayNow wsX7_dayNow) := goodIn_app (goodIn_of _ (by decide +kernel)) ggX7_mixDay_X7_dayNow
set_option maxRecDepth 20000 in
theorem ggX7_mixDay_X7_mix : GoodIn wsX7_mixDay wsX7_mix := goodIn_r _ [52, 53, 54, 109, 110, 111, 112, 113, 114, 115, 116, 117, 118, 119, 120, 121, 122, 123] (by decide +kernel) (by decide +kernel)
set_option maxRecDepth 20000 in
theorem gX7_mixDay_X7_mix : GoodIn wsX7_mixDay (wsV RX7 263 RX7 yX7_mix wsX7_mix) := goodIn_app (goodIn_of _ (by decide +kernel)) ggX7_mixDay_X7_mix
set_option maxRecDepth 20000 in
theorem ggX7_mixDay_X7_at : GoodIn wsX7_mixDay wsX7_at := goodIn_r _ [13, 14, 109, 110, 111, 112, 113, 114, 115, 116, 117, 118, 119, 120, 121, 122, 123] (by decide +kernel) (by decide +kernel)
set_option maxRecDepth 20000 in
theorem gX7_mixDay_X7_at : GoodIn wsX7_mixDay (wsV RX7 79 RX7 yX7_at wsX7_at) := goodIn_app (goodIn_of _ (by decide +kernel)) ggX7_mixDay_X7_at
set_option maxRecDepth 20000 in
theorem ggX7_mixDay_X7_sourceNow : GoodIn wsX7_mixDay wsX7_sourceNow := goodIn_r _ [58, 59, 60, 61, 62, 4, 63, 64, 14, 65, 66, 67, 68, 22, 23, 24, 25, 69, 70, 71, 72, 73, 74, 75, 76, 77, 78, 79, 80, 81, 82, 83, 84, 109, 110, 111, 112, 113, 114, 115, 116, 117, 118, 119, 120, 121, 122, 123] (by decide +kernel) (by decide +kernel)
set_option maxRecDepth 20000 in
theorem gX7_mixDay_X7_sourceNow : GoodIn wsX7_mixDay (wsV RX7 231 RX7 yX7_sourceNow wsX7_sourceNow) := goodIn_app (goodIn_of _ (by decide +kernel)) ggX7_mixDay_X7_sourceNow
set_option maxRecDepth 20000 in
theorem ggX7_mixDay_X7_bestFor : GoodIn wsX7_mixDay wsX7_bestFor := goodIn_r _ [88, 14, 89, 90, 91, 4, 92, 10, 11, 12, 13, 22, 23, 24, 25, 93, 94, 95, 96, 34, 35, 36, 37, 38, 39, 40, 41, 42, 43, 44, 97, 98, 99, 100, 18, 19, 20, 21, 101, 102, 103, 104, 105, 106, 107, 108, 60, 61, 62, 63, 59, 64, 65, 66, 67, 68, 69, 70, 71, 72, 73, 74, 75, 76, 77, 78, 79, 80, 81, 82, 83, 84, 30, 31, 32, 33, 109, 110, 111, 112, 113, 114, 115, 116, 117, 118, 119, 120, 121, 122, 123] (by decide +kernel) (by decide +kernel)
set_option maxRecDepth 20000 in
theorem gX7_mixDay_X7_bestFor : GoodIn wsX7_mixDay (wsV RX7 166 RX7 yX7_bestFor wsX7_bestFor) := goodIn_app (goodIn_of _ (by decide +kernel)) ggX7_mixDay_X7_bestFor
theorem dX7_mixDay_0 : decode cX7_mixDay 0 = .ok (.iconst 0, 1) := by decide +kernel
theorem dX7_mixDay_1 : decode cX7_mixDay 1 = .ok (.istore_n 2, 1) := by decide +kernel
theorem dX7_mixDay_2 : decode cX7_mixDay 2 = .ok (.iload_n 2, 1) := by decide +kernel
theorem dX7_mixDay_3 : decode cX7_mixDay 3 = .ok (.iconst 5, 1) := by decide +kernel
theorem dX7_mixDay_4 : decode cX7_mixDay 4 = .ok (.if_icmp .ge 20, 3) := by decide +kernel
theorem dX7_mixDay_7 : decode cX7_mixDay 7 = .ok (.aload_n 0, 1) := by decide +kernel
theorem dX7_mixDay_8 : decode cX7_mixDay 8 = .ok (.aload_n 0, 1) := by decide +kernel
theorem dX7_mixDay_9 : decode cX7_mixDay 9 = .ok (.iload_n 1, 1) := by decide +kernel
theorem dX7_mixDay_10 : decode cX7_mixDay 10 = .ok (.iload_n 2, 1) := by decide +kernel
theorem dX7_mixDay_11 : decode cX7_mixDay 11 = .ok (.invokevirtual 228, 3) := by decide +kernel
theorem dX7_mixDay_14 : decode cX7_mixDay 14 = .ok (.i2l, 1) := by decide +kernel
theorem dX7_mixDay_15 : decode cX7_mixDay 15 = .ok (.invokevirtual 263, 3) := by decide +kernel
theorem dX7_mixDay_18 : decode cX7_mixDay 18 = .ok (.iinc 2 1, 3) := by decide +kernel
theorem dX7_mixDay_21 : decode cX7_mixDay 21 = .ok (.goto (-19), 3) := by decide +kernel
theorem dX7_mixDay_24 : decode cX7_mixDay 24 = .ok (.iconst 0, 1) := by decide +kernel
theorem dX7_mixDay_25 : decode cX7_mixDay 25 = .ok (.istore_n 2, 1) := by decide +kernel
theorem dX7_mixDay_26 : decode cX7_mixDay 26 = .ok (.iload_n 2, 1) := by decide +kernel
theorem dX7_mixDay_27 : decode cX7_mixDay 27 = .ok (.iconst 3, 1) := by decide +kernel
theorem dX7_mixDay_28 : decode cX7_mixDay 28 = .ok (.if_icmp .ge 42, 3) := by decide +kernel
theorem dX7_mixDay_31 : decode cX7_mixDay 31 = .ok (.aload_n 0, 1) := by decide +kernel
theorem dX7_mixDay_32 : decode cX7_mixDay 32 = .ok (.aload_n 0, 1) := by decide +kernel
theorem dX7_mixDay_33 : decode cX7_mixDay 33 = .ok (.iload_n 1, 1) := by decide +kernel
theorem dX7_mixDay_34 : decode cX7_mixDay 34 = .ok (.iload_n 2, 1) := by decide +kernel
theorem dX7_mixDay_35 : decode cX7_mixDay 35 = .ok (.invokevirtual 79, 3) := by decide +kernel
theorem dX7_mixDay_38 : decode cX7_mixDay 38 = .ok (.i2l, 1) := by decide +kernel
theorem dX7_mixDay_39 : decode cX7_mixDay 39 = .ok (.invokevirtual 263, 3) := by decide +kernel
theorem dX7_mixDay_42 : decode cX7_mixDay 42 = .ok (.aload_n 0, 1) := by decide +kernel
theorem dX7_mixDay_43 : decode cX7_mixDay 43 = .ok (.aload_n 0, 1) := by decide +kernel
theorem dX7_mixDay_44 : decode cX7_mixDay 44 = .ok (.iload_n 1, 1) := by decide +kernel
theorem dX7_mixDay_45 : decode cX7_mixDay 45 = .ok (.iload_n 2, 1) := by decide +kernel
theorem dX7_mixDay_46 : decode cX7_mixDay 46 = .ok (.invokevirtual 231, 3) := by decide +kernel
theorem dX7_mixDay_49 : decode cX7_mixDay 49 = .ok (.i2l, 1) := by decide +kernel
theorem dX7_mixDay_50 : decode cX7_mixDay 50 = .ok (.invokevirtual 263, 3) := by decide +kernel
theorem dX7_mixDay_53 : decode cX7_mixDay 53 = .ok (.aload_n 0, 1) := by decide +kernel
theorem dX7_mixDay_54 : decode cX7_mixDay 54 = .ok (.aload_n 0, 1) := by decide +kernel
theorem dX7_mixDay_55 : decode cX7_mixDay 55 = .ok (.iload_n 1, 1) := by decide +kernel
theorem dX7_mixDay_56 : decode cX7_mixDay 56 = .ok (.iload_n 2, 1) := by decide +kernel
theorem dX7_mixDay_57 : decode cX7_mixDay 57 = .ok (.invokevirtual 166, 3) := by decide +kernel
theorem dX7_mixDay_60 : decode cX7_mixDay 60 = .ok (.i2l, 1) := by decide +kernel
theorem dX7_mixDay_61 : decode cX7_mixDay 61 = .ok (.invokevirtual 263, 3) := by decide +kernel
theorem dX7_mixDay_64 : decode cX7_mixDay 64 = .ok (.iinc 2 1, 3) := by decide +kernel
theorem dX7_mixDay_67 : decode cX7_mixDay 67 = .ok (.goto (-41), 3) := by decide +kernel
theorem dX7_mixDay_70 : decode cX7_mixDay 70 = .ok (.return_, 1) := by decide +kernel
set_option maxRecDepth 20000 in
theorem ggX7_digest_X7_counted : GoodIn wsX7_digest wsX7_counted := goodIn_r _ [11, 4, 12, 13, 14, 15, 16, 10, 17, 18, 19, 20, 21, 22, 23, 24, 25, 26, 27, 28, 29, 30, 31, 32, 33, 34, 35, 36, 37, 38, 39, 40, 41, 42, 43, 44, 45, 46, 47, 48, 49, 50, 51, 52, 53, 54, 55, 56, 57, 58, 59, 60, 61, 62, 63, 64, 65, 66, 67, 68, 69, 70, 71, 72, 73, 74, 75, 76, 77, 78, 79, 80, 81, 82, 83, 84, 85, 86, 87, 88, 89, 90, 183, 184, 185, 186, 187, 188, 189, 190, 191, 192, 193, 194, 195, 196, 197] (by decide +kernel) (by decide +kernel)
set_option maxRecDepth 20000 in
theorem gX7_digest_X7_counted : GoodIn wsX7_digest (wsV RX7 244 RX7 yX7_counted wsX7_counted) := goodIn_app (goodIn_of _ (by decide +kernel)) ggX7_digest_X7_counted
set_option maxRecDepth 20000 in
theorem ggX7_digest_X7_mix : GoodIn wsX7_digest wsX7_mix := goodIn_r _ [94, 95, 3, 183, 184, 185, 186, 187, 188, 189, 190, 191, 192, 193, 194, 195, 196, 197] (by decide +kernel) (by decide +kernel)
set_option maxRecDepth 20000 in
theorem gX7_digest_X7_mix : GoodIn wsX7_digest (wsV RX7 263 RX7 yX7_mix wsX7_mix) := goodIn_app (goodIn_of _ (by decide +kernel)) ggX7_digest_X7_mix
set_option maxRecDepth 20000 in
theorem ggX7_digest_X7_dishNow : GoodIn wsX7_digest wsX7_dishNow := goodIn_r _ [99, 60, 61, 62, 10, 63, 4, 34, 35, 36, 37, 100, 101, 102, 103, 54, 55, 56, 57, 58, 59, 64, 65, 66, 67, 68, 69, 70, 71, 72, 73, 74, 75, 76, 77, 78, 79, 183, 184, 185, 186, 187, 188, 189, 190, 191, 192, 193, 194, 195, 196, 197] (by decide +kernel) (by decide +kernel)
set_option maxRecDepth 20000 in
theorem gX7_digest_X7_dishNow : GoodIn wsX7_digest (wsV RX7 213 RX7 yX7_dishNow wsX7_dishNow) := goodIn_app (goodIn_of _ (by decide +kernel)) ggX7_digest_X7_dishNow
set_option maxRecDepth 20000 in
theorem ggX7_digest_X7_dayFor : GoodIn wsX7_digest wsX7_dayFor := goodIn_r _ [107, 108, 109, 110, 10, 111, 34, 35, 36, 37, 4, 112, 113, 114, 115, 26, 27, 28, 29, 116, 117, 118, 119, 120, 121, 122, 123, 124, 125, 126, 127, 128, 129, 130, 42, 43, 44, 45, 46, 47, 48, 49, 131, 132, 133, 134, 135, 136, 137, 138, 55, 56, 57, 58, 59, 54, 60, 61, 62, 63, 64, 65, 66, 67, 68, 69, 70, 71, 72, 73, 74, 75, 76, 77, 78, 79, 139, 140, 141, 142, 18, 19, 20, 21, 22, 23, 24, 25, 30, 31, 32, 33, 183, 184, 185, 186, 187, 188, 189, 190, 191, 192, 193, 194, 195, 196, 197] (by decide +kernel) (by decide +kernel)
set_option maxRecDepth 20000 in
theorem gX7_digest_X7_dayFor : GoodIn wsX7_digest (wsV RX7 250 RX7 yX7_dayFor wsX7_dayFor) := goodIn_app (goodIn_of _ (by decide +kernel)) ggX7_digest_X7_dayFor
set_option maxRecDepth 20000 in
theorem ggX7_digest_X7_guestNow : GoodIn wsX7_digest wsX7_guestNow := goodIn_r _ [146, 124, 125, 126, 10, 127, 4, 128, 129, 130, 84, 85, 86, 87, 26, 27, 28, 29, 88, 89, 90, 183, 184, 185, 186, 187, 188, 189, 190, 191, 192, 193, 194, 195, 196, 197] (by decide +kernel) (by decide +kernel)
set_option maxRecDepth 20000 in
theorem gX7_digest_X7_guestNow : GoodIn wsX7_digest (wsV RX7 222 RX7 yX7_guestNow wsX7_guestNow) := goodIn_app (goodIn_of _ (by decide +kernel)) ggX7_digest_X7_guestNow
set_option maxRecDepth 20000 in
theorem ggX7_digest_X7_mixDay : GoodIn wsX7_digest wsX7_mixDay := goodIn_r _ [150, 151, 152, 153, 10, 154, 84, 85, 86, 87, 26, 27, 28, 29, 4, 88, 89, 90, 46, 47, 48, 49, 34, 35, 36, 37, 22, 23, 24, 25, 30, 31, 32, 33, 120, 121, 122, 123, 124, 125, 126, 127, 128, 129, 130, 155, 156, 157, 158, 91, 92, 93, 94, 95, 3, 159, 160, 161, 162, 59, 55, 56, 57, 58, 54, 60, 61, 62, 63, 64, 65, 66, 67, 68, 69, 70, 71, 72, 73, 74, 75, 76, 77, 78, 79, 163, 164, 165, 166, 112, 113, 114, 115, 116, 117, 118, 119, 42, 43, 44, 45, 131, 132, 133, 134, 135, 136, 137, 138, 183, 184, 185, 186, 187, 188, 189, 190, 191, 192, 193, 194, 195, 196, 197] (by decide +kernel) (by decide +kernel)
set_option maxRecDepth 20000 in
theorem gX7_digest_X7_mixDay : GoodIn wsX7_digest (wsV RX7 269 RX7 yX7_mixDay wsX7_mixDay) := goodIn_app (goodIn_of _ (by decide +kernel)) ggX7_digest_X7_mixDay
set_option maxRecDepth 20000 in
theorem ggX7_digest_X7_used : GoodIn wsX7_digest wsX7_used := goodIn_r _ [170, 50, 51, 52, 10, 53, 54, 55, 56, 57, 58, 59, 4, 60, 61, 62, 63, 34, 35, 36, 37, 64, 65, 66, 67, 68, 69, 70, 71, 72, 73, 74, 75, 76, 77, 78, 79, 183, 184, 185, 186, 187, 188, 189, 190, 191, 192, 193, 194, 195, 196, 197] (by decide +kernel) (by decide +kernel)
set_option maxRecDepth 20000 in
theorem gX7_digest_X7_used : GoodIn wsX7_digest (wsV RX7 253 RX7 yX7_used wsX7_used) := goodIn_app (goodIn_of _ (by decide +kernel)) ggX7_digest_X7_used
set_option maxRecDepth 20000 in
theorem ggX7_digest_Jxe99ae_doubleToLongBits_ccdee : GoodIn wsX7_digest wsJxe99ae_doubleToLongBits_ccdee := goodIn_r _ [174, 175, 176, 177, 178, 179, 180, 181, 173, 182] (by decide +kernel) (by decide +kernel)
set_option maxRecDepth 20000 in
theorem gX7_digest_Jxe99ae_doubleToLongBits_ccdee : GoodIn wsX7_digest (va_wsS RX7 272 yJxe99ae_doubleToLongBits_ccdee wsJxe99ae_doubleToLongBits_ccdee) := goodIn_app (goodIn_of _ (by decide +kernel)) ggX7_digest_Jxe99ae_doubleToLongBits_ccdee
theorem dX7_digest_0 : decode cX7_digest 0 = .ok (.aload_n 0, 1) := by decide +kernel
theorem dX7_digest_1 : decode cX7_digest 1 = .ok (.iconst 0, 1) := by decide +kernel
theorem dX7_digest_2 : decode cX7_digest 2 = .ok (.putfield 34, 3) := by decide +kernel
theorem dX7_digest_5 : decode cX7_digest 5 = .ok (.aload_n 0, 1) := by decide +kernel
theorem dX7_digest_6 : decode cX7_digest 6 = .ok (.ldc2_w 267, 3) := by decide +kernel
theorem dX7_digest_9 : decode cX7_digest 9 = .ok (.putfield 259, 3) := by decide +kernel
theorem dX7_digest_12 : decode cX7_digest 12 = .ok (.iconst 0, 1) := by decide +kernel
theorem dX7_digest_13 : decode cX7_digest 13 = .ok (.istore_n 1, 1) := by decide +kernel
theorem dX7_digest_14 : decode cX7_digest 14 = .ok (.iload_n 1, 1) := by decide +kernel
theorem dX7_digest_15 : decode cX7_digest 15 = .ok (.bipush 14, 2) := by decide +kernel
theorem dX7_digest_17 : decode cX7_digest 17 = .ok (.if_icmp .ge 19, 3) := by decide +kernel
theorem dX7_digest_20 : decode cX7_digest 20 = .ok (.aload_n 0, 1) := by decide +kernel
theorem dX7_digest_21 : decode cX7_digest 21 = .ok (.aload_n 0, 1) := by decide +kernel
theorem dX7_digest_22 : decode cX7_digest 22 = .ok (.iload_n 1, 1) := by decide +kernel
theorem dX7_digest_23 : decode cX7_digest 23 = .ok (.invokevirtual 244, 3) := by decide +kernel
theorem dX7_digest_26 : decode cX7_digest 26 = .ok (.i2l, 1) := by decide +kernel
theorem dX7_digest_27 : decode cX7_digest 27 = .ok (.invokevirtual 263, 3) := by decide +kernel
theorem dX7_digest_30 : decode cX7_digest 30 = .ok (.iinc 1 1, 3) := by decide +kernel
theorem dX7_digest_33 : decode cX7_digest 33 = .ok (.goto (-19), 3) := by decide +kernel
theorem dX7_digest_36 : decode cX7_digest 36 = .ok (.iconst 0, 1) := by decide +kernel
theorem dX7_digest_37 : decode cX7_digest 37 = .ok (.istore_n 1, 1) := by decide +kernel
theorem dX7_digest_38 : decode cX7_digest 38 = .ok (.iload_n 1, 1) := by decide +kernel
theorem dX7_digest_39 : decode cX7_digest 39 = .ok (.iconst 3, 1) := by decide +kernel
theorem dX7_digest_40 : decode cX7_digest 40 = .ok (.if_icmp .ge 20, 3) := by decide +kernel
theorem dX7_digest_43 : decode cX7_digest 43 = .ok (.aload_n 0, 1) := by decide +kernel
theorem dX7_digest_44 : decode cX7_digest 44 = .ok (.aload_n 0, 1) := by decide +kernel
theorem dX7_digest_45 : decode cX7_digest 45 = .ok (.getfield 7, 3) := by decide +kernel
theorem dX7_digest_48 : decode cX7_digest 48 = .ok (.iload_n 1, 1) := by decide +kernel
theorem dX7_digest_49 : decode cX7_digest 49 = .ok (.iaload, 1) := by decide +kernel
theorem dX7_digest_50 : decode cX7_digest 50 = .ok (.i2l, 1) := by decide +kernel
theorem dX7_digest_51 : decode cX7_digest 51 = .ok (.invokevirtual 263, 3) := by decide +kernel
theorem dX7_digest_54 : decode cX7_digest 54 = .ok (.iinc 1 1, 3) := by decide +kernel
theorem dX7_digest_57 : decode cX7_digest 57 = .ok (.goto (-19), 3) := by decide +kernel
theorem dX7_digest_60 : decode cX7_digest 60 = .ok (.iconst 0, 1) := by decide +kernel
theorem dX7_digest_61 : decode cX7_digest 61 = .ok (.istore_n 1, 1) := by decide +kernel
theorem dX7_digest_62 : decode cX7_digest 62 = .ok (.iload_n 1, 1) := by decide +kernel
theorem dX7_digest_63 : decode cX7_digest 63 = .ok (.aload_n 0, 1) := by decide +kernel
theorem dX7_digest_64 : decode cX7_digest 64 = .ok (.getfield 7, 3) := by decide +kernel
theorem dX7_digest_67 : decode cX7_digest 67 = .ok (.iconst 3, 1) := by decide +kernel
theorem dX7_digest_68 : decode cX7_digest 68 = .ok (.iaload, 1) := by decide +kernel
theorem dX7_digest_69 : decode cX7_digest 69 = .ok (.if_icmp .ge 44, 3) := by decide +kernel
theorem dX7_digest_72 : decode cX7_digest 72 = .ok (.iconst 0, 1) := by decide +kernel
theorem dX7_digest_73 : decode cX7_digest 73 = .ok (.istore_n 2, 1) := by decide +kernel
theorem dX7_digest_74 : decode cX7_digest 74 = .ok (.iload_n 2, 1) := by decide +kernel
theorem dX7_digest_75 : decode cX7_digest 75 = .ok (.bipush 9, 2) := by decide +kernel
theorem dX7_digest_77 : decode cX7_digest 77 = .ok (.if_icmp .ge 20, 3) := by decide +kernel
theorem dX7_digest_80 : decode cX7_digest 80 = .ok (.aload_n 0, 1) := by decide +kernel
theorem dX7_digest_81 : decode cX7_digest 81 = .ok (.aload_n 0, 1) := by decide +kernel
theorem dX7_digest_82 : decode cX7_digest 82 = .ok (.iload_n 1, 1) := by decide +kernel
theorem dX7_digest_83 : decode cX7_digest 83 = .ok (.iload_n 2, 1) := by decide +kernel
theorem dX7_digest_84 : decode cX7_digest 84 = .ok (.invokevirtual 213, 3) := by decide +kernel
theorem dX7_digest_87 : decode cX7_digest 87 = .ok (.i2l, 1) := by decide +kernel
theorem dX7_digest_88 : decode cX7_digest 88 = .ok (.invokevirtual 263, 3) := by decide +kernel
theorem dX7_digest_91 : decode cX7_digest 91 = .ok (.iinc 2 1, 3) := by decide +kernel
theorem dX7_digest_94 : decode cX7_digest 94 = .ok (.goto (-20), 3) := by decide +kernel
theorem dX7_digest_97 : decode cX7_digest 97 = .ok (.aload_n 0, 1) := by decide +kernel
theorem dX7_digest_98 : decode cX7_digest 98 = .ok (.aload_n 0, 1) := by decide +kernel
theorem dX7_digest_99 : decode cX7_digest 99 = .ok (.iload_n 1, 1) := by decide +kernel
theorem dX7_digest_100 : decode cX7_digest 100 = .ok (.invokevirtual 250, 3) := by decide +kernel
theorem dX7_digest_103 : decode cX7_digest 103 = .ok (.i2l, 1) := by decide +kernel
theorem dX7_digest_104 : decode cX7_digest 104 = .ok (.invokevirtual 263, 3) := by decide +kernel
theorem dX7_digest_107 : decode cX7_digest 107 = .ok (.iinc 1 1, 3) := by decide +kernel
theorem dX7_digest_110 : decode cX7_digest 110 = .ok (.goto (-48), 3) := by decide +kernel
theorem dX7_digest_113 : decode cX7_digest 113 = .ok (.iconst 0, 1) := by decide +kernel
theorem dX7_digest_114 : decode cX7_digest 114 = .ok (.istore_n 1, 1) := by decide +kernel
theorem dX7_digest_115 : decode cX7_digest 115 = .ok (.iload_n 1, 1) := by decide +kernel
theorem dX7_digest_116 : decode cX7_digest 116 = .ok (.iconst 3, 1) := by decide +kernel
theorem dX7_digest_117 : decode cX7_digest 117 = .ok (.aload_n 0, 1) := by decide +kernel
theorem dX7_digest_118 : decode cX7_digest 118 = .ok (.getfield 7, 3) := by decide +kernel
theorem dX7_digest_121 : decode cX7_digest 121 = .ok (.iconst 4, 1) := by decide +kernel
theorem dX7_digest_122 : decode cX7_digest 122 = .ok (.iaload, 1) := by decide +kernel
theorem dX7_digest_123 : decode cX7_digest 123 = .ok (.imul, 1) := by decide +kernel
theorem dX7_digest_124 : decode cX7_digest 124 = .ok (.if_icmp .ge 24, 3) := by decide +kernel
theorem dX7_digest_127 : decode cX7_digest 127 = .ok (.aload_n 0, 1) := by decide +kernel
theorem dX7_digest_128 : decode cX7_digest 128 = .ok (.aload_n 0, 1) := by decide +kernel
theorem dX7_digest_129 : decode cX7_digest 129 = .ok (.iload_n 1, 1) := by decide +kernel
theorem dX7_digest_130 : decode cX7_digest 130 = .ok (.iconst 3, 1) := by decide +kernel
theorem dX7_digest_131 : decode cX7_digest 131 = .ok (.idiv, 1) := by decide +kernel
theorem dX7_digest_132 : decode cX7_digest 132 = .ok (.iload_n 1, 1) := by decide +kernel
theorem dX7_digest_133 : decode cX7_digest 133 = .ok (.iconst 3, 1) := by decide +kernel
theorem dX7_digest_134 : decode cX7_digest 134 = .ok (.irem, 1) := by decide +kernel
theorem dX7_digest_135 : decode cX7_digest 135 = .ok (.invokevirtual 222, 3) := by decide +kernel
theorem dX7_digest_138 : decode cX7_digest 138 = .ok (.i2l, 1) := by decide +kernel
theorem dX7_digest_139 : decode cX7_digest 139 = .ok (.invokevirtual 263, 3) := by decide +kernel
theorem dX7_digest_142 : decode cX7_digest 142 = .ok (.iinc 1 1, 3) := by decide +kernel
theorem dX7_digest_145 : decode cX7_digest 145 = .ok (.goto (-30), 3) := by decide +kernel
theorem dX7_digest_148 : decode cX7_digest 148 = .ok (.iconst 0, 1) := by decide +kernel
theorem dX7_digest_149 : decode cX7_digest 149 = .ok (.istore_n 1, 1) := by decide +kernel
theorem dX7_digest_150 : decode cX7_digest 150 = .ok (.iload_n 1, 1) := by decide +kernel
theorem dX7_digest_151 : decode cX7_digest 151 = .ok (.bipush 28, 2) := by decide +kernel
theorem dX7_digest_153 : decode cX7_digest 153 = .ok (.if_icmp .ge 14, 3) := by decide +kernel
theorem dX7_digest_156 : decode cX7_digest 156 = .ok (.aload_n 0, 1) := by decide +kernel
theorem dX7_digest_157 : decode cX7_digest 157 = .ok (.iload_n 1, 1) := by decide +kernel
theorem dX7_digest_158 : decode cX7_digest 158 = .ok (.invokevirtual 269, 3) := by decide +kernel
theorem dX7_digest_161 : decode cX7_digest 161 = .ok (.iinc 1 1, 3) := by decide +kernel
theorem dX7_digest_164 : decode cX7_digest 164 = .ok (.goto (-14), 3) := by decide +kernel
theorem dX7_digest_167 : decode cX7_digest 167 = .ok (.aload_n 0, 1) := by decide +kernel
theorem dX7_digest_168 : decode cX7_digest 168 = .ok (.aload_n 0, 1) := by decide +kernel
theorem dX7_digest_169 : decode cX7_digest 169 = .ok (.invokevirtual 253, 3) := by decide +kernel
theorem dX7_digest_172 : decode cX7_digest 172 = .ok (.invokestatic 272, 3) := by decide +kernel
theorem dX7_digest_175 : decode cX7_digest 175 = .ok (.invokevirtual 263, 3) := by decide +kernel
theorem dX7_digest_178 : decode cX7_digest 178 = .ok (.aload_n 0, 1) := by decide +kernel
theorem dX7_digest_179 : decode cX7_digest 179 = .ok (.aload_n 0, 1) := by decide +kernel
theorem dX7_digest_180 : decode cX7_digest 180 = .ok (.getfield 172, 3) := by decide +kernel
theorem dX7_digest_183 : decode cX7_digest 183 = .ok (.i2l, 1) := by decide +kernel
theorem dX7_digest_184 : decode cX7_digest 184 = .ok (.invokevirtual 263, 3) := by decide +kernel
theorem dX7_digest_187 : decode cX7_digest 187 = .ok (.iconst 0, 1) := by decide +kernel
theorem dX7_digest_188 : decode cX7_digest 188 = .ok (.istore_n 1, 1) := by decide +kernel
theorem dX7_digest_189 : decode cX7_digest 189 = .ok (.iload_n 1, 1) := by decide +kernel
theorem dX7_digest_190 : decode cX7_digest 190 = .ok (.aload_n 0, 1) := by decide +kernel
theorem dX7_digest_191 : decode cX7_digest 191 = .ok (.getfield 172, 3) := by decide +kernel
theorem dX7_digest_194 : decode cX7_digest 194 = .ok (.if_icmp .ge 20, 3) := by decide +kernel
theorem dX7_digest_197 : decode cX7_digest 197 = .ok (.aload_n 0, 1) := by decide +kernel
theorem dX7_digest_198 : decode cX7_digest 198 = .ok (.aload_n 0, 1) := by decide +kernel
theorem dX7_digest_199 : decode cX7_digest 199 = .ok (.getfield 22, 3) := by decide +kernel
theorem dX7_digest_202 : decode cX7_digest 202 = .ok (.iload_n 1, 1) := by decide +kernel
theorem dX7_digest_203 : decode cX7_digest 203 = .ok (.iaload, 1) := by decide +kernel
theorem dX7_digest_204 : decode cX7_digest 204 = .ok (.i2l, 1) := by decide +kernel
theorem dX7_digest_205 : decode cX7_digest 205 = .ok (.invokevirtual 263, 3) := by decide +kernel
theorem dX7_digest_208 : decode cX7_digest 208 = .ok (.iinc 1 1, 3) := by decide +kernel
theorem dX7_digest_211 : decode cX7_digest 211 = .ok (.goto (-22), 3) := by decide +kernel
theorem dX7_digest_214 : decode cX7_digest 214 = .ok (.aload_n 0, 1) := by decide +kernel
theorem dX7_digest_215 : decode cX7_digest 215 = .ok (.getfield 259, 3) := by decide +kernel
theorem dX7_digest_218 : decode cX7_digest 218 = .ok (.lreturn, 1) := by decide +kernel
abbrev rm_X7_whyNot : Room := { frames := 7, cells := 0, slots := 0, locals := 162 }
abbrev q_X7_whyNot (dC : Nat → ClassId) (dI : Nat → Nat → Nat) (cI cZ cS : ClassId) (aM : Nat → Nat) (hs : Int64) (res : Int32 × Pic) (A : Nat → Prop) : Array Value → State → Outcome → State → Prop := va_Qi (fun (r : Int32) (u : Pic) => (r, u) = res) (fun u t => va_P (dC, dI) vwCl (wMo cI aM u hs) t.heap) A
set_option maxHeartbeats 4000000 in
set_option maxRecDepth 100000 in
theorem met_X7_whyNot (l : Launch) (dC : Nat → ClassId) (dI : Nat → Nat → Nat) (cI cZ cS : ClassId) (aM : Nat → Nat) (M : Pic) (hs : Int64) (sz : Nat) (p1 : Int32) (p2 : Int32) (p3 : Int32) (res : Int32 × Pic) (hR : f7_whyNot M p1 p2 p3 = some res) : Met l yX7_whyNot wsX7_whyNot rm_X7_whyNot (va_Pc [.ref (aM 0), .int p1, .int p2, .int p3] (pW (dC, dI) (tyS cI cZ cS) (wMo cI aM M hs) sz)) (q_X7_whyNot dC dI cI cZ cS aM hs res (va_A (wMo cI aM M hs) sz)) 0 0 (va_A (wMo cI aM M hs) sz) := by
  refine Met.ofW (cc := cX7_whyNot) (maxL := 4) (ret := (some .int)) (by decide) rfl ?_
  intro p e s m args below meth c s₁ B hml hv
  obtain ⟨rfl, hsz, hP, hK, hD0, hN⟩ := hv
  have hx := B.exec
  have hb := B.bytes
  have hr := B.returns
  have hts := atoms_spec (ws := wsX7_whyNot) B.pre
  have hown : s.vm.findClass RX7 = some m.cls := findClass_of_methodNamed B.named
  have hlocks := B.notSynchronized
  subst hsz
  have hD := hD0.self (sz := s.heap.size)
  generalize hAe : va_A (wMo cI aM M hs) s.heap.size = A at hD ⊢
  have hA : ∀ q : Nat, s.heap.size ≤ q → A q := fun q h => by rw [← hAe]; exact Or.inr h
  have hS : va_S A s.heap s.heap [] := va_S.rf
  have hP : va_P (dC, dI) vwCl (wMo cI aM M hs) s.heap := hP
  rw [f7_whyNot] at hR
  have hin7 : ∀ w ∈ wsX70, w ∈ wsX7_whyNot := by decide +kernel
  have hl := lv_entry ([.ref (aM 0), .int p1, .int p2, .int p3]) (n := 4) (Nat.le_of_ble_eq_true rfl)
  rw [lg_entry_eq]
  generalize (lg_sl ([.ref (aM 0), .int p1, .int p2, .int p3]) ++ List.replicate (4 - (lg_sl ([.ref (aM 0), .int p1, .int p2, .int p3])).length) Slot.unset).toArray = ls at hl ⊢
  have hl : lv_has ls 4 [(0, .ref (aM 0)), (1, .int p1), (2, .int p2), (3, .int p3)] := hl
  refine lv_aload_n hx hb dX7_whyNot_0 rfl (lv_at hl 0 rfl) ?_
  refine lv_iload_n hx hb dX7_whyNot_1 rfl (lv_at hl 1 rfl) ?_
  refine va_calli (va_runS (As := [.int p1]) (rest := [.ref (aM 0)]) ⟨hx, hb, hml, hown, hts⟩ (met_X7_isDay l dC dI cI cZ cS s.heap.size p1) (va_cwS 1 hts gX7_whyNot_X7_isDay rfl rfl rfl (by decide +kernel) ⟨Nat.le_of_ble_eq_true rfl, Nat.le_of_ble_eq_true rfl⟩) (pS (wc := []) hK hP hD hN [] rfl (by decide)) rfl rfl hl.1 rfl (lv_room (Nat.le_of_ble_eq_true rfl)) dX7_whyNot_2 ⟨Nat.zero_le _, Nat.zero_le _⟩) hS (fun q _ h => a0_in hS hA q h) (a0_in hS hA) (fun r1 u t H1 locs ht hvm hw hB hz1 hk1 hS => ?_)
  obtain ⟨hw, nb2⟩ := hw
  subst hw
  have hP := rdk hP hk1
  refine lv_if_eq (tgt := 27) hx hb dX7_whyNot_5 (by decide) (fun c_3 => ?_) (fun c_3 => ?_)
  · rw [if_pos c_3] at hR
    refine lv_iconst (v := (1 : Int32)) hx hb dX7_whyNot_27 (by decide) ?_
    refine va_put (D := (dC, dI)) (ci := 7) (v := .int (1 : Int32)) (ty := .int) (C := RX7) (T := TX7) (N := 15) hx hb hts hin7 tyX7 tyX7_ok nmX7 hown hK hP hD hS 0 rfl rfl 7 (by decide) (hw_ hts 1 rfl) (fun _ h9 => h9) rfl (by decide +kernel) rfl rfl (Nat.le_of_ble_eq_true rfl) dX7_whyNot_28 (fun H2 locs hP hD hS => ?_)
    have hP : va_P (dC, dI) vwCl (wMo cI aM (pset M 7 (fun _ => (1 : Int32))) hs) H2 := hP
    have hD : va_D A (wMo cI aM (pset M 7 (fun _ => (1 : Int32))) hs) := hD
    refine lv_aload_n hx hb dX7_whyNot_31 rfl (lv_at hl 0 rfl) ?_
    refine va_get (D := (dC, dI)) (ci := 7) (v := .int (1 : Int32)) (C := RX7) (T := TX7) (N := 15) hx hb hts hin7 hown hK hP 0 rfl rfl 7 (by decide) (hw_ hts 1 rfl) (fun _ h9 => h9) rfl dX7_whyNot_32 ?_
    refine lv_if_le (tgt := 42) hx hb dX7_whyNot_35 (by decide) (fun q => absurd q (by decide)) (fun _ => ?_)
    refine lv_iconst (v := (0 : Int32)) hx hb dX7_whyNot_38 (by decide) ?_
    refine lv_goto (tgt := 49) hx hb dX7_whyNot_39 (by decide) ?_
    exact W.iret (v := (0 : Int32)) hx hb hr (fun t ht hW => ⟨⟨(0 : Int32), (pset M 7 (fun _ => (1 : Int32))), rfl, Option.some.inj hR, P_at ht hP⟩, hS.F ht⟩) hS.2.2 dX7_whyNot_49
  · rw [if_neg c_3] at hR
    refine lv_iload_n hx hb dX7_whyNot_8 rfl (lv_at hl 2 rfl) ?_
    refine va_calli (va_runS (As := [.int p2]) (rest := [.ref (aM 0)]) ⟨hx, hb, hml, hown, hts⟩ (met_X7_isPart l dC dI cI cZ cS H1.size p2) (va_cwS 1 hts gX7_whyNot_X7_isPart rfl rfl rfl (by decide +kernel) ⟨Nat.le_of_ble_eq_true rfl, Nat.le_of_ble_eq_true rfl⟩) (pS (wc := []) hK hP hD hN [] rfl (by decide)) rfl rfl hl.1 rfl (lv_room (Nat.le_of_ble_eq_true rfl)) dX7_whyNot_9 ⟨Nat.zero_le _, Nat.zero_le _⟩) hS (fun q _ h => a0_in hS hA q h) (a0_in hS hA) (fun r4 u t H2 locs ht hvm hw hB hz1 hk1 hS => ?_)
    obtain ⟨hw, nb5⟩ := hw
    subst hw
    have hP := rdk hP hk1
    refine lv_if_eq (tgt := 27) hx hb dX7_whyNot_12 (by decide) (fun c_6 => ?_) (fun c_6 => ?_)
    · rw [if_pos c_6] at hR
      refine lv_iconst (v := (1 : Int32)) hx hb dX7_whyNot_27 (by decide) ?_
      refine va_put (D := (dC, dI)) (ci := 7) (v := .int (1 : Int32)) (ty := .int) (C := RX7) (T := TX7) (N := 15) hx hb hts hin7 tyX7 tyX7_ok nmX7 hown hK hP hD hS 0 rfl rfl 7 (by decide) (hw_ hts 1 rfl) (fun _ h9 => h9) rfl (by decide +kernel) rfl rfl (Nat.le_of_ble_eq_true rfl) dX7_whyNot_28 (fun H3 locs hP hD hS => ?_)
      have hP : va_P (dC, dI) vwCl (wMo cI aM (pset M 7 (fun _ => (1 : Int32))) hs) H3 := hP
      have hD : va_D A (wMo cI aM (pset M 7 (fun _ => (1 : Int32))) hs) := hD
      refine lv_aload_n hx hb dX7_whyNot_31 rfl (lv_at hl 0 rfl) ?_
      refine va_get (D := (dC, dI)) (ci := 7) (v := .int (1 : Int32)) (C := RX7) (T := TX7) (N := 15) hx hb hts hin7 hown hK hP 0 rfl rfl 7 (by decide) (hw_ hts 1 rfl) (fun _ h9 => h9) rfl dX7_whyNot_32 ?_
      refine lv_if_le (tgt := 42) hx hb dX7_whyNot_35 (by decide) (fun q => absurd q (by decide)) (fun _ => ?_)
      refine lv_iconst (v := (0 : Int32)) hx hb dX7_whyNot_38 (by decide) ?_
      refine lv_goto (tgt := 49) hx hb dX7_whyNot_39 (by decide) ?_
      exact W.iret (v := (0 : Int32)) hx hb hr (fun t ht hW => ⟨⟨(0 : Int32), (pset M 7 (fun _ => (1 : Int32))), rfl, Option.some.inj hR, P_at ht hP⟩, hS.F ht⟩) hS.2.2 dX7_whyNot_49
    · rw [if_neg c_6] at hR
      refine lv_aload_n hx hb dX7_whyNot_15 rfl (lv_at hl 0 rfl) ?_
      refine lv_iload_n hx hb dX7_whyNot_16 rfl (lv_at hl 3 rfl) ?_
      refine va_calli (va_runV (As := [.int p3]) (rest := [.ref (aM 0)]) ⟨hx, hb, hml, hown, hts⟩ (met_X7_isDish l dC dI cI cZ cS aM M hs H2.size p3) (cwV 1 hts gX7_whyNot_X7_isDish rfl rfl rfl (by decide +kernel) ⟨Nat.le_of_ble_eq_true rfl, Nat.le_of_ble_eq_true rfl⟩) (pV (wc := wMo cI aM M hs) (ci := 7) (q0 := 0) hK hP hD hN [0, 1, 2, 3, 4, 5, 6, 7, 8] rfl (by decide) rfl rfl) rfl rfl hl.1 rfl (lv_room (Nat.le_of_ble_eq_true rfl)) dX7_whyNot_17 ⟨Nat.zero_le _, Nat.zero_le _⟩) hS (fun q _ h => a0_in hS hA q h) (a0_in hS hA) (fun r7 u t H3 locs ht hvm hw hB hz1 hk1 hS => ?_)
      obtain ⟨hw, nb8⟩ := hw
      subst hw
      have hP := rdk hP hk1
      refine lv_if_eq (tgt := 27) hx hb dX7_whyNot_20 (by decide) (fun c_9 => ?_) (fun c_9 => ?_)
      · rw [if_pos c_9] at hR
        refine lv_iconst (v := (1 : Int32)) hx hb dX7_whyNot_27 (by decide) ?_
        refine va_put (D := (dC, dI)) (ci := 7) (v := .int (1 : Int32)) (ty := .int) (C := RX7) (T := TX7) (N := 15) hx hb hts hin7 tyX7 tyX7_ok nmX7 hown hK hP hD hS 0 rfl rfl 7 (by decide) (hw_ hts 1 rfl) (fun _ h9 => h9) rfl (by decide +kernel) rfl rfl (Nat.le_of_ble_eq_true rfl) dX7_whyNot_28 (fun H4 locs hP hD hS => ?_)
        have hP : va_P (dC, dI) vwCl (wMo cI aM (pset M 7 (fun _ => (1 : Int32))) hs) H4 := hP
        have hD : va_D A (wMo cI aM (pset M 7 (fun _ => (1 : Int32))) hs) := hD
        refine lv_aload_n hx hb dX7_whyNot_31 rfl (lv_at hl 0 rfl) ?_
        refine va_get (D := (dC, dI)) (ci := 7) (v := .int (1 : Int32)) (C := RX7) (T := TX7) (N := 15) hx hb hts hin7 hown hK hP 0 rfl rfl 7 (by decide) (hw_ hts 1 rfl) (fun _ h9 => h9) rfl dX7_whyNot_32 ?_
        refine lv_if_le (tgt := 42) hx hb dX7_whyNot_35 (by decide) (fun q => absurd q (by decide)) (fun _ => ?_)
        refine lv_iconst (v := (0 : Int32)) hx hb dX7_whyNot_38 (by decide) ?_
        refine lv_goto (tgt := 49) hx hb dX7_whyNot_39 (by decide) ?_
        exact W.iret (v := (0 : Int32)) hx hb hr (fun t ht hW => ⟨⟨(0 : Int32), (pset M 7 (fun _ => (1 : Int32))), rfl, Option.some.inj hR, P_at ht hP⟩, hS.F ht⟩) hS.2.2 dX7_whyNot_49
      · rw [if_neg c_9] at hR
        refine lv_iconst (v := (0 : Int32)) hx hb dX7_whyNot_23 (by decide) ?_
        refine lv_goto (tgt := 28) hx hb dX7_whyNot_24 (by decide) ?_
        refine va_put (D := (dC, dI)) (ci := 7) (v := .int (0 : Int32)) (ty := .int) (C := RX7) (T := TX7) (N := 15) hx hb hts hin7 tyX7 tyX7_ok nmX7 hown hK hP hD hS 0 rfl rfl 7 (by decide) (hw_ hts 1 rfl) (fun _ h9 => h9) rfl (by decide +kernel) rfl rfl (Nat.le_of_ble_eq_true rfl) dX7_whyNot_28 (fun H4 locs hP hD hS => ?_)
        have hP : va_P (dC, dI) vwCl (wMo cI aM (pset M 7 (fun _ => (0 : Int32))) hs) H4 := hP
        have hD : va_D A (wMo cI aM (pset M 7 (fun _ => (0 : Int32))) hs) := hD
        refine lv_aload_n hx hb dX7_whyNot_31 rfl (lv_at hl 0 rfl) ?_
        refine va_get (D := (dC, dI)) (ci := 7) (v := .int (0 : Int32)) (C := RX7) (T := TX7) (N := 15) hx hb hts hin7 hown hK hP 0 rfl rfl 7 (by decide) (hw_ hts 1 rfl) (fun _ h9 => h9) rfl dX7_whyNot_32 ?_
        refine lv_if_le (tgt := 42) hx hb dX7_whyNot_35 (by decide) (fun _ => ?_) (fun q => absurd (by decide) q)
        refine lv_aload_n hx hb dX7_whyNot_42 rfl (lv_at hl 0 rfl) ?_
        refine lv_iload_n hx hb dX7_whyNot_43 rfl (lv_at hl 1 rfl) ?_
        refine lv_iload_n hx hb dX7_whyNot_44 rfl (lv_at hl 2 rfl) ?_
        refine lv_iload_n hx hb dX7_whyNot_45 rfl (lv_at hl 3 rfl) ?_
        obtain ⟨r10, u11, hc12, hR⟩ := ob2_e hR
        have hF := va_free (wc := wMo cI aM (pset M 7 (fun _ => (0 : Int32))) hs) hD hS hA [0, 1, 2, 3, 4, 5, 6, 7, 8] rfl
        refine va_calli (va_runV (As := [.int p1, .int p2, .int p3]) (rest := []) ⟨hx, hb, hml, hown, hts⟩ (met_X7_reason l dC dI cI cZ cS aM (pset M 7 (fun _ => (0 : Int32))) hs H4.size p1 p2 p3 (r10, u11) hc12) (cwV 3 hts gX7_whyNot_X7_reason rfl rfl rfl (by decide +kernel) ⟨Nat.le_of_ble_eq_true rfl, Nat.le_of_ble_eq_true rfl⟩) (pV (wc := wMo cI aM (pset M 7 (fun _ => (0 : Int32))) hs) (ci := 7) (q0 := 0) hK hP hD hN [0, 1, 2, 3, 4, 5, 6, 7, 8] rfl (by decide) rfl rfl) rfl rfl hl.1 rfl (lv_room (Nat.le_of_ble_eq_true rfl)) dX7_whyNot_46 ⟨Nat.zero_le _, Nat.zero_le _⟩) hS (fun q _ h => hF q h) hF (fun r10 u11 t H5 locs ht hvm hw hB hz1 hk1 hS => ?_)
        try dsimp only at hw hB
        rw [ht] at hB
        cases hw
        have hP := wrk (w2 := wMo cI aM u11 hs) hP hD [0, 1, 2, 3, 4, 5, 6, 7, 8] rfl (by decide) hk1 hB rfl rfl
        have hD := D_addr (w1 := wMo cI aM u11 hs) hD rfl
        exact W.iret (v := r10) hx hb hr (fun t ht hW => ⟨⟨r10, u11, rfl, Option.some.inj hR, P_at ht hP⟩, hS.F ht⟩) hS.2.2 dX7_whyNot_49
abbrev rm_X7_joyOn : Room := { frames := 2, cells := 0, slots := 0, locals := 47 }
abbrev q_X7_joyOn (dC : Nat → ClassId) (dI : Nat → Nat → Nat) (cI cZ cS : ClassId) (aM : Nat → Nat) (hs : Int64) (res : Int32 × Pic) (A : Nat → Prop) : Array Value → State → Outcome → State → Prop := va_Qi (fun (r : Int32) (u : Pic) => (r, u) = res) (fun u t => va_P (dC, dI) vwCl (wMo cI aM u hs) t.heap) A
set_option maxHeartbeats 4000000 in
set_option maxRecDepth 100000 in
theorem met_X7_joyOn (l : Launch) (dC : Nat → ClassId) (dI : Nat → Nat → Nat) (cI cZ cS : ClassId) (aM : Nat → Nat) (M : Pic) (hs : Int64) (sz : Nat) (p1 : Int32) (p2 : Int32) (res : Int32 × Pic) (hR : f7_joyOn M p1 p2 = some res) : Met l yX7_joyOn wsX7_joyOn rm_X7_joyOn (va_Pc [.ref (aM 0), .int p1, .int p2] (pW (dC, dI) (tyS cI cZ cS) (wMo cI aM M hs) sz)) (q_X7_joyOn dC dI cI cZ cS aM hs res (va_A (wMo cI aM M hs) sz)) 0 0 (va_A (wMo cI aM M hs) sz) := by
  refine Met.ofW (cc := cX7_joyOn) (maxL := 3) (ret := (some .int)) (by decide) rfl ?_
  intro p e s m args below meth c s₁ B hml hv
  obtain ⟨rfl, hsz, hP, hK, hD0, hN⟩ := hv
  have hx := B.exec
  have hb := B.bytes
  have hr := B.returns
  have hts := atoms_spec (ws := wsX7_joyOn) B.pre
  have hown : s.vm.findClass RX7 = some m.cls := findClass_of_methodNamed B.named
  have hlocks := B.notSynchronized
  subst hsz
  have hD := hD0.self (sz := s.heap.size)
  generalize hAe : va_A (wMo cI aM M hs) s.heap.size = A at hD ⊢
  have hA : ∀ q : Nat, s.heap.size ≤ q → A q := fun q h => by rw [← hAe]; exact Or.inr h
  have hS : va_S A s.heap s.heap [] := va_S.rf
  have hP : va_P (dC, dI) vwCl (wMo cI aM M hs) s.heap := hP
  rw [f7_joyOn] at hR
  have hin7 : ∀ w ∈ wsX70, w ∈ wsX7_joyOn := by decide +kernel
  have hl := lv_entry ([.ref (aM 0), .int p1, .int p2]) (n := 3) (Nat.le_of_ble_eq_true rfl)
  rw [lg_entry_eq]
  generalize (lg_sl ([.ref (aM 0), .int p1, .int p2]) ++ List.replicate (3 - (lg_sl ([.ref (aM 0), .int p1, .int p2])).length) Slot.unset).toArray = ls at hl ⊢
  have hl : lv_has ls 3 [(0, .ref (aM 0)), (1, .int p1), (2, .int p2)] := hl
  refine lv_aload_n hx hb dX7_joyOn_0 rfl (lv_at hl 0 rfl) ?_
  refine lv_iload_n hx hb dX7_joyOn_1 rfl (lv_at hl 1 rfl) ?_
  refine va_calli (va_runS (As := [.int p1]) (rest := [.ref (aM 0)]) ⟨hx, hb, hml, hown, hts⟩ (met_X7_isDay l dC dI cI cZ cS s.heap.size p1) (va_cwS 1 hts gX7_joyOn_X7_isDay rfl rfl rfl (by decide +kernel) ⟨Nat.le_of_ble_eq_true rfl, Nat.le_of_ble_eq_true rfl⟩) (pS (wc := []) hK hP hD hN [] rfl (by decide)) rfl rfl hl.1 rfl (lv_room (Nat.le_of_ble_eq_true rfl)) dX7_joyOn_2 ⟨Nat.zero_le _, Nat.zero_le _⟩) hS (fun q _ h => a0_in hS hA q h) (a0_in hS hA) (fun r1 u t H1 locs ht hvm hw hB hz1 hk1 hS => ?_)
  obtain ⟨hw, nb2⟩ := hw
  subst hw
  have hP := rdk hP hk1
  refine lv_if_eq (tgt := 20) hx hb dX7_joyOn_5 (by decide) (fun c_3 => ?_) (fun c_3 => ?_)
  · rw [if_pos c_3] at hR
    refine lv_iconst (v := (1 : Int32)) hx hb dX7_joyOn_20 (by decide) ?_
    refine va_put (D := (dC, dI)) (ci := 7) (v := .int (1 : Int32)) (ty := .int) (C := RX7) (T := TX7) (N := 15) hx hb hts hin7 tyX7 tyX7_ok nmX7 hown hK hP hD hS 0 rfl rfl 7 (by decide) (hw_ hts 1 rfl) (fun _ h9 => h9) rfl (by decide +kernel) rfl rfl (Nat.le_of_ble_eq_true rfl) dX7_joyOn_21 (fun H2 locs hP hD hS => ?_)
    have hP : va_P (dC, dI) vwCl (wMo cI aM (pset M 7 (fun _ => (1 : Int32))) hs) H2 := hP
    have hD : va_D A (wMo cI aM (pset M 7 (fun _ => (1 : Int32))) hs) := hD
    refine lv_aload_n hx hb dX7_joyOn_24 rfl (lv_at hl 0 rfl) ?_
    refine va_get (D := (dC, dI)) (ci := 7) (v := .int (1 : Int32)) (C := RX7) (T := TX7) (N := 15) hx hb hts hin7 hown hK hP 0 rfl rfl 7 (by decide) (hw_ hts 1 rfl) (fun _ h9 => h9) rfl dX7_joyOn_25 ?_
    refine lv_if_le (tgt := 35) hx hb dX7_joyOn_28 (by decide) (fun q => absurd q (by decide)) (fun _ => ?_)
    refine lv_iconst (v := (0 : Int32)) hx hb dX7_joyOn_31 (by decide) ?_
    refine lv_goto (tgt := 41) hx hb dX7_joyOn_32 (by decide) ?_
    exact W.iret (v := (0 : Int32)) hx hb hr (fun t ht hW => ⟨⟨(0 : Int32), (pset M 7 (fun _ => (1 : Int32))), rfl, Option.some.inj hR, P_at ht hP⟩, hS.F ht⟩) hS.2.2 dX7_joyOn_41
  · rw [if_neg c_3] at hR
    refine lv_aload_n hx hb dX7_joyOn_8 rfl (lv_at hl 0 rfl) ?_
    refine lv_iload_n hx hb dX7_joyOn_9 rfl (lv_at hl 2 rfl) ?_
    refine va_calli (va_runV (As := [.int p2]) (rest := [.ref (aM 0)]) ⟨hx, hb, hml, hown, hts⟩ (met_X7_isDish l dC dI cI cZ cS aM M hs H1.size p2) (cwV 1 hts gX7_joyOn_X7_isDish rfl rfl rfl (by decide +kernel) ⟨Nat.le_of_ble_eq_true rfl, Nat.le_of_ble_eq_true rfl⟩) (pV (wc := wMo cI aM M hs) (ci := 7) (q0 := 0) hK hP hD hN [0, 1, 2, 3, 4, 5, 6, 7, 8] rfl (by decide) rfl rfl) rfl rfl hl.1 rfl (lv_room (Nat.le_of_ble_eq_true rfl)) dX7_joyOn_10 ⟨Nat.zero_le _, Nat.zero_le _⟩) hS (fun q _ h => a0_in hS hA q h) (a0_in hS hA) (fun r4 u t H2 locs ht hvm hw hB hz1 hk1 hS => ?_)
    obtain ⟨hw, nb5⟩ := hw
    subst hw
    have hP := rdk hP hk1
    refine lv_if_eq (tgt := 20) hx hb dX7_joyOn_13 (by decide) (fun c_6 => ?_) (fun c_6 => ?_)
    · rw [if_pos c_6] at hR
      refine lv_iconst (v := (1 : Int32)) hx hb dX7_joyOn_20 (by decide) ?_
      refine va_put (D := (dC, dI)) (ci := 7) (v := .int (1 : Int32)) (ty := .int) (C := RX7) (T := TX7) (N := 15) hx hb hts hin7 tyX7 tyX7_ok nmX7 hown hK hP hD hS 0 rfl rfl 7 (by decide) (hw_ hts 1 rfl) (fun _ h9 => h9) rfl (by decide +kernel) rfl rfl (Nat.le_of_ble_eq_true rfl) dX7_joyOn_21 (fun H3 locs hP hD hS => ?_)
      have hP : va_P (dC, dI) vwCl (wMo cI aM (pset M 7 (fun _ => (1 : Int32))) hs) H3 := hP
      have hD : va_D A (wMo cI aM (pset M 7 (fun _ => (1 : Int32))) hs) := hD
      refine lv_aload_n hx hb dX7_joyOn_24 rfl (lv_at hl 0 rfl) ?_
      refine va_get (D := (dC, dI)) (ci := 7) (v := .int (1 : Int32)) (C := RX7) (T := TX7) (N := 15) hx hb hts hin7 hown hK hP 0 rfl rfl 7 (by decide) (hw_ hts 1 rfl) (fun _ h9 => h9) rfl dX7_joyOn_25 ?_
      refine lv_if_le (tgt := 35) hx hb dX7_joyOn_28 (by decide) (fun q => absurd q (by decide)) (fun _ => ?_)
      refine lv_iconst (v := (0 : Int32)) hx hb dX7_joyOn_31 (by decide) ?_
      refine lv_goto (tgt := 41) hx hb dX7_joyOn_32 (by decide) ?_
      exact W.iret (v := (0 : Int32)) hx hb hr (fun t ht hW => ⟨⟨(0 : Int32), (pset M 7 (fun _ => (1 : Int32))), rfl, Option.some.inj hR, P_at ht hP⟩, hS.F ht⟩) hS.2.2 dX7_joyOn_41
    · rw [if_neg c_6] at hR
      refine lv_iconst (v := (0 : Int32)) hx hb dX7_joyOn_16 (by decide) ?_
      refine lv_goto (tgt := 21) hx hb dX7_joyOn_17 (by decide) ?_
      refine va_put (D := (dC, dI)) (ci := 7) (v := .int (0 : Int32)) (ty := .int) (C := RX7) (T := TX7) (N := 15) hx hb hts hin7 tyX7 tyX7_ok nmX7 hown hK hP hD hS 0 rfl rfl 7 (by decide) (hw_ hts 1 rfl) (fun _ h9 => h9) rfl (by decide +kernel) rfl rfl (Nat.le_of_ble_eq_true rfl) dX7_joyOn_21 (fun H3 locs hP hD hS => ?_)
      have hP : va_P (dC, dI) vwCl (wMo cI aM (pset M 7 (fun _ => (0 : Int32))) hs) H3 := hP
      have hD : va_D A (wMo cI aM (pset M 7 (fun _ => (0 : Int32))) hs) := hD
      refine lv_aload_n hx hb dX7_joyOn_24 rfl (lv_at hl 0 rfl) ?_
      refine va_get (D := (dC, dI)) (ci := 7) (v := .int (0 : Int32)) (C := RX7) (T := TX7) (N := 15) hx hb hts hin7 hown hK hP 0 rfl rfl 7 (by decide) (hw_ hts 1 rfl) (fun _ h9 => h9) rfl dX7_joyOn_25 ?_
      refine lv_if_le (tgt := 35) hx hb dX7_joyOn_28 (by decide) (fun _ => ?_) (fun q => absurd (by decide) q)
      refine lv_aload_n hx hb dX7_joyOn_35 rfl (lv_at hl 0 rfl) ?_
      refine lv_iload_n hx hb dX7_joyOn_36 rfl (lv_at hl 1 rfl) ?_
      refine lv_iload_n hx hb dX7_joyOn_37 rfl (lv_at hl 2 rfl) ?_
      obtain ⟨r7, hc8, hR⟩ := ob1_e hR
      refine va_calli (va_runV (As := [.int p1, .int p2]) (rest := []) ⟨hx, hb, hml, hown, hts⟩ (met_X7_joyNow l dC dI cI cZ cS aM (pset M 7 (fun _ => (0 : Int32))) hs H3.size p1 p2 r7 hc8) (cwV 2 hts gX7_joyOn_X7_joyNow rfl rfl rfl (by decide +kernel) ⟨Nat.le_of_ble_eq_true rfl, Nat.le_of_ble_eq_true rfl⟩) (pV (wc := wMo cI aM (pset M 7 (fun _ => (0 : Int32))) hs) (ci := 7) (q0 := 0) hK hP hD hN [0, 1, 2, 3, 4, 5, 6, 7, 8] rfl (by decide) rfl rfl) rfl rfl hl.1 rfl (lv_room (Nat.le_of_ble_eq_true rfl)) dX7_joyOn_38 ⟨Nat.zero_le _, Nat.zero_le _⟩) hS (fun q _ h => a0_in hS hA q h) (a0_in hS hA) (fun r7 u t H4 locs ht hvm hw hB hz1 hk1 hS => ?_)
      cases hw
      have hP := rdk hP hk1
      exact W.iret (v := r7) hx hb hr (fun t ht hW => ⟨⟨r7, (pset M 7 (fun _ => (0 : Int32))), rfl, Option.some.inj hR, P_at ht hP⟩, hS.F ht⟩) hS.2.2 dX7_joyOn_41
abbrev rm_X7_best : Room := { frames := 8, cells := 0, slots := 0, locals := 187 }
abbrev q_X7_best (dC : Nat → ClassId) (dI : Nat → Nat → Nat) (cI cZ cS : ClassId) (aM : Nat → Nat) (hs : Int64) (res : Int32 × Pic) (A : Nat → Prop) : Array Value → State → Outcome → State → Prop := va_Qi (fun (r : Int32) (u : Pic) => (r, u) = res) (fun u t => va_P (dC, dI) vwCl (wMo cI aM u hs) t.heap) A
set_option maxHeartbeats 4000000 in
set_option maxRecDepth 100000 in
theorem met_X7_best (l : Launch) (dC : Nat → ClassId) (dI : Nat → Nat → Nat) (cI cZ cS : ClassId) (aM : Nat → Nat) (M : Pic) (hs : Int64) (sz : Nat) (p1 : Int32) (p2 : Int32) (res : Int32 × Pic) (hR : f7_best M p1 p2 = some res) : Met l yX7_best wsX7_best rm_X7_best (va_Pc [.ref (aM 0), .int p1, .int p2] (pW (dC, dI) (tyS cI cZ cS) (wMo cI aM M hs) sz)) (q_X7_best dC dI cI cZ cS aM hs res (va_A (wMo cI aM M hs) sz)) 0 0 (va_A (wMo cI aM M hs) sz) := by
  refine Met.ofW (cc := cX7_best) (maxL := 3) (ret := (some .int)) (by decide) rfl ?_
  intro p e s m args below meth c s₁ B hml hv
  obtain ⟨rfl, hsz, hP, hK, hD0, hN⟩ := hv
  have hx := B.exec
  have hb := B.bytes
  have hr := B.returns
  have hts := atoms_spec (ws := wsX7_best) B.pre
  have hown : s.vm.findClass RX7 = some m.cls := findClass_of_methodNamed B.named
  have hlocks := B.notSynchronized
  subst hsz
  have hD := hD0.self (sz := s.heap.size)
  generalize hAe : va_A (wMo cI aM M hs) s.heap.size = A at hD ⊢
  have hA : ∀ q : Nat, s.heap.size ≤ q → A q := fun q h => by rw [← hAe]; exact Or.inr h
  have hS : va_S A s.heap s.heap [] := va_S.rf
  have hP : va_P (dC, dI) vwCl (wMo cI aM M hs) s.heap := hP
  rw [f7_best] at hR
  have hin7 : ∀ w ∈ wsX70, w ∈ wsX7_best := by decide +kernel
  have hl := lv_entry ([.ref (aM 0), .int p1, .int p2]) (n := 3) (Nat.le_of_ble_eq_true rfl)
  rw [lg_entry_eq]
  generalize (lg_sl ([.ref (aM 0), .int p1, .int p2]) ++ List.replicate (3 - (lg_sl ([.ref (aM 0), .int p1, .int p2])).length) Slot.unset).toArray = ls at hl ⊢
  have hl : lv_has ls 3 [(0, .ref (aM 0)), (1, .int p1), (2, .int p2)] := hl
  refine lv_aload_n hx hb dX7_best_0 rfl (lv_at hl 0 rfl) ?_
  refine lv_iload_n hx hb dX7_best_1 rfl (lv_at hl 1 rfl) ?_
  refine va_calli (va_runS (As := [.int p1]) (rest := [.ref (aM 0)]) ⟨hx, hb, hml, hown, hts⟩ (met_X7_isDay l dC dI cI cZ cS s.heap.size p1) (va_cwS 1 hts gX7_best_X7_isDay rfl rfl rfl (by decide +kernel) ⟨Nat.le_of_ble_eq_true rfl, Nat.le_of_ble_eq_true rfl⟩) (pS (wc := []) hK hP hD hN [] rfl (by decide)) rfl rfl hl.1 rfl (lv_room (Nat.le_of_ble_eq_true rfl)) dX7_best_2 ⟨Nat.zero_le _, Nat.zero_le _⟩) hS (fun q _ h => a0_in hS hA q h) (a0_in hS hA) (fun r1 u t H1 locs ht hvm hw hB hz1 hk1 hS => ?_)
  obtain ⟨hw, nb2⟩ := hw
  subst hw
  have hP := rdk hP hk1
  refine lv_if_eq (tgt := 19) hx hb dX7_best_5 (by decide) (fun c_3 => ?_) (fun c_3 => ?_)
  · rw [if_pos c_3] at hR
    refine lv_iconst (v := (1 : Int32)) hx hb dX7_best_19 (by decide) ?_
    refine va_put (D := (dC, dI)) (ci := 7) (v := .int (1 : Int32)) (ty := .int) (C := RX7) (T := TX7) (N := 15) hx hb hts hin7 tyX7 tyX7_ok nmX7 hown hK hP hD hS 0 rfl rfl 7 (by decide) (hw_ hts 1 rfl) (fun _ h9 => h9) rfl (by decide +kernel) rfl rfl (Nat.le_of_ble_eq_true rfl) dX7_best_20 (fun H2 locs hP hD hS => ?_)
    have hP : va_P (dC, dI) vwCl (wMo cI aM (pset M 7 (fun _ => (1 : Int32))) hs) H2 := hP
    have hD : va_D A (wMo cI aM (pset M 7 (fun _ => (1 : Int32))) hs) := hD
    refine lv_aload_n hx hb dX7_best_23 rfl (lv_at hl 0 rfl) ?_
    refine va_get (D := (dC, dI)) (ci := 7) (v := .int (1 : Int32)) (C := RX7) (T := TX7) (N := 15) hx hb hts hin7 hown hK hP 0 rfl rfl 7 (by decide) (hw_ hts 1 rfl) (fun _ h9 => h9) rfl dX7_best_24 ?_
    refine lv_if_le (tgt := 34) hx hb dX7_best_27 (by decide) (fun q => absurd q (by decide)) (fun _ => ?_)
    refine lv_iconst (v := (0 : Int32)) hx hb dX7_best_30 (by decide) ?_
    refine lv_goto (tgt := 40) hx hb dX7_best_31 (by decide) ?_
    exact W.iret (v := (0 : Int32)) hx hb hr (fun t ht hW => ⟨⟨(0 : Int32), (pset M 7 (fun _ => (1 : Int32))), rfl, Option.some.inj hR, P_at ht hP⟩, hS.F ht⟩) hS.2.2 dX7_best_40
  · rw [if_neg c_3] at hR
    refine lv_iload_n hx hb dX7_best_8 rfl (lv_at hl 2 rfl) ?_
    refine va_calli (va_runS (As := [.int p2]) (rest := [.ref (aM 0)]) ⟨hx, hb, hml, hown, hts⟩ (met_X7_isPart l dC dI cI cZ cS H1.size p2) (va_cwS 1 hts gX7_best_X7_isPart rfl rfl rfl (by decide +kernel) ⟨Nat.le_of_ble_eq_true rfl, Nat.le_of_ble_eq_true rfl⟩) (pS (wc := []) hK hP hD hN [] rfl (by decide)) rfl rfl hl.1 rfl (lv_room (Nat.le_of_ble_eq_true rfl)) dX7_best_9 ⟨Nat.zero_le _, Nat.zero_le _⟩) hS (fun q _ h => a0_in hS hA q h) (a0_in hS hA) (fun r4 u t H2 locs ht hvm hw hB hz1 hk1 hS => ?_)
    obtain ⟨hw, nb5⟩ := hw
    subst hw
    have hP := rdk hP hk1
    refine lv_if_eq (tgt := 19) hx hb dX7_best_12 (by decide) (fun c_6 => ?_) (fun c_6 => ?_)
    · rw [if_pos c_6] at hR
      refine lv_iconst (v := (1 : Int32)) hx hb dX7_best_19 (by decide) ?_
      refine va_put (D := (dC, dI)) (ci := 7) (v := .int (1 : Int32)) (ty := .int) (C := RX7) (T := TX7) (N := 15) hx hb hts hin7 tyX7 tyX7_ok nmX7 hown hK hP hD hS 0 rfl rfl 7 (by decide) (hw_ hts 1 rfl) (fun _ h9 => h9) rfl (by decide +kernel) rfl rfl (Nat.le_of_ble_eq_true rfl) dX7_best_20 (fun H3 locs hP hD hS => ?_)
      have hP : va_P (dC, dI) vwCl (wMo cI aM (pset M 7 (fun _ => (1 : Int32))) hs) H3 := hP
      have hD : va_D A (wMo cI aM (pset M 7 (fun _ => (1 : Int32))) hs) := hD
      refine lv_aload_n hx hb dX7_best_23 rfl (lv_at hl 0 rfl) ?_
      refine va_get (D := (dC, dI)) (ci := 7) (v := .int (1 : Int32)) (C := RX7) (T := TX7) (N := 15) hx hb hts hin7 hown hK hP 0 rfl rfl 7 (by decide) (hw_ hts 1 rfl) (fun _ h9 => h9) rfl dX7_best_24 ?_
      refine lv_if_le (tgt := 34) hx hb dX7_best_27 (by decide) (fun q => absurd q (by decide)) (fun _ => ?_)
      refine lv_iconst (v := (0 : Int32)) hx hb dX7_best_30 (by decide) ?_
      refine lv_goto (tgt := 40) hx hb dX7_best_31 (by decide) ?_
      exact W.iret (v := (0 : Int32)) hx hb hr (fun t ht hW => ⟨⟨(0 : Int32), (pset M 7 (fun _ => (1 : Int32))), rfl, Option.some.inj hR, P_at ht hP⟩, hS.F ht⟩) hS.2.2 dX7_best_40
    · rw [if_neg c_6] at hR
      refine lv_iconst (v := (0 : Int32)) hx hb dX7_best_15 (by decide) ?_
      refine lv_goto (tgt := 20) hx hb dX7_best_16 (by decide) ?_
      refine va_put (D := (dC, dI)) (ci := 7) (v := .int (0 : Int32)) (ty := .int) (C := RX7) (T := TX7) (N := 15) hx hb hts hin7 tyX7 tyX7_ok nmX7 hown hK hP hD hS 0 rfl rfl 7 (by decide) (hw_ hts 1 rfl) (fun _ h9 => h9) rfl (by decide +kernel) rfl rfl (Nat.le_of_ble_eq_true rfl) dX7_best_20 (fun H3 locs hP hD hS => ?_)
      have hP : va_P (dC, dI) vwCl (wMo cI aM (pset M 7 (fun _ => (0 : Int32))) hs) H3 := hP
      have hD : va_D A (wMo cI aM (pset M 7 (fun _ => (0 : Int32))) hs) := hD
      refine lv_aload_n hx hb dX7_best_23 rfl (lv_at hl 0 rfl) ?_
      refine va_get (D := (dC, dI)) (ci := 7) (v := .int (0 : Int32)) (C := RX7) (T := TX7) (N := 15) hx hb hts hin7 hown hK hP 0 rfl rfl 7 (by decide) (hw_ hts 1 rfl) (fun _ h9 => h9) rfl dX7_best_24 ?_
      refine lv_if_le (tgt := 34) hx hb dX7_best_27 (by decide) (fun _ => ?_) (fun q => absurd (by decide) q)
      refine lv_aload_n hx hb dX7_best_34 rfl (lv_at hl 0 rfl) ?_
      refine lv_iload_n hx hb dX7_best_35 rfl (lv_at hl 1 rfl) ?_
      refine lv_iload_n hx hb dX7_best_36 rfl (lv_at hl 2 rfl) ?_
      obtain ⟨r7, u8, hc9, hR⟩ := ob2_e hR
      have hF := va_free (wc := wMo cI aM (pset M 7 (fun _ => (0 : Int32))) hs) hD hS hA [0, 1, 2, 3, 4, 5, 6, 7, 8] rfl
      refine va_calli (va_runV (As := [.int p1, .int p2]) (rest := []) ⟨hx, hb, hml, hown, hts⟩ (met_X7_bestFor l dC dI cI cZ cS aM (pset M 7 (fun _ => (0 : Int32))) hs H3.size p1 p2 (r7, u8) hc9) (cwV 2 hts gX7_best_X7_bestFor rfl rfl rfl (by decide +kernel) ⟨Nat.le_of_ble_eq_true rfl, Nat.le_of_ble_eq_true rfl⟩) (pV (wc := wMo cI aM (pset M 7 (fun _ => (0 : Int32))) hs) (ci := 7) (q0 := 0) hK hP hD hN [0, 1, 2, 3, 4, 5, 6, 7, 8] rfl (by decide) rfl rfl) rfl rfl hl.1 rfl (lv_room (Nat.le_of_ble_eq_true rfl)) dX7_best_37 ⟨Nat.zero_le _, Nat.zero_le _⟩) hS (fun q _ h => hF q h) hF (fun r7 u8 t H4 locs ht hvm hw hB hz1 hk1 hS => ?_)
      try dsimp only at hw hB
      rw [ht] at hB
      cases hw
      have hP := wrk (w2 := wMo cI aM u8 hs) hP hD [0, 1, 2, 3, 4, 5, 6, 7, 8] rfl (by decide) hk1 hB rfl rfl
      have hD := D_addr (w1 := wMo cI aM u8 hs) hD rfl
      exact W.iret (v := r7) hx hb hr (fun t ht hW => ⟨⟨r7, u8, rfl, Option.some.inj hR, P_at ht hP⟩, hS.F ht⟩) hS.2.2 dX7_best_40
abbrev rm_X7_gainNow : Room := { frames := 4, cells := 0, slots := 0, locals := 92 }
abbrev q_X7_gainNow (dC : Nat → ClassId) (dI : Nat → Nat → Nat) (cI cZ cS : ClassId) (aM : Nat → Nat) (hs : Int64) (res : Int32 × Pic) (A : Nat → Prop) : Array Value → State → Outcome → State → Prop := va_Qi (fun (r : Int32) (u : Pic) => (r, u) = res) (fun u t => va_P (dC, dI) vwCl (wMo cI aM u hs) t.heap) A
set_option maxHeartbeats 4000000 in
set_option maxRecDepth 100000 in
theorem met_X7_gainNow (l : Launch) (dC : Nat → ClassId) (dI : Nat → Nat → Nat) (cI cZ cS : ClassId) (aM : Nat → Nat) (M : Pic) (hs : Int64) (sz : Nat) (p1 : Int32) (p2 : Int32) (res : Int32 × Pic) (hR : f7_gainNow M p1 p2 = some res) : Met l yX7_gainNow wsX7_gainNow rm_X7_gainNow (va_Pc [.ref (aM 0), .int p1, .int p2] (pW (dC, dI) (tyS cI cZ cS) (wMo cI aM M hs) sz)) (q_X7_gainNow dC dI cI cZ cS aM hs res (va_A (wMo cI aM M hs) sz)) 0 0 (va_A (wMo cI aM M hs) sz) := by
  refine Met.ofW (cc := cX7_gainNow) (maxL := 5) (ret := (some .int)) (by decide) rfl ?_
  intro p e s m args below meth c s₁ B hml hv
  obtain ⟨rfl, hsz, hP, hK, hD0, hN⟩ := hv
  have hx := B.exec
  have hb := B.bytes
  have hr := B.returns
  have hts := atoms_spec (ws := wsX7_gainNow) B.pre
  have hown : s.vm.findClass RX7 = some m.cls := findClass_of_methodNamed B.named
  have hlocks := B.notSynchronized
  subst hsz
  have hD := hD0.self (sz := s.heap.size)
  generalize hAe : va_A (wMo cI aM M hs) s.heap.size = A at hD ⊢
  have hA : ∀ q : Nat, s.heap.size ≤ q → A q := fun q h => by rw [← hAe]; exact Or.inr h
  have hS : va_S A s.heap s.heap [] := va_S.rf
  have hP : va_P (dC, dI) vwCl (wMo cI aM M hs) s.heap := hP
  rw [f7_gainNow] at hR
  have hl := lv_entry ([.ref (aM 0), .int p1, .int p2]) (n := 5) (Nat.le_of_ble_eq_true rfl)
  rw [lg_entry_eq]
  generalize (lg_sl ([.ref (aM 0), .int p1, .int p2]) ++ List.replicate (5 - (lg_sl ([.ref (aM 0), .int p1, .int p2])).length) Slot.unset).toArray = ls at hl ⊢
  have hl : lv_has ls 5 [(0, .ref (aM 0)), (1, .int p1), (2, .int p2)] := hl
  refine lv_aload_n hx hb dX7_gainNow_0 rfl (lv_at hl 0 rfl) ?_
  obtain ⟨r1, hc2, hR⟩ := ob1_e hR
  refine va_calli (va_runV (As := []) (rest := []) ⟨hx, hb, hml, hown, hts⟩ (met_X7_joyOfAll l dC dI cI cZ cS aM M hs s.heap.size r1 hc2) (cwV 0 hts gX7_gainNow_X7_joyOfAll rfl rfl rfl (by decide +kernel) ⟨Nat.le_of_ble_eq_true rfl, Nat.le_of_ble_eq_true rfl⟩) (pV (wc := wMo cI aM M hs) (ci := 7) (q0 := 0) hK hP hD hN [0, 1, 2, 3, 4, 5, 6, 7, 8] rfl (by decide) rfl rfl) rfl rfl hl.1 rfl (lv_room (Nat.le_of_ble_eq_true rfl)) dX7_gainNow_1 ⟨Nat.zero_le _, Nat.zero_le _⟩) hS (fun q _ h => a0_in hS hA q h) (a0_in hS hA) (fun r1 u t H1 locs ht hvm hw hB hz1 hk1 hS => ?_)
  cases hw
  have hP := rdk hP hk1
  refine lv_istore_n (lv' := [(3, .int r1), (0, .ref (aM 0)), (1, .int p1), (2, .int p2)]) hx hb dX7_gainNow_4 rfl hl (by decide) rfl (fun ls hl => ?_)
  refine lv_aload_n hx hb dX7_gainNow_5 rfl (lv_at hl 1 rfl) ?_
  refine lv_iload_n hx hb dX7_gainNow_6 rfl (lv_at hl 2 rfl) ?_
  refine lv_aload_n hx hb dX7_gainNow_7 rfl (lv_at hl 1 rfl) ?_
  refine lv_iload_n hx hb dX7_gainNow_8 rfl (lv_at hl 3 rfl) ?_
  refine lv_iconst (v := (0 : Int32)) hx hb dX7_gainNow_9 (by decide) ?_
  obtain ⟨r3, hc4, hR⟩ := ob1_e hR
  refine va_calli (va_runV (As := [.int p2, .int (0 : Int32)]) (rest := [.int p1, .ref (aM 0)]) ⟨hx, hb, hml, hown, hts⟩ (met_X7_of l dC dI cI cZ cS aM M hs H1.size p2 (0 : Int32) r3 hc4) (cwV 2 hts gX7_gainNow_X7_of rfl rfl rfl (by decide +kernel) ⟨Nat.le_of_ble_eq_true rfl, Nat.le_of_ble_eq_true rfl⟩) (pV (wc := wMo cI aM M hs) (ci := 7) (q0 := 0) hK hP hD hN [0, 1, 2, 3, 4, 5, 6, 7, 8] rfl (by decide) rfl rfl) rfl rfl hl.1 rfl (lv_room (Nat.le_of_ble_eq_true rfl)) dX7_gainNow_10 ⟨Nat.zero_le _, Nat.zero_le _⟩) hS (fun q _ h => a0_in hS hA q h) (a0_in hS hA) (fun r3 u t H2 locs ht hvm hw hB hz1 hk1 hS => ?_)
  cases hw
  have hP := rdk hP hk1
  refine lv_iload_n hx hb dX7_gainNow_13 rfl (lv_at hl 3 rfl) ?_
  obtain ⟨u5, hc6, hR⟩ := ob1_e hR
  have hF := va_free (wc := wMo cI aM M hs) hD hS hA [0, 1, 2, 3, 4, 5, 6, 7, 8] rfl
  refine va_callv (va_runV (As := [.int p1, .int r3, .int p2]) (rest := []) ⟨hx, hb, hml, hown, hts⟩ (met_X7_put l dC dI cI cZ cS aM M hs H2.size p1 r3 p2 u5 hc6) (cwV 3 hts gX7_gainNow_X7_put rfl rfl rfl (by decide +kernel) ⟨Nat.le_of_ble_eq_true rfl, Nat.le_of_ble_eq_true rfl⟩) (pV (wc := wMo cI aM M hs) (ci := 7) (q0 := 0) hK hP hD hN [0, 1, 2, 3, 4, 5, 6, 7, 8] rfl (by decide) rfl rfl) rfl rfl hl.1 rfl (lv_room (Nat.le_of_ble_eq_true rfl)) dX7_gainNow_14 ⟨Nat.zero_le _, Nat.zero_le _⟩) hS (fun q _ h => hF q h) hF (fun  u5 t H3 locs ht hvm hw hB hz1 hk1 hS => ?_)
  try dsimp only at hw hB
  rw [ht] at hB
  cases hw
  have hP := wrk (w2 := wMo cI aM u5 hs) hP hD [0, 1, 2, 3, 4, 5, 6, 7, 8] rfl (by decide) hk1 hB rfl rfl
  have hD := D_addr (w1 := wMo cI aM u5 hs) hD rfl
  refine lv_aload_n hx hb dX7_gainNow_17 rfl (lv_at hl 1 rfl) ?_
  obtain ⟨r7, hc8, hR⟩ := ob1_e hR
  refine va_calli (va_runV (As := []) (rest := []) ⟨hx, hb, hml, hown, hts⟩ (met_X7_joyOfAll l dC dI cI cZ cS aM u5 hs H3.size r7 hc8) (cwV 0 hts gX7_gainNow_X7_joyOfAll rfl rfl rfl (by decide +kernel) ⟨Nat.le_of_ble_eq_true rfl, Nat.le_of_ble_eq_true rfl⟩) (pV (wc := wMo cI aM u5 hs) (ci := 7) (q0 := 0) hK hP hD hN [0, 1, 2, 3, 4, 5, 6, 7, 8] rfl (by decide) rfl rfl) rfl rfl hl.1 rfl (lv_room (Nat.le_of_ble_eq_true rfl)) dX7_gainNow_18 ⟨Nat.zero_le _, Nat.zero_le _⟩) hS (fun q _ h => a0_in hS hA q h) (a0_in hS hA) (fun r7 u t H4 locs ht hvm hw hB hz1 hk1 hS => ?_)
  cases hw
  have hP := rdk hP hk1
  refine lv_istore (lv' := [(4, .int r7), (3, .int r1), (0, .ref (aM 0)), (1, .int p1), (2, .int p2)]) hx hb dX7_gainNow_21 hl (by decide) rfl (fun ls hl => ?_)
  refine lv_aload_n hx hb dX7_gainNow_23 rfl (lv_at hl 2 rfl) ?_
  refine lv_iload_n hx hb dX7_gainNow_24 rfl (lv_at hl 3 rfl) ?_
  refine lv_aload_n hx hb dX7_gainNow_25 rfl (lv_at hl 2 rfl) ?_
  refine lv_iload_n hx hb dX7_gainNow_26 rfl (lv_at hl 4 rfl) ?_
  refine lv_iconst (v := (0 : Int32)) hx hb dX7_gainNow_27 (by decide) ?_
  obtain ⟨r9, hc10, hR⟩ := ob1_e hR
  refine va_calli (va_runV (As := [.int p2, .int (0 : Int32)]) (rest := [.int p1, .ref (aM 0)]) ⟨hx, hb, hml, hown, hts⟩ (met_X7_of l dC dI cI cZ cS aM u5 hs H4.size p2 (0 : Int32) r9 hc10) (cwV 2 hts gX7_gainNow_X7_of rfl rfl rfl (by decide +kernel) ⟨Nat.le_of_ble_eq_true rfl, Nat.le_of_ble_eq_true rfl⟩) (pV (wc := wMo cI aM u5 hs) (ci := 7) (q0 := 0) hK hP hD hN [0, 1, 2, 3, 4, 5, 6, 7, 8] rfl (by decide) rfl rfl) rfl rfl hl.1 rfl (lv_room (Nat.le_of_ble_eq_true rfl)) dX7_gainNow_28 ⟨Nat.zero_le _, Nat.zero_le _⟩) hS (fun q _ h => a0_in hS hA q h) (a0_in hS hA) (fun r9 u t H5 locs ht hvm hw hB hz1 hk1 hS => ?_)
  cases hw
  have hP := rdk hP hk1
  refine lv_iconst (v := (-1 : Int32)) hx hb dX7_gainNow_31 (by decide) ?_
  obtain ⟨u11, hc12, hR⟩ := ob1_e hR
  have hF := va_free (wc := wMo cI aM u5 hs) hD hS hA [0, 1, 2, 3, 4, 5, 6, 7, 8] rfl
  refine va_callv (va_runV (As := [.int p1, .int r9, .int (-1 : Int32)]) (rest := []) ⟨hx, hb, hml, hown, hts⟩ (met_X7_put l dC dI cI cZ cS aM u5 hs H5.size p1 r9 (-1 : Int32) u11 hc12) (cwV 3 hts gX7_gainNow_X7_put rfl rfl rfl (by decide +kernel) ⟨Nat.le_of_ble_eq_true rfl, Nat.le_of_ble_eq_true rfl⟩) (pV (wc := wMo cI aM u5 hs) (ci := 7) (q0 := 0) hK hP hD hN [0, 1, 2, 3, 4, 5, 6, 7, 8] rfl (by decide) rfl rfl) rfl rfl hl.1 rfl (lv_room (Nat.le_of_ble_eq_true rfl)) dX7_gainNow_32 ⟨Nat.zero_le _, Nat.zero_le _⟩) hS (fun q _ h => hF q h) hF (fun  u11 t H6 locs ht hvm hw hB hz1 hk1 hS => ?_)
  try dsimp only at hw hB
  rw [ht] at hB
  cases hw
  have hP := wrk (w2 := wMo cI aM u11 hs) hP hD [0, 1, 2, 3, 4, 5, 6, 7, 8] rfl (by decide) hk1 hB rfl rfl
  have hD := D_addr (w1 := wMo cI aM u11 hs) hD rfl
  refine lv_iload hx hb dX7_gainNow_35 (lv_at hl 0 rfl) ?_
  refine lv_iload_n hx hb dX7_gainNow_37 rfl (lv_at hl 1 rfl) ?_
  refine lv_isub hx hb dX7_gainNow_38 ?_
  exact W.iret (v := (r7 - r1)) hx hb hr (fun t ht hW => ⟨⟨(r7 - r1), u11, rfl, Option.some.inj hR, P_at ht hP⟩, hS.F ht⟩) hS.2.2 dX7_gainNow_39
abbrev rm_X7_gain : Room := { frames := 8, cells := 0, slots := 0, locals := 184 }
abbrev q_X7_gain (dC : Nat → ClassId) (dI : Nat → Nat → Nat) (cI cZ cS : ClassId) (aM : Nat → Nat) (hs : Int64) (res : Int32 × Pic) (A : Nat → Prop) : Array Value → State → Outcome → State → Prop := va_Qi (fun (r : Int32) (u : Pic) => (r, u) = res) (fun u t => va_P (dC, dI) vwCl (wMo cI aM u hs) t.heap) A
set_option maxHeartbeats 4000000 in
set_option maxRecDepth 100000 in
theorem met_X7_gain (l : Launch) (dC : Nat → ClassId) (dI : Nat → Nat → Nat) (cI cZ cS : ClassId) (aM : Nat → Nat) (M : Pic) (hs : Int64) (sz : Nat) (p1 : Int32) (p2 : Int32) (res : Int32 × Pic) (hR : f7_gain M p1 p2 = some res) : Met l yX7_gain wsX7_gain rm_X7_gain (va_Pc [.ref (aM 0), .int p1, .int p2] (pW (dC, dI) (tyS cI cZ cS) (wMo cI aM M hs) sz)) (q_X7_gain dC dI cI cZ cS aM hs res (va_A (wMo cI aM M hs) sz)) 0 0 (va_A (wMo cI aM M hs) sz) := by
  refine Met.ofW (cc := cX7_gain) (maxL := 3) (ret := (some .int)) (by decide) rfl ?_
  intro p e s m args below meth c s₁ B hml hv
  obtain ⟨rfl, hsz, hP, hK, hD0, hN⟩ := hv
  have hx := B.exec
  have hb := B.bytes
  have hr := B.returns
  have hts := atoms_spec (ws := wsX7_gain) B.pre
  have hown : s.vm.findClass RX7 = some m.cls := findClass_of_methodNamed B.named
  have hlocks := B.notSynchronized
  subst hsz
  have hD := hD0.self (sz := s.heap.size)
  generalize hAe : va_A (wMo cI aM M hs) s.heap.size = A at hD ⊢
  have hA : ∀ q : Nat, s.heap.size ≤ q → A q := fun q h => by rw [← hAe]; exact Or.inr h
  have hS : va_S A s.heap s.heap [] := va_S.rf
  have hP : va_P (dC, dI) vwCl (wMo cI aM M hs) s.heap := hP
  rw [f7_gain] at hR
  have hin7 : ∀ w ∈ wsX70, w ∈ wsX7_gain := by decide +kernel
  have hl := lv_entry ([.ref (aM 0), .int p1, .int p2]) (n := 3) (Nat.le_of_ble_eq_true rfl)
  rw [lg_entry_eq]
  generalize (lg_sl ([.ref (aM 0), .int p1, .int p2]) ++ List.replicate (3 - (lg_sl ([.ref (aM 0), .int p1, .int p2])).length) Slot.unset).toArray = ls at hl ⊢
  have hl : lv_has ls 3 [(0, .ref (aM 0)), (1, .int p1), (2, .int p2)] := hl
  refine lv_aload_n hx hb dX7_gain_0 rfl (lv_at hl 0 rfl) ?_
  refine lv_iload_n hx hb dX7_gain_1 rfl (lv_at hl 1 rfl) ?_
  refine va_calli (va_runS (As := [.int p1]) (rest := [.ref (aM 0)]) ⟨hx, hb, hml, hown, hts⟩ (met_X7_isDay l dC dI cI cZ cS s.heap.size p1) (va_cwS 1 hts gX7_gain_X7_isDay rfl rfl rfl (by decide +kernel) ⟨Nat.le_of_ble_eq_true rfl, Nat.le_of_ble_eq_true rfl⟩) (pS (wc := []) hK hP hD hN [] rfl (by decide)) rfl rfl hl.1 rfl (lv_room (Nat.le_of_ble_eq_true rfl)) dX7_gain_2 ⟨Nat.zero_le _, Nat.zero_le _⟩) hS (fun q _ h => a0_in hS hA q h) (a0_in hS hA) (fun r1 u t H1 locs ht hvm hw hB hz1 hk1 hS => ?_)
  obtain ⟨hw, nb2⟩ := hw
  subst hw
  have hP := rdk hP hk1
  refine lv_if_eq (tgt := 20) hx hb dX7_gain_5 (by decide) (fun c_3 => ?_) (fun c_3 => ?_)
  · rw [if_pos c_3] at hR
    refine lv_iconst (v := (1 : Int32)) hx hb dX7_gain_20 (by decide) ?_
    refine va_put (D := (dC, dI)) (ci := 7) (v := .int (1 : Int32)) (ty := .int) (C := RX7) (T := TX7) (N := 15) hx hb hts hin7 tyX7 tyX7_ok nmX7 hown hK hP hD hS 0 rfl rfl 7 (by decide) (hw_ hts 1 rfl) (fun _ h9 => h9) rfl (by decide +kernel) rfl rfl (Nat.le_of_ble_eq_true rfl) dX7_gain_21 (fun H2 locs hP hD hS => ?_)
    have hP : va_P (dC, dI) vwCl (wMo cI aM (pset M 7 (fun _ => (1 : Int32))) hs) H2 := hP
    have hD : va_D A (wMo cI aM (pset M 7 (fun _ => (1 : Int32))) hs) := hD
    refine lv_aload_n hx hb dX7_gain_24 rfl (lv_at hl 0 rfl) ?_
    refine va_get (D := (dC, dI)) (ci := 7) (v := .int (1 : Int32)) (C := RX7) (T := TX7) (N := 15) hx hb hts hin7 hown hK hP 0 rfl rfl 7 (by decide) (hw_ hts 1 rfl) (fun _ h9 => h9) rfl dX7_gain_25 ?_
    refine lv_if_gt (tgt := 40) hx hb dX7_gain_28 (by decide) (fun _ => ?_) (fun q => absurd (by decide) q)
    refine lv_iconst (v := (0 : Int32)) hx hb dX7_gain_40 (by decide) ?_
    refine lv_goto (tgt := 50) hx hb dX7_gain_41 (by decide) ?_
    exact W.iret (v := (0 : Int32)) hx hb hr (fun t ht hW => ⟨⟨(0 : Int32), (pset M 7 (fun _ => (1 : Int32))), rfl, Option.some.inj hR, P_at ht hP⟩, hS.F ht⟩) hS.2.2 dX7_gain_50
  · rw [if_neg c_3] at hR
    refine lv_aload_n hx hb dX7_gain_8 rfl (lv_at hl 0 rfl) ?_
    refine lv_iload_n hx hb dX7_gain_9 rfl (lv_at hl 2 rfl) ?_
    refine va_calli (va_runV (As := [.int p2]) (rest := [.ref (aM 0)]) ⟨hx, hb, hml, hown, hts⟩ (met_X7_isDish l dC dI cI cZ cS aM M hs H1.size p2) (cwV 1 hts gX7_gain_X7_isDish rfl rfl rfl (by decide +kernel) ⟨Nat.le_of_ble_eq_true rfl, Nat.le_of_ble_eq_true rfl⟩) (pV (wc := wMo cI aM M hs) (ci := 7) (q0 := 0) hK hP hD hN [0, 1, 2, 3, 4, 5, 6, 7, 8] rfl (by decide) rfl rfl) rfl rfl hl.1 rfl (lv_room (Nat.le_of_ble_eq_true rfl)) dX7_gain_10 ⟨Nat.zero_le _, Nat.zero_le _⟩) hS (fun q _ h => a0_in hS hA q h) (a0_in hS hA) (fun r4 u t H2 locs ht hvm hw hB hz1 hk1 hS => ?_)
    obtain ⟨hw, nb5⟩ := hw
    subst hw
    have hP := rdk hP hk1
    refine lv_if_eq (tgt := 20) hx hb dX7_gain_13 (by decide) (fun c_6 => ?_) (fun c_6 => ?_)
    · rw [if_pos c_6] at hR
      refine lv_iconst (v := (1 : Int32)) hx hb dX7_gain_20 (by decide) ?_
      refine va_put (D := (dC, dI)) (ci := 7) (v := .int (1 : Int32)) (ty := .int) (C := RX7) (T := TX7) (N := 15) hx hb hts hin7 tyX7 tyX7_ok nmX7 hown hK hP hD hS 0 rfl rfl 7 (by decide) (hw_ hts 1 rfl) (fun _ h9 => h9) rfl (by decide +kernel) rfl rfl (Nat.le_of_ble_eq_true rfl) dX7_gain_21 (fun H3 locs hP hD hS => ?_)
      have hP : va_P (dC, dI) vwCl (wMo cI aM (pset M 7 (fun _ => (1 : Int32))) hs) H3 := hP
      have hD : va_D A (wMo cI aM (pset M 7 (fun _ => (1 : Int32))) hs) := hD
      refine lv_aload_n hx hb dX7_gain_24 rfl (lv_at hl 0 rfl) ?_
      refine va_get (D := (dC, dI)) (ci := 7) (v := .int (1 : Int32)) (C := RX7) (T := TX7) (N := 15) hx hb hts hin7 hown hK hP 0 rfl rfl 7 (by decide) (hw_ hts 1 rfl) (fun _ h9 => h9) rfl dX7_gain_25 ?_
      refine lv_if_gt (tgt := 40) hx hb dX7_gain_28 (by decide) (fun _ => ?_) (fun q => absurd (by decide) q)
      refine lv_iconst (v := (0 : Int32)) hx hb dX7_gain_40 (by decide) ?_
      refine lv_goto (tgt := 50) hx hb dX7_gain_41 (by decide) ?_
      exact W.iret (v := (0 : Int32)) hx hb hr (fun t ht hW => ⟨⟨(0 : Int32), (pset M 7 (fun _ => (1 : Int32))), rfl, Option.some.inj hR, P_at ht hP⟩, hS.F ht⟩) hS.2.2 dX7_gain_50
    · rw [if_neg c_6] at hR
      refine lv_iconst (v := (0 : Int32)) hx hb dX7_gain_16 (by decide) ?_
      refine lv_goto (tgt := 21) hx hb dX7_gain_17 (by decide) ?_
      refine va_put (D := (dC, dI)) (ci := 7) (v := .int (0 : Int32)) (ty := .int) (C := RX7) (T := TX7) (N := 15) hx hb hts hin7 tyX7 tyX7_ok nmX7 hown hK hP hD hS 0 rfl rfl 7 (by decide) (hw_ hts 1 rfl) (fun _ h9 => h9) rfl (by decide +kernel) rfl rfl (Nat.le_of_ble_eq_true rfl) dX7_gain_21 (fun H3 locs hP hD hS => ?_)
      have hP : va_P (dC, dI) vwCl (wMo cI aM (pset M 7 (fun _ => (0 : Int32))) hs) H3 := hP
      have hD : va_D A (wMo cI aM (pset M 7 (fun _ => (0 : Int32))) hs) := hD
      refine lv_aload_n hx hb dX7_gain_24 rfl (lv_at hl 0 rfl) ?_
      refine va_get (D := (dC, dI)) (ci := 7) (v := .int (0 : Int32)) (C := RX7) (T := TX7) (N := 15) hx hb hts hin7 hown hK hP 0 rfl rfl 7 (by decide) (hw_ hts 1 rfl) (fun _ h9 => h9) rfl dX7_gain_25 ?_
      refine lv_if_gt (tgt := 40) hx hb dX7_gain_28 (by decide) (fun q => absurd q (by decide)) (fun _ => ?_)
      refine lv_aload_n hx hb dX7_gain_31 rfl (lv_at hl 0 rfl) ?_
      refine lv_iload_n hx hb dX7_gain_32 rfl (lv_at hl 1 rfl) ?_
      refine lv_iload_n hx hb dX7_gain_33 rfl (lv_at hl 2 rfl) ?_
      obtain ⟨r7, u8, hc9, hR⟩ := ob2_e hR
      have hF := va_free (wc := wMo cI aM (pset M 7 (fun _ => (0 : Int32))) hs) hD hS hA [0, 1, 2, 3, 4, 5, 6, 7, 8] rfl
      refine va_calli (va_runV (As := [.int p1, .int p2]) (rest := []) ⟨hx, hb, hml, hown, hts⟩ (met_X7_canServe l dC dI cI cZ cS aM (pset M 7 (fun _ => (0 : Int32))) hs H3.size p1 p2 (r7, u8) hc9) (cwV 2 hts gX7_gain_X7_canServe rfl rfl rfl (by decide +kernel) ⟨Nat.le_of_ble_eq_true rfl, Nat.le_of_ble_eq_true rfl⟩) (pV (wc := wMo cI aM (pset M 7 (fun _ => (0 : Int32))) hs) (ci := 7) (q0 := 0) hK hP hD hN [0, 1, 2, 3, 4, 5, 6, 7, 8] rfl (by decide) rfl rfl) rfl rfl hl.1 rfl (lv_room (Nat.le_of_ble_eq_true rfl)) dX7_gain_34 ⟨Nat.zero_le _, Nat.zero_le _⟩) hS (fun q _ h => hF q h) hF (fun r7 u8 t H4 locs ht hvm hw hB hz1 hk1 hS => ?_)
      obtain ⟨hw, nb10⟩ := hw
      try dsimp only at hw hB
      rw [ht] at hB
      cases hw
      have hP := wrk (w2 := wMo cI aM u8 hs) hP hD [0, 1, 2, 3, 4, 5, 6, 7, 8] rfl (by decide) hk1 hB rfl rfl
      have hD := D_addr (w1 := wMo cI aM u8 hs) hD rfl
      refine lv_if_ne (tgt := 44) hx hb dX7_gain_37 (by decide) (fun c_11 => ?_) (fun c_11 => ?_)
      · rw [if_neg c_11] at hR
        refine lv_aload_n hx hb dX7_gain_44 rfl (lv_at hl 0 rfl) ?_
        refine lv_iload_n hx hb dX7_gain_45 rfl (lv_at hl 1 rfl) ?_
        refine lv_iload_n hx hb dX7_gain_46 rfl (lv_at hl 2 rfl) ?_
        obtain ⟨r12, u13, hc14, hR⟩ := ob2_e hR
        have hF := va_free (wc := wMo cI aM u8 hs) hD hS hA [0, 1, 2, 3, 4, 5, 6, 7, 8] rfl
        refine va_calli (va_runV (As := [.int p1, .int p2]) (rest := []) ⟨hx, hb, hml, hown, hts⟩ (met_X7_gainNow l dC dI cI cZ cS aM u8 hs H4.size p1 p2 (r12, u13) hc14) (cwV 2 hts gX7_gain_X7_gainNow rfl rfl rfl (by decide +kernel) ⟨Nat.le_of_ble_eq_true rfl, Nat.le_of_ble_eq_true rfl⟩) (pV (wc := wMo cI aM u8 hs) (ci := 7) (q0 := 0) hK hP hD hN [0, 1, 2, 3, 4, 5, 6, 7, 8] rfl (by decide) rfl rfl) rfl rfl hl.1 rfl (lv_room (Nat.le_of_ble_eq_true rfl)) dX7_gain_47 ⟨Nat.zero_le _, Nat.zero_le _⟩) hS (fun q _ h => hF q h) hF (fun r12 u13 t H5 locs ht hvm hw hB hz1 hk1 hS => ?_)
        try dsimp only at hw hB
        rw [ht] at hB
        cases hw
        have hP := wrk (w2 := wMo cI aM u13 hs) hP hD [0, 1, 2, 3, 4, 5, 6, 7, 8] rfl (by decide) hk1 hB rfl rfl
        have hD := D_addr (w1 := wMo cI aM u13 hs) hD rfl
        exact W.iret (v := r12) hx hb hr (fun t ht hW => ⟨⟨r12, u13, rfl, Option.some.inj hR, P_at ht hP⟩, hS.F ht⟩) hS.2.2 dX7_gain_50
      · rw [if_pos c_11] at hR
        refine lv_iconst (v := (0 : Int32)) hx hb dX7_gain_40 (by decide) ?_
        refine lv_goto (tgt := 50) hx hb dX7_gain_41 (by decide) ?_
        exact W.iret (v := (0 : Int32)) hx hb hr (fun t ht hW => ⟨⟨(0 : Int32), u8, rfl, Option.some.inj hR, P_at ht hP⟩, hS.F ht⟩) hS.2.2 dX7_gain_50
abbrev rm_X7_dayFor : Room := { frames := 8, cells := 0, slots := 0, locals := 184 }
abbrev q_X7_dayFor (dC : Nat → ClassId) (dI : Nat → Nat → Nat) (cI cZ cS : ClassId) (aM : Nat → Nat) (hs : Int64) (res : Int32 × Pic) (A : Nat → Prop) : Array Value → State → Outcome → State → Prop := va_Qi (fun (r : Int32) (u : Pic) => (r, u) = res) (fun u t => va_P (dC, dI) vwCl (wMo cI aM u hs) t.heap) A
set_option maxHeartbeats 4000000 in
set_option maxRecDepth 100000 in
theorem met_X7_dayFor (l : Launch) (dC : Nat → ClassId) (dI : Nat → Nat → Nat) (cI cZ cS : ClassId) (aM : Nat → Nat) (M : Pic) (hs : Int64) (sz : Nat) (p1 : Int32) (res : Int32 × Pic) (hR : f7_dayFor M p1 = some res) : Met l yX7_dayFor wsX7_dayFor rm_X7_dayFor (va_Pc [.ref (aM 0), .int p1] (pW (dC, dI) (tyS cI cZ cS) (wMo cI aM M hs) sz)) (q_X7_dayFor dC dI cI cZ cS aM hs res (va_A (wMo cI aM M hs) sz)) 0 0 (va_A (wMo cI aM M hs) sz) := by
  refine Met.ofW (cc := cX7_dayFor) (maxL := 7) (ret := (some .int)) (by decide) rfl ?_
  intro p e s m args below meth c s₁ B hml hv
  obtain ⟨rfl, hsz, hP, hK, hD0, hN⟩ := hv
  have hx := B.exec
  have hb := B.bytes
  have hr := B.returns
  have hts := atoms_spec (ws := wsX7_dayFor) B.pre
  have hown : s.vm.findClass RX7 = some m.cls := findClass_of_methodNamed B.named
  have hlocks := B.notSynchronized
  subst hsz
  have hD := hD0.self (sz := s.heap.size)
  generalize hAe : va_A (wMo cI aM M hs) s.heap.size = A at hD ⊢
  have hA : ∀ q : Nat, s.heap.size ≤ q → A q := fun q h => by rw [← hAe]; exact Or.inr h
  have hS : va_S A s.heap s.heap [] := va_S.rf
  have hP : va_P (dC, dI) vwCl (wMo cI aM M hs) s.heap := hP
  rw [f7_dayFor] at hR
  have hl := lv_entry ([.ref (aM 0), .int p1]) (n := 7) (Nat.le_of_ble_eq_true rfl)
  rw [lg_entry_eq]
  generalize (lg_sl ([.ref (aM 0), .int p1]) ++ List.replicate (7 - (lg_sl ([.ref (aM 0), .int p1])).length) Slot.unset).toArray = ls at hl ⊢
  have hl : lv_has ls 7 [(0, .ref (aM 0)), (1, .int p1)] := hl
  refine lv_iconst (v := (-1 : Int32)) hx hb dX7_dayFor_0 (by decide) ?_
  refine lv_istore_n (lv' := [(2, .int (-1 : Int32)), (0, .ref (aM 0)), (1, .int p1)]) hx hb dX7_dayFor_1 rfl hl (by decide) rfl (fun ls hl => ?_)
  refine lv_iconst (v := (0 : Int32)) hx hb dX7_dayFor_2 (by decide) ?_
  refine lv_istore_n (lv' := [(3, .int (0 : Int32)), (2, .int (-1 : Int32)), (0, .ref (aM 0)), (1, .int p1)]) hx hb dX7_dayFor_3 rfl hl (by decide) rfl (fun ls hl => ?_)
  refine lv_iconst (v := (0 : Int32)) hx hb dX7_dayFor_4 (by decide) ?_
  refine lv_istore (lv' := [(4, .int (0 : Int32)), (3, .int (0 : Int32)), (2, .int (-1 : Int32)), (0, .ref (aM 0)), (1, .int p1)]) hx hb dX7_dayFor_5 hl (by decide) rfl (fun ls hl => ?_)
  have LOOP7 : ∀ (k : Int32 → Pic → (Option (Int32 × Pic))), (∀ (x2_7 : Int32) (M_7 : Pic) (H1 : Heap) (locs : List Loc), k x2_7 M_7 = some res → va_P (dC, dI) vwCl (wMo cI aM M_7 hs) H1 → va_D A (wMo cI aM M_7 hs) → va_S A s.heap H1 locs → ∀ (ls : Array Slot), lv_has ls 7 [(2, .int x2_7)] → W p l e (headSpec wsX7_dayFor rm_X7_dayFor).room s m ([.ref (aM 0), .int p1] : List Value).toArray below meth c H1 locs 0 0 (MQ below (q_X7_dayFor dC dI cI cZ cS aM hs res A) ([.ref (aM 0), .int p1] : List Value).toArray s 0 0 A) (F0 m 81 ls [])) → ∀ (nf : Nat) (x2_7 : Int32) (x3_7 : Int32) (x4_7 : Int32) (M_7 : Pic) (H1 : Heap) (locs : List Loc), ((28 : Int32)).toInt - (x4_7).toInt ≤ (nf : Int) → f7_dayFor_L7 p1 nf x2_7 x3_7 x4_7 M_7 k = some res → va_P (dC, dI) vwCl (wMo cI aM M_7 hs) H1 → va_D A (wMo cI aM M_7 hs) → va_S A s.heap H1 locs → ∀ (ls : Array Slot), lv_has ls 7 [(2, .int x2_7), (3, .int x3_7), (4, .int x4_7), (0, .ref (aM 0)), (1, .int p1)] → W p l e (headSpec wsX7_dayFor rm_X7_dayFor).room s m ([.ref (aM 0), .int p1] : List Value).toArray below meth c H1 locs 0 0 (MQ below (q_X7_dayFor dC dI cI cZ cS aM hs res A) ([.ref (aM 0), .int p1] : List Value).toArray s 0 0 A) (F0 m 7 ls []) := by
    intro k hk nf
    induction nf with
    | zero =>
      intro x2_7 x3_7 x4_7 M_7 H1 locs hfu hR hP hD hS ls hl
      rw [f7_dayFor_L7] at hR
      refine lv_iload hx hb dX7_dayFor_7 (lv_at hl 2 rfl) ?_
      refine lv_bipush (v := (28 : Int32)) hx hb dX7_dayFor_9 (by decide) ?_
      refine lv_icmp_ge (tgt := 81) hx hb dX7_dayFor_11 (by decide) (fun c_1 => ?_) (fun c_1 => ?_)
      · skip
        exact hk x2_7 M_7 _ _  hR hP hD hS ls (lv_sub hl [0] rfl)
      · exact (fuel0 hfu c_1).elim
    | succ nf ih =>
      intro x2_7 x3_7 x4_7 M_7 H1 locs hfu hR hP hD hS ls hl
      rw [f7_dayFor_L7] at hR
      refine lv_iload hx hb dX7_dayFor_7 (lv_at hl 2 rfl) ?_
      refine lv_bipush (v := (28 : Int32)) hx hb dX7_dayFor_9 (by decide) ?_
      refine lv_icmp_ge (tgt := 81) hx hb dX7_dayFor_11 (by decide) (fun c_2 => ?_) (fun c_2 => ?_)
      · rw [if_pos c_2] at hR
        exact hk x2_7 M_7 _ _  hR hP hD hS ls (lv_sub hl [0] rfl)
      · rw [if_neg c_2] at hR
        have hfu := fuelS hfu c_2
        refine lv_aload_n hx hb dX7_dayFor_14 rfl (lv_at hl 3 rfl) ?_
        refine lv_iload hx hb dX7_dayFor_15 (lv_at hl 2 rfl) ?_
        refine lv_iload_n hx hb dX7_dayFor_17 rfl (lv_at hl 4 rfl) ?_
        obtain ⟨r3, u4, hc5, hR⟩ := ob2_e hR
        have hF := va_free (wc := wMo cI aM M_7 hs) hD hS hA [0, 1, 2, 3, 4, 5, 6, 7, 8] rfl
        refine va_calli (va_runV (As := [.int x4_7, .int p1]) (rest := []) ⟨hx, hb, hml, hown, hts⟩ (met_X7_canServe l dC dI cI cZ cS aM M_7 hs H1.size x4_7 p1 (r3, u4) hc5) (cwV 2 hts gX7_dayFor_X7_canServe rfl rfl rfl (by decide +kernel) ⟨Nat.le_of_ble_eq_true rfl, Nat.le_of_ble_eq_true rfl⟩) (pV (wc := wMo cI aM M_7 hs) (ci := 7) (q0 := 0) hK hP hD hN [0, 1, 2, 3, 4, 5, 6, 7, 8] rfl (by decide) rfl rfl) rfl rfl hl.1 rfl (lv_room (Nat.le_of_ble_eq_true rfl)) dX7_dayFor_18 ⟨Nat.zero_le _, Nat.zero_le _⟩) hS (fun q _ h => hF q h) hF (fun r3 u4 t H2 locs ht hvm hw hB hz1 hk1 hS => ?_)
        obtain ⟨hw, nb6⟩ := hw
        try dsimp only at hw hB
        rw [ht] at hB
        cases hw
        have hP := wrk (w2 := wMo cI aM u4 hs) hP hD [0, 1, 2, 3, 4, 5, 6, 7, 8] rfl (by decide) hk1 hB rfl rfl
        have hD := D_addr (w1 := wMo cI aM u4 hs) hD rfl
        refine lv_if_eq (tgt := 75) hx hb dX7_dayFor_21 (by decide) (fun c_7 => ?_) (fun c_7 => ?_)
        · rw [if_pos c_7] at hR
          refine lv_iinc (v := (x4_7 + 1)) (lv' := [(4, .int (x4_7 + 1)), (2, .int x2_7), (3, .int x3_7), (0, .ref (aM 0)), (1, .int p1)]) hx hb dX7_dayFor_75 hl (k := 2) rfl rfl (by decide) rfl (fun ls hl => ?_)
          refine lv_goto (tgt := 7) hx hb dX7_dayFor_78 (by decide) ?_
          exact ih x2_7 x3_7 (x4_7 + 1) u4 _ _ hfu hR hP hD hS ls (lv_sub hl [1, 2, 0, 3, 4] rfl)
        · rw [if_neg c_7] at hR
          refine lv_aload_n hx hb dX7_dayFor_24 rfl (lv_at hl 3 rfl) ?_
          refine lv_iload hx hb dX7_dayFor_25 (lv_at hl 2 rfl) ?_
          refine lv_iload_n hx hb dX7_dayFor_27 rfl (lv_at hl 4 rfl) ?_
          obtain ⟨r8, u9, hc10, hR⟩ := ob2_e hR
          have hF := va_free (wc := wMo cI aM u4 hs) hD hS hA [0, 1, 2, 3, 4, 5, 6, 7, 8] rfl
          refine va_calli (va_runV (As := [.int x4_7, .int p1]) (rest := []) ⟨hx, hb, hml, hown, hts⟩ (met_X7_gainNow l dC dI cI cZ cS aM u4 hs H2.size x4_7 p1 (r8, u9) hc10) (cwV 2 hts gX7_dayFor_X7_gainNow rfl rfl rfl (by decide +kernel) ⟨Nat.le_of_ble_eq_true rfl, Nat.le_of_ble_eq_true rfl⟩) (pV (wc := wMo cI aM u4 hs) (ci := 7) (q0 := 0) hK hP hD hN [0, 1, 2, 3, 4, 5, 6, 7, 8] rfl (by decide) rfl rfl) rfl rfl hl.1 rfl (lv_room (Nat.le_of_ble_eq_true rfl)) dX7_dayFor_28 ⟨Nat.zero_le _, Nat.zero_le _⟩) hS (fun q _ h => hF q h) hF (fun r8 u9 t H3 locs ht hvm hw hB hz1 hk1 hS => ?_)
          try dsimp only at hw hB
          rw [ht] at hB
          cases hw
          have hP := wrk (w2 := wMo cI aM u9 hs) hP hD [0, 1, 2, 3, 4, 5, 6, 7, 8] rfl (by decide) hk1 hB rfl rfl
          have hD := D_addr (w1 := wMo cI aM u9 hs) hD rfl
          refine lv_istore (lv' := [(5, .int r8), (2, .int x2_7), (3, .int x3_7), (4, .int x4_7), (0, .ref (aM 0)), (1, .int p1)]) hx hb dX7_dayFor_31 hl (by decide) rfl (fun ls hl => ?_)
          refine lv_iload_n hx hb dX7_dayFor_33 rfl (lv_at hl 1 rfl) ?_
          refine lv_iconst (v := (-1 : Int32)) hx hb dX7_dayFor_34 (by decide) ?_
          refine lv_icmp_eq (tgt := 44) hx hb dX7_dayFor_35 (by decide) (fun c_11 => ?_) (fun c_11 => ?_)
          · rw [if_pos c_11] at hR
            refine lv_iconst (v := (1 : Int32)) hx hb dX7_dayFor_44 (by decide) ?_
            refine lv_goto (tgt := 49) hx hb dX7_dayFor_45 (by decide) ?_
            refine lv_istore (lv' := [(6, .int (1 : Int32)), (5, .int r8), (2, .int x2_7), (3, .int x3_7), (4, .int x4_7), (0, .ref (aM 0)), (1, .int p1)]) hx hb dX7_dayFor_49 hl (by decide) rfl (fun ls hl => ?_)
            refine lv_iload hx hb dX7_dayFor_51 (lv_at hl 0 rfl) ?_
            refine lv_if_eq (tgt := 61) hx hb dX7_dayFor_53 (by decide) (fun q => absurd q (by decide)) (fun _ => ?_)
            refine lv_iload hx hb dX7_dayFor_56 (lv_at hl 4 rfl) ?_
            refine lv_goto (tgt := 62) hx hb dX7_dayFor_58 (by decide) ?_
            refine lv_istore_n (lv' := [(2, .int x4_7), (6, .int (1 : Int32)), (5, .int r8), (3, .int x3_7), (4, .int x4_7), (0, .ref (aM 0)), (1, .int p1)]) hx hb dX7_dayFor_62 rfl hl (by decide) rfl (fun ls hl => ?_)
            refine lv_iload hx hb dX7_dayFor_63 (lv_at hl 1 rfl) ?_
            refine lv_if_eq (tgt := 73) hx hb dX7_dayFor_65 (by decide) (fun q => absurd q (by decide)) (fun _ => ?_)
            refine lv_iload hx hb dX7_dayFor_68 (lv_at hl 2 rfl) ?_
            refine lv_goto (tgt := 74) hx hb dX7_dayFor_70 (by decide) ?_
            refine lv_istore_n (lv' := [(3, .int r8), (2, .int x4_7), (6, .int (1 : Int32)), (5, .int r8), (4, .int x4_7), (0, .ref (aM 0)), (1, .int p1)]) hx hb dX7_dayFor_74 rfl hl (by decide) rfl (fun ls hl => ?_)
            refine lv_iinc (v := (x4_7 + 1)) (lv' := [(4, .int (x4_7 + 1)), (3, .int r8), (2, .int x4_7), (6, .int (1 : Int32)), (5, .int r8), (0, .ref (aM 0)), (1, .int p1)]) hx hb dX7_dayFor_75 hl (k := 4) rfl rfl (by decide) rfl (fun ls hl => ?_)
            refine lv_goto (tgt := 7) hx hb dX7_dayFor_78 (by decide) ?_
            exact ih x4_7 r8 (x4_7 + 1) u9 _ _ hfu hR hP hD hS ls (lv_sub hl [2, 1, 0, 5, 6] rfl)
          · rw [if_neg c_11] at hR
            refine lv_iload hx hb dX7_dayFor_38 (lv_at hl 0 rfl) ?_
            refine lv_iload_n hx hb dX7_dayFor_40 rfl (lv_at hl 2 rfl) ?_
            refine lv_icmp_le (tgt := 48) hx hb dX7_dayFor_41 (by decide) (fun c_12 => ?_) (fun c_12 => ?_)
            · rw [if_pos c_12] at hR
              refine lv_iconst (v := (0 : Int32)) hx hb dX7_dayFor_48 (by decide) ?_
              refine lv_istore (lv' := [(6, .int (0 : Int32)), (5, .int r8), (2, .int x2_7), (3, .int x3_7), (4, .int x4_7), (0, .ref (aM 0)), (1, .int p1)]) hx hb dX7_dayFor_49 hl (by decide) rfl (fun ls hl => ?_)
              refine lv_iload hx hb dX7_dayFor_51 (lv_at hl 0 rfl) ?_
              refine lv_if_eq (tgt := 61) hx hb dX7_dayFor_53 (by decide) (fun _ => ?_) (fun q => absurd (by decide) q)
              refine lv_iload_n hx hb dX7_dayFor_61 rfl (lv_at hl 2 rfl) ?_
              refine lv_istore_n (lv' := [(2, .int x2_7), (6, .int (0 : Int32)), (5, .int r8), (3, .int x3_7), (4, .int x4_7), (0, .ref (aM 0)), (1, .int p1)]) hx hb dX7_dayFor_62 rfl hl (by decide) rfl (fun ls hl => ?_)
              refine lv_iload hx hb dX7_dayFor_63 (lv_at hl 1 rfl) ?_
              refine lv_if_eq (tgt := 73) hx hb dX7_dayFor_65 (by decide) (fun _ => ?_) (fun q => absurd (by decide) q)
              refine lv_iload_n hx hb dX7_dayFor_73 rfl (lv_at hl 3 rfl) ?_
              refine lv_istore_n (lv' := [(3, .int x3_7), (2, .int x2_7), (6, .int (0 : Int32)), (5, .int r8), (4, .int x4_7), (0, .ref (aM 0)), (1, .int p1)]) hx hb dX7_dayFor_74 rfl hl (by decide) rfl (fun ls hl => ?_)
              refine lv_iinc (v := (x4_7 + 1)) (lv' := [(4, .int (x4_7 + 1)), (3, .int x3_7), (2, .int x2_7), (6, .int (0 : Int32)), (5, .int r8), (0, .ref (aM 0)), (1, .int p1)]) hx hb dX7_dayFor_75 hl (k := 4) rfl rfl (by decide) rfl (fun ls hl => ?_)
              refine lv_goto (tgt := 7) hx hb dX7_dayFor_78 (by decide) ?_
              exact ih x2_7 x3_7 (x4_7 + 1) u9 _ _ hfu hR hP hD hS ls (lv_sub hl [2, 1, 0, 5, 6] rfl)
            · rw [if_neg c_12] at hR
              refine lv_iconst (v := (1 : Int32)) hx hb dX7_dayFor_44 (by decide) ?_
              refine lv_goto (tgt := 49) hx hb dX7_dayFor_45 (by decide) ?_
              refine lv_istore (lv' := [(6, .int (1 : Int32)), (5, .int r8), (2, .int x2_7), (3, .int x3_7), (4, .int x4_7), (0, .ref (aM 0)), (1, .int p1)]) hx hb dX7_dayFor_49 hl (by decide) rfl (fun ls hl => ?_)
              refine lv_iload hx hb dX7_dayFor_51 (lv_at hl 0 rfl) ?_
              refine lv_if_eq (tgt := 61) hx hb dX7_dayFor_53 (by decide) (fun q => absurd q (by decide)) (fun _ => ?_)
              refine lv_iload hx hb dX7_dayFor_56 (lv_at hl 4 rfl) ?_
              refine lv_goto (tgt := 62) hx hb dX7_dayFor_58 (by decide) ?_
              refine lv_istore_n (lv' := [(2, .int x4_7), (6, .int (1 : Int32)), (5, .int r8), (3, .int x3_7), (4, .int x4_7), (0, .ref (aM 0)), (1, .int p1)]) hx hb dX7_dayFor_62 rfl hl (by decide) rfl (fun ls hl => ?_)
              refine lv_iload hx hb dX7_dayFor_63 (lv_at hl 1 rfl) ?_
              refine lv_if_eq (tgt := 73) hx hb dX7_dayFor_65 (by decide) (fun q => absurd q (by decide)) (fun _ => ?_)
              refine lv_iload hx hb dX7_dayFor_68 (lv_at hl 2 rfl) ?_
              refine lv_goto (tgt := 74) hx hb dX7_dayFor_70 (by decide) ?_
              refine lv_istore_n (lv' := [(3, .int r8), (2, .int x4_7), (6, .int (1 : Int32)), (5, .int r8), (4, .int x4_7), (0, .ref (aM 0)), (1, .int p1)]) hx hb dX7_dayFor_74 rfl hl (by decide) rfl (fun ls hl => ?_)
              refine lv_iinc (v := (x4_7 + 1)) (lv' := [(4, .int (x4_7 + 1)), (3, .int r8), (2, .int x4_7), (6, .int (1 : Int32)), (5, .int r8), (0, .ref (aM 0)), (1, .int p1)]) hx hb dX7_dayFor_75 hl (k := 4) rfl rfl (by decide) rfl (fun ls hl => ?_)
              refine lv_goto (tgt := 7) hx hb dX7_dayFor_78 (by decide) ?_
              exact ih x4_7 r8 (x4_7 + 1) u9 _ _ hfu hR hP hD hS ls (lv_sub hl [2, 1, 0, 5, 6] rfl)
  refine LOOP7 (fun x2_7 M_7 => (some (x2_7, M_7))) (fun x2_7 M_7 H1 locs hR hP hD hS ls hl => ?_) 28 (-1 : Int32) (0 : Int32) (0 : Int32) M _ _ (by decide) hR hP hD hS ls (lv_sub hl [2, 1, 0, 3, 4] rfl)
  try dsimp only at hR
  refine lv_iload_n hx hb dX7_dayFor_81 rfl (lv_at hl 0 rfl) ?_
  exact W.iret (v := x2_7) hx hb hr (fun t ht hW => ⟨⟨x2_7, M_7, rfl, Option.some.inj hR, P_at ht hP⟩, hS.F ht⟩) hS.2.2 dX7_dayFor_82
abbrev rm_X7_bestDay : Room := { frames := 9, cells := 0, slots := 0, locals := 210 }
abbrev q_X7_bestDay (dC : Nat → ClassId) (dI : Nat → Nat → Nat) (cI cZ cS : ClassId) (aM : Nat → Nat) (hs : Int64) (res : Int32 × Pic) (A : Nat → Prop) : Array Value → State → Outcome → State → Prop := va_Qi (fun (r : Int32) (u : Pic) => (r, u) = res) (fun u t => va_P (dC, dI) vwCl (wMo cI aM u hs) t.heap) A
set_option maxHeartbeats 4000000 in
set_option maxRecDepth 100000 in
theorem met_X7_bestDay (l : Launch) (dC : Nat → ClassId) (dI : Nat → Nat → Nat) (cI cZ cS : ClassId) (aM : Nat → Nat) (M : Pic) (hs : Int64) (sz : Nat) (p1 : Int32) (res : Int32 × Pic) (hR : f7_bestDay M p1 = some res) : Met l yX7_bestDay wsX7_bestDay rm_X7_bestDay (va_Pc [.ref (aM 0), .int p1] (pW (dC, dI) (tyS cI cZ cS) (wMo cI aM M hs) sz)) (q_X7_bestDay dC dI cI cZ cS aM hs res (va_A (wMo cI aM M hs) sz)) 0 0 (va_A (wMo cI aM M hs) sz) := by
  refine Met.ofW (cc := cX7_bestDay) (maxL := 2) (ret := (some .int)) (by decide) rfl ?_
  intro p e s m args below meth c s₁ B hml hv
  obtain ⟨rfl, hsz, hP, hK, hD0, hN⟩ := hv
  have hx := B.exec
  have hb := B.bytes
  have hr := B.returns
  have hts := atoms_spec (ws := wsX7_bestDay) B.pre
  have hown : s.vm.findClass RX7 = some m.cls := findClass_of_methodNamed B.named
  have hlocks := B.notSynchronized
  subst hsz
  have hD := hD0.self (sz := s.heap.size)
  generalize hAe : va_A (wMo cI aM M hs) s.heap.size = A at hD ⊢
  have hA : ∀ q : Nat, s.heap.size ≤ q → A q := fun q h => by rw [← hAe]; exact Or.inr h
  have hS : va_S A s.heap s.heap [] := va_S.rf
  have hP : va_P (dC, dI) vwCl (wMo cI aM M hs) s.heap := hP
  rw [f7_bestDay] at hR
  have hin7 : ∀ w ∈ wsX70, w ∈ wsX7_bestDay := by decide +kernel
  have hl := lv_entry ([.ref (aM 0), .int p1]) (n := 2) (Nat.le_of_ble_eq_true rfl)
  rw [lg_entry_eq]
  generalize (lg_sl ([.ref (aM 0), .int p1]) ++ List.replicate (2 - (lg_sl ([.ref (aM 0), .int p1])).length) Slot.unset).toArray = ls at hl ⊢
  have hl : lv_has ls 2 [(0, .ref (aM 0)), (1, .int p1)] := hl
  refine lv_aload_n hx hb dX7_bestDay_0 rfl (lv_at hl 0 rfl) ?_
  refine lv_aload_n hx hb dX7_bestDay_1 rfl (lv_at hl 0 rfl) ?_
  refine lv_iload_n hx hb dX7_bestDay_2 rfl (lv_at hl 1 rfl) ?_
  refine va_calli (va_runV (As := [.int p1]) (rest := [.ref (aM 0)]) ⟨hx, hb, hml, hown, hts⟩ (met_X7_isDish l dC dI cI cZ cS aM M hs s.heap.size p1) (cwV 1 hts gX7_bestDay_X7_isDish rfl rfl rfl (by decide +kernel) ⟨Nat.le_of_ble_eq_true rfl, Nat.le_of_ble_eq_true rfl⟩) (pV (wc := wMo cI aM M hs) (ci := 7) (q0 := 0) hK hP hD hN [0, 1, 2, 3, 4, 5, 6, 7, 8] rfl (by decide) rfl rfl) rfl rfl hl.1 rfl (lv_room (Nat.le_of_ble_eq_true rfl)) dX7_bestDay_3 ⟨Nat.zero_le _, Nat.zero_le _⟩) hS (fun q _ h => a0_in hS hA q h) (a0_in hS hA) (fun r1 u t H1 locs ht hvm hw hB hz1 hk1 hS => ?_)
  obtain ⟨hw, nb2⟩ := hw
  subst hw
  have hP := rdk hP hk1
  refine lv_if_eq (tgt := 13) hx hb dX7_bestDay_6 (by decide) (fun c_3 => ?_) (fun c_3 => ?_)
  · rw [if_pos c_3] at hR
    refine lv_iconst (v := (1 : Int32)) hx hb dX7_bestDay_13 (by decide) ?_
    refine va_put (D := (dC, dI)) (ci := 7) (v := .int (1 : Int32)) (ty := .int) (C := RX7) (T := TX7) (N := 15) hx hb hts hin7 tyX7 tyX7_ok nmX7 hown hK hP hD hS 0 rfl rfl 7 (by decide) (hw_ hts 1 rfl) (fun _ h9 => h9) rfl (by decide +kernel) rfl rfl (Nat.le_of_ble_eq_true rfl) dX7_bestDay_14 (fun H2 locs hP hD hS => ?_)
    have hP : va_P (dC, dI) vwCl (wMo cI aM (pset M 7 (fun _ => (1 : Int32))) hs) H2 := hP
    have hD : va_D A (wMo cI aM (pset M 7 (fun _ => (1 : Int32))) hs) := hD
    refine lv_aload_n hx hb dX7_bestDay_17 rfl (lv_at hl 0 rfl) ?_
    refine va_get (D := (dC, dI)) (ci := 7) (v := .int (1 : Int32)) (C := RX7) (T := TX7) (N := 15) hx hb hts hin7 hown hK hP 0 rfl rfl 7 (by decide) (hw_ hts 1 rfl) (fun _ h9 => h9) rfl dX7_bestDay_18 ?_
    refine lv_if_le (tgt := 28) hx hb dX7_bestDay_21 (by decide) (fun q => absurd q (by decide)) (fun _ => ?_)
    refine lv_iconst (v := (0 : Int32)) hx hb dX7_bestDay_24 (by decide) ?_
    refine lv_goto (tgt := 33) hx hb dX7_bestDay_25 (by decide) ?_
    exact W.iret (v := (0 : Int32)) hx hb hr (fun t ht hW => ⟨⟨(0 : Int32), (pset M 7 (fun _ => (1 : Int32))), rfl, Option.some.inj hR, P_at ht hP⟩, hS.F ht⟩) hS.2.2 dX7_bestDay_33
  · rw [if_neg c_3] at hR
    refine lv_iconst (v := (0 : Int32)) hx hb dX7_bestDay_9 (by decide) ?_
    refine lv_goto (tgt := 14) hx hb dX7_bestDay_10 (by decide) ?_
    refine va_put (D := (dC, dI)) (ci := 7) (v := .int (0 : Int32)) (ty := .int) (C := RX7) (T := TX7) (N := 15) hx hb hts hin7 tyX7 tyX7_ok nmX7 hown hK hP hD hS 0 rfl rfl 7 (by decide) (hw_ hts 1 rfl) (fun _ h9 => h9) rfl (by decide +kernel) rfl rfl (Nat.le_of_ble_eq_true rfl) dX7_bestDay_14 (fun H2 locs hP hD hS => ?_)
    have hP : va_P (dC, dI) vwCl (wMo cI aM (pset M 7 (fun _ => (0 : Int32))) hs) H2 := hP
    have hD : va_D A (wMo cI aM (pset M 7 (fun _ => (0 : Int32))) hs) := hD
    refine lv_aload_n hx hb dX7_bestDay_17 rfl (lv_at hl 0 rfl) ?_
    refine va_get (D := (dC, dI)) (ci := 7) (v := .int (0 : Int32)) (C := RX7) (T := TX7) (N := 15) hx hb hts hin7 hown hK hP 0 rfl rfl 7 (by decide) (hw_ hts 1 rfl) (fun _ h9 => h9) rfl dX7_bestDay_18 ?_
    refine lv_if_le (tgt := 28) hx hb dX7_bestDay_21 (by decide) (fun _ => ?_) (fun q => absurd (by decide) q)
    refine lv_aload_n hx hb dX7_bestDay_28 rfl (lv_at hl 0 rfl) ?_
    refine lv_iload_n hx hb dX7_bestDay_29 rfl (lv_at hl 1 rfl) ?_
    obtain ⟨r4, u5, hc6, hR⟩ := ob2_e hR
    have hF := va_free (wc := wMo cI aM (pset M 7 (fun _ => (0 : Int32))) hs) hD hS hA [0, 1, 2, 3, 4, 5, 6, 7, 8] rfl
    refine va_calli (va_runV (As := [.int p1]) (rest := []) ⟨hx, hb, hml, hown, hts⟩ (met_X7_dayFor l dC dI cI cZ cS aM (pset M 7 (fun _ => (0 : Int32))) hs H2.size p1 (r4, u5) hc6) (cwV 1 hts gX7_bestDay_X7_dayFor rfl rfl rfl (by decide +kernel) ⟨Nat.le_of_ble_eq_true rfl, Nat.le_of_ble_eq_true rfl⟩) (pV (wc := wMo cI aM (pset M 7 (fun _ => (0 : Int32))) hs) (ci := 7) (q0 := 0) hK hP hD hN [0, 1, 2, 3, 4, 5, 6, 7, 8] rfl (by decide) rfl rfl) rfl rfl hl.1 rfl (lv_room (Nat.le_of_ble_eq_true rfl)) dX7_bestDay_30 ⟨Nat.zero_le _, Nat.zero_le _⟩) hS (fun q _ h => hF q h) hF (fun r4 u5 t H3 locs ht hvm hw hB hz1 hk1 hS => ?_)
    try dsimp only at hw hB
    rw [ht] at hB
    cases hw
    have hP := wrk (w2 := wMo cI aM u5 hs) hP hD [0, 1, 2, 3, 4, 5, 6, 7, 8] rfl (by decide) hk1 hB rfl rfl
    have hD := D_addr (w1 := wMo cI aM u5 hs) hD rfl
    exact W.iret (v := r4) hx hb hr (fun t ht hW => ⟨⟨r4, u5, rfl, Option.some.inj hR, P_at ht hP⟩, hS.F ht⟩) hS.2.2 dX7_bestDay_33
