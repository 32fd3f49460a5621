theorem dX6_whyNot_46 : decode cX6_whyNot 46 = .ok (.ireturn, 1) := by decide +kernel
set_option maxRecDepth 20000 in
theorem ggX6_joyOn_X6_isDay : GoodIn wsX6_joyOn wsX6_isDay := goodIn_r _ [8] rfl (by decide +kernel)
set_option maxRecDepth 20000 in
theorem gX6_joyOn_X6_isDay : GoodIn wsX6_joyOn (va_wsS RX6 171 yX6_isDay wsX6_isDay) := goodIn_app (goodIn_of _ (by decide +kernel)) ggX6_joyOn_X6_isDay
set_option maxRecDepth 20000 in
theorem ggX6_joyOn_X5_hasDish : GoodIn wsX6_joyOn wsX5_hasDish := goodIn_r _ [13, 14, 48, 49, 50, 51, 52, 53, 54, 55, 56, 57, 58, 59] rfl (by decide +kernel)
set_option maxRecDepth 20000 in
theorem gX6_joyOn_X5_hasDish : GoodIn wsX6_joyOn (wsV RX6 84 RX5 yX5_hasDish wsX5_hasDish) := goodIn_app (goodIn_of _ (by decide +kernel)) ggX6_joyOn_X5_hasDish
set_option maxRecDepth 20000 in
theorem ggX6_joyOn_X2_joyOfDish : GoodIn wsX6_joyOn wsX2_joyOfDish := goodIn_r _ [19, 20, 21, 22, 18, 23, 24, 25, 26, 27, 28, 29, 30, 31, 32, 7, 33, 34, 35, 36, 37, 38, 39, 40, 60, 61, 48, 49, 50, 51, 52, 53, 54, 55, 56, 57, 58, 59] rfl (by decide +kernel)
set_option maxRecDepth 20000 in
theorem gX6_joyOn_X2_joyOfDish : GoodIn wsX6_joyOn (wsV RX6 192 RX2 yX2_joyOfDish wsX2_joyOfDish) := goodIn_app (goodIn_of _ (by decide +kernel)) ggX6_joyOn_X2_joyOfDish
theorem dX6_joyOn_0 : decode cX6_joyOn 0 = .ok (.iload_n 1, 1) := by decide +kernel
theorem dX6_joyOn_1 : decode cX6_joyOn 1 = .ok (.invokestatic 171, 3) := by decide +kernel
theorem dX6_joyOn_4 : decode cX6_joyOn 4 = .ok (.ifCond .eq 14, 3) := by decide +kernel
theorem dX6_joyOn_7 : decode cX6_joyOn 7 = .ok (.aload_n 0, 1) := by decide +kernel
theorem dX6_joyOn_8 : decode cX6_joyOn 8 = .ok (.getfield 10, 3) := by decide +kernel
theorem dX6_joyOn_11 : decode cX6_joyOn 11 = .ok (.iload_n 2, 1) := by decide +kernel
theorem dX6_joyOn_12 : decode cX6_joyOn 12 = .ok (.invokevirtual 84, 3) := by decide +kernel
theorem dX6_joyOn_15 : decode cX6_joyOn 15 = .ok (.ifCond .ne 13, 3) := by decide +kernel
theorem dX6_joyOn_18 : decode cX6_joyOn 18 = .ok (.new 88, 3) := by decide +kernel
theorem dX6_joyOn_21 : decode cX6_joyOn 21 = .ok (.dup, 1) := by decide +kernel
theorem dX6_joyOn_22 : decode cX6_joyOn 22 = .ok (.ldc 174, 2) := by decide +kernel
theorem dX6_joyOn_24 : decode cX6_joyOn 24 = .ok (.invokespecial 92, 3) := by decide +kernel
theorem dX6_joyOn_27 : decode cX6_joyOn 27 = .ok (.athrow, 1) := by decide +kernel
theorem dX6_joyOn_28 : decode cX6_joyOn 28 = .ok (.aload_n 0, 1) := by decide +kernel
theorem dX6_joyOn_29 : decode cX6_joyOn 29 = .ok (.getfield 31, 3) := by decide +kernel
theorem dX6_joyOn_32 : decode cX6_joyOn 32 = .ok (.iload_n 1, 1) := by decide +kernel
theorem dX6_joyOn_33 : decode cX6_joyOn 33 = .ok (.iload_n 2, 1) := by decide +kernel
theorem dX6_joyOn_34 : decode cX6_joyOn 34 = .ok (.invokevirtual 192, 3) := by decide +kernel
theorem dX6_joyOn_37 : decode cX6_joyOn 37 = .ok (.ireturn, 1) := by decide +kernel
set_option maxRecDepth 20000 in
theorem ggX6_best_X6_isDay : GoodIn wsX6_best wsX6_isDay := goodIn_r _ [7] rfl (by decide +kernel)
set_option maxRecDepth 20000 in
theorem gX6_best_X6_isDay : GoodIn wsX6_best (va_wsS RX6 171 yX6_isDay wsX6_isDay) := goodIn_app (goodIn_of _ (by decide +kernel)) ggX6_best_X6_isDay
set_option maxRecDepth 20000 in
theorem ggX6_best_X6_isPart : GoodIn wsX6_best wsX6_isPart := goodIn_r _ [10] rfl (by decide +kernel)
set_option maxRecDepth 20000 in
theorem gX6_best_X6_isPart : GoodIn wsX6_best (va_wsS RX6 195 yX6_isPart wsX6_isPart) := goodIn_app (goodIn_of _ (by decide +kernel)) ggX6_best_X6_isPart
set_option maxRecDepth 20000 in
theorem ggX6_best_X2_bestDish : GoodIn wsX6_best wsX2_bestDish := goodIn_r _ [15, 16, 17, 18, 19, 20, 14, 21, 22, 23, 24, 25, 26, 27, 6, 28, 29, 30, 31, 32, 33, 34, 35, 36, 37, 38, 39, 40, 41, 42, 43, 44, 45, 46, 47, 48, 49, 50, 51, 52, 53, 54, 55, 56, 57, 58, 59, 60, 61, 62, 63, 64, 65, 66, 67, 68, 69, 70, 71, 72, 73, 74, 75, 76, 77, 78, 79, 80, 81, 82, 83, 84, 85, 86, 87, 88, 89, 90, 91, 92, 93, 94, 95, 96, 97, 98, 99, 100, 101, 102, 103, 104, 105, 106, 107, 108, 109, 110, 111, 112, 113, 114, 115, 123, 124, 125, 126, 127, 128, 129, 130, 131, 132, 133, 134, 135, 136, 137, 138] rfl (by decide +kernel)
set_option maxRecDepth 20000 in
theorem gX6_best_X2_bestDish : GoodIn wsX6_best (wsV RX6 216 RX2 yX2_bestDish wsX2_bestDish) := goodIn_app (goodIn_of _ (by decide +kernel)) ggX6_best_X2_bestDish
theorem dX6_best_0 : decode cX6_best 0 = .ok (.iload_n 1, 1) := by decide +kernel
theorem dX6_best_1 : decode cX6_best 1 = .ok (.invokestatic 171, 3) := by decide +kernel
theorem dX6_best_4 : decode cX6_best 4 = .ok (.ifCond .eq 10, 3) := by decide +kernel
theorem dX6_best_7 : decode cX6_best 7 = .ok (.iload_n 2, 1) := by decide +kernel
theorem dX6_best_8 : decode cX6_best 8 = .ok (.invokestatic 195, 3) := by decide +kernel
theorem dX6_best_11 : decode cX6_best 11 = .ok (.ifCond .ne 13, 3) := by decide +kernel
theorem dX6_best_14 : decode cX6_best 14 = .ok (.new 88, 3) := by decide +kernel
theorem dX6_best_17 : decode cX6_best 17 = .ok (.dup, 1) := by decide +kernel
theorem dX6_best_18 : decode cX6_best 18 = .ok (.ldc 198, 2) := by decide +kernel
theorem dX6_best_20 : decode cX6_best 20 = .ok (.invokespecial 92, 3) := by decide +kernel
theorem dX6_best_23 : decode cX6_best 23 = .ok (.athrow, 1) := by decide +kernel
theorem dX6_best_24 : decode cX6_best 24 = .ok (.aload_n 0, 1) := by decide +kernel
theorem dX6_best_25 : decode cX6_best 25 = .ok (.getfield 31, 3) := by decide +kernel
theorem dX6_best_28 : decode cX6_best 28 = .ok (.iload_n 1, 1) := by decide +kernel
theorem dX6_best_29 : decode cX6_best 29 = .ok (.iload_n 2, 1) := by decide +kernel
theorem dX6_best_30 : decode cX6_best 30 = .ok (.invokevirtual 216, 3) := by decide +kernel
theorem dX6_best_33 : decode cX6_best 33 = .ok (.ireturn, 1) := by decide +kernel
set_option maxRecDepth 20000 in
theorem ggX6_gain_X6_isDay : GoodIn wsX6_gain wsX6_isDay := goodIn_r _ [9] rfl (by decide +kernel)
set_option maxRecDepth 20000 in
theorem gX6_gain_X6_isDay : GoodIn wsX6_gain (va_wsS RX6 171 yX6_isDay wsX6_isDay) := goodIn_app (goodIn_of _ (by decide +kernel)) ggX6_gain_X6_isDay
set_option maxRecDepth 20000 in
theorem ggX6_gain_X5_hasDish : GoodIn wsX6_gain wsX5_hasDish := goodIn_r _ [14, 15, 125, 126, 127, 128, 129, 130, 131, 132, 133, 134, 135, 136] rfl (by decide +kernel)
set_option maxRecDepth 20000 in
theorem gX6_gain_X5_hasDish : GoodIn wsX6_gain (wsV RX6 84 RX5 yX5_hasDish wsX5_hasDish) := goodIn_app (goodIn_of _ (by decide +kernel)) ggX6_gain_X5_hasDish
set_option maxRecDepth 20000 in
theorem ggX6_gain_X6_at : GoodIn wsX6_gain wsX6_at := goodIn_r _ [18] rfl (by decide +kernel)
set_option maxRecDepth 20000 in
theorem gX6_gain_X6_at : GoodIn wsX6_gain (va_wsS RX6 115 yX6_at wsX6_at) := goodIn_app (goodIn_of _ (by decide +kernel)) ggX6_gain_X6_at
set_option maxRecDepth 20000 in
theorem ggX6_gain_X2_reasonAgainst : GoodIn wsX6_gain wsX2_reasonAgainst := goodIn_r _ [23, 24, 25, 26, 27, 28, 29, 30, 8, 31, 17, 18, 32, 33, 34, 13, 35, 36, 37, 38, 39, 40, 41, 42, 43, 44, 45, 46, 47, 48, 49, 50, 51, 52, 53, 54, 55, 56, 57, 58, 59, 60, 61, 62, 63, 64, 65, 66, 67, 15, 68, 69, 70, 71, 72, 73, 74, 75, 76, 77, 78, 79, 80, 81, 82, 83, 84, 85, 86, 87, 88, 89, 90, 91, 92, 93, 94, 95, 137, 138, 125, 126, 127, 128, 129, 130, 131, 132, 133, 134, 135, 136, 139, 140] rfl (by decide +kernel)
set_option maxRecDepth 20000 in
theorem gX6_gain_X2_reasonAgainst : GoodIn wsX6_gain (wsV RX6 179 RX2 yX2_reasonAgainst wsX2_reasonAgainst) := goodIn_app (goodIn_of _ (by decide +kernel)) ggX6_gain_X2_reasonAgainst
set_option maxRecDepth 20000 in
theorem ggX6_gain_X2_growth : GoodIn wsX6_gain wsX2_growth := goodIn_r _ [99, 24, 100, 28, 101, 102, 92, 103, 25, 104, 105, 106, 22, 107, 108, 109, 110, 111, 112, 91, 93, 17, 8, 18, 30, 31, 113, 114, 115, 116, 117, 137, 138, 125, 126, 127, 128, 129, 130, 131, 132, 133, 134, 135, 136] rfl (by decide +kernel)
set_option maxRecDepth 20000 in
theorem gX6_gain_X2_growth : GoodIn wsX6_gain (wsV RX6 317 RX2 yX2_growth wsX2_growth) := goodIn_app (goodIn_of _ (by decide +kernel)) ggX6_gain_X2_growth
theorem dX6_gain_0 : decode cX6_gain 0 = .ok (.iload_n 1, 1) := by decide +kernel
theorem dX6_gain_1 : decode cX6_gain 1 = .ok (.invokestatic 171, 3) := by decide +kernel
theorem dX6_gain_4 : decode cX6_gain 4 = .ok (.ifCond .eq 14, 3) := by decide +kernel
theorem dX6_gain_7 : decode cX6_gain 7 = .ok (.aload_n 0, 1) := by decide +kernel
theorem dX6_gain_8 : decode cX6_gain 8 = .ok (.getfield 10, 3) := by decide +kernel
theorem dX6_gain_11 : decode cX6_gain 11 = .ok (.iload_n 2, 1) := by decide +kernel
theorem dX6_gain_12 : decode cX6_gain 12 = .ok (.invokevirtual 84, 3) := by decide +kernel
theorem dX6_gain_15 : decode cX6_gain 15 = .ok (.ifCond .ne 13, 3) := by decide +kernel
theorem dX6_gain_18 : decode cX6_gain 18 = .ok (.new 88, 3) := by decide +kernel
theorem dX6_gain_21 : decode cX6_gain 21 = .ok (.dup, 1) := by decide +kernel
theorem dX6_gain_22 : decode cX6_gain 22 = .ok (.ldc 174, 2) := by decide +kernel
theorem dX6_gain_24 : decode cX6_gain 24 = .ok (.invokespecial 92, 3) := by decide +kernel
theorem dX6_gain_27 : decode cX6_gain 27 = .ok (.athrow, 1) := by decide +kernel
theorem dX6_gain_28 : decode cX6_gain 28 = .ok (.aload_n 0, 1) := by decide +kernel
theorem dX6_gain_29 : decode cX6_gain 29 = .ok (.getfield 31, 3) := by decide +kernel
theorem dX6_gain_32 : decode cX6_gain 32 = .ok (.iload_n 1, 1) := by decide +kernel
theorem dX6_gain_33 : decode cX6_gain 33 = .ok (.aload_n 0, 1) := by decide +kernel
theorem dX6_gain_34 : decode cX6_gain 34 = .ok (.getfield 10, 3) := by decide +kernel
theorem dX6_gain_37 : decode cX6_gain 37 = .ok (.getfield 176, 3) := by decide +kernel
theorem dX6_gain_40 : decode cX6_gain 40 = .ok (.iload_n 2, 1) := by decide +kernel
theorem dX6_gain_41 : decode cX6_gain 41 = .ok (.invokestatic 115, 3) := by decide +kernel
theorem dX6_gain_44 : decode cX6_gain 44 = .ok (.iload_n 2, 1) := by decide +kernel
theorem dX6_gain_45 : decode cX6_gain 45 = .ok (.invokevirtual 179, 3) := by decide +kernel
theorem dX6_gain_48 : decode cX6_gain 48 = .ok (.ifCond .eq 5, 3) := by decide +kernel
theorem dX6_gain_51 : decode cX6_gain 51 = .ok (.iconst 0, 1) := by decide +kernel
theorem dX6_gain_52 : decode cX6_gain 52 = .ok (.ireturn, 1) := by decide +kernel
theorem dX6_gain_53 : decode cX6_gain 53 = .ok (.aload_n 0, 1) := by decide +kernel
theorem dX6_gain_54 : decode cX6_gain 54 = .ok (.getfield 31, 3) := by decide +kernel
theorem dX6_gain_57 : decode cX6_gain 57 = .ok (.iload_n 1, 1) := by decide +kernel
theorem dX6_gain_58 : decode cX6_gain 58 = .ok (.iload_n 2, 1) := by decide +kernel
theorem dX6_gain_59 : decode cX6_gain 59 = .ok (.invokevirtual 317, 3) := by decide +kernel
theorem dX6_gain_62 : decode cX6_gain 62 = .ok (.ireturn, 1) := by decide +kernel
set_option maxRecDepth 20000 in
theorem ggX6_bestDay_X5_hasDish : GoodIn wsX6_bestDay wsX5_hasDish := goodIn_r _ [9, 10, 124, 125, 126, 127, 128, 129, 130, 131, 132, 133, 134, 135] rfl (by decide +kernel)
set_option maxRecDepth 20000 in
theorem gX6_bestDay_X5_hasDish : GoodIn wsX6_bestDay (wsV RX6 84 RX5 yX5_hasDish wsX5_hasDish) := goodIn_app (goodIn_of _ (by decide +kernel)) ggX6_bestDay_X5_hasDish
set_option maxRecDepth 20000 in
theorem ggX6_bestDay_X2_bestDayOf : GoodIn wsX6_bestDay wsX2_bestDayOf := goodIn_r _ [15, 16, 17, 18, 19, 20, 21, 22, 23, 14, 24, 25, 26, 27, 28, 29, 30, 31, 32, 33, 8, 34, 35, 36, 37, 38, 39, 40, 41, 42, 43, 44, 45, 46, 47, 48, 49, 50, 51, 52, 53, 54, 55, 56, 57, 58, 59, 60, 61, 62, 63, 64, 65, 66, 10, 67, 68, 69, 70, 71, 72, 73, 74, 75, 76, 77, 78, 79, 80, 81, 82, 83, 84, 85, 86, 87, 88, 89, 90, 91, 92, 93, 94, 95, 96, 97, 98, 99, 100, 101, 102, 103, 104, 105, 106, 107, 108, 109, 110, 111, 112, 113, 114, 115, 116, 136, 137, 124, 125, 126, 127, 128, 129, 130, 131, 132, 133, 134, 135, 138, 139] rfl (by decide +kernel)
set_option maxRecDepth 20000 in
theorem gX6_bestDay_X2_bestDayOf : GoodIn wsX6_bestDay (wsV RX6 320 RX2 yX2_bestDayOf wsX2_bestDayOf) := goodIn_app (goodIn_of _ (by decide +kernel)) ggX6_bestDay_X2_bestDayOf
theorem dX6_bestDay_0 : decode cX6_bestDay 0 = .ok (.aload_n 0, 1) := by decide +kernel
theorem dX6_bestDay_1 : decode cX6_bestDay 1 = .ok (.getfield 10, 3) := by decide +kernel
theorem dX6_bestDay_4 : decode cX6_bestDay 4 = .ok (.iload_n 1, 1) := by decide +kernel
theorem dX6_bestDay_5 : decode cX6_bestDay 5 = .ok (.invokevirtual 84, 3) := by decide +kernel
theorem dX6_bestDay_8 : decode cX6_bestDay 8 = .ok (.ifCond .ne 13, 3) := by decide +kernel
theorem dX6_bestDay_11 : decode cX6_bestDay 11 = .ok (.new 88, 3) := by decide +kernel
theorem dX6_bestDay_14 : decode cX6_bestDay 14 = .ok (.dup, 1) := by decide +kernel
theorem dX6_bestDay_15 : decode cX6_bestDay 15 = .ok (.ldc 90, 2) := by decide +kernel
theorem dX6_bestDay_17 : decode cX6_bestDay 17 = .ok (.invokespecial 92, 3) := by decide +kernel
theorem dX6_bestDay_20 : decode cX6_bestDay 20 = .ok (.athrow, 1) := by decide +kernel
theorem dX6_bestDay_21 : decode cX6_bestDay 21 = .ok (.aload_n 0, 1) := by decide +kernel
theorem dX6_bestDay_22 : decode cX6_bestDay 22 = .ok (.getfield 31, 3) := by decide +kernel
theorem dX6_bestDay_25 : decode cX6_bestDay 25 = .ok (.iload_n 1, 1) := by decide +kernel
theorem dX6_bestDay_26 : decode cX6_bestDay 26 = .ok (.invokevirtual 320, 3) := by decide +kernel
theorem dX6_bestDay_29 : decode cX6_bestDay 29 = .ok (.ireturn, 1) := by decide +kernel
set_option maxRecDepth 20000 in
theorem ggX6_usedShare_X5_sourceCount : GoodIn wsX6_usedShare wsX5_sourceCount := goodIn_r _ [7, 8, 9, 10, 11, 12, 69, 70, 71, 72, 73, 74, 75, 76, 77, 78, 79, 80] rfl (by decide +kernel)
set_option maxRecDepth 20000 in
theorem gX6_usedShare_X5_sourceCount : GoodIn wsX6_usedShare (wsV RX6 323 RX5 yX5_sourceCount wsX5_sourceCount) := goodIn_app (goodIn_of _ (by decide +kernel)) ggX6_usedShare_X5_sourceCount
set_option maxRecDepth 20000 in
theorem ggX6_usedShare_X1_wastedOfAll : GoodIn wsX6_usedShare wsX1_wastedOfAll := goodIn_r _ [17, 18, 19, 20, 21, 16, 22, 23, 24, 25, 26, 27, 28, 29, 30, 31, 32, 33, 34, 35, 6, 36, 37, 8, 10, 11, 12, 38, 39, 40, 41, 42, 43, 44, 45, 46, 47, 48, 49, 50, 51, 52, 53, 54, 55, 56, 57, 58, 59, 60, 61, 69, 70, 71, 72, 73, 74, 75, 76, 77, 78, 79, 80, 81, 82] rfl (by decide +kernel)
set_option maxRecDepth 20000 in
theorem gX6_usedShare_X1_wastedOfAll : GoodIn wsX6_usedShare (wsV RX6 326 RX1 yX1_wastedOfAll wsX1_wastedOfAll) := goodIn_app (goodIn_of _ (by decide +kernel)) ggX6_usedShare_X1_wastedOfAll
theorem dX6_usedShare_0 : decode cX6_usedShare 0 = .ok (.aload_n 0, 1) := by decide +kernel
theorem dX6_usedShare_1 : decode cX6_usedShare 1 = .ok (.getfield 10, 3) := by decide +kernel
theorem dX6_usedShare_4 : decode cX6_usedShare 4 = .ok (.invokevirtual 323, 3) := by decide +kernel
theorem dX6_usedShare_7 : decode cX6_usedShare 7 = .ok (.istore_n 1, 1) := by decide +kernel
theorem dX6_usedShare_8 : decode cX6_usedShare 8 = .ok (.iload_n 1, 1) := by decide +kernel
theorem dX6_usedShare_9 : decode cX6_usedShare 9 = .ok (.ifCond .gt 5, 3) := by decide +kernel
theorem dX6_usedShare_12 : decode cX6_usedShare 12 = .ok (.dconst 1, 1) := by decide +kernel
theorem dX6_usedShare_13 : decode cX6_usedShare 13 = .ok (.dreturn, 1) := by decide +kernel
theorem dX6_usedShare_14 : decode cX6_usedShare 14 = .ok (.iload_n 1, 1) := by decide +kernel
theorem dX6_usedShare_15 : decode cX6_usedShare 15 = .ok (.aload_n 0, 1) := by decide +kernel
theorem dX6_usedShare_16 : decode cX6_usedShare 16 = .ok (.getfield 22, 3) := by decide +kernel
theorem dX6_usedShare_19 : decode cX6_usedShare 19 = .ok (.aload_n 0, 1) := by decide +kernel
theorem dX6_usedShare_20 : decode cX6_usedShare 20 = .ok (.getfield 10, 3) := by decide +kernel
theorem dX6_usedShare_23 : decode cX6_usedShare 23 = .ok (.invokevirtual 326, 3) := by decide +kernel
theorem dX6_usedShare_26 : decode cX6_usedShare 26 = .ok (.isub, 1) := by decide +kernel
theorem dX6_usedShare_27 : decode cX6_usedShare 27 = .ok (.istore_n 2, 1) := by decide +kernel
theorem dX6_usedShare_28 : decode cX6_usedShare 28 = .ok (.iload_n 2, 1) := by decide +kernel
theorem dX6_usedShare_29 : decode cX6_usedShare 29 = .ok (.i2d, 1) := by decide +kernel
theorem dX6_usedShare_30 : decode cX6_usedShare 30 = .ok (.iload_n 1, 1) := by decide +kernel
theorem dX6_usedShare_31 : decode cX6_usedShare 31 = .ok (.i2d, 1) := by decide +kernel
theorem dX6_usedShare_32 : decode cX6_usedShare 32 = .ok (.ddiv, 1) := by decide +kernel
theorem dX6_usedShare_33 : decode cX6_usedShare 33 = .ok (.dreturn, 1) := by decide +kernel
set_option maxRecDepth 20000 in
theorem ggX6_digest_X6_figureOfAll : GoodIn wsX6_digest wsX6_figureOfAll := goodIn_r _ [17, 3, 5, 7, 6, 9, 18, 19, 20, 21, 22, 23, 24, 25, 26, 27, 28, 29, 30, 31, 16, 32, 33, 34, 35, 36, 37, 38, 39, 40, 41, 42, 43, 44, 45, 46, 47, 48, 49, 50, 51, 52, 53, 54, 55, 56, 57, 58, 59, 60, 61, 62, 63, 64, 65, 66, 67, 68, 69, 70, 71, 72, 73, 74, 75, 76, 77, 78, 79, 80, 81, 82, 83, 84, 85, 86, 87, 88, 89, 90, 91, 92, 93, 94, 95, 96, 97, 98, 99, 100, 101, 102, 103, 104, 105, 106, 107, 108, 109, 110, 111, 112, 113, 114, 115, 116, 117, 118, 119, 120, 121, 122, 123, 124, 125, 126, 127, 128, 129, 130, 131, 132, 133, 134, 135, 136, 137, 138, 139, 140, 141, 142, 143, 144, 145, 248, 249, 250, 251, 252, 253, 254, 255, 256, 257, 258, 259, 260, 261, 262, 263, 264, 265, 266, 269, 270, 271, 272, 273, 274, 275, 276, 277] rfl (by decide +kernel)
set_option maxRecDepth 20000 in
theorem gX6_digest_X6_figureOfAll : GoodIn wsX6_digest (wsV RX6 312 RX6 yX6_figureOfAll wsX6_figureOfAll) := goodIn_app (goodIn_of _ (by decide +kernel)) ggX6_digest_X6_figureOfAll
set_option maxRecDepth 20000 in
theorem ggX6_digest_X6_at : GoodIn wsX6_digest wsX6_at := goodIn_r _ [32] rfl (by decide +kernel)
set_option maxRecDepth 20000 in
theorem gX6_digest_X6_at : GoodIn wsX6_digest (va_wsS RX6 115 yX6_at wsX6_at) := goodIn_app (goodIn_of _ (by decide +kernel)) ggX6_digest_X6_at
set_option maxRecDepth 20000 in
theorem ggX6_digest_X6_figureOfDish : GoodIn wsX6_digest wsX6_figureOfDish := goodIn_r _ [150, 3, 151, 152, 153, 154, 155, 156, 9, 146, 31, 16, 32, 157, 104, 105, 24, 106, 107, 82, 158, 27, 28, 29, 30, 159, 160, 161, 86, 162, 89, 90, 91, 92, 88, 93, 94, 95, 96, 97, 98, 99, 100, 101, 102, 103, 108, 109, 110, 111, 112, 113, 44, 45, 114, 115, 116, 117, 118, 57, 58, 59, 119, 120, 121, 122, 123, 124, 125, 126, 248, 249, 250, 251, 252, 253, 254, 255, 256, 257, 258, 259, 260, 261, 262, 263, 264, 265, 266, 274, 275] rfl (by decide +kernel)
set_option maxRecDepth 20000 in
theorem gX6_digest_X6_figureOfDish : GoodIn wsX6_digest (wsV RX6 293 RX6 yX6_figureOfDish wsX6_figureOfDish) := goodIn_app (goodIn_of _ (by decide +kernel)) ggX6_digest_X6_figureOfDish
set_option maxRecDepth 20000 in
theorem ggX6_digest_X2_bestDayOf : GoodIn wsX6_digest wsX2_bestDayOf := goodIn_r _ [166, 42, 167, 31, 16, 32, 168, 169, 170, 36, 171, 43, 172, 55, 173, 44, 45, 174, 175, 176, 24, 177, 178, 179, 180, 181, 182, 183, 184, 185, 186, 187, 188, 189, 190, 70, 71, 72, 73, 74, 75, 76, 30, 77, 191, 192, 193, 86, 194, 113, 103, 104, 105, 106, 107, 82, 93, 94, 95, 96, 97, 98, 99, 100, 101, 102, 121, 122, 108, 109, 110, 111, 112, 114, 115, 116, 117, 118, 57, 58, 59, 119, 120, 195, 196, 197, 198, 54, 199, 200, 201, 46, 47, 48, 49, 50, 51, 52, 53, 56, 60, 61, 62, 63, 64, 272, 273, 255, 256, 257, 258, 259, 260, 261, 262, 263, 264, 265, 266, 274, 275] rfl (by decide +kernel)
set_option maxRecDepth 20000 in
theorem gX6_digest_X2_bestDayOf : GoodIn wsX6_digest (wsV RX6 320 RX2 yX2_bestDayOf wsX2_bestDayOf) := goodIn_app (goodIn_of _ (by decide +kernel)) ggX6_digest_X2_bestDayOf
set_option maxRecDepth 20000 in
theorem ggX6_digest_X6_figureOfGuest : GoodIn wsX6_digest wsX6_figureOfGuest := goodIn_r _ [205, 3, 206, 207, 146, 31, 16, 32, 208, 209, 210, 24, 211, 185, 186, 187, 188, 189, 131, 132, 133, 134, 30, 44, 45, 248, 249, 250, 251, 252, 253, 254, 255, 256, 257, 258, 259, 260, 261, 262, 263, 264, 265, 266] rfl (by decide +kernel)
set_option maxRecDepth 20000 in
theorem gX6_digest_X6_figureOfGuest : GoodIn wsX6_digest (wsV RX6 298 RX6 yX6_figureOfGuest wsX6_figureOfGuest) := goodIn_app (goodIn_of _ (by decide +kernel)) ggX6_digest_X6_figureOfGuest
set_option maxRecDepth 20000 in
theorem ggX6_digest_X6_figureOfDay : GoodIn wsX6_digest wsX6_figureOfDay := goodIn_r _ [215, 3, 6, 216, 132, 133, 24, 134, 30, 44, 16, 45, 31, 32, 217, 74, 75, 76, 77, 218, 39, 40, 36, 41, 42, 43, 46, 47, 48, 49, 50, 51, 52, 53, 54, 55, 56, 57, 58, 59, 60, 61, 62, 63, 64, 219, 180, 181, 182, 183, 184, 185, 186, 187, 188, 189, 220, 221, 222, 223, 248, 249, 250, 251, 252, 253, 254, 255, 256, 257, 258, 259, 260, 261, 262, 263, 264, 265, 266, 272, 273] rfl (by decide +kernel)
set_option maxRecDepth 20000 in
theorem gX6_digest_X6_figureOfDay : GoodIn wsX6_digest (wsV RX6 303 RX6 yX6_figureOfDay wsX6_figureOfDay) := goodIn_app (goodIn_of _ (by decide +kernel)) ggX6_digest_X6_figureOfDay
set_option maxRecDepth 20000 in
theorem ggX6_digest_X6_cellOf : GoodIn wsX6_digest wsX6_cellOf := goodIn_r _ [45] rfl (by decide +kernel)
set_option maxRecDepth 20000 in
theorem gX6_digest_X6_cellOf : GoodIn wsX6_digest (va_wsS RX6 188 yX6_cellOf wsX6_cellOf) := goodIn_app (goodIn_of _ (by decide +kernel)) ggX6_digest_X6_cellOf
set_option maxRecDepth 20000 in
theorem ggX6_digest_X1_sourceDay : GoodIn wsX6_digest wsX1_sourceDay := goodIn_r _ [228, 113, 97, 31, 16, 32, 93, 94, 95, 86, 96, 98, 99, 100, 101, 102, 103, 104, 105, 24, 106, 107, 82, 108, 109, 110, 111, 112, 44, 45, 114, 115, 116, 117, 118, 57, 58, 59, 119, 120, 121, 122, 255, 256, 257, 258, 259, 260, 261, 262, 263, 264, 265, 266, 274, 275] rfl (by decide +kernel)
set_option maxRecDepth 20000 in
theorem gX6_digest_X1_sourceDay : GoodIn wsX6_digest (wsV RX6 306 RX1 yX1_sourceDay wsX1_sourceDay) := goodIn_app (goodIn_of _ (by decide +kernel)) ggX6_digest_X1_sourceDay
set_option maxRecDepth 20000 in
theorem ggX6_digest_X2_bestDish : GoodIn wsX6_digest wsX2_bestDish := goodIn_r _ [232, 42, 233, 168, 169, 170, 36, 171, 43, 167, 172, 55, 173, 44, 16, 45, 31, 32, 174, 175, 176, 24, 177, 178, 179, 180, 181, 182, 183, 184, 185, 186, 187, 188, 189, 190, 70, 71, 72, 73, 74, 75, 76, 30, 77, 191, 192, 193, 86, 194, 113, 103, 104, 105, 106, 107, 82, 93, 94, 95, 96, 97, 98, 99, 100, 101, 102, 121, 122, 108, 109, 110, 111, 112, 114, 115, 116, 117, 118, 57, 58, 59, 119, 120, 234, 235, 236, 237, 46, 47, 48, 49, 50, 51, 52, 53, 54, 56, 60, 61, 62, 63, 64, 272, 273, 255, 256, 257, 258, 259, 260, 261, 262, 263, 264, 265, 266, 274, 275] rfl (by decide +kernel)
set_option maxRecDepth 20000 in
theorem gX6_digest_X2_bestDish : GoodIn wsX6_digest (wsV RX6 216 RX2 yX2_bestDish wsX2_bestDish) := goodIn_app (goodIn_of _ (by decide +kernel)) ggX6_digest_X2_bestDish
set_option maxRecDepth 20000 in
theorem ggX6_digest_X6_usedShare : GoodIn wsX6_digest wsX6_usedShare := goodIn_r _ [241, 3, 9, 78, 79, 80, 24, 81, 82, 30, 31, 16, 32, 83, 84, 85, 86, 87, 88, 89, 90, 91, 92, 93, 94, 95, 96, 97, 98, 99, 100, 101, 102, 103, 104, 105, 106, 107, 108, 109, 110, 111, 112, 113, 44, 45, 114, 115, 116, 117, 118, 57, 58, 59, 119, 120, 121, 122, 123, 124, 125, 126, 248, 249, 250, 251, 252, 253, 254, 255, 256, 257, 258, 259, 260, 261, 262, 263, 264, 265, 266, 274, 275] rfl (by decide +kernel)
set_option maxRecDepth 20000 in
theorem gX6_digest_X6_usedShare : GoodIn wsX6_digest (wsV RX6 334 RX6 yX6_usedShare wsX6_usedShare) := goodIn_app (goodIn_of _ (by decide +kernel)) ggX6_digest_X6_usedShare
set_option maxRecDepth 20000 in
theorem ggX6_digest_X6_bitsOfShare : GoodIn wsX6_digest wsX6_bitsOfShare := goodIn_r _ [244, 245, 246, 247] rfl (by decide +kernel)
set_option maxRecDepth 20000 in
theorem gX6_digest_X6_bitsOfShare : GoodIn wsX6_digest (va_wsS RX6 338 yX6_bitsOfShare wsX6_bitsOfShare) := goodIn_app (goodIn_of _ (by decide +kernel)) ggX6_digest_X6_bitsOfShare
theorem dX6_digest_0 : decode cX6_digest 0 = .ok (.ldc2_w 330, 3) := by decide +kernel
theorem dX6_digest_3 : decode cX6_digest 3 = .ok (.lstore_n 1, 1) := by decide +kernel
theorem dX6_digest_4 : decode cX6_digest 4 = .ok (.iconst 0, 1) := by decide +kernel
theorem dX6_digest_5 : decode cX6_digest 5 = .ok (.istore_n 3, 1) := by decide +kernel
theorem dX6_digest_6 : decode cX6_digest 6 = .ok (.iload_n 3, 1) := by decide +kernel
theorem dX6_digest_7 : decode cX6_digest 7 = .ok (.bipush 13, 2) := by decide +kernel
theorem dX6_digest_9 : decode cX6_digest 9 = .ok (.if_icmp .gt 22, 3) := by decide +kernel
theorem dX6_digest_12 : decode cX6_digest 12 = .ok (.ldc2_w 332, 3) := by decide +kernel
theorem dX6_digest_15 : decode cX6_digest 15 = .ok (.lload_n 1, 1) := by decide +kernel
theorem dX6_digest_16 : decode cX6_digest 16 = .ok (.lmul, 1) := by decide +kernel
theorem dX6_digest_17 : decode cX6_digest 17 = .ok (.aload_n 0, 1) := by decide +kernel
theorem dX6_digest_18 : decode cX6_digest 18 = .ok (.iload_n 3, 1) := by decide +kernel
theorem dX6_digest_19 : decode cX6_digest 19 = .ok (.invokevirtual 312, 3) := by decide +kernel
theorem dX6_digest_22 : decode cX6_digest 22 = .ok (.i2l, 1) := by decide +kernel
theorem dX6_digest_23 : decode cX6_digest 23 = .ok (.ladd, 1) := by decide +kernel
theorem dX6_digest_24 : decode cX6_digest 24 = .ok (.lstore_n 1, 1) := by decide +kernel
theorem dX6_digest_25 : decode cX6_digest 25 = .ok (.iinc 3 1, 3) := by decide +kernel
theorem dX6_digest_28 : decode cX6_digest 28 = .ok (.goto (-22), 3) := by decide +kernel
theorem dX6_digest_31 : decode cX6_digest 31 = .ok (.iconst 0, 1) := by decide +kernel
theorem dX6_digest_32 : decode cX6_digest 32 = .ok (.istore_n 3, 1) := by decide +kernel
theorem dX6_digest_33 : decode cX6_digest 33 = .ok (.iload_n 3, 1) := by decide +kernel
theorem dX6_digest_34 : decode cX6_digest 34 = .ok (.iconst 3, 1) := by decide +kernel
theorem dX6_digest_35 : decode cX6_digest 35 = .ok (.if_icmp .ge 28, 3) := by decide +kernel
theorem dX6_digest_38 : decode cX6_digest 38 = .ok (.ldc2_w 332, 3) := by decide +kernel
theorem dX6_digest_41 : decode cX6_digest 41 = .ok (.lload_n 1, 1) := by decide +kernel
theorem dX6_digest_42 : decode cX6_digest 42 = .ok (.lmul, 1) := by decide +kernel
theorem dX6_digest_43 : decode cX6_digest 43 = .ok (.aload_n 0, 1) := by decide +kernel
theorem dX6_digest_44 : decode cX6_digest 44 = .ok (.getfield 10, 3) := by decide +kernel
theorem dX6_digest_47 : decode cX6_digest 47 = .ok (.getfield 163, 3) := by decide +kernel
theorem dX6_digest_50 : decode cX6_digest 50 = .ok (.iload_n 3, 1) := by decide +kernel
theorem dX6_digest_51 : decode cX6_digest 51 = .ok (.invokestatic 115, 3) := by decide +kernel
theorem dX6_digest_54 : decode cX6_digest 54 = .ok (.i2l, 1) := by decide +kernel
theorem dX6_digest_55 : decode cX6_digest 55 = .ok (.ladd, 1) := by decide +kernel
theorem dX6_digest_56 : decode cX6_digest 56 = .ok (.lstore_n 1, 1) := by decide +kernel
theorem dX6_digest_57 : decode cX6_digest 57 = .ok (.iinc 3 1, 3) := by decide +kernel
theorem dX6_digest_60 : decode cX6_digest 60 = .ok (.goto (-27), 3) := by decide +kernel
theorem dX6_digest_63 : decode cX6_digest 63 = .ok (.iconst 0, 1) := by decide +kernel
theorem dX6_digest_64 : decode cX6_digest 64 = .ok (.istore_n 3, 1) := by decide +kernel
theorem dX6_digest_65 : decode cX6_digest 65 = .ok (.iload_n 3, 1) := by decide +kernel
theorem dX6_digest_66 : decode cX6_digest 66 = .ok (.aload_n 0, 1) := by decide +kernel
theorem dX6_digest_67 : decode cX6_digest 67 = .ok (.getfield 10, 3) := by decide +kernel
theorem dX6_digest_70 : decode cX6_digest 70 = .ok (.getfield 67, 3) := by decide +kernel
theorem dX6_digest_73 : decode cX6_digest 73 = .ok (.if_icmp .ge 56, 3) := by decide +kernel
theorem dX6_digest_76 : decode cX6_digest 76 = .ok (.iconst 0, 1) := by decide +kernel
theorem dX6_digest_77 : decode cX6_digest 77 = .ok (.istore 4, 2) := by decide +kernel
theorem dX6_digest_79 : decode cX6_digest 79 = .ok (.iload 4, 2) := by decide +kernel
theorem dX6_digest_81 : decode cX6_digest 81 = .ok (.bipush 8, 2) := by decide +kernel
theorem dX6_digest_83 : decode cX6_digest 83 = .ok (.if_icmp .gt 24, 3) := by decide +kernel
theorem dX6_digest_86 : decode cX6_digest 86 = .ok (.ldc2_w 332, 3) := by decide +kernel
theorem dX6_digest_89 : decode cX6_digest 89 = .ok (.lload_n 1, 1) := by decide +kernel
theorem dX6_digest_90 : decode cX6_digest 90 = .ok (.lmul, 1) := by decide +kernel
theorem dX6_digest_91 : decode cX6_digest 91 = .ok (.aload_n 0, 1) := by decide +kernel
theorem dX6_digest_92 : decode cX6_digest 92 = .ok (.iload_n 3, 1) := by decide +kernel
theorem dX6_digest_93 : decode cX6_digest 93 = .ok (.iload 4, 2) := by decide +kernel
theorem dX6_digest_95 : decode cX6_digest 95 = .ok (.invokevirtual 293, 3) := by decide +kernel
theorem dX6_digest_98 : decode cX6_digest 98 = .ok (.i2l, 1) := by decide +kernel
theorem dX6_digest_99 : decode cX6_digest 99 = .ok (.ladd, 1) := by decide +kernel
theorem dX6_digest_100 : decode cX6_digest 100 = .ok (.lstore_n 1, 1) := by decide +kernel
theorem dX6_digest_101 : decode cX6_digest 101 = .ok (.iinc 4 1, 3) := by decide +kernel
theorem dX6_digest_104 : decode cX6_digest 104 = .ok (.goto (-25), 3) := by decide +kernel
theorem dX6_digest_107 : decode cX6_digest 107 = .ok (.ldc2_w 332, 3) := by decide +kernel
theorem dX6_digest_110 : decode cX6_digest 110 = .ok (.lload_n 1, 1) := by decide +kernel
theorem dX6_digest_111 : decode cX6_digest 111 = .ok (.lmul, 1) := by decide +kernel
theorem dX6_digest_112 : decode cX6_digest 112 = .ok (.aload_n 0, 1) := by decide +kernel
theorem dX6_digest_113 : decode cX6_digest 113 = .ok (.getfield 31, 3) := by decide +kernel
theorem dX6_digest_116 : decode cX6_digest 116 = .ok (.iload_n 3, 1) := by decide +kernel
theorem dX6_digest_117 : decode cX6_digest 117 = .ok (.invokevirtual 320, 3) := by decide +kernel
theorem dX6_digest_120 : decode cX6_digest 120 = .ok (.i2l, 1) := by decide +kernel
theorem dX6_digest_121 : decode cX6_digest 121 = .ok (.ladd, 1) := by decide +kernel
theorem dX6_digest_122 : decode cX6_digest 122 = .ok (.lstore_n 1, 1) := by decide +kernel
theorem dX6_digest_123 : decode cX6_digest 123 = .ok (.iinc 3 1, 3) := by decide +kernel
theorem dX6_digest_126 : decode cX6_digest 126 = .ok (.goto (-61), 3) := by decide +kernel
theorem dX6_digest_129 : decode cX6_digest 129 = .ok (.iconst 0, 1) := by decide +kernel
theorem dX6_digest_130 : decode cX6_digest 130 = .ok (.istore_n 3, 1) := by decide +kernel
theorem dX6_digest_131 : decode cX6_digest 131 = .ok (.iload_n 3, 1) := by decide +kernel
theorem dX6_digest_132 : decode cX6_digest 132 = .ok (.aload_n 0, 1) := by decide +kernel
theorem dX6_digest_133 : decode cX6_digest 133 = .ok (.getfield 10, 3) := by decide +kernel
theorem dX6_digest_136 : decode cX6_digest 136 = .ok (.getfield 122, 3) := by decide +kernel
theorem dX6_digest_139 : decode cX6_digest 139 = .ok (.if_icmp .ge 39, 3) := by decide +kernel
theorem dX6_digest_142 : decode cX6_digest 142 = .ok (.iconst 0, 1) := by decide +kernel
theorem dX6_digest_143 : decode cX6_digest 143 = .ok (.istore 4, 2) := by decide +kernel
theorem dX6_digest_145 : decode cX6_digest 145 = .ok (.iload 4, 2) := by decide +kernel
theorem dX6_digest_147 : decode cX6_digest 147 = .ok (.iconst 2, 1) := by decide +kernel
theorem dX6_digest_148 : decode cX6_digest 148 = .ok (.if_icmp .gt 24, 3) := by decide +kernel
theorem dX6_digest_151 : decode cX6_digest 151 = .ok (.ldc2_w 332, 3) := by decide +kernel
theorem dX6_digest_154 : decode cX6_digest 154 = .ok (.lload_n 1, 1) := by decide +kernel
theorem dX6_digest_155 : decode cX6_digest 155 = .ok (.lmul, 1) := by decide +kernel
theorem dX6_digest_156 : decode cX6_digest 156 = .ok (.aload_n 0, 1) := by decide +kernel
theorem dX6_digest_157 : decode cX6_digest 157 = .ok (.iload_n 3, 1) := by decide +kernel
theorem dX6_digest_158 : decode cX6_digest 158 = .ok (.iload 4, 2) := by decide +kernel
theorem dX6_digest_160 : decode cX6_digest 160 = .ok (.invokevirtual 298, 3) := by decide +kernel
theorem dX6_digest_163 : decode cX6_digest 163 = .ok (.i2l, 1) := by decide +kernel
theorem dX6_digest_164 : decode cX6_digest 164 = .ok (.ladd, 1) := by decide +kernel
theorem dX6_digest_165 : decode cX6_digest 165 = .ok (.lstore_n 1, 1) := by decide +kernel
theorem dX6_digest_166 : decode cX6_digest 166 = .ok (.iinc 4 1, 3) := by decide +kernel
theorem dX6_digest_169 : decode cX6_digest 169 = .ok (.goto (-24), 3) := by decide +kernel
theorem dX6_digest_172 : decode cX6_digest 172 = .ok (.iinc 3 1, 3) := by decide +kernel
theorem dX6_digest_175 : decode cX6_digest 175 = .ok (.goto (-44), 3) := by decide +kernel
theorem dX6_digest_178 : decode cX6_digest 178 = .ok (.iconst 0, 1) := by decide +kernel
theorem dX6_digest_179 : decode cX6_digest 179 = .ok (.istore_n 3, 1) := by decide +kernel
theorem dX6_digest_180 : decode cX6_digest 180 = .ok (.iload_n 3, 1) := by decide +kernel
theorem dX6_digest_181 : decode cX6_digest 181 = .ok (.bipush 28, 2) := by decide +kernel
theorem dX6_digest_183 : decode cX6_digest 183 = .ok (.if_icmp .ge 121, 3) := by decide +kernel
theorem dX6_digest_186 : decode cX6_digest 186 = .ok (.iconst 0, 1) := by decide +kernel
theorem dX6_digest_187 : decode cX6_digest 187 = .ok (.istore 4, 2) := by decide +kernel
theorem dX6_digest_189 : decode cX6_digest 189 = .ok (.iload 4, 2) := by decide +kernel
theorem dX6_digest_191 : decode cX6_digest 191 = .ok (.iconst 4, 1) := by decide +kernel
theorem dX6_digest_192 : decode cX6_digest 192 = .ok (.if_icmp .gt 24, 3) := by decide +kernel
theorem dX6_digest_195 : decode cX6_digest 195 = .ok (.ldc2_w 332, 3) := by decide +kernel
theorem dX6_digest_198 : decode cX6_digest 198 = .ok (.lload_n 1, 1) := by decide +kernel
theorem dX6_digest_199 : decode cX6_digest 199 = .ok (.lmul, 1) := by decide +kernel
theorem dX6_digest_200 : decode cX6_digest 200 = .ok (.aload_n 0, 1) := by decide +kernel
theorem dX6_digest_201 : decode cX6_digest 201 = .ok (.iload_n 3, 1) := by decide +kernel
theorem dX6_digest_202 : decode cX6_digest 202 = .ok (.iload 4, 2) := by decide +kernel
theorem dX6_digest_204 : decode cX6_digest 204 = .ok (.invokevirtual 303, 3) := by decide +kernel
theorem dX6_digest_207 : decode cX6_digest 207 = .ok (.i2l, 1) := by decide +kernel
theorem dX6_digest_208 : decode cX6_digest 208 = .ok (.ladd, 1) := by decide +kernel
theorem dX6_digest_209 : decode cX6_digest 209 = .ok (.lstore_n 1, 1) := by decide +kernel
theorem dX6_digest_210 : decode cX6_digest 210 = .ok (.iinc 4 1, 3) := by decide +kernel
theorem dX6_digest_213 : decode cX6_digest 213 = .ok (.goto (-24), 3) := by decide +kernel
theorem dX6_digest_216 : decode cX6_digest 216 = .ok (.iconst 0, 1) := by decide +kernel
theorem dX6_digest_217 : decode cX6_digest 217 = .ok (.istore 4, 2) := by decide +kernel
theorem dX6_digest_219 : decode cX6_digest 219 = .ok (.iload 4, 2) := by decide +kernel
theorem dX6_digest_221 : decode cX6_digest 221 = .ok (.iconst 3, 1) := by decide +kernel
theorem dX6_digest_222 : decode cX6_digest 222 = .ok (.if_icmp .ge 76, 3) := by decide +kernel
theorem dX6_digest_225 : decode cX6_digest 225 = .ok (.ldc2_w 332, 3) := by decide +kernel
theorem dX6_digest_228 : decode cX6_digest 228 = .ok (.lload_n 1, 1) := by decide +kernel
theorem dX6_digest_229 : decode cX6_digest 229 = .ok (.lmul, 1) := by decide +kernel
theorem dX6_digest_230 : decode cX6_digest 230 = .ok (.aload_n 0, 1) := by decide +kernel
theorem dX6_digest_231 : decode cX6_digest 231 = .ok (.getfield 10, 3) := by decide +kernel
theorem dX6_digest_234 : decode cX6_digest 234 = .ok (.getfield 185, 3) := by decide +kernel
theorem dX6_digest_237 : decode cX6_digest 237 = .ok (.iload_n 3, 1) := by decide +kernel
theorem dX6_digest_238 : decode cX6_digest 238 = .ok (.iload 4, 2) := by decide +kernel
theorem dX6_digest_240 : decode cX6_digest 240 = .ok (.invokestatic 188, 3) := by decide +kernel
theorem dX6_digest_243 : decode cX6_digest 243 = .ok (.invokestatic 115, 3) := by decide +kernel
theorem dX6_digest_246 : decode cX6_digest 246 = .ok (.i2l, 1) := by decide +kernel
theorem dX6_digest_247 : decode cX6_digest 247 = .ok (.ladd, 1) := by decide +kernel
theorem dX6_digest_248 : decode cX6_digest 248 = .ok (.lstore_n 1, 1) := by decide +kernel
theorem dX6_digest_249 : decode cX6_digest 249 = .ok (.ldc2_w 332, 3) := by decide +kernel
theorem dX6_digest_252 : decode cX6_digest 252 = .ok (.lload_n 1, 1) := by decide +kernel
theorem dX6_digest_253 : decode cX6_digest 253 = .ok (.lmul, 1) := by decide +kernel
theorem dX6_digest_254 : decode cX6_digest 254 = .ok (.aload_n 0, 1) := by decide +kernel
theorem dX6_digest_255 : decode cX6_digest 255 = .ok (.getfield 22, 3) := by decide +kernel
theorem dX6_digest_258 : decode cX6_digest 258 = .ok (.aload_n 0, 1) := by decide +kernel
theorem dX6_digest_259 : decode cX6_digest 259 = .ok (.getfield 10, 3) := by decide +kernel
theorem dX6_digest_262 : decode cX6_digest 262 = .ok (.iload_n 3, 1) := by decide +kernel
theorem dX6_digest_263 : decode cX6_digest 263 = .ok (.iload 4, 2) := by decide +kernel
theorem dX6_digest_265 : decode cX6_digest 265 = .ok (.invokestatic 188, 3) := by decide +kernel
theorem dX6_digest_268 : decode cX6_digest 268 = .ok (.invokevirtual 306, 3) := by decide +kernel
theorem dX6_digest_271 : decode cX6_digest 271 = .ok (.i2l, 1) := by decide +kernel
theorem dX6_digest_272 : decode cX6_digest 272 = .ok (.ladd, 1) := by decide +kernel
theorem dX6_digest_273 : decode cX6_digest 273 = .ok (.lstore_n 1, 1) := by decide +kernel
theorem dX6_digest_274 : decode cX6_digest 274 = .ok (.ldc2_w 332, 3) := by decide +kernel
theorem dX6_digest_277 : decode cX6_digest 277 = .ok (.lload_n 1, 1) := by decide +kernel
theorem dX6_digest_278 : decode cX6_digest 278 = .ok (.lmul, 1) := by decide +kernel
theorem dX6_digest_279 : decode cX6_digest 279 = .ok (.aload_n 0, 1) := by decide +kernel
theorem dX6_digest_280 : decode cX6_digest 280 = .ok (.getfield 31, 3) := by decide +kernel
theorem dX6_digest_283 : decode cX6_digest 283 = .ok (.iload_n 3, 1) := by decide +kernel
theorem dX6_digest_284 : decode cX6_digest 284 = .ok (.iload 4, 2) := by decide +kernel
theorem dX6_digest_286 : decode cX6_digest 286 = .ok (.invokevirtual 216, 3) := by decide +kernel
theorem dX6_digest_289 : decode cX6_digest 289 = .ok (.i2l, 1) := by decide +kernel
theorem dX6_digest_290 : decode cX6_digest 290 = .ok (.ladd, 1) := by decide +kernel
theorem dX6_digest_291 : decode cX6_digest 291 = .ok (.lstore_n 1, 1) := by decide +kernel
theorem dX6_digest_292 : decode cX6_digest 292 = .ok (.iinc 4 1, 3) := by decide +kernel
theorem dX6_digest_295 : decode cX6_digest 295 = .ok (.goto (-76), 3) := by decide +kernel
theorem dX6_digest_298 : decode cX6_digest 298 = .ok (.iinc 3 1, 3) := by decide +kernel
theorem dX6_digest_301 : decode cX6_digest 301 = .ok (.goto (-121), 3) := by decide +kernel
theorem dX6_digest_304 : decode cX6_digest 304 = .ok (.ldc2_w 332, 3) := by decide +kernel
theorem dX6_digest_307 : decode cX6_digest 307 = .ok (.lload_n 1, 1) := by decide +kernel
theorem dX6_digest_308 : decode cX6_digest 308 = .ok (.lmul, 1) := by decide +kernel
theorem dX6_digest_309 : decode cX6_digest 309 = .ok (.aload_n 0, 1) := by decide +kernel
theorem dX6_digest_310 : decode cX6_digest 310 = .ok (.invokevirtual 334, 3) := by decide +kernel
theorem dX6_digest_313 : decode cX6_digest 313 = .ok (.invokestatic 338, 3) := by decide +kernel
theorem dX6_digest_316 : decode cX6_digest 316 = .ok (.ladd, 1) := by decide +kernel
theorem dX6_digest_317 : decode cX6_digest 317 = .ok (.lstore_n 1, 1) := by decide +kernel
theorem dX6_digest_318 : decode cX6_digest 318 = .ok (.ldc2_w 332, 3) := by decide +kernel
theorem dX6_digest_321 : decode cX6_digest 321 = .ok (.lload_n 1, 1) := by decide +kernel
theorem dX6_digest_322 : decode cX6_digest 322 = .ok (.lmul, 1) := by decide +kernel
theorem dX6_digest_323 : decode cX6_digest 323 = .ok (.aload_n 0, 1) := by decide +kernel
theorem dX6_digest_324 : decode cX6_digest 324 = .ok (.getfield 52, 3) := by decide +kernel
theorem dX6_digest_327 : decode cX6_digest 327 = .ok (.getfield 230, 3) := by decide +kernel
theorem dX6_digest_330 : decode cX6_digest 330 = .ok (.i2l, 1) := by decide +kernel
theorem dX6_digest_331 : decode cX6_digest 331 = .ok (.ladd, 1) := by decide +kernel
theorem dX6_digest_332 : decode cX6_digest 332 = .ok (.lstore_n 1, 1) := by decide +kernel
theorem dX6_digest_333 : decode cX6_digest 333 = .ok (.iconst 0, 1) := by decide +kernel
theorem dX6_digest_334 : decode cX6_digest 334 = .ok (.istore_n 3, 1) := by decide +kernel
theorem dX6_digest_335 : decode cX6_digest 335 = .ok (.iload_n 3, 1) := by decide +kernel
theorem dX6_digest_336 : decode cX6_digest 336 = .ok (.aload_n 0, 1) := by decide +kernel
theorem dX6_digest_337 : decode cX6_digest 337 = .ok (.getfield 52, 3) := by decide +kernel
theorem dX6_digest_340 : decode cX6_digest 340 = .ok (.getfield 230, 3) := by decide +kernel
theorem dX6_digest_343 : decode cX6_digest 343 = .ok (.if_icmp .ge 28, 3) := by decide +kernel
theorem dX6_digest_346 : decode cX6_digest 346 = .ok (.ldc2_w 332, 3) := by decide +kernel
theorem dX6_digest_349 : decode cX6_digest 349 = .ok (.lload_n 1, 1) := by decide +kernel
theorem dX6_digest_350 : decode cX6_digest 350 = .ok (.lmul, 1) := by decide +kernel
theorem dX6_digest_351 : decode cX6_digest 351 = .ok (.aload_n 0, 1) := by decide +kernel
theorem dX6_digest_352 : decode cX6_digest 352 = .ok (.getfield 52, 3) := by decide +kernel
theorem dX6_digest_355 : decode cX6_digest 355 = .ok (.getfield 342, 3) := by decide +kernel
theorem dX6_digest_358 : decode cX6_digest 358 = .ok (.iload_n 3, 1) := by decide +kernel
theorem dX6_digest_359 : decode cX6_digest 359 = .ok (.invokestatic 115, 3) := by decide +kernel
theorem dX6_digest_362 : decode cX6_digest 362 = .ok (.i2l, 1) := by decide +kernel
theorem dX6_digest_363 : decode cX6_digest 363 = .ok (.ladd, 1) := by decide +kernel
theorem dX6_digest_364 : decode cX6_digest 364 = .ok (.lstore_n 1, 1) := by decide +kernel
theorem dX6_digest_365 : decode cX6_digest 365 = .ok (.iinc 3 1, 3) := by decide +kernel
theorem dX6_digest_368 : decode cX6_digest 368 = .ok (.goto (-33), 3) := by decide +kernel
theorem dX6_digest_371 : decode cX6_digest 371 = .ok (.lload_n 1, 1) := by decide +kernel
theorem dX6_digest_372 : decode cX6_digest 372 = .ok (.lreturn, 1) := by decide +kernel
set_option maxRecDepth 20000 in
theorem ggX6_figureOfAll_X5_planCount : GoodIn wsX6_figureOfAll wsX5_planCount := goodIn_r _ [13, 14, 15, 16, 12, 17, 18, 19, 20, 21, 142, 143, 144, 145, 146, 147, 148, 149, 150, 151, 152, 153] rfl (by decide +kernel)
set_option maxRecDepth 20000 in
theorem gX6_figureOfAll_X5_planCount : GoodIn wsX6_figureOfAll (wsV RX6 219 RX5 yX5_planCount wsX5_planCount) := goodIn_app (goodIn_of _ (by decide +kernel)) ggX6_figureOfAll_X5_planCount
set_option maxRecDepth 20000 in
theorem ggX6_figureOfAll_X2_joyOfPlan : GoodIn wsX6_figureOfAll wsX2_joyOfPlan := goodIn_r _ [26, 27, 28, 29, 25, 30, 31, 32, 33, 20, 34, 19, 21, 35, 36, 37, 38, 39, 40, 41, 42, 43, 44, 45, 46, 47, 48, 49, 50, 51, 52, 53, 157, 158, 142, 143, 144, 145, 146, 147, 148, 149, 150, 151, 152, 153] rfl (by decide +kernel)
set_option maxRecDepth 20000 in
theorem gX6_figureOfAll_X2_joyOfPlan : GoodIn wsX6_figureOfAll (wsV RX6 213 RX2 yX2_joyOfPlan wsX2_joyOfPlan) := goodIn_app (goodIn_of _ (by decide +kernel)) ggX6_figureOfAll_X2_joyOfPlan
set_option maxRecDepth 20000 in
theorem ggX6_figureOfAll_X5_planCost : GoodIn wsX6_figureOfAll wsX5_planCost := goodIn_r _ [57, 58, 59, 60, 12, 61, 62, 63, 64, 65, 18, 66, 33, 20, 34, 19, 21, 142, 143, 144, 145, 146, 147, 148, 149, 150, 151, 152, 153] rfl (by decide +kernel)
set_option maxRecDepth 20000 in
theorem gX6_figureOfAll_X5_planCost : GoodIn wsX6_figureOfAll (wsV RX6 345 RX5 yX5_planCost wsX5_planCost) := goodIn_app (goodIn_of _ (by decide +kernel)) ggX6_figureOfAll_X5_planCost
set_option maxRecDepth 20000 in
theorem ggX6_figureOfAll_X5_sourceCount : GoodIn wsX6_figureOfAll wsX5_sourceCount := goodIn_r _ [70, 71, 18, 19, 20, 21, 142, 143, 144, 145, 146, 147, 148, 149, 150, 151, 152, 153] rfl (by decide +kernel)
set_option maxRecDepth 20000 in
theorem gX6_figureOfAll_X5_sourceCount : GoodIn wsX6_figureOfAll (wsV RX6 323 RX5 yX5_sourceCount wsX5_sourceCount) := goodIn_app (goodIn_of _ (by decide +kernel)) ggX6_figureOfAll_X5_sourceCount
set_option maxRecDepth 20000 in
theorem ggX6_figureOfAll_X1_wastedOfAll : GoodIn wsX6_figureOfAll wsX1_wastedOfAll := goodIn_r _ [76, 77, 78, 79, 80, 75, 81, 82, 83, 84, 85, 86, 87, 88, 89, 90, 91, 92, 93, 94, 12, 95, 96, 71, 19, 20, 21, 97, 98, 99, 100, 101, 102, 33, 34, 103, 104, 105, 106, 107, 46, 47, 48, 108, 109, 110, 111, 112, 113, 114, 115, 142, 143, 144, 145, 146, 147, 148, 149, 150, 151, 152, 153, 159, 160] rfl (by decide +kernel)
set_option maxRecDepth 20000 in
theorem gX6_figureOfAll_X1_wastedOfAll : GoodIn wsX6_figureOfAll (wsV RX6 326 RX1 yX1_wastedOfAll wsX1_wastedOfAll) := goodIn_app (goodIn_of _ (by decide +kernel)) ggX6_figureOfAll_X1_wastedOfAll
set_option maxRecDepth 20000 in
theorem ggX6_figureOfAll_X5_wholeMeals : GoodIn wsX6_figureOfAll wsX5_wholeMeals := goodIn_r _ [119, 120, 121, 122, 12, 123, 18, 33, 20, 34, 19, 21, 142, 143, 144, 145, 146, 147, 148, 149, 150, 151, 152, 153] rfl (by decide +kernel)
set_option maxRecDepth 20000 in
theorem gX6_figureOfAll_X5_wholeMeals : GoodIn wsX6_figureOfAll (wsV RX6 348 RX5 yX5_wholeMeals wsX5_wholeMeals) := goodIn_app (goodIn_of _ (by decide +kernel)) ggX6_figureOfAll_X5_wholeMeals
set_option maxRecDepth 20000 in
theorem ggX6_figureOfAll_X5_weekCost : GoodIn wsX6_figureOfAll wsX5_weekCost := goodIn_r _ [61, 62, 63, 64, 12, 65, 18, 66, 33, 20, 34, 19, 21, 142, 143, 144, 145, 146, 147, 148, 149, 150, 151, 152, 153] rfl (by decide +kernel)
set_option maxRecDepth 20000 in
theorem gX6_figureOfAll_X5_weekCost : GoodIn wsX6_figureOfAll (wsV RX6 351 RX5 yX5_weekCost wsX5_weekCost) := goodIn_app (goodIn_of _ (by decide +kernel)) ggX6_figureOfAll_X5_weekCost
set_option maxRecDepth 20000 in
theorem ggX6_figureOfAll_X4_takenCount : GoodIn wsX6_figureOfAll wsX4_takenCount := goodIn_r _ [129, 130, 131, 132, 128, 133, 134, 161, 162] rfl (by decide +kernel)
set_option maxRecDepth 20000 in
theorem gX6_figureOfAll_X4_takenCount : GoodIn wsX6_figureOfAll (wsV RX6 354 RX4 yX4_takenCount wsX4_takenCount) := goodIn_app (goodIn_of _ (by decide +kernel)) ggX6_figureOfAll_X4_takenCount
theorem dX6_figureOfAll_0 : decode cX6_figureOfAll 0 = .ok (.iload_n 1, 1) := by decide +kernel
theorem dX6_figureOfAll_1 : decode cX6_figureOfAll 1 = .ok (.tableswitch 167 0 13 #[71, 79, 87, 95, 103, 111, 119, 131, 139, 139, 139, 139, 151, 159], 71) := by decide +kernel
theorem dX6_figureOfAll_72 : decode cX6_figureOfAll 72 = .ok (.aload_n 0, 1) := by decide +kernel
theorem dX6_figureOfAll_73 : decode cX6_figureOfAll 73 = .ok (.getfield 10, 3) := by decide +kernel
theorem dX6_figureOfAll_76 : decode cX6_figureOfAll 76 = .ok (.getfield 67, 3) := by decide +kernel
theorem dX6_figureOfAll_79 : decode cX6_figureOfAll 79 = .ok (.ireturn, 1) := by decide +kernel
theorem dX6_figureOfAll_80 : decode cX6_figureOfAll 80 = .ok (.aload_n 0, 1) := by decide +kernel
theorem dX6_figureOfAll_81 : decode cX6_figureOfAll 81 = .ok (.getfield 10, 3) := by decide +kernel
theorem dX6_figureOfAll_84 : decode cX6_figureOfAll 84 = .ok (.getfield 122, 3) := by decide +kernel
theorem dX6_figureOfAll_87 : decode cX6_figureOfAll 87 = .ok (.ireturn, 1) := by decide +kernel
theorem dX6_figureOfAll_88 : decode cX6_figureOfAll 88 = .ok (.aload_n 0, 1) := by decide +kernel
theorem dX6_figureOfAll_89 : decode cX6_figureOfAll 89 = .ok (.getfield 10, 3) := by decide +kernel
theorem dX6_figureOfAll_92 : decode cX6_figureOfAll 92 = .ok (.invokevirtual 219, 3) := by decide +kernel
theorem dX6_figureOfAll_95 : decode cX6_figureOfAll 95 = .ok (.ireturn, 1) := by decide +kernel
theorem dX6_figureOfAll_96 : decode cX6_figureOfAll 96 = .ok (.aload_n 0, 1) := by decide +kernel
theorem dX6_figureOfAll_97 : decode cX6_figureOfAll 97 = .ok (.getfield 31, 3) := by decide +kernel
theorem dX6_figureOfAll_100 : decode cX6_figureOfAll 100 = .ok (.invokevirtual 213, 3) := by decide +kernel
theorem dX6_figureOfAll_103 : decode cX6_figureOfAll 103 = .ok (.ireturn, 1) := by decide +kernel
theorem dX6_figureOfAll_104 : decode cX6_figureOfAll 104 = .ok (.aload_n 0, 1) := by decide +kernel
theorem dX6_figureOfAll_105 : decode cX6_figureOfAll 105 = .ok (.getfield 10, 3) := by decide +kernel
theorem dX6_figureOfAll_108 : decode cX6_figureOfAll 108 = .ok (.invokevirtual 345, 3) := by decide +kernel
theorem dX6_figureOfAll_111 : decode cX6_figureOfAll 111 = .ok (.ireturn, 1) := by decide +kernel
theorem dX6_figureOfAll_112 : decode cX6_figureOfAll 112 = .ok (.aload_n 0, 1) := by decide +kernel
theorem dX6_figureOfAll_113 : decode cX6_figureOfAll 113 = .ok (.getfield 10, 3) := by decide +kernel
theorem dX6_figureOfAll_116 : decode cX6_figureOfAll 116 = .ok (.invokevirtual 323, 3) := by decide +kernel
theorem dX6_figureOfAll_119 : decode cX6_figureOfAll 119 = .ok (.ireturn, 1) := by decide +kernel
theorem dX6_figureOfAll_120 : decode cX6_figureOfAll 120 = .ok (.aload_n 0, 1) := by decide +kernel
theorem dX6_figureOfAll_121 : decode cX6_figureOfAll 121 = .ok (.getfield 22, 3) := by decide +kernel
theorem dX6_figureOfAll_124 : decode cX6_figureOfAll 124 = .ok (.aload_n 0, 1) := by decide +kernel
theorem dX6_figureOfAll_125 : decode cX6_figureOfAll 125 = .ok (.getfield 10, 3) := by decide +kernel
theorem dX6_figureOfAll_128 : decode cX6_figureOfAll 128 = .ok (.invokevirtual 326, 3) := by decide +kernel
theorem dX6_figureOfAll_131 : decode cX6_figureOfAll 131 = .ok (.ireturn, 1) := by decide +kernel
theorem dX6_figureOfAll_132 : decode cX6_figureOfAll 132 = .ok (.aload_n 0, 1) := by decide +kernel
theorem dX6_figureOfAll_133 : decode cX6_figureOfAll 133 = .ok (.getfield 10, 3) := by decide +kernel
theorem dX6_figureOfAll_136 : decode cX6_figureOfAll 136 = .ok (.invokevirtual 348, 3) := by decide +kernel
theorem dX6_figureOfAll_139 : decode cX6_figureOfAll 139 = .ok (.ireturn, 1) := by decide +kernel
theorem dX6_figureOfAll_140 : decode cX6_figureOfAll 140 = .ok (.aload_n 0, 1) := by decide +kernel
theorem dX6_figureOfAll_141 : decode cX6_figureOfAll 141 = .ok (.getfield 10, 3) := by decide +kernel
theorem dX6_figureOfAll_144 : decode cX6_figureOfAll 144 = .ok (.iload_n 1, 1) := by decide +kernel
theorem dX6_figureOfAll_145 : decode cX6_figureOfAll 145 = .ok (.bipush 8, 2) := by decide +kernel
theorem dX6_figureOfAll_147 : decode cX6_figureOfAll 147 = .ok (.isub, 1) := by decide +kernel
theorem dX6_figureOfAll_148 : decode cX6_figureOfAll 148 = .ok (.invokevirtual 351, 3) := by decide +kernel
theorem dX6_figureOfAll_151 : decode cX6_figureOfAll 151 = .ok (.ireturn, 1) := by decide +kernel
theorem dX6_figureOfAll_152 : decode cX6_figureOfAll 152 = .ok (.aload_n 0, 1) := by decide +kernel
theorem dX6_figureOfAll_153 : decode cX6_figureOfAll 153 = .ok (.getfield 45, 3) := by decide +kernel
theorem dX6_figureOfAll_156 : decode cX6_figureOfAll 156 = .ok (.invokevirtual 354, 3) := by decide +kernel
theorem dX6_figureOfAll_159 : decode cX6_figureOfAll 159 = .ok (.ireturn, 1) := by decide +kernel
theorem dX6_figureOfAll_160 : decode cX6_figureOfAll 160 = .ok (.aload_n 0, 1) := by decide +kernel
theorem dX6_figureOfAll_161 : decode cX6_figureOfAll 161 = .ok (.getfield 38, 3) := by decide +kernel
theorem dX6_figureOfAll_164 : decode cX6_figureOfAll 164 = .ok (.getfield 283, 3) := by decide +kernel
theorem dX6_figureOfAll_167 : decode cX6_figureOfAll 167 = .ok (.ireturn, 1) := by decide +kernel
theorem dX6_figureOfAll_168 : decode cX6_figureOfAll 168 = .ok (.iconst (-1), 1) := by decide +kernel
theorem dX6_figureOfAll_169 : decode cX6_figureOfAll 169 = .ok (.ireturn, 1) := by decide +kernel
set_option maxRecDepth 20000 in
theorem ggX6_figureOfDish_X6_at : GoodIn wsX6_figureOfDish wsX6_at := goodIn_r _ [12] rfl (by decide +kernel)
set_option maxRecDepth 20000 in
theorem gX6_figureOfDish_X6_at : GoodIn wsX6_figureOfDish (va_wsS RX6 115 yX6_at wsX6_at) := goodIn_app (goodIn_of _ (by decide +kernel)) ggX6_figureOfDish_X6_at
set_option maxRecDepth 20000 in
theorem ggX6_figureOfDish_X5_isLeftover : GoodIn wsX6_figureOfDish wsX5_isLeftover := goodIn_r _ [17, 18, 19, 10, 11, 12, 77, 78, 79, 80, 81, 82, 83, 84, 85, 86, 87, 88] rfl (by decide +kernel)
set_option maxRecDepth 20000 in
theorem gX6_figureOfDish_X5_isLeftover : GoodIn wsX6_figureOfDish (wsV RX6 366 RX5 yX5_isLeftover wsX5_isLeftover) := goodIn_app (goodIn_of _ (by decide +kernel)) ggX6_figureOfDish_X5_isLeftover
set_option maxRecDepth 20000 in
theorem ggX6_figureOfDish_X5_timesPlanned : GoodIn wsX6_figureOfDish wsX5_timesPlanned := goodIn_r _ [23, 24, 10, 11, 12, 77, 78, 79, 80, 81, 82, 83, 84, 85, 86, 87, 88] rfl (by decide +kernel)
set_option maxRecDepth 20000 in
theorem gX6_figureOfDish_X5_timesPlanned : GoodIn wsX6_figureOfDish (wsV RX6 369 RX5 yX5_timesPlanned wsX5_timesPlanned) := goodIn_app (goodIn_of _ (by decide +kernel)) ggX6_figureOfDish_X5_timesPlanned
set_option maxRecDepth 20000 in
theorem ggX6_figureOfDish_X1_wastedOf : GoodIn wsX6_figureOfDish wsX1_wastedOf := goodIn_r _ [29, 30, 31, 32, 28, 33, 34, 35, 36, 37, 38, 39, 40, 41, 42, 43, 44, 45, 14, 15, 16, 17, 18, 19, 10, 11, 12, 46, 47, 48, 49, 50, 51, 52, 53, 54, 55, 56, 57, 58, 59, 60, 61, 62, 63, 64, 65, 66, 67, 68, 69, 77, 78, 79, 80, 81, 82, 83, 84, 85, 86, 87, 88, 89, 90] rfl (by decide +kernel)
set_option maxRecDepth 20000 in
theorem gX6_figureOfDish_X1_wastedOf : GoodIn wsX6_figureOfDish (wsV RX6 372 RX1 yX1_wastedOf wsX1_wastedOf) := goodIn_app (goodIn_of _ (by decide +kernel)) ggX6_figureOfDish_X1_wastedOf
theorem dX6_figureOfDish_0 : decode cX6_figureOfDish 0 = .ok (.iload_n 2, 1) := by decide +kernel
theorem dX6_figureOfDish_1 : decode cX6_figureOfDish 1 = .ok (.tableswitch 162 0 8 #[51, 63, 75, 87, 99, 111, 123, 140, 149], 51) := by decide +kernel
theorem dX6_figureOfDish_52 : decode cX6_figureOfDish 52 = .ok (.aload_n 0, 1) := by decide +kernel
theorem dX6_figureOfDish_53 : decode cX6_figureOfDish 53 = .ok (.getfield 10, 3) := by decide +kernel
theorem dX6_figureOfDish_56 : decode cX6_figureOfDish 56 = .ok (.getfield 176, 3) := by decide +kernel
theorem dX6_figureOfDish_59 : decode cX6_figureOfDish 59 = .ok (.iload_n 1, 1) := by decide +kernel
theorem dX6_figureOfDish_60 : decode cX6_figureOfDish 60 = .ok (.invokestatic 115, 3) := by decide +kernel
theorem dX6_figureOfDish_63 : decode cX6_figureOfDish 63 = .ok (.ireturn, 1) := by decide +kernel
theorem dX6_figureOfDish_64 : decode cX6_figureOfDish 64 = .ok (.aload_n 0, 1) := by decide +kernel
theorem dX6_figureOfDish_65 : decode cX6_figureOfDish 65 = .ok (.getfield 10, 3) := by decide +kernel
theorem dX6_figureOfDish_68 : decode cX6_figureOfDish 68 = .ok (.getfield 357, 3) := by decide +kernel
theorem dX6_figureOfDish_71 : decode cX6_figureOfDish 71 = .ok (.iload_n 1, 1) := by decide +kernel
theorem dX6_figureOfDish_72 : decode cX6_figureOfDish 72 = .ok (.invokestatic 115, 3) := by decide +kernel
theorem dX6_figureOfDish_75 : decode cX6_figureOfDish 75 = .ok (.ireturn, 1) := by decide +kernel
theorem dX6_figureOfDish_76 : decode cX6_figureOfDish 76 = .ok (.aload_n 0, 1) := by decide +kernel
theorem dX6_figureOfDish_77 : decode cX6_figureOfDish 77 = .ok (.getfield 10, 3) := by decide +kernel
theorem dX6_figureOfDish_80 : decode cX6_figureOfDish 80 = .ok (.getfield 360, 3) := by decide +kernel
theorem dX6_figureOfDish_83 : decode cX6_figureOfDish 83 = .ok (.iload_n 1, 1) := by decide +kernel
theorem dX6_figureOfDish_84 : decode cX6_figureOfDish 84 = .ok (.invokestatic 115, 3) := by decide +kernel
theorem dX6_figureOfDish_87 : decode cX6_figureOfDish 87 = .ok (.ireturn, 1) := by decide +kernel
theorem dX6_figureOfDish_88 : decode cX6_figureOfDish 88 = .ok (.aload_n 0, 1) := by decide +kernel
theorem dX6_figureOfDish_89 : decode cX6_figureOfDish 89 = .ok (.getfield 10, 3) := by decide +kernel
theorem dX6_figureOfDish_92 : decode cX6_figureOfDish 92 = .ok (.getfield 363, 3) := by decide +kernel
theorem dX6_figureOfDish_95 : decode cX6_figureOfDish 95 = .ok (.iload_n 1, 1) := by decide +kernel
theorem dX6_figureOfDish_96 : decode cX6_figureOfDish 96 = .ok (.invokestatic 115, 3) := by decide +kernel
theorem dX6_figureOfDish_99 : decode cX6_figureOfDish 99 = .ok (.ireturn, 1) := by decide +kernel
theorem dX6_figureOfDish_100 : decode cX6_figureOfDish 100 = .ok (.aload_n 0, 1) := by decide +kernel
theorem dX6_figureOfDish_101 : decode cX6_figureOfDish 101 = .ok (.getfield 10, 3) := by decide +kernel
theorem dX6_figureOfDish_104 : decode cX6_figureOfDish 104 = .ok (.getfield 98, 3) := by decide +kernel
theorem dX6_figureOfDish_107 : decode cX6_figureOfDish 107 = .ok (.iload_n 1, 1) := by decide +kernel
theorem dX6_figureOfDish_108 : decode cX6_figureOfDish 108 = .ok (.invokestatic 115, 3) := by decide +kernel
theorem dX6_figureOfDish_111 : decode cX6_figureOfDish 111 = .ok (.ireturn, 1) := by decide +kernel
theorem dX6_figureOfDish_112 : decode cX6_figureOfDish 112 = .ok (.aload_n 0, 1) := by decide +kernel
theorem dX6_figureOfDish_113 : decode cX6_figureOfDish 113 = .ok (.getfield 10, 3) := by decide +kernel
theorem dX6_figureOfDish_116 : decode cX6_figureOfDish 116 = .ok (.getfield 106, 3) := by decide +kernel
theorem dX6_figureOfDish_119 : decode cX6_figureOfDish 119 = .ok (.iload_n 1, 1) := by decide +kernel
theorem dX6_figureOfDish_120 : decode cX6_figureOfDish 120 = .ok (.invokestatic 115, 3) := by decide +kernel
theorem dX6_figureOfDish_123 : decode cX6_figureOfDish 123 = .ok (.ireturn, 1) := by decide +kernel
theorem dX6_figureOfDish_124 : decode cX6_figureOfDish 124 = .ok (.aload_n 0, 1) := by decide +kernel
theorem dX6_figureOfDish_125 : decode cX6_figureOfDish 125 = .ok (.getfield 10, 3) := by decide +kernel
theorem dX6_figureOfDish_128 : decode cX6_figureOfDish 128 = .ok (.iload_n 1, 1) := by decide +kernel
theorem dX6_figureOfDish_129 : decode cX6_figureOfDish 129 = .ok (.invokevirtual 366, 3) := by decide +kernel
theorem dX6_figureOfDish_132 : decode cX6_figureOfDish 132 = .ok (.ifCond .eq 7, 3) := by decide +kernel
theorem dX6_figureOfDish_135 : decode cX6_figureOfDish 135 = .ok (.iconst 1, 1) := by decide +kernel
theorem dX6_figureOfDish_136 : decode cX6_figureOfDish 136 = .ok (.goto 4, 3) := by decide +kernel
theorem dX6_figureOfDish_139 : decode cX6_figureOfDish 139 = .ok (.iconst 0, 1) := by decide +kernel
theorem dX6_figureOfDish_140 : decode cX6_figureOfDish 140 = .ok (.ireturn, 1) := by decide +kernel
theorem dX6_figureOfDish_141 : decode cX6_figureOfDish 141 = .ok (.aload_n 0, 1) := by decide +kernel
theorem dX6_figureOfDish_142 : decode cX6_figureOfDish 142 = .ok (.getfield 10, 3) := by decide +kernel
theorem dX6_figureOfDish_145 : decode cX6_figureOfDish 145 = .ok (.iload_n 1, 1) := by decide +kernel
theorem dX6_figureOfDish_146 : decode cX6_figureOfDish 146 = .ok (.invokevirtual 369, 3) := by decide +kernel
theorem dX6_figureOfDish_149 : decode cX6_figureOfDish 149 = .ok (.ireturn, 1) := by decide +kernel
theorem dX6_figureOfDish_150 : decode cX6_figureOfDish 150 = .ok (.aload_n 0, 1) := by decide +kernel
theorem dX6_figureOfDish_151 : decode cX6_figureOfDish 151 = .ok (.getfield 22, 3) := by decide +kernel
theorem dX6_figureOfDish_154 : decode cX6_figureOfDish 154 = .ok (.aload_n 0, 1) := by decide +kernel
theorem dX6_figureOfDish_155 : decode cX6_figureOfDish 155 = .ok (.getfield 10, 3) := by decide +kernel
theorem dX6_figureOfDish_158 : decode cX6_figureOfDish 158 = .ok (.iload_n 1, 1) := by decide +kernel
theorem dX6_figureOfDish_159 : decode cX6_figureOfDish 159 = .ok (.invokevirtual 372, 3) := by decide +kernel
theorem dX6_figureOfDish_162 : decode cX6_figureOfDish 162 = .ok (.ireturn, 1) := by decide +kernel
theorem dX6_figureOfDish_163 : decode cX6_figureOfDish 163 = .ok (.iconst (-1), 1) := by decide +kernel
theorem dX6_figureOfDish_164 : decode cX6_figureOfDish 164 = .ok (.ireturn, 1) := by decide +kernel
set_option maxRecDepth 20000 in
theorem ggX6_figureOfGuest_X6_at : GoodIn wsX6_figureOfGuest wsX6_at := goodIn_r _ [7] rfl (by decide +kernel)
set_option maxRecDepth 20000 in
theorem gX6_figureOfGuest_X6_at : GoodIn wsX6_figureOfGuest (va_wsS RX6 115 yX6_at wsX6_at) := goodIn_app (goodIn_of _ (by decide +kernel)) ggX6_figureOfGuest_X6_at
set_option maxRecDepth 20000 in
theorem ggX6_figureOfGuest_X5_dishesBefore : GoodIn wsX6_figureOfGuest wsX5_dishesBefore := goodIn_r _ [12, 13, 14, 15, 11, 16, 17, 5, 6, 7, 18, 19, 20, 21, 22, 23, 24, 32, 33, 34, 35, 36, 37, 38, 39, 40, 41, 42, 43] rfl (by decide +kernel)
set_option maxRecDepth 20000 in
theorem gX6_figureOfGuest_X5_dishesBefore : GoodIn wsX6_figureOfGuest (wsV RX6 375 RX5 yX5_dishesBefore wsX5_dishesBefore) := goodIn_app (goodIn_of _ (by decide +kernel)) ggX6_figureOfGuest_X5_dishesBefore
theorem dX6_figureOfGuest_0 : decode cX6_figureOfGuest 0 = .ok (.iload_n 2, 1) := by decide +kernel
theorem dX6_figureOfGuest_1 : decode cX6_figureOfGuest 1 = .ok (.tableswitch 60 0 2 #[27, 39, 51], 27) := by decide +kernel
theorem dX6_figureOfGuest_28 : decode cX6_figureOfGuest 28 = .ok (.aload_n 0, 1) := by decide +kernel
theorem dX6_figureOfGuest_29 : decode cX6_figureOfGuest 29 = .ok (.getfield 10, 3) := by decide +kernel
theorem dX6_figureOfGuest_32 : decode cX6_figureOfGuest 32 = .ok (.getfield 138, 3) := by decide +kernel
theorem dX6_figureOfGuest_35 : decode cX6_figureOfGuest 35 = .ok (.iload_n 1, 1) := by decide +kernel
theorem dX6_figureOfGuest_36 : decode cX6_figureOfGuest 36 = .ok (.invokestatic 115, 3) := by decide +kernel
theorem dX6_figureOfGuest_39 : decode cX6_figureOfGuest 39 = .ok (.ireturn, 1) := by decide +kernel
theorem dX6_figureOfGuest_40 : decode cX6_figureOfGuest 40 = .ok (.aload_n 0, 1) := by decide +kernel
theorem dX6_figureOfGuest_41 : decode cX6_figureOfGuest 41 = .ok (.getfield 10, 3) := by decide +kernel
theorem dX6_figureOfGuest_44 : decode cX6_figureOfGuest 44 = .ok (.getfield 149, 3) := by decide +kernel
theorem dX6_figureOfGuest_47 : decode cX6_figureOfGuest 47 = .ok (.iload_n 1, 1) := by decide +kernel
theorem dX6_figureOfGuest_48 : decode cX6_figureOfGuest 48 = .ok (.invokestatic 115, 3) := by decide +kernel
theorem dX6_figureOfGuest_51 : decode cX6_figureOfGuest 51 = .ok (.ireturn, 1) := by decide +kernel
theorem dX6_figureOfGuest_52 : decode cX6_figureOfGuest 52 = .ok (.aload_n 0, 1) := by decide +kernel
theorem dX6_figureOfGuest_53 : decode cX6_figureOfGuest 53 = .ok (.getfield 10, 3) := by decide +kernel
theorem dX6_figureOfGuest_56 : decode cX6_figureOfGuest 56 = .ok (.iload_n 1, 1) := by decide +kernel
theorem dX6_figureOfGuest_57 : decode cX6_figureOfGuest 57 = .ok (.invokevirtual 375, 3) := by decide +kernel
theorem dX6_figureOfGuest_60 : decode cX6_figureOfGuest 60 = .ok (.ireturn, 1) := by decide +kernel
theorem dX6_figureOfGuest_61 : decode cX6_figureOfGuest 61 = .ok (.iconst (-1), 1) := by decide +kernel
theorem dX6_figureOfGuest_62 : decode cX6_figureOfGuest 62 = .ok (.ireturn, 1) := by decide +kernel
set_option maxRecDepth 20000 in
theorem ggX6_figureOfDay_X5_mealCount : GoodIn wsX6_figureOfDay wsX5_mealCount := goodIn_r _ [7, 8, 9, 10, 11, 12, 13, 67, 68, 69, 70, 71, 72, 73, 74, 75, 76, 77, 78] rfl (by decide +kernel)
set_option maxRecDepth 20000 in
theorem gX6_figureOfDay_X5_mealCount : GoodIn wsX6_figureOfDay (wsV RX6 378 RX5 yX5_mealCount wsX5_mealCount) := goodIn_app (goodIn_of _ (by decide +kernel)) ggX6_figureOfDay_X5_mealCount
set_option maxRecDepth 20000 in
theorem ggX6_figureOfDay_X5_mealCost : GoodIn wsX6_figureOfDay wsX5_mealCost := goodIn_r _ [17, 8, 18, 9, 10, 11, 12, 13, 67, 68, 69, 70, 71, 72, 73, 74, 75, 76, 77, 78] rfl (by decide +kernel)
set_option maxRecDepth 20000 in
theorem gX6_figureOfDay_X5_mealCost : GoodIn wsX6_figureOfDay (wsV RX6 381 RX5 yX5_mealCost wsX5_mealCost) := goodIn_app (goodIn_of _ (by decide +kernel)) ggX6_figureOfDay_X5_mealCost
set_option maxRecDepth 20000 in
theorem ggX6_figureOfDay_X2_joyOfMeal : GoodIn wsX6_figureOfDay wsX2_joyOfMeal := goodIn_r _ [23, 24, 25, 9, 10, 11, 12, 13, 26, 27, 28, 22, 29, 30, 31, 32, 33, 34, 35, 36, 37, 38, 39, 40, 41, 42, 43, 44, 79, 80, 67, 68, 69, 70, 71, 72, 73, 74, 75, 76, 77, 78] rfl (by decide +kernel)
set_option maxRecDepth 20000 in
theorem gX6_figureOfDay_X2_joyOfMeal : GoodIn wsX6_figureOfDay (wsV RX6 384 RX2 yX2_joyOfMeal wsX2_joyOfMeal) := goodIn_app (goodIn_of _ (by decide +kernel)) ggX6_figureOfDay_X2_joyOfMeal
set_option maxRecDepth 20000 in
theorem ggX6_figureOfDay_X5_vetoedTastes : GoodIn wsX6_figureOfDay wsX5_vetoedTastes := goodIn_r _ [48, 49, 50, 51, 52, 53, 6, 54, 55, 12, 10, 13, 67, 68, 69, 70, 71, 72, 73, 74, 75, 76, 77, 78] rfl (by decide +kernel)
set_option maxRecDepth 20000 in
theorem gX6_figureOfDay_X5_vetoedTastes : GoodIn wsX6_figureOfDay (wsV RX6 387 RX5 yX5_vetoedTastes wsX5_vetoedTastes) := goodIn_app (goodIn_of _ (by decide +kernel)) ggX6_figureOfDay_X5_vetoedTastes
set_option maxRecDepth 20000 in
theorem ggX6_figureOfDay_X5_guestsOn : GoodIn wsX6_figureOfDay wsX5_guestsOn := goodIn_r _ [59, 49, 51, 52, 53, 6, 54, 55, 12, 10, 13, 67, 68, 69, 70, 71, 72, 73, 74, 75, 76, 77, 78] rfl (by decide +kernel)
set_option maxRecDepth 20000 in
theorem gX6_figureOfDay_X5_guestsOn : GoodIn wsX6_figureOfDay (wsV RX6 390 RX5 yX5_guestsOn wsX5_guestsOn) := goodIn_app (goodIn_of _ (by decide +kernel)) ggX6_figureOfDay_X5_guestsOn
theorem dX6_figureOfDay_0 : decode cX6_figureOfDay 0 = .ok (.iload_n 2, 1) := by decide +kernel
theorem dX6_figureOfDay_1 : decode cX6_figureOfDay 1 = .ok (.tableswitch 80 0 4 #[35, 44, 53, 62, 71], 35) := by decide +kernel
theorem dX6_figureOfDay_36 : decode cX6_figureOfDay 36 = .ok (.aload_n 0, 1) := by decide +kernel
theorem dX6_figureOfDay_37 : decode cX6_figureOfDay 37 = .ok (.getfield 10, 3) := by decide +kernel
theorem dX6_figureOfDay_40 : decode cX6_figureOfDay 40 = .ok (.iload_n 1, 1) := by decide +kernel
theorem dX6_figureOfDay_41 : decode cX6_figureOfDay 41 = .ok (.invokevirtual 378, 3) := by decide +kernel
theorem dX6_figureOfDay_44 : decode cX6_figureOfDay 44 = .ok (.ireturn, 1) := by decide +kernel
theorem dX6_figureOfDay_45 : decode cX6_figureOfDay 45 = .ok (.aload_n 0, 1) := by decide +kernel
theorem dX6_figureOfDay_46 : decode cX6_figureOfDay 46 = .ok (.getfield 10, 3) := by decide +kernel
theorem dX6_figureOfDay_49 : decode cX6_figureOfDay 49 = .ok (.iload_n 1, 1) := by decide +kernel
theorem dX6_figureOfDay_50 : decode cX6_figureOfDay 50 = .ok (.invokevirtual 381, 3) := by decide +kernel
theorem dX6_figureOfDay_53 : decode cX6_figureOfDay 53 = .ok (.ireturn, 1) := by decide +kernel
theorem dX6_figureOfDay_54 : decode cX6_figureOfDay 54 = .ok (.aload_n 0, 1) := by decide +kernel
theorem dX6_figureOfDay_55 : decode cX6_figureOfDay 55 = .ok (.getfield 31, 3) := by decide +kernel
theorem dX6_figureOfDay_58 : decode cX6_figureOfDay 58 = .ok (.iload_n 1, 1) := by decide +kernel
theorem dX6_figureOfDay_59 : decode cX6_figureOfDay 59 = .ok (.invokevirtual 384, 3) := by decide +kernel
theorem dX6_figureOfDay_62 : decode cX6_figureOfDay 62 = .ok (.ireturn, 1) := by decide +kernel
theorem dX6_figureOfDay_63 : decode cX6_figureOfDay 63 = .ok (.aload_n 0, 1) := by decide +kernel
theorem dX6_figureOfDay_64 : decode cX6_figureOfDay 64 = .ok (.getfield 10, 3) := by decide +kernel
theorem dX6_figureOfDay_67 : decode cX6_figureOfDay 67 = .ok (.iload_n 1, 1) := by decide +kernel
theorem dX6_figureOfDay_68 : decode cX6_figureOfDay 68 = .ok (.invokevirtual 387, 3) := by decide +kernel
theorem dX6_figureOfDay_71 : decode cX6_figureOfDay 71 = .ok (.ireturn, 1) := by decide +kernel
theorem dX6_figureOfDay_72 : decode cX6_figureOfDay 72 = .ok (.aload_n 0, 1) := by decide +kernel
theorem dX6_figureOfDay_73 : decode cX6_figureOfDay 73 = .ok (.getfield 10, 3) := by decide +kernel
theorem dX6_figureOfDay_76 : decode cX6_figureOfDay 76 = .ok (.iload_n 1, 1) := by decide +kernel
theorem dX6_figureOfDay_77 : decode cX6_figureOfDay 77 = .ok (.invokevirtual 390, 3) := by decide +kernel
theorem dX6_figureOfDay_80 : decode cX6_figureOfDay 80 = .ok (.ireturn, 1) := by decide +kernel
theorem dX6_figureOfDay_81 : decode cX6_figureOfDay 81 = .ok (.iconst (-1), 1) := by decide +kernel
theorem dX6_figureOfDay_82 : decode cX6_figureOfDay 82 = .ok (.ireturn, 1) := by decide +kernel
theorem dX6_bitsOfShare_0 : decode cX6_bitsOfShare 0 = .ok (.dload_n 0, 1) := by decide +kernel
theorem dX6_bitsOfShare_1 : decode cX6_bitsOfShare 1 = .ok (.dconst 0, 1) := by decide +kernel
theorem dX6_bitsOfShare_2 : decode cX6_bitsOfShare 2 = .ok (.dcmp .g, 1) := by decide +kernel
theorem dX6_bitsOfShare_3 : decode cX6_bitsOfShare 3 = .ok (.ifCond .gt 5, 3) := by decide +kernel
theorem dX6_bitsOfShare_6 : decode cX6_bitsOfShare 6 = .ok (.lconst 0, 1) := by decide +kernel
theorem dX6_bitsOfShare_7 : decode cX6_bitsOfShare 7 = .ok (.lreturn, 1) := by decide +kernel
theorem dX6_bitsOfShare_8 : decode cX6_bitsOfShare 8 = .ok (.dload_n 0, 1) := by decide +kernel
theorem dX6_bitsOfShare_9 : decode cX6_bitsOfShare 9 = .ok (.dstore_n 2, 1) := by decide +kernel
theorem dX6_bitsOfShare_10 : decode cX6_bitsOfShare 10 = .ok (.ldc2_w 393, 3) := by decide +kernel
theorem dX6_bitsOfShare_13 : decode cX6_bitsOfShare 13 = .ok (.lstore 4, 2) := by decide +kernel
theorem dX6_bitsOfShare_15 : decode cX6_bitsOfShare 15 = .ok (.iconst 0, 1) := by decide +kernel
theorem dX6_bitsOfShare_16 : decode cX6_bitsOfShare 16 = .ok (.istore 6, 2) := by decide +kernel
theorem dX6_bitsOfShare_18 : decode cX6_bitsOfShare 18 = .ok (.iload 6, 2) := by decide +kernel
theorem dX6_bitsOfShare_20 : decode cX6_bitsOfShare 20 = .ok (.bipush 60, 2) := by decide +kernel
theorem dX6_bitsOfShare_22 : decode cX6_bitsOfShare 22 = .ok (.if_icmp .ge 27, 3) := by decide +kernel
theorem dX6_bitsOfShare_25 : decode cX6_bitsOfShare 25 = .ok (.dload_n 2, 1) := by decide +kernel
theorem dX6_bitsOfShare_26 : decode cX6_bitsOfShare 26 = .ok (.dconst 1, 1) := by decide +kernel
theorem dX6_bitsOfShare_27 : decode cX6_bitsOfShare 27 = .ok (.dcmp .g, 1) := by decide +kernel
theorem dX6_bitsOfShare_28 : decode cX6_bitsOfShare 28 = .ok (.ifCond .ge 21, 3) := by decide +kernel
theorem dX6_bitsOfShare_31 : decode cX6_bitsOfShare 31 = .ok (.dload_n 2, 1) := by decide +kernel
theorem dX6_bitsOfShare_32 : decode cX6_bitsOfShare 32 = .ok (.ldc2_w 395, 3) := by decide +kernel
theorem dX6_bitsOfShare_35 : decode cX6_bitsOfShare 35 = .ok (.dmul, 1) := by decide +kernel
theorem dX6_bitsOfShare_36 : decode cX6_bitsOfShare 36 = .ok (.dstore_n 2, 1) := by decide +kernel
theorem dX6_bitsOfShare_37 : decode cX6_bitsOfShare 37 = .ok (.lload 4, 2) := by decide +kernel
theorem dX6_bitsOfShare_39 : decode cX6_bitsOfShare 39 = .ok (.lconst 1, 1) := by decide +kernel
theorem dX6_bitsOfShare_40 : decode cX6_bitsOfShare 40 = .ok (.lsub, 1) := by decide +kernel
theorem dX6_bitsOfShare_41 : decode cX6_bitsOfShare 41 = .ok (.lstore 4, 2) := by decide +kernel
theorem dX6_bitsOfShare_43 : decode cX6_bitsOfShare 43 = .ok (.iinc 6 1, 3) := by decide +kernel
theorem dX6_bitsOfShare_46 : decode cX6_bitsOfShare 46 = .ok (.goto (-28), 3) := by decide +kernel
theorem dX6_bitsOfShare_49 : decode cX6_bitsOfShare 49 = .ok (.lload 4, 2) := by decide +kernel
theorem dX6_bitsOfShare_51 : decode cX6_bitsOfShare 51 = .ok (.bipush 52, 2) := by decide +kernel
theorem dX6_bitsOfShare_53 : decode cX6_bitsOfShare 53 = .ok (.lshl, 1) := by decide +kernel
theorem dX6_bitsOfShare_54 : decode cX6_bitsOfShare 54 = .ok (.dload_n 2, 1) := by decide +kernel
theorem dX6_bitsOfShare_55 : decode cX6_bitsOfShare 55 = .ok (.dconst 1, 1) := by decide +kernel
theorem dX6_bitsOfShare_56 : decode cX6_bitsOfShare 56 = .ok (.dsub, 1) := by decide +kernel
theorem dX6_bitsOfShare_57 : decode cX6_bitsOfShare 57 = .ok (.ldc2_w 397, 3) := by decide +kernel
theorem dX6_bitsOfShare_60 : decode cX6_bitsOfShare 60 = .ok (.dmul, 1) := by decide +kernel
theorem dX6_bitsOfShare_61 : decode cX6_bitsOfShare 61 = .ok (.d2l, 1) := by decide +kernel
theorem dX6_bitsOfShare_62 : decode cX6_bitsOfShare 62 = .ok (.lor, 1) := by decide +kernel
theorem dX6_bitsOfShare_63 : decode cX6_bitsOfShare 63 = .ok (.lreturn, 1) := by decide +kernel
set_option maxRecDepth 20000 in
theorem ggX6_takeOverTrial_X0_save : GoodIn wsX6_takeOverTrial wsX0_save := goodIn_r _ [8, 9, 10, 11, 12, 13, 7, 14, 15, 16, 17, 18, 19, 20, 21, 22, 23, 24, 25, 26, 27, 28, 29, 30, 31, 32, 33, 34, 35, 36, 37, 38, 39, 40, 41, 42, 43, 52, 53, 54, 55, 56, 57, 58, 59, 60, 61, 62, 63, 64, 65, 66] rfl (by decide +kernel)
set_option maxRecDepth 20000 in
theorem gX6_takeOverTrial_X0_save : GoodIn wsX6_takeOverTrial (wsV RX6 76 RX0 yX0_save wsX0_save) := goodIn_app (goodIn_of _ (by decide +kernel)) ggX6_takeOverTrial_X0_save
set_option maxRecDepth 20000 in
theorem ggX6_takeOverTrial_X5_copyFrom : GoodIn wsX6_takeOverTrial wsX5_copyFrom := goodIn_r _ [20, 21, 22, 23, 24, 25, 26, 27, 28, 29, 30, 31, 32, 33, 34, 35, 36, 37, 38, 39, 40, 41, 42, 43, 55, 56, 57, 58, 59, 60, 61, 62, 63, 64, 65, 66] rfl (by decide +kernel)
set_option maxRecDepth 20000 in
theorem gX6_takeOverTrial_X5_copyFrom : GoodIn wsX6_takeOverTrial (wsV RX6 95 RX5 yX5_copyFrom wsX5_copyFrom) := goodIn_app (goodIn_of _ (by decide +kernel)) ggX6_takeOverTrial_X5_copyFrom
theorem dX6_takeOverTrial_0 : decode cX6_takeOverTrial 0 = .ok (.aload_n 0, 1) := by decide +kernel
theorem dX6_takeOverTrial_1 : decode cX6_takeOverTrial 1 = .ok (.getfield 38, 3) := by decide +kernel
theorem dX6_takeOverTrial_4 : decode cX6_takeOverTrial 4 = .ok (.aload_n 0, 1) := by decide +kernel
theorem dX6_takeOverTrial_5 : decode cX6_takeOverTrial 5 = .ok (.getfield 10, 3) := by decide +kernel
theorem dX6_takeOverTrial_8 : decode cX6_takeOverTrial 8 = .ok (.invokevirtual 76, 3) := by decide +kernel
theorem dX6_takeOverTrial_11 : decode cX6_takeOverTrial 11 = .ok (.aload_n 0, 1) := by decide +kernel
theorem dX6_takeOverTrial_12 : decode cX6_takeOverTrial 12 = .ok (.getfield 10, 3) := by decide +kernel
theorem dX6_takeOverTrial_15 : decode cX6_takeOverTrial 15 = .ok (.aload_n 0, 1) := by decide +kernel
theorem dX6_takeOverTrial_16 : decode cX6_takeOverTrial 16 = .ok (.getfield 16, 3) := by decide +kernel
theorem dX6_takeOverTrial_19 : decode cX6_takeOverTrial 19 = .ok (.invokevirtual 95, 3) := by decide +kernel
theorem dX6_takeOverTrial_22 : decode cX6_takeOverTrial 22 = .ok (.return_, 1) := by decide +kernel
set_option maxRecDepth 20000 in
theorem ggX6_canStand_X5_hasVetoedDish : GoodIn wsX6_canStand wsX5_hasVetoedDish := goodIn_r _ [6, 7, 8, 9, 10, 11, 12, 13, 5, 14, 15, 16, 17, 18, 19, 20, 21, 22, 23, 24, 25, 26, 94, 95, 96, 97, 98, 99, 100, 101, 102, 103, 104, 105] rfl (by decide +kernel)
set_option maxRecDepth 20000 in
theorem gX6_canStand_X5_hasVetoedDish : GoodIn wsX6_canStand (wsV RX6 141 RX5 yX5_hasVetoedDish wsX5_hasVetoedDish) := goodIn_app (goodIn_of _ (by decide +kernel)) ggX6_canStand_X5_hasVetoedDish
set_option maxRecDepth 20000 in
theorem ggX6_canStand_X5_isAboveBudget : GoodIn wsX6_canStand wsX5_isAboveBudget := goodIn_r _ [30, 31, 32, 33, 34, 5, 35, 36, 37, 38, 39, 7, 40, 41, 9, 42, 8, 10, 94, 95, 96, 97, 98, 99, 100, 101, 102, 103, 104, 105] rfl (by decide +kernel)
set_option maxRecDepth 20000 in
theorem gX6_canStand_X5_isAboveBudget : GoodIn wsX6_canStand (wsV RX6 166 RX5 yX5_isAboveBudget wsX5_isAboveBudget) := goodIn_app (goodIn_of _ (by decide +kernel)) ggX6_canStand_X5_isAboveBudget
set_option maxRecDepth 20000 in
theorem ggX6_canStand_X1_areSound : GoodIn wsX6_canStand wsX1_areSound := goodIn_r _ [47, 48, 49, 50, 46, 51, 52, 53, 54, 55, 56, 57, 58, 59, 60, 61, 62, 63, 64, 65, 5, 66, 67, 68, 8, 9, 10, 69, 70, 71, 72, 73, 74, 41, 42, 75, 76, 77, 78, 79, 80, 81, 82, 83, 84, 85, 86, 94, 95, 96, 97, 98, 99, 100, 101, 102, 103, 104, 105, 106, 107] rfl (by decide +kernel)
set_option maxRecDepth 20000 in
theorem gX6_canStand_X1_areSound : GoodIn wsX6_canStand (wsV RX6 109 RX1 yX1_areSound wsX1_areSound) := goodIn_app (goodIn_of _ (by decide +kernel)) ggX6_canStand_X1_areSound
theorem dX6_canStand_0 : decode cX6_canStand 0 = .ok (.aload_n 1, 1) := by decide +kernel
theorem dX6_canStand_1 : decode cX6_canStand 1 = .ok (.invokevirtual 141, 3) := by decide +kernel
theorem dX6_canStand_4 : decode cX6_canStand 4 = .ok (.ifCond .ne 25, 3) := by decide +kernel
theorem dX6_canStand_7 : decode cX6_canStand 7 = .ok (.aload_n 1, 1) := by decide +kernel
theorem dX6_canStand_8 : decode cX6_canStand 8 = .ok (.invokevirtual 166, 3) := by decide +kernel
theorem dX6_canStand_11 : decode cX6_canStand 11 = .ok (.ifCond .ne 18, 3) := by decide +kernel
theorem dX6_canStand_14 : decode cX6_canStand 14 = .ok (.aload_n 0, 1) := by decide +kernel
theorem dX6_canStand_15 : decode cX6_canStand 15 = .ok (.getfield 22, 3) := by decide +kernel
theorem dX6_canStand_18 : decode cX6_canStand 18 = .ok (.aload_n 1, 1) := by decide +kernel
theorem dX6_canStand_19 : decode cX6_canStand 19 = .ok (.invokevirtual 109, 3) := by decide +kernel
theorem dX6_canStand_22 : decode cX6_canStand 22 = .ok (.ifCond .eq 7, 3) := by decide +kernel
theorem dX6_canStand_25 : decode cX6_canStand 25 = .ok (.iconst 1, 1) := by decide +kernel
theorem dX6_canStand_26 : decode cX6_canStand 26 = .ok (.goto 4, 3) := by decide +kernel
theorem dX6_canStand_29 : decode cX6_canStand 29 = .ok (.iconst 0, 1) := by decide +kernel
theorem dX6_canStand_30 : decode cX6_canStand 30 = .ok (.ireturn, 1) := by decide +kernel
set_option maxRecDepth 20000 in
theorem ggX6_servesIfItCan_X5_hasDish : GoodIn wsX6_servesIfItCan wsX5_hasDish := goodIn_r _ [9, 10, 101, 102, 103, 104, 105, 106, 107, 108, 109, 110, 111, 112] rfl (by decide +kernel)
set_option maxRecDepth 20000 in
theorem gX6_servesIfItCan_X5_hasDish : GoodIn wsX6_servesIfItCan (wsV RX6 84 RX5 yX5_hasDish wsX5_hasDish) := goodIn_app (goodIn_of _ (by decide +kernel)) ggX6_servesIfItCan_X5_hasDish
set_option maxRecDepth 20000 in
theorem ggX6_servesIfItCan_X6_at : GoodIn wsX6_servesIfItCan wsX6_at := goodIn_r _ [14] rfl (by decide +kernel)
set_option maxRecDepth 20000 in
theorem gX6_servesIfItCan_X6_at : GoodIn wsX6_servesIfItCan (va_wsS RX6 115 yX6_at wsX6_at) := goodIn_app (goodIn_of _ (by decide +kernel)) ggX6_servesIfItCan_X6_at
set_option maxRecDepth 20000 in
theorem ggX6_servesIfItCan_X2_reasonAgainst : GoodIn wsX6_servesIfItCan wsX2_reasonAgainst := goodIn_r _ [19, 20, 21, 22, 23, 24, 25, 26, 13, 27, 12, 14, 28, 29, 30, 8, 31, 32, 33, 34, 35, 36, 37, 38, 39, 40, 41, 42, 43, 44, 45, 46, 47, 48, 49, 50, 51, 52, 53, 54, 55, 56, 57, 58, 59, 60, 61, 62, 63, 10, 64, 65, 66, 67, 68, 69, 70, 71, 72, 73, 74, 75, 76, 77, 78, 79, 80, 81, 82, 83, 84, 85, 86, 87, 88, 89, 90, 91, 113, 114, 101, 102, 103, 104, 105, 106, 107, 108, 109, 110, 111, 112, 115, 116] rfl (by decide +kernel)
set_option maxRecDepth 20000 in
theorem gX6_servesIfItCan_X2_reasonAgainst : GoodIn wsX6_servesIfItCan (wsV RX6 179 RX2 yX2_reasonAgainst wsX2_reasonAgainst) := goodIn_app (goodIn_of _ (by decide +kernel)) ggX6_servesIfItCan_X2_reasonAgainst
set_option maxRecDepth 20000 in
theorem ggX6_servesIfItCan_X6_cellOf : GoodIn wsX6_servesIfItCan wsX6_cellOf := goodIn_r _ [27] rfl (by decide +kernel)
set_option maxRecDepth 20000 in
theorem gX6_servesIfItCan_X6_cellOf : GoodIn wsX6_servesIfItCan (va_wsS RX6 188 yX6_cellOf wsX6_cellOf) := goodIn_app (goodIn_of _ (by decide +kernel)) ggX6_servesIfItCan_X6_cellOf
set_option maxRecDepth 20000 in
theorem ggX6_servesIfItCan_X6_put : GoodIn wsX6_servesIfItCan wsX6_put := goodIn_r _ [76] rfl (by decide +kernel)
set_option maxRecDepth 20000 in
theorem gX6_servesIfItCan_X6_put : GoodIn wsX6_servesIfItCan (va_wsS RX6 102 yX6_put wsX6_put) := goodIn_app (goodIn_of _ (by decide +kernel)) ggX6_servesIfItCan_X6_put
theorem dX6_servesIfItCan_0 : decode cX6_servesIfItCan 0 = .ok (.aload_n 0, 1) := by decide +kernel
theorem dX6_servesIfItCan_1 : decode cX6_servesIfItCan 1 = .ok (.getfield 10, 3) := by decide +kernel
theorem dX6_servesIfItCan_4 : decode cX6_servesIfItCan 4 = .ok (.iload_n 2, 1) := by decide +kernel
theorem dX6_servesIfItCan_5 : decode cX6_servesIfItCan 5 = .ok (.invokevirtual 84, 3) := by decide +kernel
theorem dX6_servesIfItCan_8 : decode cX6_servesIfItCan 8 = .ok (.ifCond .ne 5, 3) := by decide +kernel
theorem dX6_servesIfItCan_11 : decode cX6_servesIfItCan 11 = .ok (.iconst 0, 1) := by decide +kernel
theorem dX6_servesIfItCan_12 : decode cX6_servesIfItCan 12 = .ok (.ireturn, 1) := by decide +kernel
theorem dX6_servesIfItCan_13 : decode cX6_servesIfItCan 13 = .ok (.aload_n 0, 1) := by decide +kernel
theorem dX6_servesIfItCan_14 : decode cX6_servesIfItCan 14 = .ok (.getfield 10, 3) := by decide +kernel
theorem dX6_servesIfItCan_17 : decode cX6_servesIfItCan 17 = .ok (.getfield 176, 3) := by decide +kernel
theorem dX6_servesIfItCan_20 : decode cX6_servesIfItCan 20 = .ok (.iload_n 2, 1) := by decide +kernel
theorem dX6_servesIfItCan_21 : decode cX6_servesIfItCan 21 = .ok (.invokestatic 115, 3) := by decide +kernel
theorem dX6_servesIfItCan_24 : decode cX6_servesIfItCan 24 = .ok (.istore_n 3, 1) := by decide +kernel
theorem dX6_servesIfItCan_25 : decode cX6_servesIfItCan 25 = .ok (.aload_n 0, 1) := by decide +kernel
theorem dX6_servesIfItCan_26 : decode cX6_servesIfItCan 26 = .ok (.getfield 31, 3) := by decide +kernel
theorem dX6_servesIfItCan_29 : decode cX6_servesIfItCan 29 = .ok (.iload_n 1, 1) := by decide +kernel
theorem dX6_servesIfItCan_30 : decode cX6_servesIfItCan 30 = .ok (.iload_n 3, 1) := by decide +kernel
theorem dX6_servesIfItCan_31 : decode cX6_servesIfItCan 31 = .ok (.iload_n 2, 1) := by decide +kernel
theorem dX6_servesIfItCan_32 : decode cX6_servesIfItCan 32 = .ok (.invokevirtual 179, 3) := by decide +kernel
theorem dX6_servesIfItCan_35 : decode cX6_servesIfItCan 35 = .ok (.ifCond .eq 5, 3) := by decide +kernel
theorem dX6_servesIfItCan_38 : decode cX6_servesIfItCan 38 = .ok (.iconst 0, 1) := by decide +kernel
theorem dX6_servesIfItCan_39 : decode cX6_servesIfItCan 39 = .ok (.ireturn, 1) := by decide +kernel
theorem dX6_servesIfItCan_40 : decode cX6_servesIfItCan 40 = .ok (.aload_n 0, 1) := by decide +kernel
theorem dX6_servesIfItCan_41 : decode cX6_servesIfItCan 41 = .ok (.getfield 10, 3) := by decide +kernel
theorem dX6_servesIfItCan_44 : decode cX6_servesIfItCan 44 = .ok (.getfield 185, 3) := by decide +kernel
theorem dX6_servesIfItCan_47 : decode cX6_servesIfItCan 47 = .ok (.iload_n 1, 1) := by decide +kernel
theorem dX6_servesIfItCan_48 : decode cX6_servesIfItCan 48 = .ok (.iload_n 3, 1) := by decide +kernel
theorem dX6_servesIfItCan_49 : decode cX6_servesIfItCan 49 = .ok (.invokestatic 188, 3) := by decide +kernel
theorem dX6_servesIfItCan_52 : decode cX6_servesIfItCan 52 = .ok (.iload_n 2, 1) := by decide +kernel
theorem dX6_servesIfItCan_53 : decode cX6_servesIfItCan 53 = .ok (.invokestatic 102, 3) := by decide +kernel
theorem dX6_servesIfItCan_56 : decode cX6_servesIfItCan 56 = .ok (.iconst 1, 1) := by decide +kernel
theorem dX6_servesIfItCan_57 : decode cX6_servesIfItCan 57 = .ok (.ireturn, 1) := by decide +kernel
theorem dX6_leastValue_0 : decode cX6_leastValue 0 = .ok (.iload_n 0, 1) := by decide +kernel
theorem dX6_leastValue_1 : decode cX6_leastValue 1 = .ok (.iconst 1, 1) := by decide +kernel
theorem dX6_leastValue_2 : decode cX6_leastValue 2 = .ok (.if_icmp .ne 7, 3) := by decide +kernel
theorem dX6_leastValue_5 : decode cX6_leastValue 5 = .ok (.iconst 1, 1) := by decide +kernel
theorem dX6_leastValue_6 : decode cX6_leastValue 6 = .ok (.goto 4, 3) := by decide +kernel
theorem dX6_leastValue_9 : decode cX6_leastValue 9 = .ok (.iconst 0, 1) := by decide +kernel
theorem dX6_leastValue_10 : decode cX6_leastValue 10 = .ok (.ireturn, 1) := by decide +kernel
theorem dX6_greatestValue_0 : decode cX6_greatestValue 0 = .ok (.iload_n 0, 1) := by decide +kernel
theorem dX6_greatestValue_1 : decode cX6_greatestValue 1 = .ok (.ifCond .ne 6, 3) := by decide +kernel
theorem dX6_greatestValue_4 : decode cX6_greatestValue 4 = .ok (.bipush 9, 2) := by decide +kernel
theorem dX6_greatestValue_6 : decode cX6_greatestValue 6 = .ok (.ireturn, 1) := by decide +kernel
theorem dX6_greatestValue_7 : decode cX6_greatestValue 7 = .ok (.iload_n 0, 1) := by decide +kernel
theorem dX6_greatestValue_8 : decode cX6_greatestValue 8 = .ok (.iconst 1, 1) := by decide +kernel
theorem dX6_greatestValue_9 : decode cX6_greatestValue 9 = .ok (.if_icmp .ne 8, 3) := by decide +kernel
theorem dX6_greatestValue_12 : decode cX6_greatestValue 12 = .ok (.bipush 10, 2) := by decide +kernel
theorem dX6_greatestValue_14 : decode cX6_greatestValue 14 = .ok (.goto 6, 3) := by decide +kernel
theorem dX6_greatestValue_17 : decode cX6_greatestValue 17 = .ok (.sipush 999, 3) := by decide +kernel
theorem dX6_greatestValue_20 : decode cX6_greatestValue 20 = .ok (.ireturn, 1) := by decide +kernel
theorem dX6_isWithin_0 : decode cX6_isWithin 0 = .ok (.iload_n 0, 1) := by decide +kernel
theorem dX6_isWithin_1 : decode cX6_isWithin 1 = .ok (.iload_n 1, 1) := by decide +kernel
theorem dX6_isWithin_2 : decode cX6_isWithin 2 = .ok (.if_icmp .lt 12, 3) := by decide +kernel
theorem dX6_isWithin_5 : decode cX6_isWithin 5 = .ok (.iload_n 0, 1) := by decide +kernel
theorem dX6_isWithin_6 : decode cX6_isWithin 6 = .ok (.iload_n 2, 1) := by decide +kernel
theorem dX6_isWithin_7 : decode cX6_isWithin 7 = .ok (.if_icmp .gt 7, 3) := by decide +kernel
theorem dX6_isWithin_10 : decode cX6_isWithin 10 = .ok (.iconst 1, 1) := by decide +kernel
theorem dX6_isWithin_11 : decode cX6_isWithin 11 = .ok (.goto 4, 3) := by decide +kernel
theorem dX6_isWithin_14 : decode cX6_isWithin 14 = .ok (.iconst 0, 1) := by decide +kernel
theorem dX6_isWithin_15 : decode cX6_isWithin 15 = .ok (.ireturn, 1) := by decide +kernel
theorem dX6_isDay_0 : decode cX6_isDay 0 = .ok (.iload_n 0, 1) := by decide +kernel
theorem dX6_isDay_1 : decode cX6_isDay 1 = .ok (.ifCond .lt 13, 3) := by decide +kernel
theorem dX6_isDay_4 : decode cX6_isDay 4 = .ok (.iload_n 0, 1) := by decide +kernel
theorem dX6_isDay_5 : decode cX6_isDay 5 = .ok (.bipush 28, 2) := by decide +kernel
theorem dX6_isDay_7 : decode cX6_isDay 7 = .ok (.if_icmp .ge 7, 3) := by decide +kernel
theorem dX6_isDay_10 : decode cX6_isDay 10 = .ok (.iconst 1, 1) := by decide +kernel
theorem dX6_isDay_11 : decode cX6_isDay 11 = .ok (.goto 4, 3) := by decide +kernel
theorem dX6_isDay_14 : decode cX6_isDay 14 = .ok (.iconst 0, 1) := by decide +kernel
theorem dX6_isDay_15 : decode cX6_isDay 15 = .ok (.ireturn, 1) := by decide +kernel
theorem dX6_isPart_0 : decode cX6_isPart 0 = .ok (.iload_n 0, 1) := by decide +kernel
theorem dX6_isPart_1 : decode cX6_isPart 1 = .ok (.ifCond .lt 12, 3) := by decide +kernel
theorem dX6_isPart_4 : decode cX6_isPart 4 = .ok (.iload_n 0, 1) := by decide +kernel
theorem dX6_isPart_5 : decode cX6_isPart 5 = .ok (.iconst 3, 1) := by decide +kernel
theorem dX6_isPart_6 : decode cX6_isPart 6 = .ok (.if_icmp .ge 7, 3) := by decide +kernel
theorem dX6_isPart_9 : decode cX6_isPart 9 = .ok (.iconst 1, 1) := by decide +kernel
theorem dX6_isPart_10 : decode cX6_isPart 10 = .ok (.goto 4, 3) := by decide +kernel
theorem dX6_isPart_13 : decode cX6_isPart 13 = .ok (.iconst 0, 1) := by decide +kernel
theorem dX6_isPart_14 : decode cX6_isPart 14 = .ok (.ireturn, 1) := by decide +kernel
theorem dX6_cellOf_0 : decode cX6_cellOf 0 = .ok (.iload_n 0, 1) := by decide +kernel
theorem dX6_cellOf_1 : decode cX6_cellOf 1 = .ok (.iconst 3, 1) := by decide +kernel
theorem dX6_cellOf_2 : decode cX6_cellOf 2 = .ok (.imul, 1) := by decide +kernel
theorem dX6_cellOf_3 : decode cX6_cellOf 3 = .ok (.iload_n 1, 1) := by decide +kernel
theorem dX6_cellOf_4 : decode cX6_cellOf 4 = .ok (.iadd, 1) := by decide +kernel
theorem dX6_cellOf_5 : decode cX6_cellOf 5 = .ok (.ireturn, 1) := by decide +kernel
theorem dX6_at_0 : decode cX6_at 0 = .ok (.aload_n 0, 1) := by decide +kernel
theorem dX6_at_1 : decode cX6_at 1 = .ok (.ifnull 19, 3) := by decide +kernel
theorem dX6_at_4 : decode cX6_at 4 = .ok (.iload_n 1, 1) := by decide +kernel
theorem dX6_at_5 : decode cX6_at 5 = .ok (.ifCond .lt 15, 3) := by decide +kernel
theorem dX6_at_8 : decode cX6_at 8 = .ok (.iload_n 1, 1) := by decide +kernel
theorem dX6_at_9 : decode cX6_at 9 = .ok (.aload_n 0, 1) := by decide +kernel
theorem dX6_at_10 : decode cX6_at 10 = .ok (.arraylength, 1) := by decide +kernel
theorem dX6_at_11 : decode cX6_at 11 = .ok (.if_icmp .ge 9, 3) := by decide +kernel
theorem dX6_at_14 : decode cX6_at 14 = .ok (.aload_n 0, 1) := by decide +kernel
theorem dX6_at_15 : decode cX6_at 15 = .ok (.iload_n 1, 1) := by decide +kernel
theorem dX6_at_16 : decode cX6_at 16 = .ok (.iaload, 1) := by decide +kernel
theorem dX6_at_17 : decode cX6_at 17 = .ok (.goto 4, 3) := by decide +kernel
theorem dX6_at_20 : decode cX6_at 20 = .ok (.iconst (-1), 1) := by decide +kernel
theorem dX6_at_21 : decode cX6_at 21 = .ok (.ireturn, 1) := by decide +kernel
theorem dX6_put_0 : decode cX6_put 0 = .ok (.aload_n 0, 1) := by decide +kernel
theorem dX6_put_1 : decode cX6_put 1 = .ok (.ifnull 17, 3) := by decide +kernel
theorem dX6_put_4 : decode cX6_put 4 = .ok (.iload_n 1, 1) := by decide +kernel
theorem dX6_put_5 : decode cX6_put 5 = .ok (.ifCond .lt 13, 3) := by decide +kernel
theorem dX6_put_8 : decode cX6_put 8 = .ok (.iload_n 1, 1) := by decide +kernel
theorem dX6_put_9 : decode cX6_put 9 = .ok (.aload_n 0, 1) := by decide +kernel
theorem dX6_put_10 : decode cX6_put 10 = .ok (.arraylength, 1) := by decide +kernel
theorem dX6_put_11 : decode cX6_put 11 = .ok (.if_icmp .ge 7, 3) := by decide +kernel
theorem dX6_put_14 : decode cX6_put 14 = .ok (.aload_n 0, 1) := by decide +kernel
theorem dX6_put_15 : decode cX6_put 15 = .ok (.iload_n 1, 1) := by decide +kernel
theorem dX6_put_16 : decode cX6_put 16 = .ok (.iload_n 2, 1) := by decide +kernel
theorem dX6_put_17 : decode cX6_put 17 = .ok (.iastore, 1) := by decide +kernel
theorem dX6_put_18 : decode cX6_put 18 = .ok (.return_, 1) := by decide +kernel
theorem dX6_copyRow_0 : decode cX6_copyRow 0 = .ok (.aload_n 0, 1) := by decide +kernel
theorem dX6_copyRow_1 : decode cX6_copyRow 1 = .ok (.ifnull 21, 3) := by decide +kernel
theorem dX6_copyRow_4 : decode cX6_copyRow 4 = .ok (.aload_n 1, 1) := by decide +kernel
theorem dX6_copyRow_5 : decode cX6_copyRow 5 = .ok (.ifnull 17, 3) := by decide +kernel
theorem dX6_copyRow_8 : decode cX6_copyRow 8 = .ok (.aload_n 0, 1) := by decide +kernel
theorem dX6_copyRow_9 : decode cX6_copyRow 9 = .ok (.iconst 0, 1) := by decide +kernel
theorem dX6_copyRow_10 : decode cX6_copyRow 10 = .ok (.aload_n 1, 1) := by decide +kernel
theorem dX6_copyRow_11 : decode cX6_copyRow 11 = .ok (.iconst 0, 1) := by decide +kernel
theorem dX6_copyRow_12 : decode cX6_copyRow 12 = .ok (.aload_n 0, 1) := by decide +kernel
theorem dX6_copyRow_13 : decode cX6_copyRow 13 = .ok (.arraylength, 1) := by decide +kernel
theorem dX6_copyRow_14 : decode cX6_copyRow 14 = .ok (.aload_n 1, 1) := by decide +kernel
theorem dX6_copyRow_15 : decode cX6_copyRow 15 = .ok (.arraylength, 1) := by decide +kernel
theorem dX6_copyRow_16 : decode cX6_copyRow 16 = .ok (.invokestatic 399, 3) := by decide +kernel
theorem dX6_copyRow_19 : decode cX6_copyRow 19 = .ok (.invokestatic 404, 3) := by decide +kernel
theorem dX6_copyRow_22 : decode cX6_copyRow 22 = .ok (.return_, 1) := by decide +kernel
theorem dX7_init_0 : decode cX7_init 0 = .ok (.aload_n 0, 1) := by decide +kernel
theorem dX7_init_1 : decode cX7_init 1 = .ok (.invokespecial 1, 3) := by decide +kernel
theorem dX7_init_4 : decode cX7_init 4 = .ok (.aload_n 0, 1) := by decide +kernel
theorem dX7_init_5 : decode cX7_init 5 = .ok (.sipush 173, 3) := by decide +kernel
theorem dX7_init_8 : decode cX7_init 8 = .ok (.newarray .int, 2) := by decide +kernel
theorem dX7_init_10 : decode cX7_init 10 = .ok (.putfield 7, 3) := by decide +kernel
theorem dX7_init_13 : decode cX7_init 13 = .ok (.aload_n 0, 1) := by decide +kernel
theorem dX7_init_14 : decode cX7_init 14 = .ok (.sipush 1038, 3) := by decide +kernel
theorem dX7_init_17 : decode cX7_init 17 = .ok (.newarray .int, 2) := by decide +kernel
theorem dX7_init_19 : decode cX7_init 19 = .ok (.putfield 13, 3) := by decide +kernel
theorem dX7_init_22 : decode cX7_init 22 = .ok (.aload_n 0, 1) := by decide +kernel
theorem dX7_init_23 : decode cX7_init 23 = .ok (.sipush 168, 3) := by decide +kernel
theorem dX7_init_26 : decode cX7_init 26 = .ok (.newarray .int, 2) := by decide +kernel
theorem dX7_init_28 : decode cX7_init 28 = .ok (.putfield 16, 3) := by decide +kernel
theorem dX7_init_31 : decode cX7_init 31 = .ok (.aload_n 0, 1) := by decide +kernel
theorem dX7_init_32 : decode cX7_init 32 = .ok (.iconst 2, 1) := by decide +kernel
theorem dX7_init_33 : decode cX7_init 33 = .ok (.newarray .int, 2) := by decide +kernel
theorem dX7_init_35 : decode cX7_init 35 = .ok (.putfield 19, 3) := by decide +kernel
theorem dX7_init_38 : decode cX7_init 38 = .ok (.aload_n 0, 1) := by decide +kernel
theorem dX7_init_39 : decode cX7_init 39 = .ok (.bipush 60, 2) := by decide +kernel
theorem dX7_init_41 : decode cX7_init 41 = .ok (.newarray .int, 2) := by decide +kernel
theorem dX7_init_43 : decode cX7_init 43 = .ok (.putfield 22, 3) := by decide +kernel
theorem dX7_init_46 : decode cX7_init 46 = .ok (.aload_n 0, 1) := by decide +kernel
theorem dX7_init_47 : decode cX7_init 47 = .ok (.bipush 84, 2) := by decide +kernel
theorem dX7_init_49 : decode cX7_init 49 = .ok (.newarray .int, 2) := by decide +kernel
theorem dX7_init_51 : decode cX7_init 51 = .ok (.putfield 25, 3) := by decide +kernel
theorem dX7_init_54 : decode cX7_init 54 = .ok (.aload_n 0, 1) := by decide +kernel
theorem dX7_init_55 : decode cX7_init 55 = .ok (.bipush 84, 2) := by decide +kernel
theorem dX7_init_57 : decode cX7_init 57 = .ok (.newarray .int, 2) := by decide +kernel
theorem dX7_init_59 : decode cX7_init 59 = .ok (.putfield 28, 3) := by decide +kernel
theorem dX7_init_62 : decode cX7_init 62 = .ok (.aload_n 0, 1) := by decide +kernel
theorem dX7_init_63 : decode cX7_init 63 = .ok (.bipush 28, 2) := by decide +kernel
theorem dX7_init_65 : decode cX7_init 65 = .ok (.newarray .int, 2) := by decide +kernel
theorem dX7_init_67 : decode cX7_init 67 = .ok (.putfield 31, 3) := by decide +kernel
theorem dX7_init_70 : decode cX7_init 70 = .ok (.aload_n 0, 1) := by decide +kernel
theorem dX7_init_71 : decode cX7_init 71 = .ok (.getfield 7, 3) := by decide +kernel
theorem dX7_init_74 : decode cX7_init 74 = .ok (.iconst 0, 1) := by decide +kernel
theorem dX7_init_75 : decode cX7_init 75 = .ok (.iconst 2, 1) := by decide +kernel
theorem dX7_init_76 : decode cX7_init 76 = .ok (.iastore, 1) := by decide +kernel
theorem dX7_init_77 : decode cX7_init 77 = .ok (.aload_n 0, 1) := by decide +kernel
theorem dX7_init_78 : decode cX7_init 78 = .ok (.getfield 7, 3) := by decide +kernel
theorem dX7_init_81 : decode cX7_init 81 = .ok (.iconst 1, 1) := by decide +kernel
theorem dX7_init_82 : decode cX7_init 82 = .ok (.iconst 3, 1) := by decide +kernel
theorem dX7_init_83 : decode cX7_init 83 = .ok (.iastore, 1) := by decide +kernel
theorem dX7_init_84 : decode cX7_init 84 = .ok (.aload_n 0, 1) := by decide +kernel
theorem dX7_init_85 : decode cX7_init 85 = .ok (.getfield 7, 3) := by decide +kernel
theorem dX7_init_88 : decode cX7_init 88 = .ok (.iconst 2, 1) := by decide +kernel
theorem dX7_init_89 : decode cX7_init 89 = .ok (.sipush 200, 3) := by decide +kernel
theorem dX7_init_92 : decode cX7_init 92 = .ok (.iastore, 1) := by decide +kernel
theorem dX7_init_93 : decode cX7_init 93 = .ok (.iconst 0, 1) := by decide +kernel
theorem dX7_init_94 : decode cX7_init 94 = .ok (.istore_n 1, 1) := by decide +kernel
theorem dX7_init_95 : decode cX7_init 95 = .ok (.iload_n 1, 1) := by decide +kernel
theorem dX7_init_96 : decode cX7_init 96 = .ok (.bipush 84, 2) := by decide +kernel
theorem dX7_init_98 : decode cX7_init 98 = .ok (.if_icmp .ge 19, 3) := by decide +kernel
theorem dX7_init_101 : decode cX7_init 101 = .ok (.aload_n 0, 1) := by decide +kernel
theorem dX7_init_102 : decode cX7_init 102 = .ok (.getfield 7, 3) := by decide +kernel
theorem dX7_init_105 : decode cX7_init 105 = .ok (.bipush 89, 2) := by decide +kernel
theorem dX7_init_107 : decode cX7_init 107 = .ok (.iload_n 1, 1) := by decide +kernel
theorem dX7_init_108 : decode cX7_init 108 = .ok (.iadd, 1) := by decide +kernel
theorem dX7_init_109 : decode cX7_init 109 = .ok (.iconst (-1), 1) := by decide +kernel
theorem dX7_init_110 : decode cX7_init 110 = .ok (.iastore, 1) := by decide +kernel
theorem dX7_init_111 : decode cX7_init 111 = .ok (.iinc 1 1, 3) := by decide +kernel
theorem dX7_init_114 : decode cX7_init 114 = .ok (.goto (-19), 3) := by decide +kernel
theorem dX7_init_117 : decode cX7_init 117 = .ok (.return_, 1) := by decide +kernel
theorem dX7_thrown_0 : decode cX7_thrown 0 = .ok (.aload_n 0, 1) := by decide +kernel
theorem dX7_thrown_1 : decode cX7_thrown 1 = .ok (.getfield 34, 3) := by decide +kernel
theorem dX7_thrown_4 : decode cX7_thrown 4 = .ok (.ireturn, 1) := by decide +kernel
theorem dX7_within_0 : decode cX7_within 0 = .ok (.iload_n 0, 1) := by decide +kernel
theorem dX7_within_1 : decode cX7_within 1 = .ok (.iload_n 1, 1) := by decide +kernel
theorem dX7_within_2 : decode cX7_within 2 = .ok (.if_icmp .lt 12, 3) := by decide +kernel
theorem dX7_within_5 : decode cX7_within 5 = .ok (.iload_n 0, 1) := by decide +kernel
theorem dX7_within_6 : decode cX7_within 6 = .ok (.iload_n 2, 1) := by decide +kernel
theorem dX7_within_7 : decode cX7_within 7 = .ok (.if_icmp .gt 7, 3) := by decide +kernel
theorem dX7_within_10 : decode cX7_within 10 = .ok (.iconst 1, 1) := by decide +kernel
theorem dX7_within_11 : decode cX7_within 11 = .ok (.goto 4, 3) := by decide +kernel
theorem dX7_within_14 : decode cX7_within 14 = .ok (.iconst 0, 1) := by decide +kernel
theorem dX7_within_15 : decode cX7_within 15 = .ok (.ireturn, 1) := by decide +kernel
theorem dX7_save_0 : decode cX7_save 0 = .ok (.aload_n 0, 1) := by decide +kernel
theorem dX7_save_1 : decode cX7_save 1 = .ok (.getfield 38, 3) := by decide +kernel
theorem dX7_save_4 : decode cX7_save 4 = .ok (.bipush 6, 2) := by decide +kernel
theorem dX7_save_6 : decode cX7_save 6 = .ok (.if_icmp .ne 46, 3) := by decide +kernel
theorem dX7_save_9 : decode cX7_save 9 = .ok (.sipush 173, 3) := by decide +kernel
theorem dX7_save_12 : decode cX7_save 12 = .ok (.istore_n 1, 1) := by decide +kernel
theorem dX7_save_13 : decode cX7_save 13 = .ok (.iload_n 1, 1) := by decide +kernel
theorem dX7_save_14 : decode cX7_save 14 = .ok (.sipush 1038, 3) := by decide +kernel
theorem dX7_save_17 : decode cX7_save 17 = .ok (.if_icmp .ge 25, 3) := by decide +kernel
theorem dX7_save_20 : decode cX7_save 20 = .ok (.aload_n 0, 1) := by decide +kernel
theorem dX7_save_21 : decode cX7_save 21 = .ok (.getfield 13, 3) := by decide +kernel
theorem dX7_save_24 : decode cX7_save 24 = .ok (.iload_n 1, 1) := by decide +kernel
theorem dX7_save_25 : decode cX7_save 25 = .ok (.sipush 173, 3) := by decide +kernel
theorem dX7_save_28 : decode cX7_save 28 = .ok (.isub, 1) := by decide +kernel
theorem dX7_save_29 : decode cX7_save 29 = .ok (.aload_n 0, 1) := by decide +kernel
theorem dX7_save_30 : decode cX7_save 30 = .ok (.getfield 13, 3) := by decide +kernel
theorem dX7_save_33 : decode cX7_save 33 = .ok (.iload_n 1, 1) := by decide +kernel
theorem dX7_save_34 : decode cX7_save 34 = .ok (.iaload, 1) := by decide +kernel
theorem dX7_save_35 : decode cX7_save 35 = .ok (.iastore, 1) := by decide +kernel
theorem dX7_save_36 : decode cX7_save 36 = .ok (.iinc 1 1, 3) := by decide +kernel
theorem dX7_save_39 : decode cX7_save 39 = .ok (.goto (-26), 3) := by decide +kernel
theorem dX7_save_42 : decode cX7_save 42 = .ok (.aload_n 0, 1) := by decide +kernel
theorem dX7_save_43 : decode cX7_save 43 = .ok (.dup, 1) := by decide +kernel
theorem dX7_save_44 : decode cX7_save 44 = .ok (.getfield 38, 3) := by decide +kernel
theorem dX7_save_47 : decode cX7_save 47 = .ok (.iconst 1, 1) := by decide +kernel
theorem dX7_save_48 : decode cX7_save 48 = .ok (.isub, 1) := by decide +kernel
theorem dX7_save_49 : decode cX7_save 49 = .ok (.putfield 38, 3) := by decide +kernel
theorem dX7_save_52 : decode cX7_save 52 = .ok (.iconst 0, 1) := by decide +kernel
theorem dX7_save_53 : decode cX7_save 53 = .ok (.istore_n 1, 1) := by decide +kernel
theorem dX7_save_54 : decode cX7_save 54 = .ok (.iload_n 1, 1) := by decide +kernel
theorem dX7_save_55 : decode cX7_save 55 = .ok (.sipush 173, 3) := by decide +kernel
theorem dX7_save_58 : decode cX7_save 58 = .ok (.if_icmp .ge 30, 3) := by decide +kernel
theorem dX7_save_61 : decode cX7_save 61 = .ok (.aload_n 0, 1) := by decide +kernel
theorem dX7_save_62 : decode cX7_save 62 = .ok (.getfield 13, 3) := by decide +kernel
theorem dX7_save_65 : decode cX7_save 65 = .ok (.sipush 173, 3) := by decide +kernel
theorem dX7_save_68 : decode cX7_save 68 = .ok (.aload_n 0, 1) := by decide +kernel
theorem dX7_save_69 : decode cX7_save 69 = .ok (.getfield 38, 3) := by decide +kernel
theorem dX7_save_72 : decode cX7_save 72 = .ok (.imul, 1) := by decide +kernel
theorem dX7_save_73 : decode cX7_save 73 = .ok (.iload_n 1, 1) := by decide +kernel
theorem dX7_save_74 : decode cX7_save 74 = .ok (.iadd, 1) := by decide +kernel
theorem dX7_save_75 : decode cX7_save 75 = .ok (.aload_n 0, 1) := by decide +kernel
theorem dX7_save_76 : decode cX7_save 76 = .ok (.getfield 7, 3) := by decide +kernel
theorem dX7_save_79 : decode cX7_save 79 = .ok (.iload_n 1, 1) := by decide +kernel
theorem dX7_save_80 : decode cX7_save 80 = .ok (.iaload, 1) := by decide +kernel
theorem dX7_save_81 : decode cX7_save 81 = .ok (.iastore, 1) := by decide +kernel
theorem dX7_save_82 : decode cX7_save 82 = .ok (.iinc 1 1, 3) := by decide +kernel
theorem dX7_save_85 : decode cX7_save 85 = .ok (.goto (-31), 3) := by decide +kernel
theorem dX7_save_88 : decode cX7_save 88 = .ok (.aload_n 0, 1) := by decide +kernel
theorem dX7_save_89 : decode cX7_save 89 = .ok (.dup, 1) := by decide +kernel
theorem dX7_save_90 : decode cX7_save 90 = .ok (.getfield 38, 3) := by decide +kernel
theorem dX7_save_93 : decode cX7_save 93 = .ok (.iconst 1, 1) := by decide +kernel
theorem dX7_save_94 : decode cX7_save 94 = .ok (.iadd, 1) := by decide +kernel
theorem dX7_save_95 : decode cX7_save 95 = .ok (.putfield 38, 3) := by decide +kernel
theorem dX7_save_98 : decode cX7_save 98 = .ok (.return_, 1) := by decide +kernel
theorem dX7_has_0 : decode cX7_has 0 = .ok (.iload_n 0, 1) := by decide +kernel
theorem dX7_has_1 : decode cX7_has 1 = .ok (.iload_n 1, 1) := by decide +kernel
theorem dX7_has_2 : decode cX7_has 2 = .ok (.ishr, 1) := by decide +kernel
theorem dX7_has_3 : decode cX7_has 3 = .ok (.iconst 1, 1) := by decide +kernel
theorem dX7_has_4 : decode cX7_has 4 = .ok (.iand, 1) := by decide +kernel
theorem dX7_has_5 : decode cX7_has 5 = .ok (.iconst 1, 1) := by decide +kernel
theorem dX7_has_6 : decode cX7_has 6 = .ok (.if_icmp .ne 7, 3) := by decide +kernel
theorem dX7_has_9 : decode cX7_has 9 = .ok (.iconst 1, 1) := by decide +kernel
theorem dX7_has_10 : decode cX7_has 10 = .ok (.goto 4, 3) := by decide +kernel
theorem dX7_has_13 : decode cX7_has 13 = .ok (.iconst 0, 1) := by decide +kernel
theorem dX7_has_14 : decode cX7_has 14 = .ok (.ireturn, 1) := by decide +kernel
theorem dX7_of_0 : decode cX7_of 0 = .ok (.aload_n 0, 1) := by decide +kernel
theorem dX7_of_1 : decode cX7_of 1 = .ok (.getfield 7, 3) := by decide +kernel
theorem dX7_of_4 : decode cX7_of 4 = .ok (.iconst 5, 1) := by decide +kernel
theorem dX7_of_5 : decode cX7_of 5 = .ok (.bipush 6, 2) := by decide +kernel
theorem dX7_of_7 : decode cX7_of 7 = .ok (.iload_n 1, 1) := by decide +kernel
theorem dX7_of_8 : decode cX7_of 8 = .ok (.imul, 1) := by decide +kernel
theorem dX7_of_9 : decode cX7_of 9 = .ok (.iadd, 1) := by decide +kernel
theorem dX7_of_10 : decode cX7_of 10 = .ok (.iload_n 2, 1) := by decide +kernel
theorem dX7_of_11 : decode cX7_of 11 = .ok (.iadd, 1) := by decide +kernel
theorem dX7_of_12 : decode cX7_of 12 = .ok (.iaload, 1) := by decide +kernel
theorem dX7_of_13 : decode cX7_of 13 = .ok (.ireturn, 1) := by decide +kernel
theorem dX7_ofGuest_0 : decode cX7_ofGuest 0 = .ok (.aload_n 0, 1) := by decide +kernel
theorem dX7_ofGuest_1 : decode cX7_ofGuest 1 = .ok (.getfield 7, 3) := by decide +kernel
theorem dX7_ofGuest_4 : decode cX7_ofGuest 4 = .ok (.bipush 77, 2) := by decide +kernel
theorem dX7_ofGuest_6 : decode cX7_ofGuest 6 = .ok (.iconst 2, 1) := by decide +kernel
theorem dX7_ofGuest_7 : decode cX7_ofGuest 7 = .ok (.iload_n 1, 1) := by decide +kernel
theorem dX7_ofGuest_8 : decode cX7_ofGuest 8 = .ok (.imul, 1) := by decide +kernel
theorem dX7_ofGuest_9 : decode cX7_ofGuest 9 = .ok (.iadd, 1) := by decide +kernel
theorem dX7_ofGuest_10 : decode cX7_ofGuest 10 = .ok (.iload_n 2, 1) := by decide +kernel
theorem dX7_ofGuest_11 : decode cX7_ofGuest 11 = .ok (.iadd, 1) := by decide +kernel
theorem dX7_ofGuest_12 : decode cX7_ofGuest 12 = .ok (.iaload, 1) := by decide +kernel
theorem dX7_ofGuest_13 : decode cX7_ofGuest 13 = .ok (.ireturn, 1) := by decide +kernel
theorem dX7_at_0 : decode cX7_at 0 = .ok (.aload_n 0, 1) := by decide +kernel
theorem dX7_at_1 : decode cX7_at 1 = .ok (.getfield 7, 3) := by decide +kernel
theorem dX7_at_4 : decode cX7_at 4 = .ok (.bipush 89, 2) := by decide +kernel
theorem dX7_at_6 : decode cX7_at 6 = .ok (.iconst 3, 1) := by decide +kernel
theorem dX7_at_7 : decode cX7_at 7 = .ok (.iload_n 1, 1) := by decide +kernel
theorem dX7_at_8 : decode cX7_at 8 = .ok (.imul, 1) := by decide +kernel
theorem dX7_at_9 : decode cX7_at 9 = .ok (.iadd, 1) := by decide +kernel
theorem dX7_at_10 : decode cX7_at 10 = .ok (.iload_n 2, 1) := by decide +kernel
theorem dX7_at_11 : decode cX7_at 11 = .ok (.iadd, 1) := by decide +kernel
theorem dX7_at_12 : decode cX7_at 12 = .ok (.iaload, 1) := by decide +kernel
theorem dX7_at_13 : decode cX7_at 13 = .ok (.ireturn, 1) := by decide +kernel
set_option maxRecDepth 20000 in
theorem ggX7_isDish_X7_within : GoodIn wsX7_isDish wsX7_within := goodIn_r _ [5] rfl (by decide +kernel)
set_option maxRecDepth 20000 in
theorem gX7_isDish_X7_within : GoodIn wsX7_isDish (va_wsS RX7 41 yX7_within wsX7_within) := goodIn_app (goodIn_of _ (by decide +kernel)) ggX7_isDish_X7_within
theorem dX7_isDish_0 : decode cX7_isDish 0 = .ok (.iload_n 1, 1) := by decide +kernel
theorem dX7_isDish_1 : decode cX7_isDish 1 = .ok (.iconst 0, 1) := by decide +kernel
theorem dX7_isDish_2 : decode cX7_isDish 2 = .ok (.aload_n 0, 1) := by decide +kernel
theorem dX7_isDish_3 : decode cX7_isDish 3 = .ok (.getfield 7, 3) := by decide +kernel
theorem dX7_isDish_6 : decode cX7_isDish 6 = .ok (.iconst 3, 1) := by decide +kernel
theorem dX7_isDish_7 : decode cX7_isDish 7 = .ok (.iaload, 1) := by decide +kernel
theorem dX7_isDish_8 : decode cX7_isDish 8 = .ok (.iconst 1, 1) := by decide +kernel
theorem dX7_isDish_9 : decode cX7_isDish 9 = .ok (.isub, 1) := by decide +kernel
theorem dX7_isDish_10 : decode cX7_isDish 10 = .ok (.invokestatic 41, 3) := by decide +kernel
theorem dX7_isDish_13 : decode cX7_isDish 13 = .ok (.ireturn, 1) := by decide +kernel
set_option maxRecDepth 20000 in
theorem ggX7_isGuest_X7_within : GoodIn wsX7_isGuest wsX7_within := goodIn_r _ [5] rfl (by decide +kernel)
set_option maxRecDepth 20000 in
theorem gX7_isGuest_X7_within : GoodIn wsX7_isGuest (va_wsS RX7 41 yX7_within wsX7_within) := goodIn_app (goodIn_of _ (by decide +kernel)) ggX7_isGuest_X7_within
theorem dX7_isGuest_0 : decode cX7_isGuest 0 = .ok (.iload_n 1, 1) := by decide +kernel
theorem dX7_isGuest_1 : decode cX7_isGuest 1 = .ok (.iconst 0, 1) := by decide +kernel
theorem dX7_isGuest_2 : decode cX7_isGuest 2 = .ok (.aload_n 0, 1) := by decide +kernel
theorem dX7_isGuest_3 : decode cX7_isGuest 3 = .ok (.getfield 7, 3) := by decide +kernel
theorem dX7_isGuest_6 : decode cX7_isGuest 6 = .ok (.iconst 4, 1) := by decide +kernel
theorem dX7_isGuest_7 : decode cX7_isGuest 7 = .ok (.iaload, 1) := by decide +kernel
theorem dX7_isGuest_8 : decode cX7_isGuest 8 = .ok (.iconst 1, 1) := by decide +kernel
theorem dX7_isGuest_9 : decode cX7_isGuest 9 = .ok (.isub, 1) := by decide +kernel
theorem dX7_isGuest_10 : decode cX7_isGuest 10 = .ok (.invokestatic 41, 3) := by decide +kernel
theorem dX7_isGuest_13 : decode cX7_isGuest 13 = .ok (.ireturn, 1) := by decide +kernel
set_option maxRecDepth 20000 in
theorem ggX7_isDay_X7_within : GoodIn wsX7_isDay wsX7_within := goodIn_r _ [4] rfl (by decide +kernel)
set_option maxRecDepth 20000 in
theorem gX7_isDay_X7_within : GoodIn wsX7_isDay (va_wsS RX7 41 yX7_within wsX7_within) := goodIn_app (goodIn_of _ (by decide +kernel)) ggX7_isDay_X7_within
theorem dX7_isDay_0 : decode cX7_isDay 0 = .ok (.iload_n 0, 1) := by decide +kernel
theorem dX7_isDay_1 : decode cX7_isDay 1 = .ok (.iconst 0, 1) := by decide +kernel
theorem dX7_isDay_2 : decode cX7_isDay 2 = .ok (.bipush 27, 2) := by decide +kernel
theorem dX7_isDay_4 : decode cX7_isDay 4 = .ok (.invokestatic 41, 3) := by decide +kernel
theorem dX7_isDay_7 : decode cX7_isDay 7 = .ok (.ireturn, 1) := by decide +kernel
set_option maxRecDepth 20000 in
theorem ggX7_isPart_X7_within : GoodIn wsX7_isPart wsX7_within := goodIn_r _ [4] rfl (by decide +kernel)
set_option maxRecDepth 20000 in
theorem gX7_isPart_X7_within : GoodIn wsX7_isPart (va_wsS RX7 41 yX7_within wsX7_within) := goodIn_app (goodIn_of _ (by decide +kernel)) ggX7_isPart_X7_within
theorem dX7_isPart_0 : decode cX7_isPart 0 = .ok (.iload_n 0, 1) := by decide +kernel
theorem dX7_isPart_1 : decode cX7_isPart 1 = .ok (.iconst 0, 1) := by decide +kernel
theorem dX7_isPart_2 : decode cX7_isPart 2 = .ok (.iconst 2, 1) := by decide +kernel
theorem dX7_isPart_3 : decode cX7_isPart 3 = .ok (.invokestatic 41, 3) := by decide +kernel
theorem dX7_isPart_6 : decode cX7_isPart 6 = .ok (.ireturn, 1) := by decide +kernel
set_option maxRecDepth 20000 in
theorem ggX7_isLeftover_X7_of : GoodIn wsX7_isLeftover wsX7_of := goodIn_r _ [6, 1, 7, 8, 9, 10, 11, 12, 13, 14, 15, 16, 17, 18, 19, 20, 21] rfl (by decide +kernel)
set_option maxRecDepth 20000 in
theorem gX7_isLeftover_X7_of : GoodIn wsX7_isLeftover (wsV RX7 45 RX7 yX7_of wsX7_of) := goodIn_app (goodIn_of _ (by decide +kernel)) ggX7_isLeftover_X7_of
theorem dX7_isLeftover_0 : decode cX7_isLeftover 0 = .ok (.iconst 0, 1) := by decide +kernel
theorem dX7_isLeftover_1 : decode cX7_isLeftover 1 = .ok (.istore_n 2, 1) := by decide +kernel
theorem dX7_isLeftover_2 : decode cX7_isLeftover 2 = .ok (.iconst 0, 1) := by decide +kernel
theorem dX7_isLeftover_3 : decode cX7_isLeftover 3 = .ok (.istore_n 3, 1) := by decide +kernel
theorem dX7_isLeftover_4 : decode cX7_isLeftover 4 = .ok (.iload_n 3, 1) := by decide +kernel
theorem dX7_isLeftover_5 : decode cX7_isLeftover 5 = .ok (.aload_n 0, 1) := by decide +kernel
theorem dX7_isLeftover_6 : decode cX7_isLeftover 6 = .ok (.getfield 7, 3) := by decide +kernel
theorem dX7_isLeftover_9 : decode cX7_isLeftover 9 = .ok (.iconst 3, 1) := by decide +kernel
theorem dX7_isLeftover_10 : decode cX7_isLeftover 10 = .ok (.iaload, 1) := by decide +kernel
theorem dX7_isLeftover_11 : decode cX7_isLeftover 11 = .ok (.if_icmp .ge 29, 3) := by decide +kernel
theorem dX7_isLeftover_14 : decode cX7_isLeftover 14 = .ok (.iload_n 2, 1) := by decide +kernel
theorem dX7_isLeftover_15 : decode cX7_isLeftover 15 = .ok (.ifCond .ne 13, 3) := by decide +kernel
theorem dX7_isLeftover_18 : decode cX7_isLeftover 18 = .ok (.aload_n 0, 1) := by decide +kernel
theorem dX7_isLeftover_19 : decode cX7_isLeftover 19 = .ok (.iload_n 3, 1) := by decide +kernel
theorem dX7_isLeftover_20 : decode cX7_isLeftover 20 = .ok (.iconst 4, 1) := by decide +kernel
theorem dX7_isLeftover_21 : decode cX7_isLeftover 21 = .ok (.invokevirtual 45, 3) := by decide +kernel
theorem dX7_isLeftover_24 : decode cX7_isLeftover 24 = .ok (.iload_n 1, 1) := by decide +kernel
theorem dX7_isLeftover_25 : decode cX7_isLeftover 25 = .ok (.if_icmp .ne 7, 3) := by decide +kernel
theorem dX7_isLeftover_28 : decode cX7_isLeftover 28 = .ok (.iconst 1, 1) := by decide +kernel
theorem dX7_isLeftover_29 : decode cX7_isLeftover 29 = .ok (.goto 4, 3) := by decide +kernel
theorem dX7_isLeftover_32 : decode cX7_isLeftover 32 = .ok (.iconst 0, 1) := by decide +kernel
theorem dX7_isLeftover_33 : decode cX7_isLeftover 33 = .ok (.istore_n 2, 1) := by decide +kernel
theorem dX7_isLeftover_34 : decode cX7_isLeftover 34 = .ok (.iinc 3 1, 3) := by decide +kernel
theorem dX7_isLeftover_37 : decode cX7_isLeftover 37 = .ok (.goto (-33), 3) := by decide +kernel
theorem dX7_isLeftover_40 : decode cX7_isLeftover 40 = .ok (.iload_n 2, 1) := by decide +kernel
theorem dX7_isLeftover_41 : decode cX7_isLeftover 41 = .ok (.ireturn, 1) := by decide +kernel
set_option maxRecDepth 20000 in
theorem ggX7_isSource_X7_of : GoodIn wsX7_isSource wsX7_of := goodIn_r _ [6, 1, 7, 8, 9, 10, 11, 12, 13, 14, 15, 16, 17, 18, 19, 20, 21] rfl (by decide +kernel)
set_option maxRecDepth 20000 in
theorem gX7_isSource_X7_of : GoodIn wsX7_isSource (wsV RX7 45 RX7 yX7_of wsX7_of) := goodIn_app (goodIn_of _ (by decide +kernel)) ggX7_isSource_X7_of
theorem dX7_isSource_0 : decode cX7_isSource 0 = .ok (.aload_n 0, 1) := by decide +kernel
theorem dX7_isSource_1 : decode cX7_isSource 1 = .ok (.getfield 7, 3) := by decide +kernel
theorem dX7_isSource_4 : decode cX7_isSource 4 = .ok (.bipush 89, 2) := by decide +kernel
theorem dX7_isSource_6 : decode cX7_isSource 6 = .ok (.iload_n 1, 1) := by decide +kernel
theorem dX7_isSource_7 : decode cX7_isSource 7 = .ok (.iadd, 1) := by decide +kernel
theorem dX7_isSource_8 : decode cX7_isSource 8 = .ok (.iaload, 1) := by decide +kernel
theorem dX7_isSource_9 : decode cX7_isSource 9 = .ok (.iconst (-1), 1) := by decide +kernel
theorem dX7_isSource_10 : decode cX7_isSource 10 = .ok (.if_icmp .eq 25, 3) := by decide +kernel
theorem dX7_isSource_13 : decode cX7_isSource 13 = .ok (.aload_n 0, 1) := by decide +kernel
theorem dX7_isSource_14 : decode cX7_isSource 14 = .ok (.aload_n 0, 1) := by decide +kernel
theorem dX7_isSource_15 : decode cX7_isSource 15 = .ok (.getfield 7, 3) := by decide +kernel
theorem dX7_isSource_18 : decode cX7_isSource 18 = .ok (.bipush 89, 2) := by decide +kernel
theorem dX7_isSource_20 : decode cX7_isSource 20 = .ok (.iload_n 1, 1) := by decide +kernel
theorem dX7_isSource_21 : decode cX7_isSource 21 = .ok (.iadd, 1) := by decide +kernel
theorem dX7_isSource_22 : decode cX7_isSource 22 = .ok (.iaload, 1) := by decide +kernel
theorem dX7_isSource_23 : decode cX7_isSource 23 = .ok (.iconst 4, 1) := by decide +kernel
theorem dX7_isSource_24 : decode cX7_isSource 24 = .ok (.invokevirtual 45, 3) := by decide +kernel
theorem dX7_isSource_27 : decode cX7_isSource 27 = .ok (.iconst (-1), 1) := by decide +kernel
theorem dX7_isSource_28 : decode cX7_isSource 28 = .ok (.if_icmp .eq 7, 3) := by decide +kernel
theorem dX7_isSource_31 : decode cX7_isSource 31 = .ok (.iconst 1, 1) := by decide +kernel
theorem dX7_isSource_32 : decode cX7_isSource 32 = .ok (.goto 4, 3) := by decide +kernel
theorem dX7_isSource_35 : decode cX7_isSource 35 = .ok (.iconst 0, 1) := by decide +kernel
theorem dX7_isSource_36 : decode cX7_isSource 36 = .ok (.ireturn, 1) := by decide +kernel
set_option maxRecDepth 20000 in
theorem ggX7_lastDay_X7_of : GoodIn wsX7_lastDay wsX7_of := goodIn_r _ [6, 1, 7, 8, 9, 10, 11, 12, 13, 14, 15, 16, 17, 18, 19, 20, 21] rfl (by decide +kernel)
