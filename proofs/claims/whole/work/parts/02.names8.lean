theorem dX7_planned_34 : decode cX7_planned 34 = .ok (.aload_n 0, 1) := by decide +kernel
theorem dX7_planned_35 : decode cX7_planned 35 = .ok (.iload_n 1, 1) := by decide +kernel
theorem dX7_planned_36 : decode cX7_planned 36 = .ok (.iload_n 2, 1) := by decide +kernel
theorem dX7_planned_37 : decode cX7_planned 37 = .ok (.invokevirtual 79, 3) := by decide +kernel
theorem dX7_planned_40 : decode cX7_planned 40 = .ok (.ireturn, 1) := by decide +kernel
set_option maxRecDepth 20000 in
theorem ggX7_servings_X7_match : GoodIn wsX7_servings wsX7_match := goodIn_r _ [7, 8, 2, 1, 9, 10, 11, 6, 12, 13, 14, 15, 16, 17, 18, 19, 20, 21, 22, 23, 24, 25, 26, 27, 28, 29, 30, 31, 32, 33, 34, 35, 36, 37, 38, 39, 40, 41, 42, 43, 44, 45, 46, 47] rfl (by decide +kernel)
set_option maxRecDepth 20000 in
theorem gX7_servings_X7_match : GoodIn wsX7_servings (wsV RX7 95 RX7 yX7_match wsX7_match) := goodIn_app (goodIn_of _ (by decide +kernel)) ggX7_servings_X7_match
set_option maxRecDepth 20000 in
theorem ggX7_servings_X7_isSource : GoodIn wsX7_servings wsX7_isSource := goodIn_r _ [28, 1, 13, 14, 15, 6, 16, 33, 34, 35, 36, 37, 38, 39, 40, 41, 42, 43, 44, 45, 46, 47] rfl (by decide +kernel)
set_option maxRecDepth 20000 in
theorem gX7_servings_X7_isSource : GoodIn wsX7_servings (wsV RX7 49 RX7 yX7_isSource wsX7_isSource) := goodIn_app (goodIn_of _ (by decide +kernel)) ggX7_servings_X7_isSource
theorem dX7_servings_0 : decode cX7_servings 0 = .ok (.aload_n 0, 1) := by decide +kernel
theorem dX7_servings_1 : decode cX7_servings 1 = .ok (.invokevirtual 95, 3) := by decide +kernel
theorem dX7_servings_4 : decode cX7_servings 4 = .ok (.istore_n 3, 1) := by decide +kernel
theorem dX7_servings_5 : decode cX7_servings 5 = .ok (.iconst 0, 1) := by decide +kernel
theorem dX7_servings_6 : decode cX7_servings 6 = .ok (.istore 4, 2) := by decide +kernel
theorem dX7_servings_8 : decode cX7_servings 8 = .ok (.iconst 0, 1) := by decide +kernel
theorem dX7_servings_9 : decode cX7_servings 9 = .ok (.istore 5, 2) := by decide +kernel
theorem dX7_servings_11 : decode cX7_servings 11 = .ok (.iload 5, 2) := by decide +kernel
theorem dX7_servings_13 : decode cX7_servings 13 = .ok (.bipush 84, 2) := by decide +kernel
theorem dX7_servings_15 : decode cX7_servings 15 = .ok (.if_icmp .ge 68, 3) := by decide +kernel
theorem dX7_servings_18 : decode cX7_servings 18 = .ok (.aload_n 0, 1) := by decide +kernel
theorem dX7_servings_19 : decode cX7_servings 19 = .ok (.getfield 7, 3) := by decide +kernel
theorem dX7_servings_22 : decode cX7_servings 22 = .ok (.bipush 89, 2) := by decide +kernel
theorem dX7_servings_24 : decode cX7_servings 24 = .ok (.iload 5, 2) := by decide +kernel
theorem dX7_servings_26 : decode cX7_servings 26 = .ok (.iadd, 1) := by decide +kernel
theorem dX7_servings_27 : decode cX7_servings 27 = .ok (.iaload, 1) := by decide +kernel
theorem dX7_servings_28 : decode cX7_servings 28 = .ok (.iload_n 1, 1) := by decide +kernel
theorem dX7_servings_29 : decode cX7_servings 29 = .ok (.if_icmp .ne 30, 3) := by decide +kernel
theorem dX7_servings_32 : decode cX7_servings 32 = .ok (.iload_n 2, 1) := by decide +kernel
theorem dX7_servings_33 : decode cX7_servings 33 = .ok (.ifCond .eq 22, 3) := by decide +kernel
theorem dX7_servings_36 : decode cX7_servings 36 = .ok (.aload_n 0, 1) := by decide +kernel
theorem dX7_servings_37 : decode cX7_servings 37 = .ok (.iload 5, 2) := by decide +kernel
theorem dX7_servings_39 : decode cX7_servings 39 = .ok (.invokevirtual 49, 3) := by decide +kernel
theorem dX7_servings_42 : decode cX7_servings 42 = .ok (.ifCond .eq 17, 3) := by decide +kernel
theorem dX7_servings_45 : decode cX7_servings 45 = .ok (.aload_n 0, 1) := by decide +kernel
theorem dX7_servings_46 : decode cX7_servings 46 = .ok (.getfield 28, 3) := by decide +kernel
theorem dX7_servings_49 : decode cX7_servings 49 = .ok (.iload 5, 2) := by decide +kernel
theorem dX7_servings_51 : decode cX7_servings 51 = .ok (.iaload, 1) := by decide +kernel
theorem dX7_servings_52 : decode cX7_servings 52 = .ok (.ifCond .ne 7, 3) := by decide +kernel
theorem dX7_servings_55 : decode cX7_servings 55 = .ok (.iconst 1, 1) := by decide +kernel
theorem dX7_servings_56 : decode cX7_servings 56 = .ok (.goto 4, 3) := by decide +kernel
theorem dX7_servings_59 : decode cX7_servings 59 = .ok (.iconst 0, 1) := by decide +kernel
theorem dX7_servings_60 : decode cX7_servings 60 = .ok (.istore 6, 2) := by decide +kernel
theorem dX7_servings_62 : decode cX7_servings 62 = .ok (.iload 4, 2) := by decide +kernel
theorem dX7_servings_64 : decode cX7_servings 64 = .ok (.iload 6, 2) := by decide +kernel
theorem dX7_servings_66 : decode cX7_servings 66 = .ok (.ifCond .eq 7, 3) := by decide +kernel
theorem dX7_servings_69 : decode cX7_servings 69 = .ok (.iconst 1, 1) := by decide +kernel
theorem dX7_servings_70 : decode cX7_servings 70 = .ok (.goto 4, 3) := by decide +kernel
theorem dX7_servings_73 : decode cX7_servings 73 = .ok (.iconst 0, 1) := by decide +kernel
theorem dX7_servings_74 : decode cX7_servings 74 = .ok (.iadd, 1) := by decide +kernel
theorem dX7_servings_75 : decode cX7_servings 75 = .ok (.istore 4, 2) := by decide +kernel
theorem dX7_servings_77 : decode cX7_servings 77 = .ok (.iinc 5 1, 3) := by decide +kernel
theorem dX7_servings_80 : decode cX7_servings 80 = .ok (.goto (-69), 3) := by decide +kernel
theorem dX7_servings_83 : decode cX7_servings 83 = .ok (.iload 4, 2) := by decide +kernel
theorem dX7_servings_85 : decode cX7_servings 85 = .ok (.ireturn, 1) := by decide +kernel
set_option maxRecDepth 20000 in
theorem ggX7_dishNow_X7_isLeftover : GoodIn wsX7_dishNow wsX7_isLeftover := goodIn_r _ [5, 6, 7, 8, 9, 4, 10, 37, 38, 39, 40, 41, 42, 43, 44, 45, 46, 47, 48, 49, 50, 51] rfl (by decide +kernel)
set_option maxRecDepth 20000 in
theorem gX7_dishNow_X7_isLeftover : GoodIn wsX7_dishNow (wsV RX7 60 RX7 yX7_isLeftover wsX7_isLeftover) := goodIn_app (goodIn_of _ (by decide +kernel)) ggX7_dishNow_X7_isLeftover
set_option maxRecDepth 20000 in
theorem ggX7_dishNow_X7_servings : GoodIn wsX7_dishNow wsX7_servings := goodIn_r _ [14, 6, 15, 16, 17, 18, 4, 19, 20, 1, 2, 3, 5, 7, 8, 9, 10, 21, 22, 23, 24, 25, 26, 27, 28, 29, 30, 31, 32, 33, 34, 35, 36, 37, 38, 39, 40, 41, 42, 43, 44, 45, 46, 47, 48, 49, 50, 51] rfl (by decide +kernel)
set_option maxRecDepth 20000 in
theorem gX7_dishNow_X7_servings : GoodIn wsX7_dishNow (wsV RX7 209 RX7 yX7_servings wsX7_servings) := goodIn_app (goodIn_of _ (by decide +kernel)) ggX7_dishNow_X7_servings
set_option maxRecDepth 20000 in
theorem ggX7_dishNow_X7_of : GoodIn wsX7_dishNow wsX7_of := goodIn_r _ [10, 6, 37, 38, 39, 40, 41, 42, 43, 44, 45, 46, 47, 48, 49, 50, 51] rfl (by decide +kernel)
set_option maxRecDepth 20000 in
theorem gX7_dishNow_X7_of : GoodIn wsX7_dishNow (wsV RX7 45 RX7 yX7_of wsX7_of) := goodIn_app (goodIn_of _ (by decide +kernel)) ggX7_dishNow_X7_of
theorem dX7_dishNow_0 : decode cX7_dishNow 0 = .ok (.iload_n 2, 1) := by decide +kernel
theorem dX7_dishNow_1 : decode cX7_dishNow 1 = .ok (.tableswitch 55 6 8 #[27, 41, 48], 27) := by decide +kernel
theorem dX7_dishNow_28 : decode cX7_dishNow 28 = .ok (.aload_n 0, 1) := by decide +kernel
theorem dX7_dishNow_29 : decode cX7_dishNow 29 = .ok (.iload_n 1, 1) := by decide +kernel
theorem dX7_dishNow_30 : decode cX7_dishNow 30 = .ok (.invokevirtual 60, 3) := by decide +kernel
theorem dX7_dishNow_33 : decode cX7_dishNow 33 = .ok (.ifCond .eq 7, 3) := by decide +kernel
theorem dX7_dishNow_36 : decode cX7_dishNow 36 = .ok (.iconst 1, 1) := by decide +kernel
theorem dX7_dishNow_37 : decode cX7_dishNow 37 = .ok (.goto 4, 3) := by decide +kernel
theorem dX7_dishNow_40 : decode cX7_dishNow 40 = .ok (.iconst 0, 1) := by decide +kernel
theorem dX7_dishNow_41 : decode cX7_dishNow 41 = .ok (.ireturn, 1) := by decide +kernel
theorem dX7_dishNow_42 : decode cX7_dishNow 42 = .ok (.aload_n 0, 1) := by decide +kernel
theorem dX7_dishNow_43 : decode cX7_dishNow 43 = .ok (.iload_n 1, 1) := by decide +kernel
theorem dX7_dishNow_44 : decode cX7_dishNow 44 = .ok (.iconst 0, 1) := by decide +kernel
theorem dX7_dishNow_45 : decode cX7_dishNow 45 = .ok (.invokevirtual 209, 3) := by decide +kernel
theorem dX7_dishNow_48 : decode cX7_dishNow 48 = .ok (.ireturn, 1) := by decide +kernel
theorem dX7_dishNow_49 : decode cX7_dishNow 49 = .ok (.aload_n 0, 1) := by decide +kernel
theorem dX7_dishNow_50 : decode cX7_dishNow 50 = .ok (.iload_n 1, 1) := by decide +kernel
theorem dX7_dishNow_51 : decode cX7_dishNow 51 = .ok (.iconst 1, 1) := by decide +kernel
theorem dX7_dishNow_52 : decode cX7_dishNow 52 = .ok (.invokevirtual 209, 3) := by decide +kernel
theorem dX7_dishNow_55 : decode cX7_dishNow 55 = .ok (.ireturn, 1) := by decide +kernel
theorem dX7_dishNow_56 : decode cX7_dishNow 56 = .ok (.aload_n 0, 1) := by decide +kernel
theorem dX7_dishNow_57 : decode cX7_dishNow 57 = .ok (.iload_n 1, 1) := by decide +kernel
theorem dX7_dishNow_58 : decode cX7_dishNow 58 = .ok (.iload_n 2, 1) := by decide +kernel
theorem dX7_dishNow_59 : decode cX7_dishNow 59 = .ok (.invokevirtual 45, 3) := by decide +kernel
theorem dX7_dishNow_62 : decode cX7_dishNow 62 = .ok (.ireturn, 1) := by decide +kernel
set_option maxRecDepth 20000 in
theorem ggX7_dish_X7_isDish : GoodIn wsX7_dish wsX7_isDish := goodIn_r _ [6, 7, 8, 9, 5, 10, 49, 50, 51, 52, 53, 54, 55, 56, 57, 58, 59, 60, 61, 62, 63] rfl (by decide +kernel)
set_option maxRecDepth 20000 in
theorem gX7_dish_X7_isDish : GoodIn wsX7_dish (wsV RX7 114 RX7 yX7_isDish wsX7_isDish) := goodIn_app (goodIn_of _ (by decide +kernel)) ggX7_dish_X7_isDish
set_option maxRecDepth 20000 in
theorem ggX7_dish_X7_within : GoodIn wsX7_dish wsX7_within := goodIn_r _ [10] rfl (by decide +kernel)
set_option maxRecDepth 20000 in
theorem gX7_dish_X7_within : GoodIn wsX7_dish (va_wsS RX7 41 yX7_within wsX7_within) := goodIn_app (goodIn_of _ (by decide +kernel)) ggX7_dish_X7_within
set_option maxRecDepth 20000 in
theorem ggX7_dish_X7_dishNow : GoodIn wsX7_dish wsX7_dishNow := goodIn_r _ [14, 15, 16, 17, 5, 18, 7, 19, 20, 21, 22, 23, 24, 25, 26, 27, 28, 29, 30, 31, 32, 33, 34, 35, 36, 37, 38, 39, 40, 41, 42, 43, 44, 45, 46, 47, 48, 49, 50, 51, 52, 53, 54, 55, 56, 57, 58, 59, 60, 61, 62, 63] rfl (by decide +kernel)
set_option maxRecDepth 20000 in
theorem gX7_dish_X7_dishNow : GoodIn wsX7_dish (wsV RX7 213 RX7 yX7_dishNow wsX7_dishNow) := goodIn_app (goodIn_of _ (by decide +kernel)) ggX7_dish_X7_dishNow
theorem dX7_dish_0 : decode cX7_dish 0 = .ok (.aload_n 0, 1) := by decide +kernel
theorem dX7_dish_1 : decode cX7_dish 1 = .ok (.aload_n 0, 1) := by decide +kernel
theorem dX7_dish_2 : decode cX7_dish 2 = .ok (.iload_n 1, 1) := by decide +kernel
theorem dX7_dish_3 : decode cX7_dish 3 = .ok (.invokevirtual 114, 3) := by decide +kernel
theorem dX7_dish_6 : decode cX7_dish 6 = .ok (.ifCond .ne 7, 3) := by decide +kernel
theorem dX7_dish_9 : decode cX7_dish 9 = .ok (.iconst 1, 1) := by decide +kernel
theorem dX7_dish_10 : decode cX7_dish 10 = .ok (.goto 18, 3) := by decide +kernel
theorem dX7_dish_13 : decode cX7_dish 13 = .ok (.iload_n 2, 1) := by decide +kernel
theorem dX7_dish_14 : decode cX7_dish 14 = .ok (.iconst 0, 1) := by decide +kernel
theorem dX7_dish_15 : decode cX7_dish 15 = .ok (.bipush 8, 2) := by decide +kernel
theorem dX7_dish_17 : decode cX7_dish 17 = .ok (.invokestatic 41, 3) := by decide +kernel
theorem dX7_dish_20 : decode cX7_dish 20 = .ok (.ifCond .eq 7, 3) := by decide +kernel
theorem dX7_dish_23 : decode cX7_dish 23 = .ok (.iconst 0, 1) := by decide +kernel
theorem dX7_dish_24 : decode cX7_dish 24 = .ok (.goto 4, 3) := by decide +kernel
theorem dX7_dish_27 : decode cX7_dish 27 = .ok (.iconst 2, 1) := by decide +kernel
theorem dX7_dish_28 : decode cX7_dish 28 = .ok (.putfield 34, 3) := by decide +kernel
theorem dX7_dish_31 : decode cX7_dish 31 = .ok (.aload_n 0, 1) := by decide +kernel
theorem dX7_dish_32 : decode cX7_dish 32 = .ok (.getfield 34, 3) := by decide +kernel
theorem dX7_dish_35 : decode cX7_dish 35 = .ok (.ifCond .le 7, 3) := by decide +kernel
theorem dX7_dish_38 : decode cX7_dish 38 = .ok (.iconst 0, 1) := by decide +kernel
theorem dX7_dish_39 : decode cX7_dish 39 = .ok (.goto 9, 3) := by decide +kernel
theorem dX7_dish_42 : decode cX7_dish 42 = .ok (.aload_n 0, 1) := by decide +kernel
theorem dX7_dish_43 : decode cX7_dish 43 = .ok (.iload_n 1, 1) := by decide +kernel
theorem dX7_dish_44 : decode cX7_dish 44 = .ok (.iload_n 2, 1) := by decide +kernel
theorem dX7_dish_45 : decode cX7_dish 45 = .ok (.invokevirtual 213, 3) := by decide +kernel
theorem dX7_dish_48 : decode cX7_dish 48 = .ok (.ireturn, 1) := by decide +kernel
theorem dX7_many_0 : decode cX7_many 0 = .ok (.iload_n 0, 1) := by decide +kernel
theorem dX7_many_1 : decode cX7_many 1 = .ok (.iconst (-1), 1) := by decide +kernel
theorem dX7_many_2 : decode cX7_many 2 = .ok (.if_icmp .ne 7, 3) := by decide +kernel
theorem dX7_many_5 : decode cX7_many 5 = .ok (.iconst 0, 1) := by decide +kernel
theorem dX7_many_6 : decode cX7_many 6 = .ok (.goto 4, 3) := by decide +kernel
theorem dX7_many_9 : decode cX7_many 9 = .ok (.iconst 1, 1) := by decide +kernel
theorem dX7_many_10 : decode cX7_many 10 = .ok (.ireturn, 1) := by decide +kernel
set_option maxRecDepth 20000 in
theorem ggX7_dishesOf_X7_at : GoodIn wsX7_dishesOf wsX7_at := goodIn_r _ [5, 6, 10, 11, 12, 13, 14, 15, 16, 17, 18, 19, 20, 21, 22, 23, 24] rfl (by decide +kernel)
set_option maxRecDepth 20000 in
theorem gX7_dishesOf_X7_at : GoodIn wsX7_dishesOf (wsV RX7 79 RX7 yX7_at wsX7_at) := goodIn_app (goodIn_of _ (by decide +kernel)) ggX7_dishesOf_X7_at
set_option maxRecDepth 20000 in
theorem ggX7_dishesOf_X7_many : GoodIn wsX7_dishesOf wsX7_many := goodIn_r _ [9] rfl (by decide +kernel)
set_option maxRecDepth 20000 in
theorem gX7_dishesOf_X7_many : GoodIn wsX7_dishesOf (va_wsS RX7 216 yX7_many wsX7_many) := goodIn_app (goodIn_of _ (by decide +kernel)) ggX7_dishesOf_X7_many
theorem dX7_dishesOf_0 : decode cX7_dishesOf 0 = .ok (.aload_n 0, 1) := by decide +kernel
theorem dX7_dishesOf_1 : decode cX7_dishesOf 1 = .ok (.iload_n 1, 1) := by decide +kernel
theorem dX7_dishesOf_2 : decode cX7_dishesOf 2 = .ok (.iconst 0, 1) := by decide +kernel
theorem dX7_dishesOf_3 : decode cX7_dishesOf 3 = .ok (.invokevirtual 79, 3) := by decide +kernel
theorem dX7_dishesOf_6 : decode cX7_dishesOf 6 = .ok (.invokestatic 216, 3) := by decide +kernel
theorem dX7_dishesOf_9 : decode cX7_dishesOf 9 = .ok (.aload_n 0, 1) := by decide +kernel
theorem dX7_dishesOf_10 : decode cX7_dishesOf 10 = .ok (.iload_n 1, 1) := by decide +kernel
theorem dX7_dishesOf_11 : decode cX7_dishesOf 11 = .ok (.iconst 1, 1) := by decide +kernel
theorem dX7_dishesOf_12 : decode cX7_dishesOf 12 = .ok (.invokevirtual 79, 3) := by decide +kernel
theorem dX7_dishesOf_15 : decode cX7_dishesOf 15 = .ok (.invokestatic 216, 3) := by decide +kernel
theorem dX7_dishesOf_18 : decode cX7_dishesOf 18 = .ok (.iadd, 1) := by decide +kernel
theorem dX7_dishesOf_19 : decode cX7_dishesOf 19 = .ok (.aload_n 0, 1) := by decide +kernel
theorem dX7_dishesOf_20 : decode cX7_dishesOf 20 = .ok (.iload_n 1, 1) := by decide +kernel
theorem dX7_dishesOf_21 : decode cX7_dishesOf 21 = .ok (.iconst 2, 1) := by decide +kernel
theorem dX7_dishesOf_22 : decode cX7_dishesOf 22 = .ok (.invokevirtual 79, 3) := by decide +kernel
theorem dX7_dishesOf_25 : decode cX7_dishesOf 25 = .ok (.invokestatic 216, 3) := by decide +kernel
theorem dX7_dishesOf_28 : decode cX7_dishesOf 28 = .ok (.iadd, 1) := by decide +kernel
theorem dX7_dishesOf_29 : decode cX7_dishesOf 29 = .ok (.ireturn, 1) := by decide +kernel
set_option maxRecDepth 20000 in
theorem ggX7_guestNow_X7_ofGuest : GoodIn wsX7_guestNow wsX7_ofGuest := goodIn_r _ [5, 6, 21, 22, 23, 24, 25, 26, 27, 28, 29, 30, 31, 32, 33, 34, 35] rfl (by decide +kernel)
set_option maxRecDepth 20000 in
theorem gX7_guestNow_X7_ofGuest : GoodIn wsX7_guestNow (wsV RX7 66 RX7 yX7_ofGuest wsX7_ofGuest) := goodIn_app (goodIn_of _ (by decide +kernel)) ggX7_guestNow_X7_ofGuest
set_option maxRecDepth 20000 in
theorem ggX7_guestNow_X7_has : GoodIn wsX7_guestNow wsX7_has := goodIn_r _ [9] rfl (by decide +kernel)
set_option maxRecDepth 20000 in
theorem gX7_guestNow_X7_has : GoodIn wsX7_guestNow (va_wsS RX7 69 yX7_has wsX7_has) := goodIn_app (goodIn_of _ (by decide +kernel)) ggX7_guestNow_X7_has
set_option maxRecDepth 20000 in
theorem ggX7_guestNow_X7_dishesOf : GoodIn wsX7_guestNow wsX7_dishesOf := goodIn_r _ [13, 14, 15, 16, 4, 17, 6, 18, 19, 20, 21, 22, 23, 24, 25, 26, 27, 28, 29, 30, 31, 32, 33, 34, 35] rfl (by decide +kernel)
set_option maxRecDepth 20000 in
theorem gX7_guestNow_X7_dishesOf : GoodIn wsX7_guestNow (wsV RX7 219 RX7 yX7_dishesOf wsX7_dishesOf) := goodIn_app (goodIn_of _ (by decide +kernel)) ggX7_guestNow_X7_dishesOf
theorem dX7_guestNow_0 : decode cX7_guestNow 0 = .ok (.iload_n 2, 1) := by decide +kernel
theorem dX7_guestNow_1 : decode cX7_guestNow 1 = .ok (.iconst 2, 1) := by decide +kernel
theorem dX7_guestNow_2 : decode cX7_guestNow 2 = .ok (.if_icmp .ge 10, 3) := by decide +kernel
theorem dX7_guestNow_5 : decode cX7_guestNow 5 = .ok (.aload_n 0, 1) := by decide +kernel
theorem dX7_guestNow_6 : decode cX7_guestNow 6 = .ok (.iload_n 1, 1) := by decide +kernel
theorem dX7_guestNow_7 : decode cX7_guestNow 7 = .ok (.iload_n 2, 1) := by decide +kernel
theorem dX7_guestNow_8 : decode cX7_guestNow 8 = .ok (.invokevirtual 66, 3) := by decide +kernel
theorem dX7_guestNow_11 : decode cX7_guestNow 11 = .ok (.ireturn, 1) := by decide +kernel
theorem dX7_guestNow_12 : decode cX7_guestNow 12 = .ok (.iconst 0, 1) := by decide +kernel
theorem dX7_guestNow_13 : decode cX7_guestNow 13 = .ok (.istore_n 3, 1) := by decide +kernel
theorem dX7_guestNow_14 : decode cX7_guestNow 14 = .ok (.iconst 0, 1) := by decide +kernel
theorem dX7_guestNow_15 : decode cX7_guestNow 15 = .ok (.istore 4, 2) := by decide +kernel
theorem dX7_guestNow_17 : decode cX7_guestNow 17 = .ok (.iload 4, 2) := by decide +kernel
theorem dX7_guestNow_19 : decode cX7_guestNow 19 = .ok (.bipush 28, 2) := by decide +kernel
theorem dX7_guestNow_21 : decode cX7_guestNow 21 = .ok (.if_icmp .ge 39, 3) := by decide +kernel
theorem dX7_guestNow_24 : decode cX7_guestNow 24 = .ok (.iload_n 3, 1) := by decide +kernel
theorem dX7_guestNow_25 : decode cX7_guestNow 25 = .ok (.aload_n 0, 1) := by decide +kernel
theorem dX7_guestNow_26 : decode cX7_guestNow 26 = .ok (.iload_n 1, 1) := by decide +kernel
theorem dX7_guestNow_27 : decode cX7_guestNow 27 = .ok (.iconst 0, 1) := by decide +kernel
theorem dX7_guestNow_28 : decode cX7_guestNow 28 = .ok (.invokevirtual 66, 3) := by decide +kernel
theorem dX7_guestNow_31 : decode cX7_guestNow 31 = .ok (.iload 4, 2) := by decide +kernel
theorem dX7_guestNow_33 : decode cX7_guestNow 33 = .ok (.bipush 7, 2) := by decide +kernel
theorem dX7_guestNow_35 : decode cX7_guestNow 35 = .ok (.irem, 1) := by decide +kernel
theorem dX7_guestNow_36 : decode cX7_guestNow 36 = .ok (.invokestatic 69, 3) := by decide +kernel
theorem dX7_guestNow_39 : decode cX7_guestNow 39 = .ok (.ifCond .eq 12, 3) := by decide +kernel
theorem dX7_guestNow_42 : decode cX7_guestNow 42 = .ok (.aload_n 0, 1) := by decide +kernel
theorem dX7_guestNow_43 : decode cX7_guestNow 43 = .ok (.iload 4, 2) := by decide +kernel
theorem dX7_guestNow_45 : decode cX7_guestNow 45 = .ok (.invokevirtual 219, 3) := by decide +kernel
theorem dX7_guestNow_48 : decode cX7_guestNow 48 = .ok (.goto 4, 3) := by decide +kernel
theorem dX7_guestNow_51 : decode cX7_guestNow 51 = .ok (.iconst 0, 1) := by decide +kernel
theorem dX7_guestNow_52 : decode cX7_guestNow 52 = .ok (.iadd, 1) := by decide +kernel
theorem dX7_guestNow_53 : decode cX7_guestNow 53 = .ok (.istore_n 3, 1) := by decide +kernel
theorem dX7_guestNow_54 : decode cX7_guestNow 54 = .ok (.iinc 4 1, 3) := by decide +kernel
theorem dX7_guestNow_57 : decode cX7_guestNow 57 = .ok (.goto (-40), 3) := by decide +kernel
theorem dX7_guestNow_60 : decode cX7_guestNow 60 = .ok (.iload_n 3, 1) := by decide +kernel
theorem dX7_guestNow_61 : decode cX7_guestNow 61 = .ok (.ireturn, 1) := by decide +kernel
set_option maxRecDepth 20000 in
theorem ggX7_guest_X7_isGuest : GoodIn wsX7_guest wsX7_isGuest := goodIn_r _ [6, 7, 8, 9, 5, 10, 33, 34, 35, 36, 37, 38, 39, 40, 41, 42, 43, 44, 45, 46, 47] rfl (by decide +kernel)
set_option maxRecDepth 20000 in
theorem gX7_guest_X7_isGuest : GoodIn wsX7_guest (wsV RX7 120 RX7 yX7_isGuest wsX7_isGuest) := goodIn_app (goodIn_of _ (by decide +kernel)) ggX7_guest_X7_isGuest
set_option maxRecDepth 20000 in
theorem ggX7_guest_X7_within : GoodIn wsX7_guest wsX7_within := goodIn_r _ [10] rfl (by decide +kernel)
set_option maxRecDepth 20000 in
theorem gX7_guest_X7_within : GoodIn wsX7_guest (va_wsS RX7 41 yX7_within wsX7_within) := goodIn_app (goodIn_of _ (by decide +kernel)) ggX7_guest_X7_within
set_option maxRecDepth 20000 in
theorem ggX7_guest_X7_guestNow : GoodIn wsX7_guest wsX7_guestNow := goodIn_r _ [14, 15, 16, 17, 5, 18, 7, 19, 20, 21, 22, 23, 24, 25, 26, 27, 28, 29, 30, 31, 32, 33, 34, 35, 36, 37, 38, 39, 40, 41, 42, 43, 44, 45, 46, 47] rfl (by decide +kernel)
set_option maxRecDepth 20000 in
theorem gX7_guest_X7_guestNow : GoodIn wsX7_guest (wsV RX7 222 RX7 yX7_guestNow wsX7_guestNow) := goodIn_app (goodIn_of _ (by decide +kernel)) ggX7_guest_X7_guestNow
theorem dX7_guest_0 : decode cX7_guest 0 = .ok (.aload_n 0, 1) := by decide +kernel
theorem dX7_guest_1 : decode cX7_guest 1 = .ok (.aload_n 0, 1) := by decide +kernel
theorem dX7_guest_2 : decode cX7_guest 2 = .ok (.iload_n 1, 1) := by decide +kernel
theorem dX7_guest_3 : decode cX7_guest 3 = .ok (.invokevirtual 120, 3) := by decide +kernel
theorem dX7_guest_6 : decode cX7_guest 6 = .ok (.ifCond .ne 7, 3) := by decide +kernel
theorem dX7_guest_9 : decode cX7_guest 9 = .ok (.iconst 1, 1) := by decide +kernel
theorem dX7_guest_10 : decode cX7_guest 10 = .ok (.goto 17, 3) := by decide +kernel
theorem dX7_guest_13 : decode cX7_guest 13 = .ok (.iload_n 2, 1) := by decide +kernel
theorem dX7_guest_14 : decode cX7_guest 14 = .ok (.iconst 0, 1) := by decide +kernel
theorem dX7_guest_15 : decode cX7_guest 15 = .ok (.iconst 2, 1) := by decide +kernel
theorem dX7_guest_16 : decode cX7_guest 16 = .ok (.invokestatic 41, 3) := by decide +kernel
theorem dX7_guest_19 : decode cX7_guest 19 = .ok (.ifCond .eq 7, 3) := by decide +kernel
theorem dX7_guest_22 : decode cX7_guest 22 = .ok (.iconst 0, 1) := by decide +kernel
theorem dX7_guest_23 : decode cX7_guest 23 = .ok (.goto 4, 3) := by decide +kernel
theorem dX7_guest_26 : decode cX7_guest 26 = .ok (.iconst 2, 1) := by decide +kernel
theorem dX7_guest_27 : decode cX7_guest 27 = .ok (.putfield 34, 3) := by decide +kernel
theorem dX7_guest_30 : decode cX7_guest 30 = .ok (.aload_n 0, 1) := by decide +kernel
theorem dX7_guest_31 : decode cX7_guest 31 = .ok (.getfield 34, 3) := by decide +kernel
theorem dX7_guest_34 : decode cX7_guest 34 = .ok (.ifCond .le 7, 3) := by decide +kernel
theorem dX7_guest_37 : decode cX7_guest 37 = .ok (.iconst 0, 1) := by decide +kernel
theorem dX7_guest_38 : decode cX7_guest 38 = .ok (.goto 9, 3) := by decide +kernel
theorem dX7_guest_41 : decode cX7_guest 41 = .ok (.aload_n 0, 1) := by decide +kernel
theorem dX7_guest_42 : decode cX7_guest 42 = .ok (.iload_n 1, 1) := by decide +kernel
theorem dX7_guest_43 : decode cX7_guest 43 = .ok (.iload_n 2, 1) := by decide +kernel
theorem dX7_guest_44 : decode cX7_guest 44 = .ok (.invokevirtual 222, 3) := by decide +kernel
theorem dX7_guest_47 : decode cX7_guest 47 = .ok (.ireturn, 1) := by decide +kernel
set_option maxRecDepth 20000 in
theorem ggX7_guestsOn_X7_ofGuest : GoodIn wsX7_guestsOn wsX7_ofGuest := goodIn_r _ [6, 1, 7, 8, 9, 10, 11, 12, 13, 14, 15, 16, 17, 18, 19, 20, 21] rfl (by decide +kernel)
set_option maxRecDepth 20000 in
theorem gX7_guestsOn_X7_ofGuest : GoodIn wsX7_guestsOn (wsV RX7 66 RX7 yX7_ofGuest wsX7_ofGuest) := goodIn_app (goodIn_of _ (by decide +kernel)) ggX7_guestsOn_X7_ofGuest
theorem dX7_guestsOn_0 : decode cX7_guestsOn 0 = .ok (.iconst 0, 1) := by decide +kernel
theorem dX7_guestsOn_1 : decode cX7_guestsOn 1 = .ok (.istore_n 2, 1) := by decide +kernel
theorem dX7_guestsOn_2 : decode cX7_guestsOn 2 = .ok (.iconst 0, 1) := by decide +kernel
theorem dX7_guestsOn_3 : decode cX7_guestsOn 3 = .ok (.istore_n 3, 1) := by decide +kernel
theorem dX7_guestsOn_4 : decode cX7_guestsOn 4 = .ok (.iload_n 3, 1) := by decide +kernel
theorem dX7_guestsOn_5 : decode cX7_guestsOn 5 = .ok (.aload_n 0, 1) := by decide +kernel
theorem dX7_guestsOn_6 : decode cX7_guestsOn 6 = .ok (.getfield 7, 3) := by decide +kernel
theorem dX7_guestsOn_9 : decode cX7_guestsOn 9 = .ok (.iconst 4, 1) := by decide +kernel
theorem dX7_guestsOn_10 : decode cX7_guestsOn 10 = .ok (.iaload, 1) := by decide +kernel
theorem dX7_guestsOn_11 : decode cX7_guestsOn 11 = .ok (.if_icmp .ge 25, 3) := by decide +kernel
theorem dX7_guestsOn_14 : decode cX7_guestsOn 14 = .ok (.iload_n 2, 1) := by decide +kernel
theorem dX7_guestsOn_15 : decode cX7_guestsOn 15 = .ok (.aload_n 0, 1) := by decide +kernel
theorem dX7_guestsOn_16 : decode cX7_guestsOn 16 = .ok (.iload_n 3, 1) := by decide +kernel
theorem dX7_guestsOn_17 : decode cX7_guestsOn 17 = .ok (.iconst 0, 1) := by decide +kernel
theorem dX7_guestsOn_18 : decode cX7_guestsOn 18 = .ok (.invokevirtual 66, 3) := by decide +kernel
theorem dX7_guestsOn_21 : decode cX7_guestsOn 21 = .ok (.iload_n 1, 1) := by decide +kernel
theorem dX7_guestsOn_22 : decode cX7_guestsOn 22 = .ok (.bipush 7, 2) := by decide +kernel
theorem dX7_guestsOn_24 : decode cX7_guestsOn 24 = .ok (.irem, 1) := by decide +kernel
theorem dX7_guestsOn_25 : decode cX7_guestsOn 25 = .ok (.ishr, 1) := by decide +kernel
theorem dX7_guestsOn_26 : decode cX7_guestsOn 26 = .ok (.iconst 1, 1) := by decide +kernel
theorem dX7_guestsOn_27 : decode cX7_guestsOn 27 = .ok (.iand, 1) := by decide +kernel
theorem dX7_guestsOn_28 : decode cX7_guestsOn 28 = .ok (.iadd, 1) := by decide +kernel
theorem dX7_guestsOn_29 : decode cX7_guestsOn 29 = .ok (.istore_n 2, 1) := by decide +kernel
theorem dX7_guestsOn_30 : decode cX7_guestsOn 30 = .ok (.iinc 3 1, 3) := by decide +kernel
theorem dX7_guestsOn_33 : decode cX7_guestsOn 33 = .ok (.goto (-29), 3) := by decide +kernel
theorem dX7_guestsOn_36 : decode cX7_guestsOn 36 = .ok (.iload_n 2, 1) := by decide +kernel
theorem dX7_guestsOn_37 : decode cX7_guestsOn 37 = .ok (.ireturn, 1) := by decide +kernel
set_option maxRecDepth 20000 in
theorem ggX7_dayNow_X7_dishesOf : GoodIn wsX7_dayNow wsX7_dishesOf := goodIn_r _ [5, 6, 7, 8, 4, 9, 10, 11, 12, 13, 45, 46, 47, 48, 49, 50, 51, 52, 53, 54, 55, 56, 57, 58, 59] rfl (by decide +kernel)
set_option maxRecDepth 20000 in
theorem gX7_dayNow_X7_dishesOf : GoodIn wsX7_dayNow (wsV RX7 219 RX7 yX7_dishesOf wsX7_dishesOf) := goodIn_app (goodIn_of _ (by decide +kernel)) ggX7_dayNow_X7_dishesOf
set_option maxRecDepth 20000 in
theorem ggX7_dayNow_X7_costOf : GoodIn wsX7_dayNow wsX7_costOf := goodIn_r _ [17, 6, 7, 8, 4, 9, 10, 18, 19, 20, 21, 45, 46, 47, 48, 49, 50, 51, 52, 53, 54, 55, 56, 57, 58, 59] rfl (by decide +kernel)
set_option maxRecDepth 20000 in
theorem gX7_dayNow_X7_costOf : GoodIn wsX7_dayNow (wsV RX7 82 RX7 yX7_costOf wsX7_costOf) := goodIn_app (goodIn_of _ (by decide +kernel)) ggX7_dayNow_X7_costOf
set_option maxRecDepth 20000 in
theorem ggX7_dayNow_X7_joyOf : GoodIn wsX7_dayNow wsX7_joyOf := goodIn_r _ [25, 6, 7, 8, 4, 9, 10, 26, 27, 28, 29, 18, 19, 20, 21, 45, 46, 47, 48, 49, 50, 51, 52, 53, 54, 55, 56, 57, 58, 59] rfl (by decide +kernel)
set_option maxRecDepth 20000 in
theorem gX7_dayNow_X7_joyOf : GoodIn wsX7_dayNow (wsV RX7 101 RX7 yX7_joyOf wsX7_joyOf) := goodIn_app (goodIn_of _ (by decide +kernel)) ggX7_dayNow_X7_joyOf
set_option maxRecDepth 20000 in
theorem ggX7_dayNow_X7_vetoed : GoodIn wsX7_dayNow wsX7_vetoed := goodIn_r _ [33, 10, 34, 35, 36, 4, 37, 38, 39, 40, 45, 46, 47, 48, 49, 50, 51, 52, 53, 54, 55, 56, 57, 58, 59] rfl (by decide +kernel)
set_option maxRecDepth 20000 in
theorem gX7_dayNow_X7_vetoed : GoodIn wsX7_dayNow (wsV RX7 73 RX7 yX7_vetoed wsX7_vetoed) := goodIn_app (goodIn_of _ (by decide +kernel)) ggX7_dayNow_X7_vetoed
set_option maxRecDepth 20000 in
theorem ggX7_dayNow_X7_guestsOn : GoodIn wsX7_dayNow wsX7_guestsOn := goodIn_r _ [44, 10, 34, 35, 36, 4, 37, 45, 46, 47, 48, 49, 50, 51, 52, 53, 54, 55, 56, 57, 58, 59] rfl (by decide +kernel)
set_option maxRecDepth 20000 in
theorem gX7_dayNow_X7_guestsOn : GoodIn wsX7_dayNow (wsV RX7 225 RX7 yX7_guestsOn wsX7_guestsOn) := goodIn_app (goodIn_of _ (by decide +kernel)) ggX7_dayNow_X7_guestsOn
theorem dX7_dayNow_0 : decode cX7_dayNow 0 = .ok (.iload_n 2, 1) := by decide +kernel
theorem dX7_dayNow_1 : decode cX7_dayNow 1 = .ok (.tableswitch 55 0 3 #[31, 37, 43, 49], 31) := by decide +kernel
theorem dX7_dayNow_32 : decode cX7_dayNow 32 = .ok (.aload_n 0, 1) := by decide +kernel
theorem dX7_dayNow_33 : decode cX7_dayNow 33 = .ok (.iload_n 1, 1) := by decide +kernel
theorem dX7_dayNow_34 : decode cX7_dayNow 34 = .ok (.invokevirtual 219, 3) := by decide +kernel
theorem dX7_dayNow_37 : decode cX7_dayNow 37 = .ok (.ireturn, 1) := by decide +kernel
theorem dX7_dayNow_38 : decode cX7_dayNow 38 = .ok (.aload_n 0, 1) := by decide +kernel
theorem dX7_dayNow_39 : decode cX7_dayNow 39 = .ok (.iload_n 1, 1) := by decide +kernel
theorem dX7_dayNow_40 : decode cX7_dayNow 40 = .ok (.invokevirtual 82, 3) := by decide +kernel
theorem dX7_dayNow_43 : decode cX7_dayNow 43 = .ok (.ireturn, 1) := by decide +kernel
theorem dX7_dayNow_44 : decode cX7_dayNow 44 = .ok (.aload_n 0, 1) := by decide +kernel
theorem dX7_dayNow_45 : decode cX7_dayNow 45 = .ok (.iload_n 1, 1) := by decide +kernel
theorem dX7_dayNow_46 : decode cX7_dayNow 46 = .ok (.invokevirtual 101, 3) := by decide +kernel
theorem dX7_dayNow_49 : decode cX7_dayNow 49 = .ok (.ireturn, 1) := by decide +kernel
theorem dX7_dayNow_50 : decode cX7_dayNow 50 = .ok (.aload_n 0, 1) := by decide +kernel
theorem dX7_dayNow_51 : decode cX7_dayNow 51 = .ok (.iload_n 1, 1) := by decide +kernel
theorem dX7_dayNow_52 : decode cX7_dayNow 52 = .ok (.invokevirtual 73, 3) := by decide +kernel
theorem dX7_dayNow_55 : decode cX7_dayNow 55 = .ok (.ireturn, 1) := by decide +kernel
theorem dX7_dayNow_56 : decode cX7_dayNow 56 = .ok (.aload_n 0, 1) := by decide +kernel
theorem dX7_dayNow_57 : decode cX7_dayNow 57 = .ok (.iload_n 1, 1) := by decide +kernel
theorem dX7_dayNow_58 : decode cX7_dayNow 58 = .ok (.invokevirtual 225, 3) := by decide +kernel
theorem dX7_dayNow_61 : decode cX7_dayNow 61 = .ok (.ireturn, 1) := by decide +kernel
set_option maxRecDepth 20000 in
theorem ggX7_day_X7_isDay : GoodIn wsX7_day wsX7_isDay := goodIn_r _ [5, 6, 7, 4, 8] rfl (by decide +kernel)
set_option maxRecDepth 20000 in
theorem gX7_day_X7_isDay : GoodIn wsX7_day (va_wsS RX7 146 yX7_isDay wsX7_isDay) := goodIn_app (goodIn_of _ (by decide +kernel)) ggX7_day_X7_isDay
set_option maxRecDepth 20000 in
theorem ggX7_day_X7_within : GoodIn wsX7_day wsX7_within := goodIn_r _ [8] rfl (by decide +kernel)
set_option maxRecDepth 20000 in
theorem gX7_day_X7_within : GoodIn wsX7_day (va_wsS RX7 41 yX7_within wsX7_within) := goodIn_app (goodIn_of _ (by decide +kernel)) ggX7_day_X7_within
set_option maxRecDepth 20000 in
theorem ggX7_day_X7_dayNow : GoodIn wsX7_day wsX7_dayNow := goodIn_r _ [12, 13, 14, 15, 4, 16, 17, 18, 19, 20, 21, 22, 23, 24, 25, 26, 27, 28, 29, 30, 31, 32, 33, 34, 35, 36, 37, 38, 39, 40, 41, 42, 43, 44, 45, 46, 47, 48, 49, 50, 51, 52, 53, 54, 55, 56, 57, 58, 59, 60, 61, 62, 63, 64, 65, 66, 67, 68, 69, 70] rfl (by decide +kernel)
set_option maxRecDepth 20000 in
theorem gX7_day_X7_dayNow : GoodIn wsX7_day (wsV RX7 228 RX7 yX7_dayNow wsX7_dayNow) := goodIn_app (goodIn_of _ (by decide +kernel)) ggX7_day_X7_dayNow
theorem dX7_day_0 : decode cX7_day 0 = .ok (.aload_n 0, 1) := by decide +kernel
theorem dX7_day_1 : decode cX7_day 1 = .ok (.iload_n 1, 1) := by decide +kernel
theorem dX7_day_2 : decode cX7_day 2 = .ok (.invokestatic 146, 3) := by decide +kernel
theorem dX7_day_5 : decode cX7_day 5 = .ok (.ifCond .ne 7, 3) := by decide +kernel
theorem dX7_day_8 : decode cX7_day 8 = .ok (.iconst 1, 1) := by decide +kernel
theorem dX7_day_9 : decode cX7_day 9 = .ok (.goto 17, 3) := by decide +kernel
theorem dX7_day_12 : decode cX7_day 12 = .ok (.iload_n 2, 1) := by decide +kernel
theorem dX7_day_13 : decode cX7_day 13 = .ok (.iconst 0, 1) := by decide +kernel
theorem dX7_day_14 : decode cX7_day 14 = .ok (.iconst 4, 1) := by decide +kernel
theorem dX7_day_15 : decode cX7_day 15 = .ok (.invokestatic 41, 3) := by decide +kernel
theorem dX7_day_18 : decode cX7_day 18 = .ok (.ifCond .eq 7, 3) := by decide +kernel
theorem dX7_day_21 : decode cX7_day 21 = .ok (.iconst 0, 1) := by decide +kernel
theorem dX7_day_22 : decode cX7_day 22 = .ok (.goto 4, 3) := by decide +kernel
theorem dX7_day_25 : decode cX7_day 25 = .ok (.iconst 2, 1) := by decide +kernel
theorem dX7_day_26 : decode cX7_day 26 = .ok (.putfield 34, 3) := by decide +kernel
theorem dX7_day_29 : decode cX7_day 29 = .ok (.aload_n 0, 1) := by decide +kernel
theorem dX7_day_30 : decode cX7_day 30 = .ok (.getfield 34, 3) := by decide +kernel
theorem dX7_day_33 : decode cX7_day 33 = .ok (.ifCond .le 7, 3) := by decide +kernel
theorem dX7_day_36 : decode cX7_day 36 = .ok (.iconst 0, 1) := by decide +kernel
theorem dX7_day_37 : decode cX7_day 37 = .ok (.goto 9, 3) := by decide +kernel
theorem dX7_day_40 : decode cX7_day 40 = .ok (.aload_n 0, 1) := by decide +kernel
theorem dX7_day_41 : decode cX7_day 41 = .ok (.iload_n 1, 1) := by decide +kernel
theorem dX7_day_42 : decode cX7_day 42 = .ok (.iload_n 2, 1) := by decide +kernel
theorem dX7_day_43 : decode cX7_day 43 = .ok (.invokevirtual 228, 3) := by decide +kernel
theorem dX7_day_46 : decode cX7_day 46 = .ok (.ireturn, 1) := by decide +kernel
set_option maxRecDepth 20000 in
theorem ggX7_sourceNow_X7_match : GoodIn wsX7_sourceNow wsX7_match := goodIn_r _ [6, 1, 7, 8, 9, 10, 11, 5, 12, 13, 14, 15, 16, 17, 18, 19, 20, 21, 22, 23, 24, 25, 26, 27, 28, 29, 30, 31, 32, 33, 34, 35, 36, 37, 38, 39, 40, 41, 42, 43, 44, 45, 46, 47] rfl (by decide +kernel)
set_option maxRecDepth 20000 in
theorem gX7_sourceNow_X7_match : GoodIn wsX7_sourceNow (wsV RX7 95 RX7 yX7_match wsX7_match) := goodIn_app (goodIn_of _ (by decide +kernel)) ggX7_sourceNow_X7_match
theorem dX7_sourceNow_0 : decode cX7_sourceNow 0 = .ok (.aload_n 0, 1) := by decide +kernel
theorem dX7_sourceNow_1 : decode cX7_sourceNow 1 = .ok (.invokevirtual 95, 3) := by decide +kernel
theorem dX7_sourceNow_4 : decode cX7_sourceNow 4 = .ok (.istore_n 3, 1) := by decide +kernel
theorem dX7_sourceNow_5 : decode cX7_sourceNow 5 = .ok (.aload_n 0, 1) := by decide +kernel
theorem dX7_sourceNow_6 : decode cX7_sourceNow 6 = .ok (.getfield 25, 3) := by decide +kernel
theorem dX7_sourceNow_9 : decode cX7_sourceNow 9 = .ok (.iconst 3, 1) := by decide +kernel
theorem dX7_sourceNow_10 : decode cX7_sourceNow 10 = .ok (.iload_n 1, 1) := by decide +kernel
theorem dX7_sourceNow_11 : decode cX7_sourceNow 11 = .ok (.imul, 1) := by decide +kernel
theorem dX7_sourceNow_12 : decode cX7_sourceNow 12 = .ok (.iload_n 2, 1) := by decide +kernel
theorem dX7_sourceNow_13 : decode cX7_sourceNow 13 = .ok (.iadd, 1) := by decide +kernel
theorem dX7_sourceNow_14 : decode cX7_sourceNow 14 = .ok (.iaload, 1) := by decide +kernel
theorem dX7_sourceNow_15 : decode cX7_sourceNow 15 = .ok (.istore 4, 2) := by decide +kernel
theorem dX7_sourceNow_17 : decode cX7_sourceNow 17 = .ok (.iload_n 3, 1) := by decide +kernel
theorem dX7_sourceNow_18 : decode cX7_sourceNow 18 = .ok (.ifCond .eq 16, 3) := by decide +kernel
theorem dX7_sourceNow_21 : decode cX7_sourceNow 21 = .ok (.iload 4, 2) := by decide +kernel
theorem dX7_sourceNow_23 : decode cX7_sourceNow 23 = .ok (.iconst (-1), 1) := by decide +kernel
theorem dX7_sourceNow_24 : decode cX7_sourceNow 24 = .ok (.if_icmp .eq 10, 3) := by decide +kernel
theorem dX7_sourceNow_27 : decode cX7_sourceNow 27 = .ok (.iload 4, 2) := by decide +kernel
theorem dX7_sourceNow_29 : decode cX7_sourceNow 29 = .ok (.iconst 3, 1) := by decide +kernel
theorem dX7_sourceNow_30 : decode cX7_sourceNow 30 = .ok (.idiv, 1) := by decide +kernel
theorem dX7_sourceNow_31 : decode cX7_sourceNow 31 = .ok (.goto 4, 3) := by decide +kernel
theorem dX7_sourceNow_34 : decode cX7_sourceNow 34 = .ok (.iconst (-1), 1) := by decide +kernel
theorem dX7_sourceNow_35 : decode cX7_sourceNow 35 = .ok (.ireturn, 1) := by decide +kernel
set_option maxRecDepth 20000 in
theorem ggX7_source_X7_isDay : GoodIn wsX7_source wsX7_isDay := goodIn_r _ [5, 6, 7, 4, 8] rfl (by decide +kernel)
set_option maxRecDepth 20000 in
theorem gX7_source_X7_isDay : GoodIn wsX7_source (va_wsS RX7 146 yX7_isDay wsX7_isDay) := goodIn_app (goodIn_of _ (by decide +kernel)) ggX7_source_X7_isDay
set_option maxRecDepth 20000 in
theorem ggX7_source_X7_isPart : GoodIn wsX7_source wsX7_isPart := goodIn_r _ [11, 6, 7, 4, 8] rfl (by decide +kernel)
set_option maxRecDepth 20000 in
theorem gX7_source_X7_isPart : GoodIn wsX7_source (va_wsS RX7 104 yX7_isPart wsX7_isPart) := goodIn_app (goodIn_of _ (by decide +kernel)) ggX7_source_X7_isPart
set_option maxRecDepth 20000 in
theorem ggX7_source_X7_sourceNow : GoodIn wsX7_source wsX7_sourceNow := goodIn_r _ [15, 16, 17, 18, 19, 4, 20, 21, 22, 23, 24, 25, 26, 27, 28, 29, 30, 31, 32, 33, 34, 35, 36, 37, 38, 39, 40, 41, 42, 43, 44, 45, 46, 47, 48, 49, 50, 51, 52, 53, 54, 55, 56, 57, 58, 59, 60, 61] rfl (by decide +kernel)
set_option maxRecDepth 20000 in
theorem gX7_source_X7_sourceNow : GoodIn wsX7_source (wsV RX7 231 RX7 yX7_sourceNow wsX7_sourceNow) := goodIn_app (goodIn_of _ (by decide +kernel)) ggX7_source_X7_sourceNow
theorem dX7_source_0 : decode cX7_source 0 = .ok (.aload_n 0, 1) := by decide +kernel
theorem dX7_source_1 : decode cX7_source 1 = .ok (.iload_n 1, 1) := by decide +kernel
theorem dX7_source_2 : decode cX7_source 2 = .ok (.invokestatic 146, 3) := by decide +kernel
theorem dX7_source_5 : decode cX7_source 5 = .ok (.ifCond .eq 14, 3) := by decide +kernel
theorem dX7_source_8 : decode cX7_source 8 = .ok (.iload_n 2, 1) := by decide +kernel
theorem dX7_source_9 : decode cX7_source 9 = .ok (.invokestatic 104, 3) := by decide +kernel
theorem dX7_source_12 : decode cX7_source 12 = .ok (.ifCond .eq 7, 3) := by decide +kernel
theorem dX7_source_15 : decode cX7_source 15 = .ok (.iconst 0, 1) := by decide +kernel
theorem dX7_source_16 : decode cX7_source 16 = .ok (.goto 4, 3) := by decide +kernel
theorem dX7_source_19 : decode cX7_source 19 = .ok (.iconst 1, 1) := by decide +kernel
theorem dX7_source_20 : decode cX7_source 20 = .ok (.putfield 34, 3) := by decide +kernel
theorem dX7_source_23 : decode cX7_source 23 = .ok (.aload_n 0, 1) := by decide +kernel
theorem dX7_source_24 : decode cX7_source 24 = .ok (.getfield 34, 3) := by decide +kernel
theorem dX7_source_27 : decode cX7_source 27 = .ok (.ifCond .le 7, 3) := by decide +kernel
theorem dX7_source_30 : decode cX7_source 30 = .ok (.iconst 0, 1) := by decide +kernel
theorem dX7_source_31 : decode cX7_source 31 = .ok (.goto 9, 3) := by decide +kernel
theorem dX7_source_34 : decode cX7_source 34 = .ok (.aload_n 0, 1) := by decide +kernel
theorem dX7_source_35 : decode cX7_source 35 = .ok (.iload_n 1, 1) := by decide +kernel
theorem dX7_source_36 : decode cX7_source 36 = .ok (.iload_n 2, 1) := by decide +kernel
theorem dX7_source_37 : decode cX7_source 37 = .ok (.invokevirtual 231, 3) := by decide +kernel
theorem dX7_source_40 : decode cX7_source 40 = .ok (.ireturn, 1) := by decide +kernel
set_option maxRecDepth 20000 in
theorem ggX7_sources_X7_match : GoodIn wsX7_sources wsX7_match := goodIn_r _ [6, 7, 1, 8, 9, 10, 11, 5, 12, 13, 14, 15, 16, 17, 18, 19, 20, 21, 22, 23, 24, 25, 26, 27, 28, 29, 30, 31, 32, 33, 34, 35, 36, 37, 38, 39, 40, 41, 42, 43, 44, 45, 46, 47] rfl (by decide +kernel)
set_option maxRecDepth 20000 in
theorem gX7_sources_X7_match : GoodIn wsX7_sources (wsV RX7 95 RX7 yX7_match wsX7_match) := goodIn_app (goodIn_of _ (by decide +kernel)) ggX7_sources_X7_match
set_option maxRecDepth 20000 in
theorem ggX7_sources_X7_isSource : GoodIn wsX7_sources wsX7_isSource := goodIn_r _ [28, 8, 13, 14, 15, 5, 16, 33, 34, 35, 36, 37, 38, 39, 40, 41, 42, 43, 44, 45, 46, 47] rfl (by decide +kernel)
set_option maxRecDepth 20000 in
theorem gX7_sources_X7_isSource : GoodIn wsX7_sources (wsV RX7 49 RX7 yX7_isSource wsX7_isSource) := goodIn_app (goodIn_of _ (by decide +kernel)) ggX7_sources_X7_isSource
theorem dX7_sources_0 : decode cX7_sources 0 = .ok (.iconst 0, 1) := by decide +kernel
theorem dX7_sources_1 : decode cX7_sources 1 = .ok (.istore_n 2, 1) := by decide +kernel
theorem dX7_sources_2 : decode cX7_sources 2 = .ok (.aload_n 0, 1) := by decide +kernel
theorem dX7_sources_3 : decode cX7_sources 3 = .ok (.invokevirtual 95, 3) := by decide +kernel
theorem dX7_sources_6 : decode cX7_sources 6 = .ok (.istore_n 3, 1) := by decide +kernel
theorem dX7_sources_7 : decode cX7_sources 7 = .ok (.iconst 0, 1) := by decide +kernel
theorem dX7_sources_8 : decode cX7_sources 8 = .ok (.istore 4, 2) := by decide +kernel
theorem dX7_sources_10 : decode cX7_sources 10 = .ok (.iload 4, 2) := by decide +kernel
theorem dX7_sources_12 : decode cX7_sources 12 = .ok (.bipush 84, 2) := by decide +kernel
theorem dX7_sources_14 : decode cX7_sources 14 = .ok (.if_icmp .ge 40, 3) := by decide +kernel
theorem dX7_sources_17 : decode cX7_sources 17 = .ok (.iload_n 2, 1) := by decide +kernel
theorem dX7_sources_18 : decode cX7_sources 18 = .ok (.aload_n 0, 1) := by decide +kernel
theorem dX7_sources_19 : decode cX7_sources 19 = .ok (.iload 4, 2) := by decide +kernel
theorem dX7_sources_21 : decode cX7_sources 21 = .ok (.invokevirtual 49, 3) := by decide +kernel
theorem dX7_sources_24 : decode cX7_sources 24 = .ok (.ifCond .eq 21, 3) := by decide +kernel
theorem dX7_sources_27 : decode cX7_sources 27 = .ok (.iload_n 1, 1) := by decide +kernel
theorem dX7_sources_28 : decode cX7_sources 28 = .ok (.ifCond .eq 13, 3) := by decide +kernel
theorem dX7_sources_31 : decode cX7_sources 31 = .ok (.aload_n 0, 1) := by decide +kernel
theorem dX7_sources_32 : decode cX7_sources 32 = .ok (.getfield 28, 3) := by decide +kernel
theorem dX7_sources_35 : decode cX7_sources 35 = .ok (.iload 4, 2) := by decide +kernel
theorem dX7_sources_37 : decode cX7_sources 37 = .ok (.iaload, 1) := by decide +kernel
theorem dX7_sources_38 : decode cX7_sources 38 = .ok (.ifCond .ne 7, 3) := by decide +kernel
theorem dX7_sources_41 : decode cX7_sources 41 = .ok (.iconst 1, 1) := by decide +kernel
theorem dX7_sources_42 : decode cX7_sources 42 = .ok (.goto 4, 3) := by decide +kernel
theorem dX7_sources_45 : decode cX7_sources 45 = .ok (.iconst 0, 1) := by decide +kernel
theorem dX7_sources_46 : decode cX7_sources 46 = .ok (.iadd, 1) := by decide +kernel
theorem dX7_sources_47 : decode cX7_sources 47 = .ok (.istore_n 2, 1) := by decide +kernel
theorem dX7_sources_48 : decode cX7_sources 48 = .ok (.iinc 4 1, 3) := by decide +kernel
theorem dX7_sources_51 : decode cX7_sources 51 = .ok (.goto (-41), 3) := by decide +kernel
theorem dX7_sources_54 : decode cX7_sources 54 = .ok (.iload_n 2, 1) := by decide +kernel
theorem dX7_sources_55 : decode cX7_sources 55 = .ok (.ireturn, 1) := by decide +kernel
set_option maxRecDepth 20000 in
theorem ggX7_wholeDays_X7_dishesOf : GoodIn wsX7_wholeDays wsX7_dishesOf := goodIn_r _ [5, 6, 7, 8, 4, 9, 10, 11, 12, 13, 14, 15, 16, 17, 18, 19, 20, 21, 22, 23, 24, 25, 26, 27, 28] rfl (by decide +kernel)
set_option maxRecDepth 20000 in
theorem gX7_wholeDays_X7_dishesOf : GoodIn wsX7_wholeDays (wsV RX7 219 RX7 yX7_dishesOf wsX7_dishesOf) := goodIn_app (goodIn_of _ (by decide +kernel)) ggX7_wholeDays_X7_dishesOf
theorem dX7_wholeDays_0 : decode cX7_wholeDays 0 = .ok (.iconst 0, 1) := by decide +kernel
theorem dX7_wholeDays_1 : decode cX7_wholeDays 1 = .ok (.istore_n 1, 1) := by decide +kernel
theorem dX7_wholeDays_2 : decode cX7_wholeDays 2 = .ok (.iconst 0, 1) := by decide +kernel
theorem dX7_wholeDays_3 : decode cX7_wholeDays 3 = .ok (.istore_n 2, 1) := by decide +kernel
theorem dX7_wholeDays_4 : decode cX7_wholeDays 4 = .ok (.iload_n 2, 1) := by decide +kernel
theorem dX7_wholeDays_5 : decode cX7_wholeDays 5 = .ok (.bipush 28, 2) := by decide +kernel
theorem dX7_wholeDays_7 : decode cX7_wholeDays 7 = .ok (.if_icmp .ge 26, 3) := by decide +kernel
theorem dX7_wholeDays_10 : decode cX7_wholeDays 10 = .ok (.iload_n 1, 1) := by decide +kernel
theorem dX7_wholeDays_11 : decode cX7_wholeDays 11 = .ok (.aload_n 0, 1) := by decide +kernel
theorem dX7_wholeDays_12 : decode cX7_wholeDays 12 = .ok (.iload_n 2, 1) := by decide +kernel
theorem dX7_wholeDays_13 : decode cX7_wholeDays 13 = .ok (.invokevirtual 219, 3) := by decide +kernel
theorem dX7_wholeDays_16 : decode cX7_wholeDays 16 = .ok (.iconst 3, 1) := by decide +kernel
theorem dX7_wholeDays_17 : decode cX7_wholeDays 17 = .ok (.if_icmp .ne 7, 3) := by decide +kernel
theorem dX7_wholeDays_20 : decode cX7_wholeDays 20 = .ok (.iconst 1, 1) := by decide +kernel
theorem dX7_wholeDays_21 : decode cX7_wholeDays 21 = .ok (.goto 4, 3) := by decide +kernel
theorem dX7_wholeDays_24 : decode cX7_wholeDays 24 = .ok (.iconst 0, 1) := by decide +kernel
theorem dX7_wholeDays_25 : decode cX7_wholeDays 25 = .ok (.iadd, 1) := by decide +kernel
theorem dX7_wholeDays_26 : decode cX7_wholeDays 26 = .ok (.istore_n 1, 1) := by decide +kernel
theorem dX7_wholeDays_27 : decode cX7_wholeDays 27 = .ok (.iinc 2 1, 3) := by decide +kernel
theorem dX7_wholeDays_30 : decode cX7_wholeDays 30 = .ok (.goto (-26), 3) := by decide +kernel
theorem dX7_wholeDays_33 : decode cX7_wholeDays 33 = .ok (.iload_n 1, 1) := by decide +kernel
theorem dX7_wholeDays_34 : decode cX7_wholeDays 34 = .ok (.ireturn, 1) := by decide +kernel
set_option maxRecDepth 20000 in
theorem ggX7_costOfAll_X7_weekCost : GoodIn wsX7_costOfAll wsX7_weekCost := goodIn_r _ [5, 6, 7, 8, 4, 9, 10, 11, 12, 13, 14, 15, 16, 17, 18, 19, 20, 21, 22, 23, 24, 25, 26, 27, 28, 29, 30, 31, 32, 33] rfl (by decide +kernel)
set_option maxRecDepth 20000 in
theorem gX7_costOfAll_X7_weekCost : GoodIn wsX7_costOfAll (wsV RX7 85 RX7 yX7_weekCost wsX7_weekCost) := goodIn_app (goodIn_of _ (by decide +kernel)) ggX7_costOfAll_X7_weekCost
theorem dX7_costOfAll_0 : decode cX7_costOfAll 0 = .ok (.aload_n 0, 1) := by decide +kernel
theorem dX7_costOfAll_1 : decode cX7_costOfAll 1 = .ok (.iconst 0, 1) := by decide +kernel
theorem dX7_costOfAll_2 : decode cX7_costOfAll 2 = .ok (.invokevirtual 85, 3) := by decide +kernel
theorem dX7_costOfAll_5 : decode cX7_costOfAll 5 = .ok (.aload_n 0, 1) := by decide +kernel
theorem dX7_costOfAll_6 : decode cX7_costOfAll 6 = .ok (.iconst 1, 1) := by decide +kernel
theorem dX7_costOfAll_7 : decode cX7_costOfAll 7 = .ok (.invokevirtual 85, 3) := by decide +kernel
theorem dX7_costOfAll_10 : decode cX7_costOfAll 10 = .ok (.iadd, 1) := by decide +kernel
theorem dX7_costOfAll_11 : decode cX7_costOfAll 11 = .ok (.aload_n 0, 1) := by decide +kernel
theorem dX7_costOfAll_12 : decode cX7_costOfAll 12 = .ok (.iconst 2, 1) := by decide +kernel
theorem dX7_costOfAll_13 : decode cX7_costOfAll 13 = .ok (.invokevirtual 85, 3) := by decide +kernel
theorem dX7_costOfAll_16 : decode cX7_costOfAll 16 = .ok (.iadd, 1) := by decide +kernel
theorem dX7_costOfAll_17 : decode cX7_costOfAll 17 = .ok (.aload_n 0, 1) := by decide +kernel
theorem dX7_costOfAll_18 : decode cX7_costOfAll 18 = .ok (.iconst 3, 1) := by decide +kernel
theorem dX7_costOfAll_19 : decode cX7_costOfAll 19 = .ok (.invokevirtual 85, 3) := by decide +kernel
theorem dX7_costOfAll_22 : decode cX7_costOfAll 22 = .ok (.iadd, 1) := by decide +kernel
theorem dX7_costOfAll_23 : decode cX7_costOfAll 23 = .ok (.ireturn, 1) := by decide +kernel
set_option maxRecDepth 20000 in
theorem ggX7_counted_X7_dishesInPlan : GoodIn wsX7_counted wsX7_dishesInPlan := goodIn_r _ [8, 1, 82, 83, 84, 85, 86, 87, 88, 89, 90, 91, 92, 93, 94, 95, 96] rfl (by decide +kernel)
set_option maxRecDepth 20000 in
theorem gX7_counted_X7_dishesInPlan : GoodIn wsX7_counted (wsV RX7 169 RX7 yX7_dishesInPlan wsX7_dishesInPlan) := goodIn_app (goodIn_of _ (by decide +kernel)) ggX7_counted_X7_dishesInPlan
set_option maxRecDepth 20000 in
theorem ggX7_counted_X7_joyOfAll : GoodIn wsX7_counted wsX7_joyOfAll := goodIn_r _ [12, 13, 14, 15, 7, 16, 17, 18, 19, 20, 1, 21, 22, 23, 24, 25, 26, 27, 28, 82, 83, 84, 85, 86, 87, 88, 89, 90, 91, 92, 93, 94, 95, 96] rfl (by decide +kernel)
set_option maxRecDepth 20000 in
theorem gX7_counted_X7_joyOfAll : GoodIn wsX7_counted (wsV RX7 162 RX7 yX7_joyOfAll wsX7_joyOfAll) := goodIn_app (goodIn_of _ (by decide +kernel)) ggX7_counted_X7_joyOfAll
set_option maxRecDepth 20000 in
theorem ggX7_counted_X7_costOfAll : GoodIn wsX7_counted wsX7_costOfAll := goodIn_r _ [32, 33, 34, 35, 7, 36, 37, 38, 39, 40, 17, 18, 19, 20, 1, 25, 26, 27, 28, 82, 83, 84, 85, 86, 87, 88, 89, 90, 91, 92, 93, 94, 95, 96] rfl (by decide +kernel)
set_option maxRecDepth 20000 in
theorem gX7_counted_X7_costOfAll : GoodIn wsX7_counted (wsV RX7 234 RX7 yX7_costOfAll wsX7_costOfAll) := goodIn_app (goodIn_of _ (by decide +kernel)) ggX7_counted_X7_costOfAll
set_option maxRecDepth 20000 in
theorem ggX7_counted_X7_sources : GoodIn wsX7_counted wsX7_sources := goodIn_r _ [44, 45, 46, 47, 48, 7, 49, 50, 1, 51, 52, 53, 54, 25, 26, 27, 28, 55, 56, 57, 58, 59, 60, 61, 62, 63, 64, 65, 66, 67, 68, 69, 70, 82, 83, 84, 85, 86, 87, 88, 89, 90, 91, 92, 93, 94, 95, 96] rfl (by decide +kernel)
set_option maxRecDepth 20000 in
theorem gX7_counted_X7_sources : GoodIn wsX7_counted (wsV RX7 237 RX7 yX7_sources wsX7_sources) := goodIn_app (goodIn_of _ (by decide +kernel)) ggX7_counted_X7_sources
set_option maxRecDepth 20000 in
theorem ggX7_counted_X7_wholeDays : GoodIn wsX7_counted wsX7_wholeDays := goodIn_r _ [74, 75, 76, 77, 7, 78, 17, 18, 19, 20, 1, 79, 80, 81, 82, 83, 84, 85, 86, 87, 88, 89, 90, 91, 92, 93, 94, 95, 96] rfl (by decide +kernel)
set_option maxRecDepth 20000 in
theorem gX7_counted_X7_wholeDays : GoodIn wsX7_counted (wsV RX7 241 RX7 yX7_wholeDays wsX7_wholeDays) := goodIn_app (goodIn_of _ (by decide +kernel)) ggX7_counted_X7_wholeDays
set_option maxRecDepth 20000 in
theorem ggX7_counted_X7_weekCost : GoodIn wsX7_counted wsX7_weekCost := goodIn_r _ [36, 37, 38, 39, 7, 40, 17, 18, 19, 20, 1, 25, 26, 27, 28, 82, 83, 84, 85, 86, 87, 88, 89, 90, 91, 92, 93, 94, 95, 96] rfl (by decide +kernel)
set_option maxRecDepth 20000 in
theorem gX7_counted_X7_weekCost : GoodIn wsX7_counted (wsV RX7 85 RX7 yX7_weekCost wsX7_weekCost) := goodIn_app (goodIn_of _ (by decide +kernel)) ggX7_counted_X7_weekCost
theorem dX7_counted_0 : decode cX7_counted 0 = .ok (.iload_n 1, 1) := by decide +kernel
theorem dX7_counted_1 : decode cX7_counted 1 = .ok (.tableswitch 136 0 13 #[71, 78, 85, 90, 95, 100, 106, 112, 136, 136, 136, 136, 117, 131], 71) := by decide +kernel
theorem dX7_counted_72 : decode cX7_counted 72 = .ok (.aload_n 0, 1) := by decide +kernel
theorem dX7_counted_73 : decode cX7_counted 73 = .ok (.getfield 7, 3) := by decide +kernel
theorem dX7_counted_76 : decode cX7_counted 76 = .ok (.iconst 3, 1) := by decide +kernel
theorem dX7_counted_77 : decode cX7_counted 77 = .ok (.iaload, 1) := by decide +kernel
theorem dX7_counted_78 : decode cX7_counted 78 = .ok (.ireturn, 1) := by decide +kernel
theorem dX7_counted_79 : decode cX7_counted 79 = .ok (.aload_n 0, 1) := by decide +kernel
theorem dX7_counted_80 : decode cX7_counted 80 = .ok (.getfield 7, 3) := by decide +kernel
theorem dX7_counted_83 : decode cX7_counted 83 = .ok (.iconst 4, 1) := by decide +kernel
theorem dX7_counted_84 : decode cX7_counted 84 = .ok (.iaload, 1) := by decide +kernel
theorem dX7_counted_85 : decode cX7_counted 85 = .ok (.ireturn, 1) := by decide +kernel
theorem dX7_counted_86 : decode cX7_counted 86 = .ok (.aload_n 0, 1) := by decide +kernel
theorem dX7_counted_87 : decode cX7_counted 87 = .ok (.invokevirtual 169, 3) := by decide +kernel
theorem dX7_counted_90 : decode cX7_counted 90 = .ok (.ireturn, 1) := by decide +kernel
theorem dX7_counted_91 : decode cX7_counted 91 = .ok (.aload_n 0, 1) := by decide +kernel
theorem dX7_counted_92 : decode cX7_counted 92 = .ok (.invokevirtual 162, 3) := by decide +kernel
theorem dX7_counted_95 : decode cX7_counted 95 = .ok (.ireturn, 1) := by decide +kernel
theorem dX7_counted_96 : decode cX7_counted 96 = .ok (.aload_n 0, 1) := by decide +kernel
theorem dX7_counted_97 : decode cX7_counted 97 = .ok (.invokevirtual 234, 3) := by decide +kernel
theorem dX7_counted_100 : decode cX7_counted 100 = .ok (.ireturn, 1) := by decide +kernel
theorem dX7_counted_101 : decode cX7_counted 101 = .ok (.aload_n 0, 1) := by decide +kernel
theorem dX7_counted_102 : decode cX7_counted 102 = .ok (.iconst 0, 1) := by decide +kernel
theorem dX7_counted_103 : decode cX7_counted 103 = .ok (.invokevirtual 237, 3) := by decide +kernel
theorem dX7_counted_106 : decode cX7_counted 106 = .ok (.ireturn, 1) := by decide +kernel
theorem dX7_counted_107 : decode cX7_counted 107 = .ok (.aload_n 0, 1) := by decide +kernel
theorem dX7_counted_108 : decode cX7_counted 108 = .ok (.iconst 1, 1) := by decide +kernel
theorem dX7_counted_109 : decode cX7_counted 109 = .ok (.invokevirtual 237, 3) := by decide +kernel
theorem dX7_counted_112 : decode cX7_counted 112 = .ok (.ireturn, 1) := by decide +kernel
theorem dX7_counted_113 : decode cX7_counted 113 = .ok (.aload_n 0, 1) := by decide +kernel
theorem dX7_counted_114 : decode cX7_counted 114 = .ok (.invokevirtual 241, 3) := by decide +kernel
theorem dX7_counted_117 : decode cX7_counted 117 = .ok (.ireturn, 1) := by decide +kernel
theorem dX7_counted_118 : decode cX7_counted 118 = .ok (.aload_n 0, 1) := by decide +kernel
theorem dX7_counted_119 : decode cX7_counted 119 = .ok (.getfield 19, 3) := by decide +kernel
theorem dX7_counted_122 : decode cX7_counted 122 = .ok (.iconst 0, 1) := by decide +kernel
theorem dX7_counted_123 : decode cX7_counted 123 = .ok (.iaload, 1) := by decide +kernel
theorem dX7_counted_124 : decode cX7_counted 124 = .ok (.aload_n 0, 1) := by decide +kernel
theorem dX7_counted_125 : decode cX7_counted 125 = .ok (.getfield 19, 3) := by decide +kernel
theorem dX7_counted_128 : decode cX7_counted 128 = .ok (.iconst 1, 1) := by decide +kernel
theorem dX7_counted_129 : decode cX7_counted 129 = .ok (.iaload, 1) := by decide +kernel
theorem dX7_counted_130 : decode cX7_counted 130 = .ok (.iadd, 1) := by decide +kernel
theorem dX7_counted_131 : decode cX7_counted 131 = .ok (.ireturn, 1) := by decide +kernel
theorem dX7_counted_132 : decode cX7_counted 132 = .ok (.aload_n 0, 1) := by decide +kernel
theorem dX7_counted_133 : decode cX7_counted 133 = .ok (.getfield 38, 3) := by decide +kernel
theorem dX7_counted_136 : decode cX7_counted 136 = .ok (.ireturn, 1) := by decide +kernel
theorem dX7_counted_137 : decode cX7_counted 137 = .ok (.aload_n 0, 1) := by decide +kernel
theorem dX7_counted_138 : decode cX7_counted 138 = .ok (.iload_n 1, 1) := by decide +kernel
theorem dX7_counted_139 : decode cX7_counted 139 = .ok (.bipush 8, 2) := by decide +kernel
theorem dX7_counted_141 : decode cX7_counted 141 = .ok (.isub, 1) := by decide +kernel
theorem dX7_counted_142 : decode cX7_counted 142 = .ok (.invokevirtual 85, 3) := by decide +kernel
theorem dX7_counted_145 : decode cX7_counted 145 = .ok (.ireturn, 1) := by decide +kernel
set_option maxRecDepth 20000 in
theorem ggX7_count_X7_within : GoodIn wsX7_count wsX7_within := goodIn_r _ [5] rfl (by decide +kernel)
set_option maxRecDepth 20000 in
theorem gX7_count_X7_within : GoodIn wsX7_count (va_wsS RX7 41 yX7_within wsX7_within) := goodIn_app (goodIn_of _ (by decide +kernel)) ggX7_count_X7_within
set_option maxRecDepth 20000 in
theorem ggX7_count_X7_counted : GoodIn wsX7_count wsX7_counted := goodIn_r _ [9, 10, 11, 12, 13, 14, 15, 4, 16, 17, 18, 19, 20, 21, 22, 23, 24, 25, 26, 27, 28, 29, 30, 31, 32, 33, 34, 35, 36, 37, 38, 39, 40, 41, 42, 43, 44, 45, 46, 47, 48, 49, 50, 51, 52, 53, 54, 55, 56, 57, 58, 59, 60, 61, 62, 63, 64, 65, 66, 67, 68, 69, 70, 71, 72, 73, 74, 75, 76, 77, 78, 79, 80, 81, 82, 83, 84, 85, 86, 87, 88, 89, 90, 91, 92, 93, 94, 95, 96, 97, 98, 99, 100, 101, 102, 103, 104] rfl (by decide +kernel)
set_option maxRecDepth 20000 in
theorem gX7_count_X7_counted : GoodIn wsX7_count (wsV RX7 244 RX7 yX7_counted wsX7_counted) := goodIn_app (goodIn_of _ (by decide +kernel)) ggX7_count_X7_counted
theorem dX7_count_0 : decode cX7_count 0 = .ok (.aload_n 0, 1) := by decide +kernel
theorem dX7_count_1 : decode cX7_count 1 = .ok (.iload_n 1, 1) := by decide +kernel
theorem dX7_count_2 : decode cX7_count 2 = .ok (.iconst 0, 1) := by decide +kernel
theorem dX7_count_3 : decode cX7_count 3 = .ok (.bipush 13, 2) := by decide +kernel
theorem dX7_count_5 : decode cX7_count 5 = .ok (.invokestatic 41, 3) := by decide +kernel
theorem dX7_count_8 : decode cX7_count 8 = .ok (.ifCond .eq 7, 3) := by decide +kernel
theorem dX7_count_11 : decode cX7_count 11 = .ok (.iconst 0, 1) := by decide +kernel
theorem dX7_count_12 : decode cX7_count 12 = .ok (.goto 4, 3) := by decide +kernel
theorem dX7_count_15 : decode cX7_count 15 = .ok (.iconst 1, 1) := by decide +kernel
theorem dX7_count_16 : decode cX7_count 16 = .ok (.putfield 34, 3) := by decide +kernel
theorem dX7_count_19 : decode cX7_count 19 = .ok (.aload_n 0, 1) := by decide +kernel
theorem dX7_count_20 : decode cX7_count 20 = .ok (.getfield 34, 3) := by decide +kernel
theorem dX7_count_23 : decode cX7_count 23 = .ok (.ifCond .le 7, 3) := by decide +kernel
theorem dX7_count_26 : decode cX7_count 26 = .ok (.iconst 0, 1) := by decide +kernel
theorem dX7_count_27 : decode cX7_count 27 = .ok (.goto 8, 3) := by decide +kernel
theorem dX7_count_30 : decode cX7_count 30 = .ok (.aload_n 0, 1) := by decide +kernel
theorem dX7_count_31 : decode cX7_count 31 = .ok (.iload_n 1, 1) := by decide +kernel
theorem dX7_count_32 : decode cX7_count 32 = .ok (.invokevirtual 244, 3) := by decide +kernel
theorem dX7_count_35 : decode cX7_count 35 = .ok (.ireturn, 1) := by decide +kernel
set_option maxRecDepth 20000 in
theorem ggX7_setting_X7_isSetting : GoodIn wsX7_setting wsX7_isSetting := goodIn_r _ [6, 7, 8, 5, 9] rfl (by decide +kernel)
set_option maxRecDepth 20000 in
theorem gX7_setting_X7_isSetting : GoodIn wsX7_setting (va_wsS RX7 130 yX7_isSetting wsX7_isSetting) := goodIn_app (goodIn_of _ (by decide +kernel)) ggX7_setting_X7_isSetting
theorem dX7_setting_0 : decode cX7_setting 0 = .ok (.aload_n 0, 1) := by decide +kernel
theorem dX7_setting_1 : decode cX7_setting 1 = .ok (.iload_n 1, 1) := by decide +kernel
theorem dX7_setting_2 : decode cX7_setting 2 = .ok (.invokestatic 130, 3) := by decide +kernel
theorem dX7_setting_5 : decode cX7_setting 5 = .ok (.ifCond .eq 7, 3) := by decide +kernel
theorem dX7_setting_8 : decode cX7_setting 8 = .ok (.iconst 0, 1) := by decide +kernel
theorem dX7_setting_9 : decode cX7_setting 9 = .ok (.goto 4, 3) := by decide +kernel
theorem dX7_setting_12 : decode cX7_setting 12 = .ok (.iconst 1, 1) := by decide +kernel
theorem dX7_setting_13 : decode cX7_setting 13 = .ok (.putfield 34, 3) := by decide +kernel
theorem dX7_setting_16 : decode cX7_setting 16 = .ok (.aload_n 0, 1) := by decide +kernel
theorem dX7_setting_17 : decode cX7_setting 17 = .ok (.getfield 34, 3) := by decide +kernel
theorem dX7_setting_20 : decode cX7_setting 20 = .ok (.ifCond .le 7, 3) := by decide +kernel
theorem dX7_setting_23 : decode cX7_setting 23 = .ok (.iconst 0, 1) := by decide +kernel
theorem dX7_setting_24 : decode cX7_setting 24 = .ok (.goto 9, 3) := by decide +kernel
theorem dX7_setting_27 : decode cX7_setting 27 = .ok (.aload_n 0, 1) := by decide +kernel
theorem dX7_setting_28 : decode cX7_setting 28 = .ok (.getfield 7, 3) := by decide +kernel
theorem dX7_setting_31 : decode cX7_setting 31 = .ok (.iload_n 1, 1) := by decide +kernel
theorem dX7_setting_32 : decode cX7_setting 32 = .ok (.iaload, 1) := by decide +kernel
theorem dX7_setting_33 : decode cX7_setting 33 = .ok (.ireturn, 1) := by decide +kernel
set_option maxRecDepth 20000 in
theorem ggX7_whyNot_X7_isDay : GoodIn wsX7_whyNot wsX7_isDay := goodIn_r _ [5, 6, 7, 4, 8] rfl (by decide +kernel)
set_option maxRecDepth 20000 in
theorem gX7_whyNot_X7_isDay : GoodIn wsX7_whyNot (va_wsS RX7 146 yX7_isDay wsX7_isDay) := goodIn_app (goodIn_of _ (by decide +kernel)) ggX7_whyNot_X7_isDay
set_option maxRecDepth 20000 in
theorem ggX7_whyNot_X7_isPart : GoodIn wsX7_whyNot wsX7_isPart := goodIn_r _ [11, 6, 7, 4, 8] rfl (by decide +kernel)
set_option maxRecDepth 20000 in
theorem gX7_whyNot_X7_isPart : GoodIn wsX7_whyNot (va_wsS RX7 104 yX7_isPart wsX7_isPart) := goodIn_app (goodIn_of _ (by decide +kernel)) ggX7_whyNot_X7_isPart
set_option maxRecDepth 20000 in
theorem ggX7_whyNot_X7_isDish : GoodIn wsX7_whyNot wsX7_isDish := goodIn_r _ [15, 16, 6, 7, 4, 8, 86, 87, 88, 89, 90, 91, 92, 93, 94, 95, 96, 97, 98, 99, 100] rfl (by decide +kernel)
set_option maxRecDepth 20000 in
theorem gX7_whyNot_X7_isDish : GoodIn wsX7_whyNot (wsV RX7 114 RX7 yX7_isDish wsX7_isDish) := goodIn_app (goodIn_of _ (by decide +kernel)) ggX7_whyNot_X7_isDish
set_option maxRecDepth 20000 in
theorem ggX7_whyNot_X7_reason : GoodIn wsX7_whyNot wsX7_reason := goodIn_r _ [20, 16, 21, 22, 23, 4, 24, 25, 26, 27, 28, 29, 30, 31, 32, 33, 34, 35, 36, 37, 38, 39, 40, 41, 42, 43, 44, 45, 46, 47, 48, 49, 50, 51, 52, 53, 54, 55, 56, 57, 58, 59, 60, 61, 62, 63, 64, 65, 66, 67, 68, 69, 70, 71, 72, 73, 74, 75, 76, 77, 78, 79, 80, 81, 82, 83, 84, 85, 86, 87, 88, 89, 90, 91, 92, 93, 94, 95, 96, 97, 98, 99, 100] rfl (by decide +kernel)
set_option maxRecDepth 20000 in
theorem gX7_whyNot_X7_reason : GoodIn wsX7_whyNot (wsV RX7 142 RX7 yX7_reason wsX7_reason) := goodIn_app (goodIn_of _ (by decide +kernel)) ggX7_whyNot_X7_reason
theorem dX7_whyNot_0 : decode cX7_whyNot 0 = .ok (.aload_n 0, 1) := by decide +kernel
theorem dX7_whyNot_1 : decode cX7_whyNot 1 = .ok (.iload_n 1, 1) := by decide +kernel
theorem dX7_whyNot_2 : decode cX7_whyNot 2 = .ok (.invokestatic 146, 3) := by decide +kernel
theorem dX7_whyNot_5 : decode cX7_whyNot 5 = .ok (.ifCond .eq 22, 3) := by decide +kernel
theorem dX7_whyNot_8 : decode cX7_whyNot 8 = .ok (.iload_n 2, 1) := by decide +kernel
theorem dX7_whyNot_9 : decode cX7_whyNot 9 = .ok (.invokestatic 104, 3) := by decide +kernel
theorem dX7_whyNot_12 : decode cX7_whyNot 12 = .ok (.ifCond .eq 15, 3) := by decide +kernel
theorem dX7_whyNot_15 : decode cX7_whyNot 15 = .ok (.aload_n 0, 1) := by decide +kernel
theorem dX7_whyNot_16 : decode cX7_whyNot 16 = .ok (.iload_n 3, 1) := by decide +kernel
theorem dX7_whyNot_17 : decode cX7_whyNot 17 = .ok (.invokevirtual 114, 3) := by decide +kernel
theorem dX7_whyNot_20 : decode cX7_whyNot 20 = .ok (.ifCond .eq 7, 3) := by decide +kernel
theorem dX7_whyNot_23 : decode cX7_whyNot 23 = .ok (.iconst 0, 1) := by decide +kernel
theorem dX7_whyNot_24 : decode cX7_whyNot 24 = .ok (.goto 4, 3) := by decide +kernel
theorem dX7_whyNot_27 : decode cX7_whyNot 27 = .ok (.iconst 1, 1) := by decide +kernel
theorem dX7_whyNot_28 : decode cX7_whyNot 28 = .ok (.putfield 34, 3) := by decide +kernel
theorem dX7_whyNot_31 : decode cX7_whyNot 31 = .ok (.aload_n 0, 1) := by decide +kernel
theorem dX7_whyNot_32 : decode cX7_whyNot 32 = .ok (.getfield 34, 3) := by decide +kernel
theorem dX7_whyNot_35 : decode cX7_whyNot 35 = .ok (.ifCond .le 7, 3) := by decide +kernel
theorem dX7_whyNot_38 : decode cX7_whyNot 38 = .ok (.iconst 0, 1) := by decide +kernel
theorem dX7_whyNot_39 : decode cX7_whyNot 39 = .ok (.goto 10, 3) := by decide +kernel
theorem dX7_whyNot_42 : decode cX7_whyNot 42 = .ok (.aload_n 0, 1) := by decide +kernel
theorem dX7_whyNot_43 : decode cX7_whyNot 43 = .ok (.iload_n 1, 1) := by decide +kernel
theorem dX7_whyNot_44 : decode cX7_whyNot 44 = .ok (.iload_n 2, 1) := by decide +kernel
theorem dX7_whyNot_45 : decode cX7_whyNot 45 = .ok (.iload_n 3, 1) := by decide +kernel
theorem dX7_whyNot_46 : decode cX7_whyNot 46 = .ok (.invokevirtual 142, 3) := by decide +kernel
theorem dX7_whyNot_49 : decode cX7_whyNot 49 = .ok (.ireturn, 1) := by decide +kernel
set_option maxRecDepth 20000 in
theorem ggX7_joyOn_X7_isDay : GoodIn wsX7_joyOn wsX7_isDay := goodIn_r _ [5, 6, 7, 4, 8] rfl (by decide +kernel)
set_option maxRecDepth 20000 in
theorem gX7_joyOn_X7_isDay : GoodIn wsX7_joyOn (va_wsS RX7 146 yX7_isDay wsX7_isDay) := goodIn_app (goodIn_of _ (by decide +kernel)) ggX7_joyOn_X7_isDay
set_option maxRecDepth 20000 in
theorem ggX7_joyOn_X7_isDish : GoodIn wsX7_joyOn wsX7_isDish := goodIn_r _ [12, 13, 6, 7, 4, 8, 22, 23, 24, 25, 26, 27, 28, 29, 30, 31, 32, 33, 34, 35, 36] rfl (by decide +kernel)
set_option maxRecDepth 20000 in
theorem gX7_joyOn_X7_isDish : GoodIn wsX7_joyOn (wsV RX7 114 RX7 yX7_isDish wsX7_isDish) := goodIn_app (goodIn_of _ (by decide +kernel)) ggX7_joyOn_X7_isDish
set_option maxRecDepth 20000 in
theorem ggX7_joyOn_X7_joyNow : GoodIn wsX7_joyOn wsX7_joyNow := goodIn_r _ [17, 13, 18, 19, 20, 4, 21, 22, 23, 24, 25, 26, 27, 28, 29, 30, 31, 32, 33, 34, 35, 36] rfl (by decide +kernel)
set_option maxRecDepth 20000 in
theorem gX7_joyOn_X7_joyNow : GoodIn wsX7_joyOn (wsV RX7 98 RX7 yX7_joyNow wsX7_joyNow) := goodIn_app (goodIn_of _ (by decide +kernel)) ggX7_joyOn_X7_joyNow
theorem dX7_joyOn_0 : decode cX7_joyOn 0 = .ok (.aload_n 0, 1) := by decide +kernel
theorem dX7_joyOn_1 : decode cX7_joyOn 1 = .ok (.iload_n 1, 1) := by decide +kernel
theorem dX7_joyOn_2 : decode cX7_joyOn 2 = .ok (.invokestatic 146, 3) := by decide +kernel
theorem dX7_joyOn_5 : decode cX7_joyOn 5 = .ok (.ifCond .eq 15, 3) := by decide +kernel
theorem dX7_joyOn_8 : decode cX7_joyOn 8 = .ok (.aload_n 0, 1) := by decide +kernel
theorem dX7_joyOn_9 : decode cX7_joyOn 9 = .ok (.iload_n 2, 1) := by decide +kernel
theorem dX7_joyOn_10 : decode cX7_joyOn 10 = .ok (.invokevirtual 114, 3) := by decide +kernel
theorem dX7_joyOn_13 : decode cX7_joyOn 13 = .ok (.ifCond .eq 7, 3) := by decide +kernel
theorem dX7_joyOn_16 : decode cX7_joyOn 16 = .ok (.iconst 0, 1) := by decide +kernel
theorem dX7_joyOn_17 : decode cX7_joyOn 17 = .ok (.goto 4, 3) := by decide +kernel
theorem dX7_joyOn_20 : decode cX7_joyOn 20 = .ok (.iconst 1, 1) := by decide +kernel
theorem dX7_joyOn_21 : decode cX7_joyOn 21 = .ok (.putfield 34, 3) := by decide +kernel
theorem dX7_joyOn_24 : decode cX7_joyOn 24 = .ok (.aload_n 0, 1) := by decide +kernel
theorem dX7_joyOn_25 : decode cX7_joyOn 25 = .ok (.getfield 34, 3) := by decide +kernel
theorem dX7_joyOn_28 : decode cX7_joyOn 28 = .ok (.ifCond .le 7, 3) := by decide +kernel
theorem dX7_joyOn_31 : decode cX7_joyOn 31 = .ok (.iconst 0, 1) := by decide +kernel
theorem dX7_joyOn_32 : decode cX7_joyOn 32 = .ok (.goto 9, 3) := by decide +kernel
theorem dX7_joyOn_35 : decode cX7_joyOn 35 = .ok (.aload_n 0, 1) := by decide +kernel
theorem dX7_joyOn_36 : decode cX7_joyOn 36 = .ok (.iload_n 1, 1) := by decide +kernel
theorem dX7_joyOn_37 : decode cX7_joyOn 37 = .ok (.iload_n 2, 1) := by decide +kernel
theorem dX7_joyOn_38 : decode cX7_joyOn 38 = .ok (.invokevirtual 98, 3) := by decide +kernel
theorem dX7_joyOn_41 : decode cX7_joyOn 41 = .ok (.ireturn, 1) := by decide +kernel
set_option maxRecDepth 20000 in
theorem ggX7_best_X7_isDay : GoodIn wsX7_best wsX7_isDay := goodIn_r _ [5, 6, 7, 4, 8] rfl (by decide +kernel)
set_option maxRecDepth 20000 in
theorem gX7_best_X7_isDay : GoodIn wsX7_best (va_wsS RX7 146 yX7_isDay wsX7_isDay) := goodIn_app (goodIn_of _ (by decide +kernel)) ggX7_best_X7_isDay
set_option maxRecDepth 20000 in
theorem ggX7_best_X7_isPart : GoodIn wsX7_best wsX7_isPart := goodIn_r _ [11, 6, 7, 4, 8] rfl (by decide +kernel)
set_option maxRecDepth 20000 in
theorem gX7_best_X7_isPart : GoodIn wsX7_best (va_wsS RX7 104 yX7_isPart wsX7_isPart) := goodIn_app (goodIn_of _ (by decide +kernel)) ggX7_best_X7_isPart
set_option maxRecDepth 20000 in
theorem ggX7_best_X7_bestFor : GoodIn wsX7_best wsX7_bestFor := goodIn_r _ [15, 16, 17, 18, 19, 4, 20, 21, 22, 23, 24, 25, 26, 27, 28, 29, 30, 31, 32, 33, 34, 35, 36, 37, 38, 39, 40, 41, 42, 43, 44, 45, 46, 47, 48, 49, 50, 51, 52, 53, 54, 55, 56, 57, 58, 59, 60, 61, 62, 63, 64, 65, 66, 67, 68, 69, 70, 71, 72, 73, 74, 75, 76, 77, 78, 79, 80, 81, 82, 83, 84, 85, 86, 87, 88, 89, 90, 91, 92, 93, 94, 95, 96, 97, 98, 99, 100, 101, 102, 103, 104] rfl (by decide +kernel)
set_option maxRecDepth 20000 in
theorem gX7_best_X7_bestFor : GoodIn wsX7_best (wsV RX7 166 RX7 yX7_bestFor wsX7_bestFor) := goodIn_app (goodIn_of _ (by decide +kernel)) ggX7_best_X7_bestFor
theorem dX7_best_0 : decode cX7_best 0 = .ok (.aload_n 0, 1) := by decide +kernel
theorem dX7_best_1 : decode cX7_best 1 = .ok (.iload_n 1, 1) := by decide +kernel
theorem dX7_best_2 : decode cX7_best 2 = .ok (.invokestatic 146, 3) := by decide +kernel
theorem dX7_best_5 : decode cX7_best 5 = .ok (.ifCond .eq 14, 3) := by decide +kernel
theorem dX7_best_8 : decode cX7_best 8 = .ok (.iload_n 2, 1) := by decide +kernel
theorem dX7_best_9 : decode cX7_best 9 = .ok (.invokestatic 104, 3) := by decide +kernel
theorem dX7_best_12 : decode cX7_best 12 = .ok (.ifCond .eq 7, 3) := by decide +kernel
theorem dX7_best_15 : decode cX7_best 15 = .ok (.iconst 0, 1) := by decide +kernel
theorem dX7_best_16 : decode cX7_best 16 = .ok (.goto 4, 3) := by decide +kernel
theorem dX7_best_19 : decode cX7_best 19 = .ok (.iconst 1, 1) := by decide +kernel
theorem dX7_best_20 : decode cX7_best 20 = .ok (.putfield 34, 3) := by decide +kernel
theorem dX7_best_23 : decode cX7_best 23 = .ok (.aload_n 0, 1) := by decide +kernel
theorem dX7_best_24 : decode cX7_best 24 = .ok (.getfield 34, 3) := by decide +kernel
theorem dX7_best_27 : decode cX7_best 27 = .ok (.ifCond .le 7, 3) := by decide +kernel
theorem dX7_best_30 : decode cX7_best 30 = .ok (.iconst 0, 1) := by decide +kernel
theorem dX7_best_31 : decode cX7_best 31 = .ok (.goto 9, 3) := by decide +kernel
theorem dX7_best_34 : decode cX7_best 34 = .ok (.aload_n 0, 1) := by decide +kernel
theorem dX7_best_35 : decode cX7_best 35 = .ok (.iload_n 1, 1) := by decide +kernel
theorem dX7_best_36 : decode cX7_best 36 = .ok (.iload_n 2, 1) := by decide +kernel
theorem dX7_best_37 : decode cX7_best 37 = .ok (.invokevirtual 166, 3) := by decide +kernel
theorem dX7_best_40 : decode cX7_best 40 = .ok (.ireturn, 1) := by decide +kernel
set_option maxRecDepth 20000 in
theorem ggX7_gainNow_X7_joyOfAll : GoodIn wsX7_gainNow wsX7_joyOfAll := goodIn_r _ [5, 6, 7, 8, 4, 9, 10, 11, 12, 13, 14, 15, 16, 17, 18, 19, 20, 21, 22, 27, 28, 29, 30, 31, 32, 33, 34, 35, 36, 37, 38, 39, 40, 41] rfl (by decide +kernel)
set_option maxRecDepth 20000 in
theorem gX7_gainNow_X7_joyOfAll : GoodIn wsX7_gainNow (wsV RX7 162 RX7 yX7_joyOfAll wsX7_joyOfAll) := goodIn_app (goodIn_of _ (by decide +kernel)) ggX7_gainNow_X7_joyOfAll
set_option maxRecDepth 20000 in
theorem ggX7_gainNow_X7_of : GoodIn wsX7_gainNow wsX7_of := goodIn_r _ [22, 14, 27, 28, 29, 30, 31, 32, 33, 34, 35, 36, 37, 38, 39, 40, 41] rfl (by decide +kernel)
set_option maxRecDepth 20000 in
theorem gX7_gainNow_X7_of : GoodIn wsX7_gainNow (wsV RX7 45 RX7 yX7_of wsX7_of) := goodIn_app (goodIn_of _ (by decide +kernel)) ggX7_gainNow_X7_of
set_option maxRecDepth 20000 in
theorem ggX7_gainNow_X7_put : GoodIn wsX7_gainNow wsX7_put := goodIn_r _ [26, 14, 27, 28, 29, 30, 31, 32, 33, 34, 35, 36, 37, 38, 39, 40, 41] rfl (by decide +kernel)
set_option maxRecDepth 20000 in
theorem gX7_gainNow_X7_put : GoodIn wsX7_gainNow (wsV RX7 136 RX7 yX7_put wsX7_put) := goodIn_app (goodIn_of _ (by decide +kernel)) ggX7_gainNow_X7_put
theorem dX7_gainNow_0 : decode cX7_gainNow 0 = .ok (.aload_n 0, 1) := by decide +kernel
theorem dX7_gainNow_1 : decode cX7_gainNow 1 = .ok (.invokevirtual 162, 3) := by decide +kernel
theorem dX7_gainNow_4 : decode cX7_gainNow 4 = .ok (.istore_n 3, 1) := by decide +kernel
theorem dX7_gainNow_5 : decode cX7_gainNow 5 = .ok (.aload_n 0, 1) := by decide +kernel
theorem dX7_gainNow_6 : decode cX7_gainNow 6 = .ok (.iload_n 1, 1) := by decide +kernel
theorem dX7_gainNow_7 : decode cX7_gainNow 7 = .ok (.aload_n 0, 1) := by decide +kernel
theorem dX7_gainNow_8 : decode cX7_gainNow 8 = .ok (.iload_n 2, 1) := by decide +kernel
theorem dX7_gainNow_9 : decode cX7_gainNow 9 = .ok (.iconst 0, 1) := by decide +kernel
theorem dX7_gainNow_10 : decode cX7_gainNow 10 = .ok (.invokevirtual 45, 3) := by decide +kernel
theorem dX7_gainNow_13 : decode cX7_gainNow 13 = .ok (.iload_n 2, 1) := by decide +kernel
theorem dX7_gainNow_14 : decode cX7_gainNow 14 = .ok (.invokevirtual 136, 3) := by decide +kernel
theorem dX7_gainNow_17 : decode cX7_gainNow 17 = .ok (.aload_n 0, 1) := by decide +kernel
theorem dX7_gainNow_18 : decode cX7_gainNow 18 = .ok (.invokevirtual 162, 3) := by decide +kernel
theorem dX7_gainNow_21 : decode cX7_gainNow 21 = .ok (.istore 4, 2) := by decide +kernel
theorem dX7_gainNow_23 : decode cX7_gainNow 23 = .ok (.aload_n 0, 1) := by decide +kernel
theorem dX7_gainNow_24 : decode cX7_gainNow 24 = .ok (.iload_n 1, 1) := by decide +kernel
theorem dX7_gainNow_25 : decode cX7_gainNow 25 = .ok (.aload_n 0, 1) := by decide +kernel
theorem dX7_gainNow_26 : decode cX7_gainNow 26 = .ok (.iload_n 2, 1) := by decide +kernel
theorem dX7_gainNow_27 : decode cX7_gainNow 27 = .ok (.iconst 0, 1) := by decide +kernel
theorem dX7_gainNow_28 : decode cX7_gainNow 28 = .ok (.invokevirtual 45, 3) := by decide +kernel
theorem dX7_gainNow_31 : decode cX7_gainNow 31 = .ok (.iconst (-1), 1) := by decide +kernel
theorem dX7_gainNow_32 : decode cX7_gainNow 32 = .ok (.invokevirtual 136, 3) := by decide +kernel
theorem dX7_gainNow_35 : decode cX7_gainNow 35 = .ok (.iload 4, 2) := by decide +kernel
theorem dX7_gainNow_37 : decode cX7_gainNow 37 = .ok (.iload_n 3, 1) := by decide +kernel
theorem dX7_gainNow_38 : decode cX7_gainNow 38 = .ok (.isub, 1) := by decide +kernel
theorem dX7_gainNow_39 : decode cX7_gainNow 39 = .ok (.ireturn, 1) := by decide +kernel
set_option maxRecDepth 20000 in
theorem ggX7_gain_X7_isDay : GoodIn wsX7_gain wsX7_isDay := goodIn_r _ [5, 6, 7, 4, 8] rfl (by decide +kernel)
set_option maxRecDepth 20000 in
theorem gX7_gain_X7_isDay : GoodIn wsX7_gain (va_wsS RX7 146 yX7_isDay wsX7_isDay) := goodIn_app (goodIn_of _ (by decide +kernel)) ggX7_gain_X7_isDay
set_option maxRecDepth 20000 in
theorem ggX7_gain_X7_isDish : GoodIn wsX7_gain wsX7_isDish := goodIn_r _ [12, 13, 6, 7, 4, 8, 103, 104, 105, 106, 107, 108, 109, 110, 111, 112, 113, 114, 115, 116, 117] rfl (by decide +kernel)
set_option maxRecDepth 20000 in
theorem gX7_gain_X7_isDish : GoodIn wsX7_gain (wsV RX7 114 RX7 yX7_isDish wsX7_isDish) := goodIn_app (goodIn_of _ (by decide +kernel)) ggX7_gain_X7_isDish
set_option maxRecDepth 20000 in
theorem ggX7_gain_X7_canServe : GoodIn wsX7_gain wsX7_canServe := goodIn_r _ [17, 18, 19, 20, 4, 21, 13, 22, 23, 24, 25, 26, 27, 28, 29, 30, 31, 32, 33, 34, 35, 36, 37, 38, 39, 40, 41, 42, 43, 44, 45, 46, 47, 48, 49, 50, 51, 52, 53, 54, 55, 56, 57, 58, 59, 60, 61, 62, 63, 64, 65, 66, 67, 68, 69, 70, 71, 72, 73, 74, 75, 76, 77, 78, 79, 80, 81, 82, 83, 84, 85, 86, 103, 104, 105, 106, 107, 108, 109, 110, 111, 112, 113, 114, 115, 116, 117] rfl (by decide +kernel)
set_option maxRecDepth 20000 in
theorem gX7_gain_X7_canServe : GoodIn wsX7_gain (wsV RX7 149 RX7 yX7_canServe wsX7_canServe) := goodIn_app (goodIn_of _ (by decide +kernel)) ggX7_gain_X7_canServe
set_option maxRecDepth 20000 in
theorem ggX7_gain_X7_gainNow : GoodIn wsX7_gain wsX7_gainNow := goodIn_r _ [90, 91, 92, 93, 4, 94, 95, 96, 97, 98, 26, 27, 28, 29, 13, 99, 100, 101, 102, 18, 19, 20, 21, 57, 58, 59, 60, 103, 104, 105, 106, 107, 108, 109, 110, 111, 112, 113, 114, 115, 116, 117] rfl (by decide +kernel)
set_option maxRecDepth 20000 in
theorem gX7_gain_X7_gainNow : GoodIn wsX7_gain (wsV RX7 247 RX7 yX7_gainNow wsX7_gainNow) := goodIn_app (goodIn_of _ (by decide +kernel)) ggX7_gain_X7_gainNow
theorem dX7_gain_0 : decode cX7_gain 0 = .ok (.aload_n 0, 1) := by decide +kernel
theorem dX7_gain_1 : decode cX7_gain 1 = .ok (.iload_n 1, 1) := by decide +kernel
theorem dX7_gain_2 : decode cX7_gain 2 = .ok (.invokestatic 146, 3) := by decide +kernel
theorem dX7_gain_5 : decode cX7_gain 5 = .ok (.ifCond .eq 15, 3) := by decide +kernel
theorem dX7_gain_8 : decode cX7_gain 8 = .ok (.aload_n 0, 1) := by decide +kernel
theorem dX7_gain_9 : decode cX7_gain 9 = .ok (.iload_n 2, 1) := by decide +kernel
theorem dX7_gain_10 : decode cX7_gain 10 = .ok (.invokevirtual 114, 3) := by decide +kernel
theorem dX7_gain_13 : decode cX7_gain 13 = .ok (.ifCond .eq 7, 3) := by decide +kernel
theorem dX7_gain_16 : decode cX7_gain 16 = .ok (.iconst 0, 1) := by decide +kernel
theorem dX7_gain_17 : decode cX7_gain 17 = .ok (.goto 4, 3) := by decide +kernel
theorem dX7_gain_20 : decode cX7_gain 20 = .ok (.iconst 1, 1) := by decide +kernel
theorem dX7_gain_21 : decode cX7_gain 21 = .ok (.putfield 34, 3) := by decide +kernel
theorem dX7_gain_24 : decode cX7_gain 24 = .ok (.aload_n 0, 1) := by decide +kernel
theorem dX7_gain_25 : decode cX7_gain 25 = .ok (.getfield 34, 3) := by decide +kernel
theorem dX7_gain_28 : decode cX7_gain 28 = .ok (.ifCond .gt 12, 3) := by decide +kernel
theorem dX7_gain_31 : decode cX7_gain 31 = .ok (.aload_n 0, 1) := by decide +kernel
theorem dX7_gain_32 : decode cX7_gain 32 = .ok (.iload_n 1, 1) := by decide +kernel
theorem dX7_gain_33 : decode cX7_gain 33 = .ok (.iload_n 2, 1) := by decide +kernel
theorem dX7_gain_34 : decode cX7_gain 34 = .ok (.invokevirtual 149, 3) := by decide +kernel
theorem dX7_gain_37 : decode cX7_gain 37 = .ok (.ifCond .ne 7, 3) := by decide +kernel
theorem dX7_gain_40 : decode cX7_gain 40 = .ok (.iconst 0, 1) := by decide +kernel
theorem dX7_gain_41 : decode cX7_gain 41 = .ok (.goto 9, 3) := by decide +kernel
theorem dX7_gain_44 : decode cX7_gain 44 = .ok (.aload_n 0, 1) := by decide +kernel
theorem dX7_gain_45 : decode cX7_gain 45 = .ok (.iload_n 1, 1) := by decide +kernel
theorem dX7_gain_46 : decode cX7_gain 46 = .ok (.iload_n 2, 1) := by decide +kernel
theorem dX7_gain_47 : decode cX7_gain 47 = .ok (.invokevirtual 247, 3) := by decide +kernel
theorem dX7_gain_50 : decode cX7_gain 50 = .ok (.ireturn, 1) := by decide +kernel
set_option maxRecDepth 20000 in
theorem ggX7_dayFor_X7_canServe : GoodIn wsX7_dayFor wsX7_canServe := goodIn_r _ [5, 6, 7, 8, 4, 9, 10, 11, 12, 13, 14, 15, 16, 17, 18, 19, 20, 21, 22, 23, 24, 25, 26, 27, 28, 29, 30, 31, 32, 33, 34, 35, 36, 37, 38, 39, 40, 41, 42, 43, 44, 45, 46, 47, 48, 49, 50, 51, 52, 53, 54, 55, 56, 57, 58, 59, 60, 61, 62, 63, 64, 65, 66, 67, 68, 69, 70, 71, 72, 73, 74, 75, 92, 93, 94, 95, 96, 97, 98, 99, 100, 101, 102, 103, 104, 105, 106] rfl (by decide +kernel)
set_option maxRecDepth 20000 in
theorem gX7_dayFor_X7_canServe : GoodIn wsX7_dayFor (wsV RX7 149 RX7 yX7_canServe wsX7_canServe) := goodIn_app (goodIn_of _ (by decide +kernel)) ggX7_dayFor_X7_canServe
set_option maxRecDepth 20000 in
theorem ggX7_dayFor_X7_gainNow : GoodIn wsX7_dayFor wsX7_gainNow := goodIn_r _ [79, 80, 81, 82, 4, 83, 84, 85, 86, 87, 15, 16, 17, 18, 10, 88, 89, 90, 91, 6, 7, 8, 9, 46, 47, 48, 49, 92, 93, 94, 95, 96, 97, 98, 99, 100, 101, 102, 103, 104, 105, 106] rfl (by decide +kernel)
set_option maxRecDepth 20000 in
theorem gX7_dayFor_X7_gainNow : GoodIn wsX7_dayFor (wsV RX7 247 RX7 yX7_gainNow wsX7_gainNow) := goodIn_app (goodIn_of _ (by decide +kernel)) ggX7_dayFor_X7_gainNow
theorem dX7_dayFor_0 : decode cX7_dayFor 0 = .ok (.iconst (-1), 1) := by decide +kernel
theorem dX7_dayFor_1 : decode cX7_dayFor 1 = .ok (.istore_n 2, 1) := by decide +kernel
theorem dX7_dayFor_2 : decode cX7_dayFor 2 = .ok (.iconst 0, 1) := by decide +kernel
theorem dX7_dayFor_3 : decode cX7_dayFor 3 = .ok (.istore_n 3, 1) := by decide +kernel
theorem dX7_dayFor_4 : decode cX7_dayFor 4 = .ok (.iconst 0, 1) := by decide +kernel
theorem dX7_dayFor_5 : decode cX7_dayFor 5 = .ok (.istore 4, 2) := by decide +kernel
theorem dX7_dayFor_7 : decode cX7_dayFor 7 = .ok (.iload 4, 2) := by decide +kernel
theorem dX7_dayFor_9 : decode cX7_dayFor 9 = .ok (.bipush 28, 2) := by decide +kernel
theorem dX7_dayFor_11 : decode cX7_dayFor 11 = .ok (.if_icmp .ge 70, 3) := by decide +kernel
theorem dX7_dayFor_14 : decode cX7_dayFor 14 = .ok (.aload_n 0, 1) := by decide +kernel
theorem dX7_dayFor_15 : decode cX7_dayFor 15 = .ok (.iload 4, 2) := by decide +kernel
theorem dX7_dayFor_17 : decode cX7_dayFor 17 = .ok (.iload_n 1, 1) := by decide +kernel
theorem dX7_dayFor_18 : decode cX7_dayFor 18 = .ok (.invokevirtual 149, 3) := by decide +kernel
theorem dX7_dayFor_21 : decode cX7_dayFor 21 = .ok (.ifCond .eq 54, 3) := by decide +kernel
theorem dX7_dayFor_24 : decode cX7_dayFor 24 = .ok (.aload_n 0, 1) := by decide +kernel
theorem dX7_dayFor_25 : decode cX7_dayFor 25 = .ok (.iload 4, 2) := by decide +kernel
theorem dX7_dayFor_27 : decode cX7_dayFor 27 = .ok (.iload_n 1, 1) := by decide +kernel
theorem dX7_dayFor_28 : decode cX7_dayFor 28 = .ok (.invokevirtual 247, 3) := by decide +kernel
theorem dX7_dayFor_31 : decode cX7_dayFor 31 = .ok (.istore 5, 2) := by decide +kernel
theorem dX7_dayFor_33 : decode cX7_dayFor 33 = .ok (.iload_n 2, 1) := by decide +kernel
theorem dX7_dayFor_34 : decode cX7_dayFor 34 = .ok (.iconst (-1), 1) := by decide +kernel
theorem dX7_dayFor_35 : decode cX7_dayFor 35 = .ok (.if_icmp .eq 9, 3) := by decide +kernel
theorem dX7_dayFor_38 : decode cX7_dayFor 38 = .ok (.iload 5, 2) := by decide +kernel
theorem dX7_dayFor_40 : decode cX7_dayFor 40 = .ok (.iload_n 3, 1) := by decide +kernel
theorem dX7_dayFor_41 : decode cX7_dayFor 41 = .ok (.if_icmp .le 7, 3) := by decide +kernel
theorem dX7_dayFor_44 : decode cX7_dayFor 44 = .ok (.iconst 1, 1) := by decide +kernel
theorem dX7_dayFor_45 : decode cX7_dayFor 45 = .ok (.goto 4, 3) := by decide +kernel
theorem dX7_dayFor_48 : decode cX7_dayFor 48 = .ok (.iconst 0, 1) := by decide +kernel
theorem dX7_dayFor_49 : decode cX7_dayFor 49 = .ok (.istore 6, 2) := by decide +kernel
theorem dX7_dayFor_51 : decode cX7_dayFor 51 = .ok (.iload 6, 2) := by decide +kernel
theorem dX7_dayFor_53 : decode cX7_dayFor 53 = .ok (.ifCond .eq 8, 3) := by decide +kernel
theorem dX7_dayFor_56 : decode cX7_dayFor 56 = .ok (.iload 4, 2) := by decide +kernel
theorem dX7_dayFor_58 : decode cX7_dayFor 58 = .ok (.goto 4, 3) := by decide +kernel
theorem dX7_dayFor_61 : decode cX7_dayFor 61 = .ok (.iload_n 2, 1) := by decide +kernel
theorem dX7_dayFor_62 : decode cX7_dayFor 62 = .ok (.istore_n 2, 1) := by decide +kernel
theorem dX7_dayFor_63 : decode cX7_dayFor 63 = .ok (.iload 6, 2) := by decide +kernel
theorem dX7_dayFor_65 : decode cX7_dayFor 65 = .ok (.ifCond .eq 8, 3) := by decide +kernel
theorem dX7_dayFor_68 : decode cX7_dayFor 68 = .ok (.iload 5, 2) := by decide +kernel
theorem dX7_dayFor_70 : decode cX7_dayFor 70 = .ok (.goto 4, 3) := by decide +kernel
theorem dX7_dayFor_73 : decode cX7_dayFor 73 = .ok (.iload_n 3, 1) := by decide +kernel
theorem dX7_dayFor_74 : decode cX7_dayFor 74 = .ok (.istore_n 3, 1) := by decide +kernel
theorem dX7_dayFor_75 : decode cX7_dayFor 75 = .ok (.iinc 4 1, 3) := by decide +kernel
theorem dX7_dayFor_78 : decode cX7_dayFor 78 = .ok (.goto (-71), 3) := by decide +kernel
theorem dX7_dayFor_81 : decode cX7_dayFor 81 = .ok (.iload_n 2, 1) := by decide +kernel
theorem dX7_dayFor_82 : decode cX7_dayFor 82 = .ok (.ireturn, 1) := by decide +kernel
set_option maxRecDepth 20000 in
theorem ggX7_bestDay_X7_isDish : GoodIn wsX7_bestDay wsX7_isDish := goodIn_r _ [6, 7, 8, 9, 5, 10, 104, 105, 106, 107, 108, 109, 110, 111, 112, 113, 114, 115, 116, 117, 118] rfl (by decide +kernel)
set_option maxRecDepth 20000 in
theorem gX7_bestDay_X7_isDish : GoodIn wsX7_bestDay (wsV RX7 114 RX7 yX7_isDish wsX7_isDish) := goodIn_app (goodIn_of _ (by decide +kernel)) ggX7_bestDay_X7_isDish
set_option maxRecDepth 20000 in
theorem ggX7_bestDay_X7_dayFor : GoodIn wsX7_bestDay wsX7_dayFor := goodIn_r _ [14, 15, 16, 17, 5, 18, 19, 20, 21, 22, 7, 23, 24, 25, 26, 27, 28, 29, 30, 31, 32, 33, 34, 35, 36, 37, 38, 39, 40, 41, 42, 43, 44, 45, 46, 47, 48, 49, 50, 51, 52, 53, 54, 55, 56, 57, 58, 59, 60, 61, 62, 63, 64, 65, 66, 67, 68, 69, 70, 71, 72, 73, 74, 75, 76, 77, 78, 79, 80, 81, 82, 83, 84, 85, 86, 87, 88, 89, 90, 91, 92, 93, 94, 95, 96, 97, 98, 99, 100, 101, 102, 103, 104, 105, 106, 107, 108, 109, 110, 111, 112, 113, 114, 115, 116, 117, 118] rfl (by decide +kernel)
set_option maxRecDepth 20000 in
theorem gX7_bestDay_X7_dayFor : GoodIn wsX7_bestDay (wsV RX7 250 RX7 yX7_dayFor wsX7_dayFor) := goodIn_app (goodIn_of _ (by decide +kernel)) ggX7_bestDay_X7_dayFor
theorem dX7_bestDay_0 : decode cX7_bestDay 0 = .ok (.aload_n 0, 1) := by decide +kernel
theorem dX7_bestDay_1 : decode cX7_bestDay 1 = .ok (.aload_n 0, 1) := by decide +kernel
theorem dX7_bestDay_2 : decode cX7_bestDay 2 = .ok (.iload_n 1, 1) := by decide +kernel
theorem dX7_bestDay_3 : decode cX7_bestDay 3 = .ok (.invokevirtual 114, 3) := by decide +kernel
theorem dX7_bestDay_6 : decode cX7_bestDay 6 = .ok (.ifCond .eq 7, 3) := by decide +kernel
theorem dX7_bestDay_9 : decode cX7_bestDay 9 = .ok (.iconst 0, 1) := by decide +kernel
theorem dX7_bestDay_10 : decode cX7_bestDay 10 = .ok (.goto 4, 3) := by decide +kernel
theorem dX7_bestDay_13 : decode cX7_bestDay 13 = .ok (.iconst 1, 1) := by decide +kernel
theorem dX7_bestDay_14 : decode cX7_bestDay 14 = .ok (.putfield 34, 3) := by decide +kernel
theorem dX7_bestDay_17 : decode cX7_bestDay 17 = .ok (.aload_n 0, 1) := by decide +kernel
theorem dX7_bestDay_18 : decode cX7_bestDay 18 = .ok (.getfield 34, 3) := by decide +kernel
theorem dX7_bestDay_21 : decode cX7_bestDay 21 = .ok (.ifCond .le 7, 3) := by decide +kernel
theorem dX7_bestDay_24 : decode cX7_bestDay 24 = .ok (.iconst 0, 1) := by decide +kernel
theorem dX7_bestDay_25 : decode cX7_bestDay 25 = .ok (.goto 8, 3) := by decide +kernel
theorem dX7_bestDay_28 : decode cX7_bestDay 28 = .ok (.aload_n 0, 1) := by decide +kernel
theorem dX7_bestDay_29 : decode cX7_bestDay 29 = .ok (.iload_n 1, 1) := by decide +kernel
theorem dX7_bestDay_30 : decode cX7_bestDay 30 = .ok (.invokevirtual 250, 3) := by decide +kernel
theorem dX7_bestDay_33 : decode cX7_bestDay 33 = .ok (.ireturn, 1) := by decide +kernel
set_option maxRecDepth 20000 in
theorem ggX7_used_X7_sources : GoodIn wsX7_used wsX7_sources := goodIn_r _ [5, 6, 7, 8, 9, 4, 10, 11, 12, 13, 14, 15, 16, 17, 18, 19, 20, 21, 22, 23, 24, 25, 26, 27, 28, 29, 30, 31, 32, 33, 34, 35, 36, 37, 38, 39, 40, 41, 42, 43, 44, 45, 46, 47, 48, 49, 50, 51] rfl (by decide +kernel)
set_option maxRecDepth 20000 in
theorem gX7_used_X7_sources : GoodIn wsX7_used (wsV RX7 237 RX7 yX7_sources wsX7_sources) := goodIn_app (goodIn_of _ (by decide +kernel)) ggX7_used_X7_sources
theorem dX7_used_0 : decode cX7_used 0 = .ok (.aload_n 0, 1) := by decide +kernel
theorem dX7_used_1 : decode cX7_used 1 = .ok (.iconst 0, 1) := by decide +kernel
theorem dX7_used_2 : decode cX7_used 2 = .ok (.invokevirtual 237, 3) := by decide +kernel
theorem dX7_used_5 : decode cX7_used 5 = .ok (.istore_n 1, 1) := by decide +kernel
theorem dX7_used_6 : decode cX7_used 6 = .ok (.iload_n 1, 1) := by decide +kernel
theorem dX7_used_7 : decode cX7_used 7 = .ok (.ifCond .ne 7, 3) := by decide +kernel
theorem dX7_used_10 : decode cX7_used 10 = .ok (.dconst 1, 1) := by decide +kernel
theorem dX7_used_11 : decode cX7_used 11 = .ok (.goto 14, 3) := by decide +kernel
theorem dX7_used_14 : decode cX7_used 14 = .ok (.iload_n 1, 1) := by decide +kernel
theorem dX7_used_15 : decode cX7_used 15 = .ok (.aload_n 0, 1) := by decide +kernel
theorem dX7_used_16 : decode cX7_used 16 = .ok (.iconst 1, 1) := by decide +kernel
theorem dX7_used_17 : decode cX7_used 17 = .ok (.invokevirtual 237, 3) := by decide +kernel
theorem dX7_used_20 : decode cX7_used 20 = .ok (.isub, 1) := by decide +kernel
theorem dX7_used_21 : decode cX7_used 21 = .ok (.i2d, 1) := by decide +kernel
theorem dX7_used_22 : decode cX7_used 22 = .ok (.iload_n 1, 1) := by decide +kernel
theorem dX7_used_23 : decode cX7_used 23 = .ok (.i2d, 1) := by decide +kernel
theorem dX7_used_24 : decode cX7_used 24 = .ok (.ddiv, 1) := by decide +kernel
theorem dX7_used_25 : decode cX7_used 25 = .ok (.dreturn, 1) := by decide +kernel
set_option maxRecDepth 20000 in
theorem ggX7_usedShare_X7_used : GoodIn wsX7_usedShare wsX7_used := goodIn_r _ [6, 7, 8, 9, 5, 10, 11, 12, 13, 14, 15, 16, 17, 18, 19, 20, 21, 22, 23, 24, 25, 26, 27, 28, 29, 30, 31, 32, 33, 34, 35, 36, 37, 38, 39, 40, 41, 42, 43, 44, 45, 46, 47, 48, 49, 50, 51, 52, 53, 54, 55, 56] rfl (by decide +kernel)
set_option maxRecDepth 20000 in
theorem gX7_usedShare_X7_used : GoodIn wsX7_usedShare (wsV RX7 253 RX7 yX7_used wsX7_used) := goodIn_app (goodIn_of _ (by decide +kernel)) ggX7_usedShare_X7_used
theorem dX7_usedShare_0 : decode cX7_usedShare 0 = .ok (.aload_n 0, 1) := by decide +kernel
theorem dX7_usedShare_1 : decode cX7_usedShare 1 = .ok (.iconst 0, 1) := by decide +kernel
theorem dX7_usedShare_2 : decode cX7_usedShare 2 = .ok (.putfield 34, 3) := by decide +kernel
theorem dX7_usedShare_5 : decode cX7_usedShare 5 = .ok (.aload_n 0, 1) := by decide +kernel
theorem dX7_usedShare_6 : decode cX7_usedShare 6 = .ok (.invokevirtual 253, 3) := by decide +kernel
theorem dX7_usedShare_9 : decode cX7_usedShare 9 = .ok (.dreturn, 1) := by decide +kernel
theorem dX7_mix_0 : decode cX7_mix 0 = .ok (.aload_n 0, 1) := by decide +kernel
theorem dX7_mix_1 : decode cX7_mix 1 = .ok (.ldc2_w 257, 3) := by decide +kernel
theorem dX7_mix_4 : decode cX7_mix 4 = .ok (.aload_n 0, 1) := by decide +kernel
theorem dX7_mix_5 : decode cX7_mix 5 = .ok (.getfield 259, 3) := by decide +kernel
theorem dX7_mix_8 : decode cX7_mix 8 = .ok (.lmul, 1) := by decide +kernel
theorem dX7_mix_9 : decode cX7_mix 9 = .ok (.lload_n 1, 1) := by decide +kernel
theorem dX7_mix_10 : decode cX7_mix 10 = .ok (.ladd, 1) := by decide +kernel
theorem dX7_mix_11 : decode cX7_mix 11 = .ok (.putfield 259, 3) := by decide +kernel
theorem dX7_mix_14 : decode cX7_mix 14 = .ok (.return_, 1) := by decide +kernel
set_option maxRecDepth 20000 in
theorem ggX7_mixDay_X7_dayNow : GoodIn wsX7_mixDay wsX7_dayNow := goodIn_r _ [5, 6, 7, 8, 4, 9, 10, 11, 12, 13, 14, 15, 16, 17, 18, 19, 20, 21, 22, 23, 24, 25, 26, 27, 28, 29, 30, 31, 32, 33, 34, 35, 36, 37, 38, 39, 40, 41, 42, 43, 44, 45, 46, 47, 48, 109, 110, 111, 112, 113, 114, 115, 116, 117, 118, 119, 120, 121, 122, 123] rfl (by decide +kernel)
set_option maxRecDepth 20000 in
theorem gX7_mixDay_X7_dayNow : GoodIn wsX7_mixDay (wsV RX7 228 RX7 yX7_dayNow wsX7_dayNow) := goodIn_app (goodIn_of _ (by decide +kernel)) ggX7_mixDay_X7_dayNow
set_option maxRecDepth 20000 in
theorem ggX7_mixDay_X7_mix : GoodIn wsX7_mixDay wsX7_mix := goodIn_r _ [52, 53, 54, 109, 110, 111, 112, 113, 114, 115, 116, 117, 118, 119, 120, 121, 122, 123] rfl (by decide +kernel)
set_option maxRecDepth 20000 in
theorem gX7_mixDay_X7_mix : GoodIn wsX7_mixDay (wsV RX7 263 RX7 yX7_mix wsX7_mix) := goodIn_app (goodIn_of _ (by decide +kernel)) ggX7_mixDay_X7_mix
set_option maxRecDepth 20000 in
theorem ggX7_mixDay_X7_at : GoodIn wsX7_mixDay wsX7_at := goodIn_r _ [13, 14, 109, 110, 111, 112, 113, 114, 115, 116, 117, 118, 119, 120, 121, 122, 123] rfl (by decide +kernel)
set_option maxRecDepth 20000 in
theorem gX7_mixDay_X7_at : GoodIn wsX7_mixDay (wsV RX7 79 RX7 yX7_at wsX7_at) := goodIn_app (goodIn_of _ (by decide +kernel)) ggX7_mixDay_X7_at
set_option maxRecDepth 20000 in
theorem ggX7_mixDay_X7_sourceNow : GoodIn wsX7_mixDay wsX7_sourceNow := goodIn_r _ [58, 59, 60, 61, 62, 4, 63, 64, 14, 65, 66, 67, 68, 22, 23, 24, 25, 69, 70, 71, 72, 73, 74, 75, 76, 77, 78, 79, 80, 81, 82, 83, 84, 109, 110, 111, 112, 113, 114, 115, 116, 117, 118, 119, 120, 121, 122, 123] rfl (by decide +kernel)
set_option maxRecDepth 20000 in
theorem gX7_mixDay_X7_sourceNow : GoodIn wsX7_mixDay (wsV RX7 231 RX7 yX7_sourceNow wsX7_sourceNow) := goodIn_app (goodIn_of _ (by decide +kernel)) ggX7_mixDay_X7_sourceNow
set_option maxRecDepth 20000 in
theorem ggX7_mixDay_X7_bestFor : GoodIn wsX7_mixDay wsX7_bestFor := goodIn_r _ [88, 14, 89, 90, 91, 4, 92, 10, 11, 12, 13, 22, 23, 24, 25, 93, 94, 95, 96, 34, 35, 36, 37, 38, 39, 40, 41, 42, 43, 44, 97, 98, 99, 100, 18, 19, 20, 21, 101, 102, 103, 104, 105, 106, 107, 108, 60, 61, 62, 63, 59, 64, 65, 66, 67, 68, 69, 70, 71, 72, 73, 74, 75, 76, 77, 78, 79, 80, 81, 82, 83, 84, 30, 31, 32, 33, 109, 110, 111, 112, 113, 114, 115, 116, 117, 118, 119, 120, 121, 122, 123] rfl (by decide +kernel)
set_option maxRecDepth 20000 in
theorem gX7_mixDay_X7_bestFor : GoodIn wsX7_mixDay (wsV RX7 166 RX7 yX7_bestFor wsX7_bestFor) := goodIn_app (goodIn_of _ (by decide +kernel)) ggX7_mixDay_X7_bestFor
theorem dX7_mixDay_0 : decode cX7_mixDay 0 = .ok (.iconst 0, 1) := by decide +kernel
theorem dX7_mixDay_1 : decode cX7_mixDay 1 = .ok (.istore_n 2, 1) := by decide +kernel
theorem dX7_mixDay_2 : decode cX7_mixDay 2 = .ok (.iload_n 2, 1) := by decide +kernel
theorem dX7_mixDay_3 : decode cX7_mixDay 3 = .ok (.iconst 5, 1) := by decide +kernel
theorem dX7_mixDay_4 : decode cX7_mixDay 4 = .ok (.if_icmp .ge 20, 3) := by decide +kernel
theorem dX7_mixDay_7 : decode cX7_mixDay 7 = .ok (.aload_n 0, 1) := by decide +kernel
theorem dX7_mixDay_8 : decode cX7_mixDay 8 = .ok (.aload_n 0, 1) := by decide +kernel
theorem dX7_mixDay_9 : decode cX7_mixDay 9 = .ok (.iload_n 1, 1) := by decide +kernel
theorem dX7_mixDay_10 : decode cX7_mixDay 10 = .ok (.iload_n 2, 1) := by decide +kernel
theorem dX7_mixDay_11 : decode cX7_mixDay 11 = .ok (.invokevirtual 228, 3) := by decide +kernel
theorem dX7_mixDay_14 : decode cX7_mixDay 14 = .ok (.i2l, 1) := by decide +kernel
theorem dX7_mixDay_15 : decode cX7_mixDay 15 = .ok (.invokevirtual 263, 3) := by decide +kernel
theorem dX7_mixDay_18 : decode cX7_mixDay 18 = .ok (.iinc 2 1, 3) := by decide +kernel
theorem dX7_mixDay_21 : decode cX7_mixDay 21 = .ok (.goto (-19), 3) := by decide +kernel
theorem dX7_mixDay_24 : decode cX7_mixDay 24 = .ok (.iconst 0, 1) := by decide +kernel
theorem dX7_mixDay_25 : decode cX7_mixDay 25 = .ok (.istore_n 2, 1) := by decide +kernel
theorem dX7_mixDay_26 : decode cX7_mixDay 26 = .ok (.iload_n 2, 1) := by decide +kernel
theorem dX7_mixDay_27 : decode cX7_mixDay 27 = .ok (.iconst 3, 1) := by decide +kernel
theorem dX7_mixDay_28 : decode cX7_mixDay 28 = .ok (.if_icmp .ge 42, 3) := by decide +kernel
theorem dX7_mixDay_31 : decode cX7_mixDay 31 = .ok (.aload_n 0, 1) := by decide +kernel
theorem dX7_mixDay_32 : decode cX7_mixDay 32 = .ok (.aload_n 0, 1) := by decide +kernel
theorem dX7_mixDay_33 : decode cX7_mixDay 33 = .ok (.iload_n 1, 1) := by decide +kernel
theorem dX7_mixDay_34 : decode cX7_mixDay 34 = .ok (.iload_n 2, 1) := by decide +kernel
theorem dX7_mixDay_35 : decode cX7_mixDay 35 = .ok (.invokevirtual 79, 3) := by decide +kernel
theorem dX7_mixDay_38 : decode cX7_mixDay 38 = .ok (.i2l, 1) := by decide +kernel
theorem dX7_mixDay_39 : decode cX7_mixDay 39 = .ok (.invokevirtual 263, 3) := by decide +kernel
theorem dX7_mixDay_42 : decode cX7_mixDay 42 = .ok (.aload_n 0, 1) := by decide +kernel
theorem dX7_mixDay_43 : decode cX7_mixDay 43 = .ok (.aload_n 0, 1) := by decide +kernel
theorem dX7_mixDay_44 : decode cX7_mixDay 44 = .ok (.iload_n 1, 1) := by decide +kernel
theorem dX7_mixDay_45 : decode cX7_mixDay 45 = .ok (.iload_n 2, 1) := by decide +kernel
theorem dX7_mixDay_46 : decode cX7_mixDay 46 = .ok (.invokevirtual 231, 3) := by decide +kernel
theorem dX7_mixDay_49 : decode cX7_mixDay 49 = .ok (.i2l, 1) := by decide +kernel
theorem dX7_mixDay_50 : decode cX7_mixDay 50 = .ok (.invokevirtual 263, 3) := by decide +kernel
theorem dX7_mixDay_53 : decode cX7_mixDay 53 = .ok (.aload_n 0, 1) := by decide +kernel
theorem dX7_mixDay_54 : decode cX7_mixDay 54 = .ok (.aload_n 0, 1) := by decide +kernel
theorem dX7_mixDay_55 : decode cX7_mixDay 55 = .ok (.iload_n 1, 1) := by decide +kernel
theorem dX7_mixDay_56 : decode cX7_mixDay 56 = .ok (.iload_n 2, 1) := by decide +kernel
theorem dX7_mixDay_57 : decode cX7_mixDay 57 = .ok (.invokevirtual 166, 3) := by decide +kernel
theorem dX7_mixDay_60 : decode cX7_mixDay 60 = .ok (.i2l, 1) := by decide +kernel
theorem dX7_mixDay_61 : decode cX7_mixDay 61 = .ok (.invokevirtual 263, 3) := by decide +kernel
theorem dX7_mixDay_64 : decode cX7_mixDay 64 = .ok (.iinc 2 1, 3) := by decide +kernel
theorem dX7_mixDay_67 : decode cX7_mixDay 67 = .ok (.goto (-41), 3) := by decide +kernel
theorem dX7_mixDay_70 : decode cX7_mixDay 70 = .ok (.return_, 1) := by decide +kernel
set_option maxRecDepth 20000 in
theorem ggX7_digest_X7_counted : GoodIn wsX7_digest wsX7_counted := goodIn_r _ [11, 4, 12, 13, 14, 15, 16, 10, 17, 18, 19, 20, 21, 22, 23, 24, 25, 26, 27, 28, 29, 30, 31, 32, 33, 34, 35, 36, 37, 38, 39, 40, 41, 42, 43, 44, 45, 46, 47, 48, 49, 50, 51, 52, 53, 54, 55, 56, 57, 58, 59, 60, 61, 62, 63, 64, 65, 66, 67, 68, 69, 70, 71, 72, 73, 74, 75, 76, 77, 78, 79, 80, 81, 82, 83, 84, 85, 86, 87, 88, 89, 90, 183, 184, 185, 186, 187, 188, 189, 190, 191, 192, 193, 194, 195, 196, 197] rfl (by decide +kernel)
set_option maxRecDepth 20000 in
theorem gX7_digest_X7_counted : GoodIn wsX7_digest (wsV RX7 244 RX7 yX7_counted wsX7_counted) := goodIn_app (goodIn_of _ (by decide +kernel)) ggX7_digest_X7_counted
set_option maxRecDepth 20000 in
theorem ggX7_digest_X7_mix : GoodIn wsX7_digest wsX7_mix := goodIn_r _ [94, 95, 3, 183, 184, 185, 186, 187, 188, 189, 190, 191, 192, 193, 194, 195, 196, 197] rfl (by decide +kernel)
set_option maxRecDepth 20000 in
theorem gX7_digest_X7_mix : GoodIn wsX7_digest (wsV RX7 263 RX7 yX7_mix wsX7_mix) := goodIn_app (goodIn_of _ (by decide +kernel)) ggX7_digest_X7_mix
set_option maxRecDepth 20000 in
theorem ggX7_digest_X7_dishNow : GoodIn wsX7_digest wsX7_dishNow := goodIn_r _ [99, 60, 61, 62, 10, 63, 4, 34, 35, 36, 37, 100, 101, 102, 103, 54, 55, 56, 57, 58, 59, 64, 65, 66, 67, 68, 69, 70, 71, 72, 73, 74, 75, 76, 77, 78, 79, 183, 184, 185, 186, 187, 188, 189, 190, 191, 192, 193, 194, 195, 196, 197] rfl (by decide +kernel)
set_option maxRecDepth 20000 in
theorem gX7_digest_X7_dishNow : GoodIn wsX7_digest (wsV RX7 213 RX7 yX7_dishNow wsX7_dishNow) := goodIn_app (goodIn_of _ (by decide +kernel)) ggX7_digest_X7_dishNow
set_option maxRecDepth 20000 in
theorem ggX7_digest_X7_dayFor : GoodIn wsX7_digest wsX7_dayFor := goodIn_r _ [107, 108, 109, 110, 10, 111, 34, 35, 36, 37, 4, 112, 113, 114, 115, 26, 27, 28, 29, 116, 117, 118, 119, 120, 121, 122, 123, 124, 125, 126, 127, 128, 129, 130, 42, 43, 44, 45, 46, 47, 48, 49, 131, 132, 133, 134, 135, 136, 137, 138, 55, 56, 57, 58, 59, 54, 60, 61, 62, 63, 64, 65, 66, 67, 68, 69, 70, 71, 72, 73, 74, 75, 76, 77, 78, 79, 139, 140, 141, 142, 18, 19, 20, 21, 22, 23, 24, 25, 30, 31, 32, 33, 183, 184, 185, 186, 187, 188, 189, 190, 191, 192, 193, 194, 195, 196, 197] rfl (by decide +kernel)
set_option maxRecDepth 20000 in
theorem gX7_digest_X7_dayFor : GoodIn wsX7_digest (wsV RX7 250 RX7 yX7_dayFor wsX7_dayFor) := goodIn_app (goodIn_of _ (by decide +kernel)) ggX7_digest_X7_dayFor
set_option maxRecDepth 20000 in
theorem ggX7_digest_X7_guestNow : GoodIn wsX7_digest wsX7_guestNow := goodIn_r _ [146, 124, 125, 126, 10, 127, 4, 128, 129, 130, 84, 85, 86, 87, 26, 27, 28, 29, 88, 89, 90, 183, 184, 185, 186, 187, 188, 189, 190, 191, 192, 193, 194, 195, 196, 197] rfl (by decide +kernel)
set_option maxRecDepth 20000 in
theorem gX7_digest_X7_guestNow : GoodIn wsX7_digest (wsV RX7 222 RX7 yX7_guestNow wsX7_guestNow) := goodIn_app (goodIn_of _ (by decide +kernel)) ggX7_digest_X7_guestNow
set_option maxRecDepth 20000 in
theorem ggX7_digest_X7_mixDay : GoodIn wsX7_digest wsX7_mixDay := goodIn_r _ [150, 151, 152, 153, 10, 154, 84, 85, 86, 87, 26, 27, 28, 29, 4, 88, 89, 90, 46, 47, 48, 49, 34, 35, 36, 37, 22, 23, 24, 25, 30, 31, 32, 33, 120, 121, 122, 123, 124, 125, 126, 127, 128, 129, 130, 155, 156, 157, 158, 91, 92, 93, 94, 95, 3, 159, 160, 161, 162, 59, 55, 56, 57, 58, 54, 60, 61, 62, 63, 64, 65, 66, 67, 68, 69, 70, 71, 72, 73, 74, 75, 76, 77, 78, 79, 163, 164, 165, 166, 112, 113, 114, 115, 116, 117, 118, 119, 42, 43, 44, 45, 131, 132, 133, 134, 135, 136, 137, 138, 183, 184, 185, 186, 187, 188, 189, 190, 191, 192, 193, 194, 195, 196, 197] rfl (by decide +kernel)
set_option maxRecDepth 20000 in
theorem gX7_digest_X7_mixDay : GoodIn wsX7_digest (wsV RX7 269 RX7 yX7_mixDay wsX7_mixDay) := goodIn_app (goodIn_of _ (by decide +kernel)) ggX7_digest_X7_mixDay
set_option maxRecDepth 20000 in
theorem ggX7_digest_X7_used : GoodIn wsX7_digest wsX7_used := goodIn_r _ [170, 50, 51, 52, 10, 53, 54, 55, 56, 57, 58, 59, 4, 60, 61, 62, 63, 34, 35, 36, 37, 64, 65, 66, 67, 68, 69, 70, 71, 72, 73, 74, 75, 76, 77, 78, 79, 183, 184, 185, 186, 187, 188, 189, 190, 191, 192, 193, 194, 195, 196, 197] rfl (by decide +kernel)
set_option maxRecDepth 20000 in
theorem gX7_digest_X7_used : GoodIn wsX7_digest (wsV RX7 253 RX7 yX7_used wsX7_used) := goodIn_app (goodIn_of _ (by decide +kernel)) ggX7_digest_X7_used
set_option maxRecDepth 20000 in
theorem ggX7_digest_Jxe99ae_doubleToLongBits_ccdee : GoodIn wsX7_digest wsJxe99ae_doubleToLongBits_ccdee := goodIn_r _ [174, 175, 176, 177, 178, 179, 180, 181, 173, 182] rfl (by decide +kernel)
set_option maxRecDepth 20000 in
theorem gX7_digest_Jxe99ae_doubleToLongBits_ccdee : GoodIn wsX7_digest (va_wsS RX7 272 yJxe99ae_doubleToLongBits_ccdee wsJxe99ae_doubleToLongBits_ccdee) := goodIn_app (goodIn_of _ (by decide +kernel)) ggX7_digest_Jxe99ae_doubleToLongBits_ccdee
theorem dX7_digest_0 : decode cX7_digest 0 = .ok (.aload_n 0, 1) := by decide +kernel
theorem dX7_digest_1 : decode cX7_digest 1 = .ok (.iconst 0, 1) := by decide +kernel
theorem dX7_digest_2 : decode cX7_digest 2 = .ok (.putfield 34, 3) := by decide +kernel
theorem dX7_digest_5 : decode cX7_digest 5 = .ok (.aload_n 0, 1) := by decide +kernel
theorem dX7_digest_6 : decode cX7_digest 6 = .ok (.ldc2_w 267, 3) := by decide +kernel
theorem dX7_digest_9 : decode cX7_digest 9 = .ok (.putfield 259, 3) := by decide +kernel
theorem dX7_digest_12 : decode cX7_digest 12 = .ok (.iconst 0, 1) := by decide +kernel
theorem dX7_digest_13 : decode cX7_digest 13 = .ok (.istore_n 1, 1) := by decide +kernel
theorem dX7_digest_14 : decode cX7_digest 14 = .ok (.iload_n 1, 1) := by decide +kernel
theorem dX7_digest_15 : decode cX7_digest 15 = .ok (.bipush 14, 2) := by decide +kernel
theorem dX7_digest_17 : decode cX7_digest 17 = .ok (.if_icmp .ge 19, 3) := by decide +kernel
theorem dX7_digest_20 : decode cX7_digest 20 = .ok (.aload_n 0, 1) := by decide +kernel
theorem dX7_digest_21 : decode cX7_digest 21 = .ok (.aload_n 0, 1) := by decide +kernel
theorem dX7_digest_22 : decode cX7_digest 22 = .ok (.iload_n 1, 1) := by decide +kernel
theorem dX7_digest_23 : decode cX7_digest 23 = .ok (.invokevirtual 244, 3) := by decide +kernel
theorem dX7_digest_26 : decode cX7_digest 26 = .ok (.i2l, 1) := by decide +kernel
theorem dX7_digest_27 : decode cX7_digest 27 = .ok (.invokevirtual 263, 3) := by decide +kernel
theorem dX7_digest_30 : decode cX7_digest 30 = .ok (.iinc 1 1, 3) := by decide +kernel
theorem dX7_digest_33 : decode cX7_digest 33 = .ok (.goto (-19), 3) := by decide +kernel
theorem dX7_digest_36 : decode cX7_digest 36 = .ok (.iconst 0, 1) := by decide +kernel
theorem dX7_digest_37 : decode cX7_digest 37 = .ok (.istore_n 1, 1) := by decide +kernel
theorem dX7_digest_38 : decode cX7_digest 38 = .ok (.iload_n 1, 1) := by decide +kernel
theorem dX7_digest_39 : decode cX7_digest 39 = .ok (.iconst 3, 1) := by decide +kernel
theorem dX7_digest_40 : decode cX7_digest 40 = .ok (.if_icmp .ge 20, 3) := by decide +kernel
theorem dX7_digest_43 : decode cX7_digest 43 = .ok (.aload_n 0, 1) := by decide +kernel
theorem dX7_digest_44 : decode cX7_digest 44 = .ok (.aload_n 0, 1) := by decide +kernel
theorem dX7_digest_45 : decode cX7_digest 45 = .ok (.getfield 7, 3) := by decide +kernel
theorem dX7_digest_48 : decode cX7_digest 48 = .ok (.iload_n 1, 1) := by decide +kernel
theorem dX7_digest_49 : decode cX7_digest 49 = .ok (.iaload, 1) := by decide +kernel
theorem dX7_digest_50 : decode cX7_digest 50 = .ok (.i2l, 1) := by decide +kernel
theorem dX7_digest_51 : decode cX7_digest 51 = .ok (.invokevirtual 263, 3) := by decide +kernel
theorem dX7_digest_54 : decode cX7_digest 54 = .ok (.iinc 1 1, 3) := by decide +kernel
theorem dX7_digest_57 : decode cX7_digest 57 = .ok (.goto (-19), 3) := by decide +kernel
theorem dX7_digest_60 : decode cX7_digest 60 = .ok (.iconst 0, 1) := by decide +kernel
theorem dX7_digest_61 : decode cX7_digest 61 = .ok (.istore_n 1, 1) := by decide +kernel
theorem dX7_digest_62 : decode cX7_digest 62 = .ok (.iload_n 1, 1) := by decide +kernel
theorem dX7_digest_63 : decode cX7_digest 63 = .ok (.aload_n 0, 1) := by decide +kernel
theorem dX7_digest_64 : decode cX7_digest 64 = .ok (.getfield 7, 3) := by decide +kernel
theorem dX7_digest_67 : decode cX7_digest 67 = .ok (.iconst 3, 1) := by decide +kernel
theorem dX7_digest_68 : decode cX7_digest 68 = .ok (.iaload, 1) := by decide +kernel
theorem dX7_digest_69 : decode cX7_digest 69 = .ok (.if_icmp .ge 44, 3) := by decide +kernel
theorem dX7_digest_72 : decode cX7_digest 72 = .ok (.iconst 0, 1) := by decide +kernel
theorem dX7_digest_73 : decode cX7_digest 73 = .ok (.istore_n 2, 1) := by decide +kernel
theorem dX7_digest_74 : decode cX7_digest 74 = .ok (.iload_n 2, 1) := by decide +kernel
theorem dX7_digest_75 : decode cX7_digest 75 = .ok (.bipush 9, 2) := by decide +kernel
theorem dX7_digest_77 : decode cX7_digest 77 = .ok (.if_icmp .ge 20, 3) := by decide +kernel
theorem dX7_digest_80 : decode cX7_digest 80 = .ok (.aload_n 0, 1) := by decide +kernel
theorem dX7_digest_81 : decode cX7_digest 81 = .ok (.aload_n 0, 1) := by decide +kernel
theorem dX7_digest_82 : decode cX7_digest 82 = .ok (.iload_n 1, 1) := by decide +kernel
theorem dX7_digest_83 : decode cX7_digest 83 = .ok (.iload_n 2, 1) := by decide +kernel
theorem dX7_digest_84 : decode cX7_digest 84 = .ok (.invokevirtual 213, 3) := by decide +kernel
theorem dX7_digest_87 : decode cX7_digest 87 = .ok (.i2l, 1) := by decide +kernel
theorem dX7_digest_88 : decode cX7_digest 88 = .ok (.invokevirtual 263, 3) := by decide +kernel
theorem dX7_digest_91 : decode cX7_digest 91 = .ok (.iinc 2 1, 3) := by decide +kernel
theorem dX7_digest_94 : decode cX7_digest 94 = .ok (.goto (-20), 3) := by decide +kernel
theorem dX7_digest_97 : decode cX7_digest 97 = .ok (.aload_n 0, 1) := by decide +kernel
theorem dX7_digest_98 : decode cX7_digest 98 = .ok (.aload_n 0, 1) := by decide +kernel
theorem dX7_digest_99 : decode cX7_digest 99 = .ok (.iload_n 1, 1) := by decide +kernel
theorem dX7_digest_100 : decode cX7_digest 100 = .ok (.invokevirtual 250, 3) := by decide +kernel
theorem dX7_digest_103 : decode cX7_digest 103 = .ok (.i2l, 1) := by decide +kernel
theorem dX7_digest_104 : decode cX7_digest 104 = .ok (.invokevirtual 263, 3) := by decide +kernel
theorem dX7_digest_107 : decode cX7_digest 107 = .ok (.iinc 1 1, 3) := by decide +kernel
theorem dX7_digest_110 : decode cX7_digest 110 = .ok (.goto (-48), 3) := by decide +kernel
theorem dX7_digest_113 : decode cX7_digest 113 = .ok (.iconst 0, 1) := by decide +kernel
theorem dX7_digest_114 : decode cX7_digest 114 = .ok (.istore_n 1, 1) := by decide +kernel
theorem dX7_digest_115 : decode cX7_digest 115 = .ok (.iload_n 1, 1) := by decide +kernel
theorem dX7_digest_116 : decode cX7_digest 116 = .ok (.iconst 3, 1) := by decide +kernel
theorem dX7_digest_117 : decode cX7_digest 117 = .ok (.aload_n 0, 1) := by decide +kernel
theorem dX7_digest_118 : decode cX7_digest 118 = .ok (.getfield 7, 3) := by decide +kernel
theorem dX7_digest_121 : decode cX7_digest 121 = .ok (.iconst 4, 1) := by decide +kernel
theorem dX7_digest_122 : decode cX7_digest 122 = .ok (.iaload, 1) := by decide +kernel
theorem dX7_digest_123 : decode cX7_digest 123 = .ok (.imul, 1) := by decide +kernel
theorem dX7_digest_124 : decode cX7_digest 124 = .ok (.if_icmp .ge 24, 3) := by decide +kernel
theorem dX7_digest_127 : decode cX7_digest 127 = .ok (.aload_n 0, 1) := by decide +kernel
theorem dX7_digest_128 : decode cX7_digest 128 = .ok (.aload_n 0, 1) := by decide +kernel
theorem dX7_digest_129 : decode cX7_digest 129 = .ok (.iload_n 1, 1) := by decide +kernel
theorem dX7_digest_130 : decode cX7_digest 130 = .ok (.iconst 3, 1) := by decide +kernel
theorem dX7_digest_131 : decode cX7_digest 131 = .ok (.idiv, 1) := by decide +kernel
theorem dX7_digest_132 : decode cX7_digest 132 = .ok (.iload_n 1, 1) := by decide +kernel
theorem dX7_digest_133 : decode cX7_digest 133 = .ok (.iconst 3, 1) := by decide +kernel
theorem dX7_digest_134 : decode cX7_digest 134 = .ok (.irem, 1) := by decide +kernel
theorem dX7_digest_135 : decode cX7_digest 135 = .ok (.invokevirtual 222, 3) := by decide +kernel
theorem dX7_digest_138 : decode cX7_digest 138 = .ok (.i2l, 1) := by decide +kernel
theorem dX7_digest_139 : decode cX7_digest 139 = .ok (.invokevirtual 263, 3) := by decide +kernel
theorem dX7_digest_142 : decode cX7_digest 142 = .ok (.iinc 1 1, 3) := by decide +kernel
theorem dX7_digest_145 : decode cX7_digest 145 = .ok (.goto (-30), 3) := by decide +kernel
theorem dX7_digest_148 : decode cX7_digest 148 = .ok (.iconst 0, 1) := by decide +kernel
theorem dX7_digest_149 : decode cX7_digest 149 = .ok (.istore_n 1, 1) := by decide +kernel
theorem dX7_digest_150 : decode cX7_digest 150 = .ok (.iload_n 1, 1) := by decide +kernel
theorem dX7_digest_151 : decode cX7_digest 151 = .ok (.bipush 28, 2) := by decide +kernel
theorem dX7_digest_153 : decode cX7_digest 153 = .ok (.if_icmp .ge 14, 3) := by decide +kernel
theorem dX7_digest_156 : decode cX7_digest 156 = .ok (.aload_n 0, 1) := by decide +kernel
theorem dX7_digest_157 : decode cX7_digest 157 = .ok (.iload_n 1, 1) := by decide +kernel
theorem dX7_digest_158 : decode cX7_digest 158 = .ok (.invokevirtual 269, 3) := by decide +kernel
theorem dX7_digest_161 : decode cX7_digest 161 = .ok (.iinc 1 1, 3) := by decide +kernel
theorem dX7_digest_164 : decode cX7_digest 164 = .ok (.goto (-14), 3) := by decide +kernel
theorem dX7_digest_167 : decode cX7_digest 167 = .ok (.aload_n 0, 1) := by decide +kernel
theorem dX7_digest_168 : decode cX7_digest 168 = .ok (.aload_n 0, 1) := by decide +kernel
theorem dX7_digest_169 : decode cX7_digest 169 = .ok (.invokevirtual 253, 3) := by decide +kernel
theorem dX7_digest_172 : decode cX7_digest 172 = .ok (.invokestatic 272, 3) := by decide +kernel
theorem dX7_digest_175 : decode cX7_digest 175 = .ok (.invokevirtual 263, 3) := by decide +kernel
theorem dX7_digest_178 : decode cX7_digest 178 = .ok (.aload_n 0, 1) := by decide +kernel
theorem dX7_digest_179 : decode cX7_digest 179 = .ok (.aload_n 0, 1) := by decide +kernel
theorem dX7_digest_180 : decode cX7_digest 180 = .ok (.getfield 172, 3) := by decide +kernel
theorem dX7_digest_183 : decode cX7_digest 183 = .ok (.i2l, 1) := by decide +kernel
theorem dX7_digest_184 : decode cX7_digest 184 = .ok (.invokevirtual 263, 3) := by decide +kernel
theorem dX7_digest_187 : decode cX7_digest 187 = .ok (.iconst 0, 1) := by decide +kernel
theorem dX7_digest_188 : decode cX7_digest 188 = .ok (.istore_n 1, 1) := by decide +kernel
theorem dX7_digest_189 : decode cX7_digest 189 = .ok (.iload_n 1, 1) := by decide +kernel
theorem dX7_digest_190 : decode cX7_digest 190 = .ok (.aload_n 0, 1) := by decide +kernel
theorem dX7_digest_191 : decode cX7_digest 191 = .ok (.getfield 172, 3) := by decide +kernel
theorem dX7_digest_194 : decode cX7_digest 194 = .ok (.if_icmp .ge 20, 3) := by decide +kernel
theorem dX7_digest_197 : decode cX7_digest 197 = .ok (.aload_n 0, 1) := by decide +kernel
theorem dX7_digest_198 : decode cX7_digest 198 = .ok (.aload_n 0, 1) := by decide +kernel
theorem dX7_digest_199 : decode cX7_digest 199 = .ok (.getfield 22, 3) := by decide +kernel
theorem dX7_digest_202 : decode cX7_digest 202 = .ok (.iload_n 1, 1) := by decide +kernel
theorem dX7_digest_203 : decode cX7_digest 203 = .ok (.iaload, 1) := by decide +kernel
theorem dX7_digest_204 : decode cX7_digest 204 = .ok (.i2l, 1) := by decide +kernel
theorem dX7_digest_205 : decode cX7_digest 205 = .ok (.invokevirtual 263, 3) := by decide +kernel
theorem dX7_digest_208 : decode cX7_digest 208 = .ok (.iinc 1 1, 3) := by decide +kernel
theorem dX7_digest_211 : decode cX7_digest 211 = .ok (.goto (-22), 3) := by decide +kernel
theorem dX7_digest_214 : decode cX7_digest 214 = .ok (.aload_n 0, 1) := by decide +kernel
theorem dX7_digest_215 : decode cX7_digest 215 = .ok (.getfield 259, 3) := by decide +kernel
theorem dX7_digest_218 : decode cX7_digest 218 = .ok (.lreturn, 1) := by decide +kernel
