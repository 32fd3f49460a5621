set_option maxRecDepth 20000 in
theorem ggX7_reason_X7_weekCost : GoodIn wsX7_reason wsX7_weekCost := goodIn_r _ [29, 30, 31, 32, 5, 33, 2, 3, 4, 6, 1, 7, 8, 9, 10, 68, 69, 70, 71, 72, 73, 74, 75, 76, 77, 78, 79, 80, 81, 82] rfl (by decide +kernel)
set_option maxRecDepth 20000 in
theorem gX7_reason_X7_weekCost : GoodIn wsX7_reason (wsV RX7 85 RX7 yX7_weekCost wsX7_weekCost) := goodIn_app (goodIn_of _ (by decide +kernel)) ggX7_reason_X7_weekCost
set_option maxRecDepth 20000 in
theorem ggX7_reason_X7_soundWith : GoodIn wsX7_reason wsX7_soundWith := goodIn_r _ [37, 2, 3, 4, 5, 6, 1, 38, 39, 40, 41, 42, 43, 44, 45, 46, 47, 48, 49, 50, 51, 7, 8, 9, 10, 52, 53, 54, 55, 56, 57, 58, 59, 60, 61, 62, 63, 64, 65, 66, 67, 68, 69, 70, 71, 72, 73, 74, 75, 76, 77, 78, 79, 80, 81, 82] rfl (by decide +kernel)
set_option maxRecDepth 20000 in
theorem gX7_reason_X7_soundWith : GoodIn wsX7_reason (wsV RX7 139 RX7 yX7_soundWith wsX7_soundWith) := goodIn_app (goodIn_of _ (by decide +kernel)) ggX7_reason_X7_soundWith
theorem dX7_reason_0 : decode cX7_reason 0 = .ok (.aload_n 0, 1) := by decide +kernel
theorem dX7_reason_1 : decode cX7_reason 1 = .ok (.iload_n 1, 1) := by decide +kernel
theorem dX7_reason_2 : decode cX7_reason 2 = .ok (.iload_n 2, 1) := by decide +kernel
theorem dX7_reason_3 : decode cX7_reason 3 = .ok (.invokevirtual 79, 3) := by decide +kernel
theorem dX7_reason_6 : decode cX7_reason 6 = .ok (.iconst (-1), 1) := by decide +kernel
theorem dX7_reason_7 : decode cX7_reason 7 = .ok (.if_icmp .eq 5, 3) := by decide +kernel
theorem dX7_reason_10 : decode cX7_reason 10 = .ok (.iconst 1, 1) := by decide +kernel
theorem dX7_reason_11 : decode cX7_reason 11 = .ok (.ireturn, 1) := by decide +kernel
theorem dX7_reason_12 : decode cX7_reason 12 = .ok (.aload_n 0, 1) := by decide +kernel
theorem dX7_reason_13 : decode cX7_reason 13 = .ok (.iload_n 3, 1) := by decide +kernel
theorem dX7_reason_14 : decode cX7_reason 14 = .ok (.iconst 0, 1) := by decide +kernel
theorem dX7_reason_15 : decode cX7_reason 15 = .ok (.invokevirtual 45, 3) := by decide +kernel
theorem dX7_reason_18 : decode cX7_reason 18 = .ok (.iload_n 2, 1) := by decide +kernel
theorem dX7_reason_19 : decode cX7_reason 19 = .ok (.if_icmp .eq 5, 3) := by decide +kernel
theorem dX7_reason_22 : decode cX7_reason 22 = .ok (.iconst 2, 1) := by decide +kernel
theorem dX7_reason_23 : decode cX7_reason 23 = .ok (.ireturn, 1) := by decide +kernel
theorem dX7_reason_24 : decode cX7_reason 24 = .ok (.aload_n 0, 1) := by decide +kernel
theorem dX7_reason_25 : decode cX7_reason 25 = .ok (.iload_n 1, 1) := by decide +kernel
theorem dX7_reason_26 : decode cX7_reason 26 = .ok (.iload_n 3, 1) := by decide +kernel
theorem dX7_reason_27 : decode cX7_reason 27 = .ok (.invokevirtual 76, 3) := by decide +kernel
theorem dX7_reason_30 : decode cX7_reason 30 = .ok (.ifCond .eq 5, 3) := by decide +kernel
theorem dX7_reason_33 : decode cX7_reason 33 = .ok (.iconst 3, 1) := by decide +kernel
theorem dX7_reason_34 : decode cX7_reason 34 = .ok (.ireturn, 1) := by decide +kernel
theorem dX7_reason_35 : decode cX7_reason 35 = .ok (.aload_n 0, 1) := by decide +kernel
theorem dX7_reason_36 : decode cX7_reason 36 = .ok (.iload_n 1, 1) := by decide +kernel
theorem dX7_reason_37 : decode cX7_reason 37 = .ok (.bipush 7, 2) := by decide +kernel
theorem dX7_reason_39 : decode cX7_reason 39 = .ok (.idiv, 1) := by decide +kernel
theorem dX7_reason_40 : decode cX7_reason 40 = .ok (.invokevirtual 85, 3) := by decide +kernel
theorem dX7_reason_43 : decode cX7_reason 43 = .ok (.aload_n 0, 1) := by decide +kernel
theorem dX7_reason_44 : decode cX7_reason 44 = .ok (.iload_n 3, 1) := by decide +kernel
theorem dX7_reason_45 : decode cX7_reason 45 = .ok (.iconst 1, 1) := by decide +kernel
theorem dX7_reason_46 : decode cX7_reason 46 = .ok (.invokevirtual 45, 3) := by decide +kernel
theorem dX7_reason_49 : decode cX7_reason 49 = .ok (.iadd, 1) := by decide +kernel
theorem dX7_reason_50 : decode cX7_reason 50 = .ok (.aload_n 0, 1) := by decide +kernel
theorem dX7_reason_51 : decode cX7_reason 51 = .ok (.getfield 7, 3) := by decide +kernel
theorem dX7_reason_54 : decode cX7_reason 54 = .ok (.iconst 2, 1) := by decide +kernel
theorem dX7_reason_55 : decode cX7_reason 55 = .ok (.iaload, 1) := by decide +kernel
theorem dX7_reason_56 : decode cX7_reason 56 = .ok (.if_icmp .le 7, 3) := by decide +kernel
theorem dX7_reason_59 : decode cX7_reason 59 = .ok (.iconst 4, 1) := by decide +kernel
theorem dX7_reason_60 : decode cX7_reason 60 = .ok (.goto 18, 3) := by decide +kernel
theorem dX7_reason_63 : decode cX7_reason 63 = .ok (.aload_n 0, 1) := by decide +kernel
theorem dX7_reason_64 : decode cX7_reason 64 = .ok (.iload_n 1, 1) := by decide +kernel
theorem dX7_reason_65 : decode cX7_reason 65 = .ok (.iload_n 2, 1) := by decide +kernel
theorem dX7_reason_66 : decode cX7_reason 66 = .ok (.iload_n 3, 1) := by decide +kernel
theorem dX7_reason_67 : decode cX7_reason 67 = .ok (.invokevirtual 139, 3) := by decide +kernel
theorem dX7_reason_70 : decode cX7_reason 70 = .ok (.ifCond .eq 7, 3) := by decide +kernel
theorem dX7_reason_73 : decode cX7_reason 73 = .ok (.iconst 0, 1) := by decide +kernel
theorem dX7_reason_74 : decode cX7_reason 74 = .ok (.goto 4, 3) := by decide +kernel
theorem dX7_reason_77 : decode cX7_reason 77 = .ok (.iconst 5, 1) := by decide +kernel
theorem dX7_reason_78 : decode cX7_reason 78 = .ok (.ireturn, 1) := by decide +kernel
set_option maxRecDepth 20000 in
theorem ggX7_canServe_X7_of : GoodIn wsX7_canServe wsX7_of := goodIn_r _ [5, 6, 72, 73, 74, 75, 76, 77, 78, 79, 80, 81, 82, 83, 84, 85, 86] rfl (by decide +kernel)
set_option maxRecDepth 20000 in
theorem gX7_canServe_X7_of : GoodIn wsX7_canServe (wsV RX7 45 RX7 yX7_of wsX7_of) := goodIn_app (goodIn_of _ (by decide +kernel)) ggX7_canServe_X7_of
set_option maxRecDepth 20000 in
theorem ggX7_canServe_X7_reason : GoodIn wsX7_canServe wsX7_reason := goodIn_r _ [10, 6, 11, 12, 13, 4, 14, 1, 2, 3, 5, 15, 16, 17, 18, 19, 20, 21, 22, 23, 24, 25, 26, 27, 28, 29, 30, 31, 32, 33, 34, 35, 36, 37, 38, 39, 40, 41, 42, 43, 44, 45, 46, 47, 48, 49, 50, 51, 52, 53, 54, 55, 56, 57, 58, 59, 60, 61, 62, 63, 64, 65, 66, 67, 68, 69, 70, 71, 72, 73, 74, 75, 76, 77, 78, 79, 80, 81, 82, 83, 84, 85, 86] rfl (by decide +kernel)
set_option maxRecDepth 20000 in
theorem gX7_canServe_X7_reason : GoodIn wsX7_canServe (wsV RX7 142 RX7 yX7_reason wsX7_reason) := goodIn_app (goodIn_of _ (by decide +kernel)) ggX7_canServe_X7_reason
theorem dX7_canServe_0 : decode cX7_canServe 0 = .ok (.aload_n 0, 1) := by decide +kernel
theorem dX7_canServe_1 : decode cX7_canServe 1 = .ok (.iload_n 1, 1) := by decide +kernel
theorem dX7_canServe_2 : decode cX7_canServe 2 = .ok (.aload_n 0, 1) := by decide +kernel
theorem dX7_canServe_3 : decode cX7_canServe 3 = .ok (.iload_n 2, 1) := by decide +kernel
theorem dX7_canServe_4 : decode cX7_canServe 4 = .ok (.iconst 0, 1) := by decide +kernel
theorem dX7_canServe_5 : decode cX7_canServe 5 = .ok (.invokevirtual 45, 3) := by decide +kernel
theorem dX7_canServe_8 : decode cX7_canServe 8 = .ok (.iload_n 2, 1) := by decide +kernel
theorem dX7_canServe_9 : decode cX7_canServe 9 = .ok (.invokevirtual 142, 3) := by decide +kernel
theorem dX7_canServe_12 : decode cX7_canServe 12 = .ok (.ifCond .ne 7, 3) := by decide +kernel
theorem dX7_canServe_15 : decode cX7_canServe 15 = .ok (.iconst 1, 1) := by decide +kernel
theorem dX7_canServe_16 : decode cX7_canServe 16 = .ok (.goto 4, 3) := by decide +kernel
theorem dX7_canServe_19 : decode cX7_canServe 19 = .ok (.iconst 0, 1) := by decide +kernel
theorem dX7_canServe_20 : decode cX7_canServe 20 = .ok (.ireturn, 1) := by decide +kernel
set_option maxRecDepth 20000 in
theorem ggX7_serve_X7_isDay : GoodIn wsX7_serve wsX7_isDay := goodIn_r _ [5, 6, 7, 4, 8] rfl (by decide +kernel)
set_option maxRecDepth 20000 in
theorem gX7_serve_X7_isDay : GoodIn wsX7_serve (va_wsS RX7 146 yX7_isDay wsX7_isDay) := goodIn_app (goodIn_of _ (by decide +kernel)) ggX7_serve_X7_isDay
set_option maxRecDepth 20000 in
theorem ggX7_serve_X7_isDish : GoodIn wsX7_serve wsX7_isDish := goodIn_r _ [12, 13, 6, 7, 4, 8, 97, 98, 99, 100, 101, 102, 103, 104, 105, 106, 107, 108, 109, 110, 111] rfl (by decide +kernel)
set_option maxRecDepth 20000 in
theorem gX7_serve_X7_isDish : GoodIn wsX7_serve (wsV RX7 114 RX7 yX7_isDish wsX7_isDish) := goodIn_app (goodIn_of _ (by decide +kernel)) ggX7_serve_X7_isDish
set_option maxRecDepth 20000 in
theorem ggX7_serve_X7_canServe : GoodIn wsX7_serve wsX7_canServe := goodIn_r _ [17, 18, 19, 20, 4, 21, 13, 22, 23, 24, 25, 26, 27, 28, 29, 30, 31, 32, 33, 34, 35, 36, 37, 38, 39, 40, 41, 42, 43, 44, 45, 46, 47, 48, 49, 50, 51, 52, 53, 54, 55, 56, 57, 58, 59, 60, 61, 62, 63, 64, 65, 66, 67, 68, 69, 70, 71, 72, 73, 74, 75, 76, 77, 78, 79, 80, 81, 82, 83, 84, 85, 86, 97, 98, 99, 100, 101, 102, 103, 104, 105, 106, 107, 108, 109, 110, 111] rfl (by decide +kernel)
set_option maxRecDepth 20000 in
theorem gX7_serve_X7_canServe : GoodIn wsX7_serve (wsV RX7 149 RX7 yX7_canServe wsX7_canServe) := goodIn_app (goodIn_of _ (by decide +kernel)) ggX7_serve_X7_canServe
set_option maxRecDepth 20000 in
theorem ggX7_serve_X7_save : GoodIn wsX7_serve wsX7_save := goodIn_r _ [90, 91, 92, 13, 97, 98, 99, 100, 101, 102, 103, 104, 105, 106, 107, 108, 109, 110, 111] rfl (by decide +kernel)
set_option maxRecDepth 20000 in
theorem gX7_serve_X7_save : GoodIn wsX7_serve (wsV RX7 107 RX7 yX7_save wsX7_save) := goodIn_app (goodIn_of _ (by decide +kernel)) ggX7_serve_X7_save
set_option maxRecDepth 20000 in
theorem ggX7_serve_X7_of : GoodIn wsX7_serve wsX7_of := goodIn_r _ [21, 13, 97, 98, 99, 100, 101, 102, 103, 104, 105, 106, 107, 108, 109, 110, 111] rfl (by decide +kernel)
set_option maxRecDepth 20000 in
theorem gX7_serve_X7_of : GoodIn wsX7_serve (wsV RX7 45 RX7 yX7_of wsX7_of) := goodIn_app (goodIn_of _ (by decide +kernel)) ggX7_serve_X7_of
set_option maxRecDepth 20000 in
theorem ggX7_serve_X7_put : GoodIn wsX7_serve wsX7_put := goodIn_r _ [60, 13, 97, 98, 99, 100, 101, 102, 103, 104, 105, 106, 107, 108, 109, 110, 111] rfl (by decide +kernel)
set_option maxRecDepth 20000 in
theorem gX7_serve_X7_put : GoodIn wsX7_serve (wsV RX7 136 RX7 yX7_put wsX7_put) := goodIn_app (goodIn_of _ (by decide +kernel)) ggX7_serve_X7_put
set_option maxRecDepth 20000 in
theorem ggX7_serve_X7_joyNow : GoodIn wsX7_serve wsX7_joyNow := goodIn_r _ [96, 13, 18, 19, 20, 4, 21, 97, 98, 99, 100, 101, 102, 103, 104, 105, 106, 107, 108, 109, 110, 111] rfl (by decide +kernel)
set_option maxRecDepth 20000 in
theorem gX7_serve_X7_joyNow : GoodIn wsX7_serve (wsV RX7 98 RX7 yX7_joyNow wsX7_joyNow) := goodIn_app (goodIn_of _ (by decide +kernel)) ggX7_serve_X7_joyNow
theorem dX7_serve_0 : decode cX7_serve 0 = .ok (.aload_n 0, 1) := by decide +kernel
theorem dX7_serve_1 : decode cX7_serve 1 = .ok (.iload_n 1, 1) := by decide +kernel
theorem dX7_serve_2 : decode cX7_serve 2 = .ok (.invokestatic 146, 3) := by decide +kernel
theorem dX7_serve_5 : decode cX7_serve 5 = .ok (.ifCond .eq 15, 3) := by decide +kernel
theorem dX7_serve_8 : decode cX7_serve 8 = .ok (.aload_n 0, 1) := by decide +kernel
theorem dX7_serve_9 : decode cX7_serve 9 = .ok (.iload_n 2, 1) := by decide +kernel
theorem dX7_serve_10 : decode cX7_serve 10 = .ok (.invokevirtual 114, 3) := by decide +kernel
theorem dX7_serve_13 : decode cX7_serve 13 = .ok (.ifCond .eq 7, 3) := by decide +kernel
theorem dX7_serve_16 : decode cX7_serve 16 = .ok (.iconst 0, 1) := by decide +kernel
theorem dX7_serve_17 : decode cX7_serve 17 = .ok (.goto 4, 3) := by decide +kernel
theorem dX7_serve_20 : decode cX7_serve 20 = .ok (.iconst 1, 1) := by decide +kernel
theorem dX7_serve_21 : decode cX7_serve 21 = .ok (.putfield 34, 3) := by decide +kernel
theorem dX7_serve_24 : decode cX7_serve 24 = .ok (.aload_n 0, 1) := by decide +kernel
theorem dX7_serve_25 : decode cX7_serve 25 = .ok (.getfield 34, 3) := by decide +kernel
theorem dX7_serve_28 : decode cX7_serve 28 = .ok (.ifCond .ne 21, 3) := by decide +kernel
theorem dX7_serve_31 : decode cX7_serve 31 = .ok (.aload_n 0, 1) := by decide +kernel
theorem dX7_serve_32 : decode cX7_serve 32 = .ok (.aload_n 0, 1) := by decide +kernel
theorem dX7_serve_33 : decode cX7_serve 33 = .ok (.iload_n 1, 1) := by decide +kernel
theorem dX7_serve_34 : decode cX7_serve 34 = .ok (.iload_n 2, 1) := by decide +kernel
theorem dX7_serve_35 : decode cX7_serve 35 = .ok (.invokevirtual 149, 3) := by decide +kernel
theorem dX7_serve_38 : decode cX7_serve 38 = .ok (.ifCond .eq 7, 3) := by decide +kernel
theorem dX7_serve_41 : decode cX7_serve 41 = .ok (.iconst 0, 1) := by decide +kernel
theorem dX7_serve_42 : decode cX7_serve 42 = .ok (.goto 4, 3) := by decide +kernel
theorem dX7_serve_45 : decode cX7_serve 45 = .ok (.iconst 2, 1) := by decide +kernel
theorem dX7_serve_46 : decode cX7_serve 46 = .ok (.putfield 34, 3) := by decide +kernel
theorem dX7_serve_49 : decode cX7_serve 49 = .ok (.aload_n 0, 1) := by decide +kernel
theorem dX7_serve_50 : decode cX7_serve 50 = .ok (.getfield 34, 3) := by decide +kernel
theorem dX7_serve_53 : decode cX7_serve 53 = .ok (.ifCond .le 5, 3) := by decide +kernel
theorem dX7_serve_56 : decode cX7_serve 56 = .ok (.iconst 0, 1) := by decide +kernel
theorem dX7_serve_57 : decode cX7_serve 57 = .ok (.ireturn, 1) := by decide +kernel
theorem dX7_serve_58 : decode cX7_serve 58 = .ok (.aload_n 0, 1) := by decide +kernel
theorem dX7_serve_59 : decode cX7_serve 59 = .ok (.invokevirtual 107, 3) := by decide +kernel
theorem dX7_serve_62 : decode cX7_serve 62 = .ok (.aload_n 0, 1) := by decide +kernel
theorem dX7_serve_63 : decode cX7_serve 63 = .ok (.iload_n 1, 1) := by decide +kernel
theorem dX7_serve_64 : decode cX7_serve 64 = .ok (.aload_n 0, 1) := by decide +kernel
theorem dX7_serve_65 : decode cX7_serve 65 = .ok (.iload_n 2, 1) := by decide +kernel
theorem dX7_serve_66 : decode cX7_serve 66 = .ok (.iconst 0, 1) := by decide +kernel
theorem dX7_serve_67 : decode cX7_serve 67 = .ok (.invokevirtual 45, 3) := by decide +kernel
theorem dX7_serve_70 : decode cX7_serve 70 = .ok (.iload_n 2, 1) := by decide +kernel
theorem dX7_serve_71 : decode cX7_serve 71 = .ok (.invokevirtual 136, 3) := by decide +kernel
theorem dX7_serve_74 : decode cX7_serve 74 = .ok (.aload_n 0, 1) := by decide +kernel
theorem dX7_serve_75 : decode cX7_serve 75 = .ok (.iload_n 1, 1) := by decide +kernel
theorem dX7_serve_76 : decode cX7_serve 76 = .ok (.iload_n 2, 1) := by decide +kernel
theorem dX7_serve_77 : decode cX7_serve 77 = .ok (.invokevirtual 98, 3) := by decide +kernel
theorem dX7_serve_80 : decode cX7_serve 80 = .ok (.ireturn, 1) := by decide +kernel
set_option maxRecDepth 20000 in
theorem ggX7_drop_X7_isDay : GoodIn wsX7_drop wsX7_isDay := goodIn_r _ [5, 6, 7, 4, 8] rfl (by decide +kernel)
set_option maxRecDepth 20000 in
theorem gX7_drop_X7_isDay : GoodIn wsX7_drop (va_wsS RX7 146 yX7_isDay wsX7_isDay) := goodIn_app (goodIn_of _ (by decide +kernel)) ggX7_drop_X7_isDay
set_option maxRecDepth 20000 in
theorem ggX7_drop_X7_isPart : GoodIn wsX7_drop wsX7_isPart := goodIn_r _ [11, 6, 7, 4, 8] rfl (by decide +kernel)
set_option maxRecDepth 20000 in
theorem gX7_drop_X7_isPart : GoodIn wsX7_drop (va_wsS RX7 104 yX7_isPart wsX7_isPart) := goodIn_app (goodIn_of _ (by decide +kernel)) ggX7_drop_X7_isPart
set_option maxRecDepth 20000 in
theorem ggX7_drop_X7_at : GoodIn wsX7_drop wsX7_at := goodIn_r _ [15, 16, 61, 62, 63, 64, 65, 66, 67, 68, 69, 70, 71, 72, 73, 74, 75] rfl (by decide +kernel)
set_option maxRecDepth 20000 in
theorem gX7_drop_X7_at : GoodIn wsX7_drop (wsV RX7 79 RX7 yX7_at wsX7_at) := goodIn_app (goodIn_of _ (by decide +kernel)) ggX7_drop_X7_at
set_option maxRecDepth 20000 in
theorem ggX7_drop_X7_soundWith : GoodIn wsX7_drop wsX7_soundWith := goodIn_r _ [20, 12, 13, 14, 4, 15, 16, 21, 22, 23, 24, 25, 26, 27, 28, 29, 30, 31, 32, 33, 34, 35, 36, 37, 38, 39, 40, 41, 42, 43, 44, 45, 46, 47, 48, 49, 50, 51, 52, 53, 54, 61, 62, 63, 64, 65, 66, 67, 68, 69, 70, 71, 72, 73, 74, 75] rfl (by decide +kernel)
set_option maxRecDepth 20000 in
theorem gX7_drop_X7_soundWith : GoodIn wsX7_drop (wsV RX7 139 RX7 yX7_soundWith wsX7_soundWith) := goodIn_app (goodIn_of _ (by decide +kernel)) ggX7_drop_X7_soundWith
set_option maxRecDepth 20000 in
theorem ggX7_drop_X7_save : GoodIn wsX7_drop wsX7_save := goodIn_r _ [58, 59, 60, 16, 61, 62, 63, 64, 65, 66, 67, 68, 69, 70, 71, 72, 73, 74, 75] rfl (by decide +kernel)
set_option maxRecDepth 20000 in
theorem gX7_drop_X7_save : GoodIn wsX7_drop (wsV RX7 107 RX7 yX7_save wsX7_save) := goodIn_app (goodIn_of _ (by decide +kernel)) ggX7_drop_X7_save
set_option maxRecDepth 20000 in
theorem ggX7_drop_X7_put : GoodIn wsX7_drop wsX7_put := goodIn_r _ [24, 16, 61, 62, 63, 64, 65, 66, 67, 68, 69, 70, 71, 72, 73, 74, 75] rfl (by decide +kernel)
set_option maxRecDepth 20000 in
theorem gX7_drop_X7_put : GoodIn wsX7_drop (wsV RX7 136 RX7 yX7_put wsX7_put) := goodIn_app (goodIn_of _ (by decide +kernel)) ggX7_drop_X7_put
theorem dX7_drop_0 : decode cX7_drop 0 = .ok (.aload_n 0, 1) := by decide +kernel
theorem dX7_drop_1 : decode cX7_drop 1 = .ok (.iload_n 1, 1) := by decide +kernel
theorem dX7_drop_2 : decode cX7_drop 2 = .ok (.invokestatic 146, 3) := by decide +kernel
theorem dX7_drop_5 : decode cX7_drop 5 = .ok (.ifCond .eq 14, 3) := by decide +kernel
theorem dX7_drop_8 : decode cX7_drop 8 = .ok (.iload_n 2, 1) := by decide +kernel
theorem dX7_drop_9 : decode cX7_drop 9 = .ok (.invokestatic 104, 3) := by decide +kernel
theorem dX7_drop_12 : decode cX7_drop 12 = .ok (.ifCond .eq 7, 3) := by decide +kernel
theorem dX7_drop_15 : decode cX7_drop 15 = .ok (.iconst 0, 1) := by decide +kernel
theorem dX7_drop_16 : decode cX7_drop 16 = .ok (.goto 4, 3) := by decide +kernel
theorem dX7_drop_19 : decode cX7_drop 19 = .ok (.iconst 1, 1) := by decide +kernel
theorem dX7_drop_20 : decode cX7_drop 20 = .ok (.putfield 34, 3) := by decide +kernel
theorem dX7_drop_23 : decode cX7_drop 23 = .ok (.aload_n 0, 1) := by decide +kernel
theorem dX7_drop_24 : decode cX7_drop 24 = .ok (.getfield 34, 3) := by decide +kernel
theorem dX7_drop_27 : decode cX7_drop 27 = .ok (.ifCond .ne 32, 3) := by decide +kernel
theorem dX7_drop_30 : decode cX7_drop 30 = .ok (.aload_n 0, 1) := by decide +kernel
theorem dX7_drop_31 : decode cX7_drop 31 = .ok (.aload_n 0, 1) := by decide +kernel
theorem dX7_drop_32 : decode cX7_drop 32 = .ok (.iload_n 1, 1) := by decide +kernel
theorem dX7_drop_33 : decode cX7_drop 33 = .ok (.iload_n 2, 1) := by decide +kernel
theorem dX7_drop_34 : decode cX7_drop 34 = .ok (.invokevirtual 79, 3) := by decide +kernel
theorem dX7_drop_37 : decode cX7_drop 37 = .ok (.iconst (-1), 1) := by decide +kernel
theorem dX7_drop_38 : decode cX7_drop 38 = .ok (.if_icmp .eq 17, 3) := by decide +kernel
theorem dX7_drop_41 : decode cX7_drop 41 = .ok (.aload_n 0, 1) := by decide +kernel
theorem dX7_drop_42 : decode cX7_drop 42 = .ok (.iload_n 1, 1) := by decide +kernel
theorem dX7_drop_43 : decode cX7_drop 43 = .ok (.iload_n 2, 1) := by decide +kernel
theorem dX7_drop_44 : decode cX7_drop 44 = .ok (.iconst (-1), 1) := by decide +kernel
theorem dX7_drop_45 : decode cX7_drop 45 = .ok (.invokevirtual 139, 3) := by decide +kernel
theorem dX7_drop_48 : decode cX7_drop 48 = .ok (.ifCond .eq 7, 3) := by decide +kernel
theorem dX7_drop_51 : decode cX7_drop 51 = .ok (.iconst 0, 1) := by decide +kernel
theorem dX7_drop_52 : decode cX7_drop 52 = .ok (.goto 4, 3) := by decide +kernel
theorem dX7_drop_55 : decode cX7_drop 55 = .ok (.iconst 2, 1) := by decide +kernel
theorem dX7_drop_56 : decode cX7_drop 56 = .ok (.putfield 34, 3) := by decide +kernel
theorem dX7_drop_59 : decode cX7_drop 59 = .ok (.aload_n 0, 1) := by decide +kernel
theorem dX7_drop_60 : decode cX7_drop 60 = .ok (.getfield 34, 3) := by decide +kernel
theorem dX7_drop_63 : decode cX7_drop 63 = .ok (.ifCond .le 5, 3) := by decide +kernel
theorem dX7_drop_66 : decode cX7_drop 66 = .ok (.iconst 0, 1) := by decide +kernel
theorem dX7_drop_67 : decode cX7_drop 67 = .ok (.ireturn, 1) := by decide +kernel
theorem dX7_drop_68 : decode cX7_drop 68 = .ok (.aload_n 0, 1) := by decide +kernel
theorem dX7_drop_69 : decode cX7_drop 69 = .ok (.invokevirtual 107, 3) := by decide +kernel
theorem dX7_drop_72 : decode cX7_drop 72 = .ok (.aload_n 0, 1) := by decide +kernel
theorem dX7_drop_73 : decode cX7_drop 73 = .ok (.iload_n 1, 1) := by decide +kernel
theorem dX7_drop_74 : decode cX7_drop 74 = .ok (.iload_n 2, 1) := by decide +kernel
theorem dX7_drop_75 : decode cX7_drop 75 = .ok (.invokevirtual 79, 3) := by decide +kernel
theorem dX7_drop_78 : decode cX7_drop 78 = .ok (.istore_n 3, 1) := by decide +kernel
theorem dX7_drop_79 : decode cX7_drop 79 = .ok (.aload_n 0, 1) := by decide +kernel
theorem dX7_drop_80 : decode cX7_drop 80 = .ok (.iload_n 1, 1) := by decide +kernel
theorem dX7_drop_81 : decode cX7_drop 81 = .ok (.iload_n 2, 1) := by decide +kernel
theorem dX7_drop_82 : decode cX7_drop 82 = .ok (.iconst (-1), 1) := by decide +kernel
theorem dX7_drop_83 : decode cX7_drop 83 = .ok (.invokevirtual 136, 3) := by decide +kernel
theorem dX7_drop_86 : decode cX7_drop 86 = .ok (.iload_n 3, 1) := by decide +kernel
theorem dX7_drop_87 : decode cX7_drop 87 = .ok (.ireturn, 1) := by decide +kernel
set_option maxRecDepth 20000 in
theorem ggX7_swap_X7_at : GoodIn wsX7_swap wsX7_at := goodIn_r _ [5, 6, 11, 12, 13, 14, 15, 16, 17, 18, 19, 20, 21, 22, 23, 24, 25] rfl (by decide +kernel)
set_option maxRecDepth 20000 in
theorem gX7_swap_X7_at : GoodIn wsX7_swap (wsV RX7 79 RX7 yX7_at wsX7_at) := goodIn_app (goodIn_of _ (by decide +kernel)) ggX7_swap_X7_at
set_option maxRecDepth 20000 in
theorem ggX7_swap_X7_put : GoodIn wsX7_swap wsX7_put := goodIn_r _ [10, 6, 11, 12, 13, 14, 15, 16, 17, 18, 19, 20, 21, 22, 23, 24, 25] rfl (by decide +kernel)
set_option maxRecDepth 20000 in
theorem gX7_swap_X7_put : GoodIn wsX7_swap (wsV RX7 136 RX7 yX7_put wsX7_put) := goodIn_app (goodIn_of _ (by decide +kernel)) ggX7_swap_X7_put
theorem dX7_swap_0 : decode cX7_swap 0 = .ok (.iconst 0, 1) := by decide +kernel
theorem dX7_swap_1 : decode cX7_swap 1 = .ok (.istore_n 3, 1) := by decide +kernel
theorem dX7_swap_2 : decode cX7_swap 2 = .ok (.iload_n 3, 1) := by decide +kernel
theorem dX7_swap_3 : decode cX7_swap 3 = .ok (.iconst 3, 1) := by decide +kernel
theorem dX7_swap_4 : decode cX7_swap 4 = .ok (.if_icmp .ge 37, 3) := by decide +kernel
theorem dX7_swap_7 : decode cX7_swap 7 = .ok (.aload_n 0, 1) := by decide +kernel
theorem dX7_swap_8 : decode cX7_swap 8 = .ok (.iload_n 1, 1) := by decide +kernel
theorem dX7_swap_9 : decode cX7_swap 9 = .ok (.iload_n 3, 1) := by decide +kernel
theorem dX7_swap_10 : decode cX7_swap 10 = .ok (.invokevirtual 79, 3) := by decide +kernel
theorem dX7_swap_13 : decode cX7_swap 13 = .ok (.istore 4, 2) := by decide +kernel
theorem dX7_swap_15 : decode cX7_swap 15 = .ok (.aload_n 0, 1) := by decide +kernel
theorem dX7_swap_16 : decode cX7_swap 16 = .ok (.iload_n 1, 1) := by decide +kernel
theorem dX7_swap_17 : decode cX7_swap 17 = .ok (.iload_n 3, 1) := by decide +kernel
theorem dX7_swap_18 : decode cX7_swap 18 = .ok (.aload_n 0, 1) := by decide +kernel
theorem dX7_swap_19 : decode cX7_swap 19 = .ok (.iload_n 2, 1) := by decide +kernel
theorem dX7_swap_20 : decode cX7_swap 20 = .ok (.iload_n 3, 1) := by decide +kernel
theorem dX7_swap_21 : decode cX7_swap 21 = .ok (.invokevirtual 79, 3) := by decide +kernel
theorem dX7_swap_24 : decode cX7_swap 24 = .ok (.invokevirtual 136, 3) := by decide +kernel
theorem dX7_swap_27 : decode cX7_swap 27 = .ok (.aload_n 0, 1) := by decide +kernel
theorem dX7_swap_28 : decode cX7_swap 28 = .ok (.iload_n 2, 1) := by decide +kernel
theorem dX7_swap_29 : decode cX7_swap 29 = .ok (.iload_n 3, 1) := by decide +kernel
theorem dX7_swap_30 : decode cX7_swap 30 = .ok (.iload 4, 2) := by decide +kernel
theorem dX7_swap_32 : decode cX7_swap 32 = .ok (.invokevirtual 136, 3) := by decide +kernel
theorem dX7_swap_35 : decode cX7_swap 35 = .ok (.iinc 3 1, 3) := by decide +kernel
theorem dX7_swap_38 : decode cX7_swap 38 = .ok (.goto (-36), 3) := by decide +kernel
theorem dX7_swap_41 : decode cX7_swap 41 = .ok (.return_, 1) := by decide +kernel
set_option maxRecDepth 20000 in
theorem ggX7_goodSwapped_X7_swap : GoodIn wsX7_goodSwapped wsX7_swap := goodIn_r _ [5, 6, 7, 8, 4, 9, 10, 11, 12, 13, 14, 80, 81, 82, 83, 84, 85, 86, 87, 88, 89, 90, 91, 92, 93, 94] rfl (by decide +kernel)
set_option maxRecDepth 20000 in
theorem gX7_goodSwapped_X7_swap : GoodIn wsX7_goodSwapped (wsV RX7 152 RX7 yX7_swap wsX7_swap) := goodIn_app (goodIn_of _ (by decide +kernel)) ggX7_goodSwapped_X7_swap
set_option maxRecDepth 20000 in
theorem ggX7_goodSwapped_X7_isGood : GoodIn wsX7_goodSwapped wsX7_isGood := goodIn_r _ [18, 10, 19, 20, 21, 4, 22, 23, 24, 25, 26, 27, 28, 29, 30, 31, 32, 33, 34, 35, 36, 37, 38, 39, 40, 41, 42, 43, 44, 45, 46, 47, 48, 49, 50, 51, 52, 53, 6, 7, 8, 9, 54, 55, 56, 57, 58, 59, 60, 61, 62, 63, 64, 65, 66, 67, 68, 69, 70, 71, 72, 73, 74, 75, 76, 77, 78, 79, 80, 81, 82, 83, 84, 85, 86, 87, 88, 89, 90, 91, 92, 93, 94] rfl (by decide +kernel)
set_option maxRecDepth 20000 in
theorem gX7_goodSwapped_X7_isGood : GoodIn wsX7_goodSwapped (wsV RX7 156 RX7 yX7_isGood wsX7_isGood) := goodIn_app (goodIn_of _ (by decide +kernel)) ggX7_goodSwapped_X7_isGood
theorem dX7_goodSwapped_0 : decode cX7_goodSwapped 0 = .ok (.aload_n 0, 1) := by decide +kernel
theorem dX7_goodSwapped_1 : decode cX7_goodSwapped 1 = .ok (.iload_n 1, 1) := by decide +kernel
theorem dX7_goodSwapped_2 : decode cX7_goodSwapped 2 = .ok (.iload_n 2, 1) := by decide +kernel
theorem dX7_goodSwapped_3 : decode cX7_goodSwapped 3 = .ok (.invokevirtual 152, 3) := by decide +kernel
theorem dX7_goodSwapped_6 : decode cX7_goodSwapped 6 = .ok (.aload_n 0, 1) := by decide +kernel
theorem dX7_goodSwapped_7 : decode cX7_goodSwapped 7 = .ok (.invokevirtual 156, 3) := by decide +kernel
theorem dX7_goodSwapped_10 : decode cX7_goodSwapped 10 = .ok (.istore_n 3, 1) := by decide +kernel
theorem dX7_goodSwapped_11 : decode cX7_goodSwapped 11 = .ok (.aload_n 0, 1) := by decide +kernel
theorem dX7_goodSwapped_12 : decode cX7_goodSwapped 12 = .ok (.iload_n 1, 1) := by decide +kernel
theorem dX7_goodSwapped_13 : decode cX7_goodSwapped 13 = .ok (.iload_n 2, 1) := by decide +kernel
theorem dX7_goodSwapped_14 : decode cX7_goodSwapped 14 = .ok (.invokevirtual 152, 3) := by decide +kernel
theorem dX7_goodSwapped_17 : decode cX7_goodSwapped 17 = .ok (.iload_n 3, 1) := by decide +kernel
theorem dX7_goodSwapped_18 : decode cX7_goodSwapped 18 = .ok (.ireturn, 1) := by decide +kernel
set_option maxRecDepth 20000 in
theorem ggX7_exchange_X7_isDay : GoodIn wsX7_exchange wsX7_isDay := goodIn_r _ [5, 6, 7, 4, 8] rfl (by decide +kernel)
set_option maxRecDepth 20000 in
theorem gX7_exchange_X7_isDay : GoodIn wsX7_exchange (va_wsS RX7 146 yX7_isDay wsX7_isDay) := goodIn_app (goodIn_of _ (by decide +kernel)) ggX7_exchange_X7_isDay
set_option maxRecDepth 20000 in
theorem ggX7_exchange_X7_goodSwapped : GoodIn wsX7_exchange wsX7_goodSwapped := goodIn_r _ [12, 13, 14, 15, 4, 16, 17, 18, 19, 20, 21, 22, 23, 24, 25, 26, 27, 28, 29, 30, 31, 32, 33, 34, 35, 36, 37, 38, 39, 40, 41, 42, 43, 44, 45, 46, 47, 48, 49, 50, 51, 52, 53, 54, 55, 56, 57, 58, 59, 60, 61, 62, 63, 64, 65, 66, 67, 68, 69, 70, 71, 72, 73, 74, 75, 76, 77, 78, 79, 80, 81, 82, 83, 84, 85, 86, 87, 88, 89, 90, 109, 110, 111, 112, 113, 114, 115, 116, 117, 118, 119, 120, 121, 122, 123] rfl (by decide +kernel)
set_option maxRecDepth 20000 in
theorem gX7_exchange_X7_goodSwapped : GoodIn wsX7_exchange (wsV RX7 159 RX7 yX7_goodSwapped wsX7_goodSwapped) := goodIn_app (goodIn_of _ (by decide +kernel)) ggX7_exchange_X7_goodSwapped
set_option maxRecDepth 20000 in
theorem ggX7_exchange_X7_save : GoodIn wsX7_exchange wsX7_save := goodIn_r _ [94, 95, 96, 21, 109, 110, 111, 112, 113, 114, 115, 116, 117, 118, 119, 120, 121, 122, 123] rfl (by decide +kernel)
set_option maxRecDepth 20000 in
theorem gX7_exchange_X7_save : GoodIn wsX7_exchange (wsV RX7 107 RX7 yX7_save wsX7_save) := goodIn_app (goodIn_of _ (by decide +kernel)) ggX7_exchange_X7_save
set_option maxRecDepth 20000 in
theorem ggX7_exchange_X7_swap : GoodIn wsX7_exchange wsX7_swap := goodIn_r _ [16, 17, 18, 19, 4, 20, 21, 22, 23, 24, 25, 109, 110, 111, 112, 113, 114, 115, 116, 117, 118, 119, 120, 121, 122, 123] rfl (by decide +kernel)
set_option maxRecDepth 20000 in
theorem gX7_exchange_X7_swap : GoodIn wsX7_exchange (wsV RX7 152 RX7 yX7_swap wsX7_swap) := goodIn_app (goodIn_of _ (by decide +kernel)) ggX7_exchange_X7_swap
set_option maxRecDepth 20000 in
theorem ggX7_exchange_X7_joyOfAll : GoodIn wsX7_exchange wsX7_joyOfAll := goodIn_r _ [100, 101, 102, 103, 4, 104, 17, 18, 19, 20, 21, 105, 106, 107, 108, 49, 50, 51, 52, 109, 110, 111, 112, 113, 114, 115, 116, 117, 118, 119, 120, 121, 122, 123] rfl (by decide +kernel)
set_option maxRecDepth 20000 in
theorem gX7_exchange_X7_joyOfAll : GoodIn wsX7_exchange (wsV RX7 162 RX7 yX7_joyOfAll wsX7_joyOfAll) := goodIn_app (goodIn_of _ (by decide +kernel)) ggX7_exchange_X7_joyOfAll
theorem dX7_exchange_0 : decode cX7_exchange 0 = .ok (.aload_n 0, 1) := by decide +kernel
theorem dX7_exchange_1 : decode cX7_exchange 1 = .ok (.iload_n 1, 1) := by decide +kernel
theorem dX7_exchange_2 : decode cX7_exchange 2 = .ok (.invokestatic 146, 3) := by decide +kernel
theorem dX7_exchange_5 : decode cX7_exchange 5 = .ok (.ifCond .eq 14, 3) := by decide +kernel
theorem dX7_exchange_8 : decode cX7_exchange 8 = .ok (.iload_n 2, 1) := by decide +kernel
theorem dX7_exchange_9 : decode cX7_exchange 9 = .ok (.invokestatic 146, 3) := by decide +kernel
theorem dX7_exchange_12 : decode cX7_exchange 12 = .ok (.ifCond .eq 7, 3) := by decide +kernel
theorem dX7_exchange_15 : decode cX7_exchange 15 = .ok (.iconst 0, 1) := by decide +kernel
theorem dX7_exchange_16 : decode cX7_exchange 16 = .ok (.goto 4, 3) := by decide +kernel
theorem dX7_exchange_19 : decode cX7_exchange 19 = .ok (.iconst 1, 1) := by decide +kernel
theorem dX7_exchange_20 : decode cX7_exchange 20 = .ok (.putfield 34, 3) := by decide +kernel
theorem dX7_exchange_23 : decode cX7_exchange 23 = .ok (.aload_n 0, 1) := by decide +kernel
theorem dX7_exchange_24 : decode cX7_exchange 24 = .ok (.getfield 34, 3) := by decide +kernel
theorem dX7_exchange_27 : decode cX7_exchange 27 = .ok (.ifCond .ne 21, 3) := by decide +kernel
theorem dX7_exchange_30 : decode cX7_exchange 30 = .ok (.aload_n 0, 1) := by decide +kernel
theorem dX7_exchange_31 : decode cX7_exchange 31 = .ok (.aload_n 0, 1) := by decide +kernel
theorem dX7_exchange_32 : decode cX7_exchange 32 = .ok (.iload_n 1, 1) := by decide +kernel
theorem dX7_exchange_33 : decode cX7_exchange 33 = .ok (.iload_n 2, 1) := by decide +kernel
theorem dX7_exchange_34 : decode cX7_exchange 34 = .ok (.invokevirtual 159, 3) := by decide +kernel
theorem dX7_exchange_37 : decode cX7_exchange 37 = .ok (.ifCond .eq 7, 3) := by decide +kernel
theorem dX7_exchange_40 : decode cX7_exchange 40 = .ok (.iconst 0, 1) := by decide +kernel
theorem dX7_exchange_41 : decode cX7_exchange 41 = .ok (.goto 4, 3) := by decide +kernel
theorem dX7_exchange_44 : decode cX7_exchange 44 = .ok (.iconst 2, 1) := by decide +kernel
theorem dX7_exchange_45 : decode cX7_exchange 45 = .ok (.putfield 34, 3) := by decide +kernel
theorem dX7_exchange_48 : decode cX7_exchange 48 = .ok (.aload_n 0, 1) := by decide +kernel
theorem dX7_exchange_49 : decode cX7_exchange 49 = .ok (.getfield 34, 3) := by decide +kernel
theorem dX7_exchange_52 : decode cX7_exchange 52 = .ok (.ifCond .le 5, 3) := by decide +kernel
theorem dX7_exchange_55 : decode cX7_exchange 55 = .ok (.iconst 0, 1) := by decide +kernel
theorem dX7_exchange_56 : decode cX7_exchange 56 = .ok (.ireturn, 1) := by decide +kernel
theorem dX7_exchange_57 : decode cX7_exchange 57 = .ok (.aload_n 0, 1) := by decide +kernel
theorem dX7_exchange_58 : decode cX7_exchange 58 = .ok (.invokevirtual 107, 3) := by decide +kernel
theorem dX7_exchange_61 : decode cX7_exchange 61 = .ok (.aload_n 0, 1) := by decide +kernel
theorem dX7_exchange_62 : decode cX7_exchange 62 = .ok (.iload_n 1, 1) := by decide +kernel
theorem dX7_exchange_63 : decode cX7_exchange 63 = .ok (.iload_n 2, 1) := by decide +kernel
theorem dX7_exchange_64 : decode cX7_exchange 64 = .ok (.invokevirtual 152, 3) := by decide +kernel
theorem dX7_exchange_67 : decode cX7_exchange 67 = .ok (.aload_n 0, 1) := by decide +kernel
theorem dX7_exchange_68 : decode cX7_exchange 68 = .ok (.invokevirtual 162, 3) := by decide +kernel
theorem dX7_exchange_71 : decode cX7_exchange 71 = .ok (.ireturn, 1) := by decide +kernel
set_option maxRecDepth 20000 in
theorem ggX7_bestFor_X7_reason : GoodIn wsX7_bestFor wsX7_reason := goodIn_r _ [6, 1, 7, 8, 9, 5, 10, 11, 12, 13, 14, 15, 16, 17, 18, 19, 20, 21, 22, 23, 24, 25, 26, 27, 28, 29, 30, 31, 32, 33, 34, 35, 36, 37, 38, 39, 40, 41, 42, 43, 44, 45, 46, 47, 48, 49, 50, 51, 52, 53, 54, 55, 56, 57, 58, 59, 60, 61, 62, 63, 64, 65, 66, 67, 68, 69, 70, 71, 76, 77, 78, 79, 80, 81, 82, 83, 84, 85, 86, 87, 88, 89, 90] rfl (by decide +kernel)
set_option maxRecDepth 20000 in
theorem gX7_bestFor_X7_reason : GoodIn wsX7_bestFor (wsV RX7 142 RX7 yX7_reason wsX7_reason) := goodIn_app (goodIn_of _ (by decide +kernel)) ggX7_bestFor_X7_reason
set_option maxRecDepth 20000 in
theorem ggX7_bestFor_X7_joyNow : GoodIn wsX7_bestFor wsX7_joyNow := goodIn_r _ [75, 1, 11, 12, 13, 5, 14, 76, 77, 78, 79, 80, 81, 82, 83, 84, 85, 86, 87, 88, 89, 90] rfl (by decide +kernel)
set_option maxRecDepth 20000 in
theorem gX7_bestFor_X7_joyNow : GoodIn wsX7_bestFor (wsV RX7 98 RX7 yX7_joyNow wsX7_joyNow) := goodIn_app (goodIn_of _ (by decide +kernel)) ggX7_bestFor_X7_joyNow
set_option maxRecDepth 20000 in
theorem ggX7_bestFor_X7_of : GoodIn wsX7_bestFor wsX7_of := goodIn_r _ [14, 1, 76, 77, 78, 79, 80, 81, 82, 83, 84, 85, 86, 87, 88, 89, 90] rfl (by decide +kernel)
set_option maxRecDepth 20000 in
theorem gX7_bestFor_X7_of : GoodIn wsX7_bestFor (wsV RX7 45 RX7 yX7_of wsX7_of) := goodIn_app (goodIn_of _ (by decide +kernel)) ggX7_bestFor_X7_of
theorem dX7_bestFor_0 : decode cX7_bestFor 0 = .ok (.iconst (-1), 1) := by decide +kernel
theorem dX7_bestFor_1 : decode cX7_bestFor 1 = .ok (.istore_n 3, 1) := by decide +kernel
theorem dX7_bestFor_2 : decode cX7_bestFor 2 = .ok (.iconst 0, 1) := by decide +kernel
theorem dX7_bestFor_3 : decode cX7_bestFor 3 = .ok (.istore 4, 2) := by decide +kernel
theorem dX7_bestFor_5 : decode cX7_bestFor 5 = .ok (.iload 4, 2) := by decide +kernel
theorem dX7_bestFor_7 : decode cX7_bestFor 7 = .ok (.aload_n 0, 1) := by decide +kernel
theorem dX7_bestFor_8 : decode cX7_bestFor 8 = .ok (.getfield 7, 3) := by decide +kernel
theorem dX7_bestFor_11 : decode cX7_bestFor 11 = .ok (.iconst 3, 1) := by decide +kernel
theorem dX7_bestFor_12 : decode cX7_bestFor 12 = .ok (.iaload, 1) := by decide +kernel
theorem dX7_bestFor_13 : decode cX7_bestFor 13 = .ok (.if_icmp .ge 78, 3) := by decide +kernel
theorem dX7_bestFor_16 : decode cX7_bestFor 16 = .ok (.aload_n 0, 1) := by decide +kernel
theorem dX7_bestFor_17 : decode cX7_bestFor 17 = .ok (.iload_n 1, 1) := by decide +kernel
theorem dX7_bestFor_18 : decode cX7_bestFor 18 = .ok (.iload_n 2, 1) := by decide +kernel
theorem dX7_bestFor_19 : decode cX7_bestFor 19 = .ok (.iload 4, 2) := by decide +kernel
theorem dX7_bestFor_21 : decode cX7_bestFor 21 = .ok (.invokevirtual 142, 3) := by decide +kernel
theorem dX7_bestFor_24 : decode cX7_bestFor 24 = .ok (.ifCond .ne 61, 3) := by decide +kernel
theorem dX7_bestFor_27 : decode cX7_bestFor 27 = .ok (.iload_n 3, 1) := by decide +kernel
theorem dX7_bestFor_28 : decode cX7_bestFor 28 = .ok (.iconst (-1), 1) := by decide +kernel
theorem dX7_bestFor_29 : decode cX7_bestFor 29 = .ok (.if_icmp .ne 7, 3) := by decide +kernel
theorem dX7_bestFor_32 : decode cX7_bestFor 32 = .ok (.iconst 1, 1) := by decide +kernel
theorem dX7_bestFor_33 : decode cX7_bestFor 33 = .ok (.goto 17, 3) := by decide +kernel
theorem dX7_bestFor_36 : decode cX7_bestFor 36 = .ok (.aload_n 0, 1) := by decide +kernel
theorem dX7_bestFor_37 : decode cX7_bestFor 37 = .ok (.iload_n 1, 1) := by decide +kernel
theorem dX7_bestFor_38 : decode cX7_bestFor 38 = .ok (.iload 4, 2) := by decide +kernel
theorem dX7_bestFor_40 : decode cX7_bestFor 40 = .ok (.invokevirtual 98, 3) := by decide +kernel
theorem dX7_bestFor_43 : decode cX7_bestFor 43 = .ok (.aload_n 0, 1) := by decide +kernel
theorem dX7_bestFor_44 : decode cX7_bestFor 44 = .ok (.iload_n 1, 1) := by decide +kernel
theorem dX7_bestFor_45 : decode cX7_bestFor 45 = .ok (.iload_n 3, 1) := by decide +kernel
theorem dX7_bestFor_46 : decode cX7_bestFor 46 = .ok (.invokevirtual 98, 3) := by decide +kernel
theorem dX7_bestFor_49 : decode cX7_bestFor 49 = .ok (.isub, 1) := by decide +kernel
theorem dX7_bestFor_50 : decode cX7_bestFor 50 = .ok (.istore 5, 2) := by decide +kernel
theorem dX7_bestFor_52 : decode cX7_bestFor 52 = .ok (.iload 5, 2) := by decide +kernel
theorem dX7_bestFor_54 : decode cX7_bestFor 54 = .ok (.ifCond .gt 24, 3) := by decide +kernel
theorem dX7_bestFor_57 : decode cX7_bestFor 57 = .ok (.iload 5, 2) := by decide +kernel
theorem dX7_bestFor_59 : decode cX7_bestFor 59 = .ok (.ifCond .ne 24, 3) := by decide +kernel
theorem dX7_bestFor_62 : decode cX7_bestFor 62 = .ok (.aload_n 0, 1) := by decide +kernel
theorem dX7_bestFor_63 : decode cX7_bestFor 63 = .ok (.iload 4, 2) := by decide +kernel
theorem dX7_bestFor_65 : decode cX7_bestFor 65 = .ok (.iconst 1, 1) := by decide +kernel
theorem dX7_bestFor_66 : decode cX7_bestFor 66 = .ok (.invokevirtual 45, 3) := by decide +kernel
theorem dX7_bestFor_69 : decode cX7_bestFor 69 = .ok (.aload_n 0, 1) := by decide +kernel
theorem dX7_bestFor_70 : decode cX7_bestFor 70 = .ok (.iload_n 3, 1) := by decide +kernel
theorem dX7_bestFor_71 : decode cX7_bestFor 71 = .ok (.iconst 1, 1) := by decide +kernel
theorem dX7_bestFor_72 : decode cX7_bestFor 72 = .ok (.invokevirtual 45, 3) := by decide +kernel
theorem dX7_bestFor_75 : decode cX7_bestFor 75 = .ok (.if_icmp .ge 8, 3) := by decide +kernel
theorem dX7_bestFor_78 : decode cX7_bestFor 78 = .ok (.iload 4, 2) := by decide +kernel
theorem dX7_bestFor_80 : decode cX7_bestFor 80 = .ok (.goto 4, 3) := by decide +kernel
theorem dX7_bestFor_83 : decode cX7_bestFor 83 = .ok (.iload_n 3, 1) := by decide +kernel
theorem dX7_bestFor_84 : decode cX7_bestFor 84 = .ok (.istore_n 3, 1) := by decide +kernel
theorem dX7_bestFor_85 : decode cX7_bestFor 85 = .ok (.iinc 4 1, 3) := by decide +kernel
theorem dX7_bestFor_88 : decode cX7_bestFor 88 = .ok (.goto (-83), 3) := by decide +kernel
theorem dX7_bestFor_91 : decode cX7_bestFor 91 = .ok (.iload_n 3, 1) := by decide +kernel
theorem dX7_bestFor_92 : decode cX7_bestFor 92 = .ok (.ireturn, 1) := by decide +kernel
set_option maxRecDepth 20000 in
theorem ggX7_fill_X7_isDay : GoodIn wsX7_fill wsX7_isDay := goodIn_r _ [5, 6, 7, 4, 8] rfl (by decide +kernel)
set_option maxRecDepth 20000 in
theorem gX7_fill_X7_isDay : GoodIn wsX7_fill (va_wsS RX7 146 yX7_isDay wsX7_isDay) := goodIn_app (goodIn_of _ (by decide +kernel)) ggX7_fill_X7_isDay
set_option maxRecDepth 20000 in
theorem ggX7_fill_X7_save : GoodIn wsX7_fill wsX7_save := goodIn_r _ [12, 13, 14, 15, 93, 94, 95, 96, 97, 98, 99, 100, 101, 102, 103, 104, 105, 106, 107] rfl (by decide +kernel)
set_option maxRecDepth 20000 in
theorem gX7_fill_X7_save : GoodIn wsX7_fill (wsV RX7 107 RX7 yX7_save wsX7_save) := goodIn_app (goodIn_of _ (by decide +kernel)) ggX7_fill_X7_save
set_option maxRecDepth 20000 in
theorem ggX7_fill_X7_bestFor : GoodIn wsX7_fill wsX7_bestFor := goodIn_r _ [19, 15, 20, 21, 22, 4, 23, 24, 25, 26, 27, 28, 29, 30, 31, 32, 33, 34, 35, 36, 37, 38, 39, 40, 41, 42, 43, 44, 45, 46, 47, 48, 49, 50, 51, 52, 53, 54, 55, 56, 57, 58, 59, 60, 61, 62, 63, 64, 65, 66, 67, 68, 69, 70, 71, 72, 73, 74, 75, 76, 77, 78, 79, 80, 81, 82, 83, 84, 85, 86, 87, 88, 89, 90, 91, 92, 93, 94, 95, 96, 97, 98, 99, 100, 101, 102, 103, 104, 105, 106, 107] rfl (by decide +kernel)
set_option maxRecDepth 20000 in
theorem gX7_fill_X7_bestFor : GoodIn wsX7_fill (wsV RX7 166 RX7 yX7_bestFor wsX7_bestFor) := goodIn_app (goodIn_of _ (by decide +kernel)) ggX7_fill_X7_bestFor
set_option maxRecDepth 20000 in
theorem ggX7_fill_X7_put : GoodIn wsX7_fill wsX7_put := goodIn_r _ [62, 15, 93, 94, 95, 96, 97, 98, 99, 100, 101, 102, 103, 104, 105, 106, 107] rfl (by decide +kernel)
set_option maxRecDepth 20000 in
theorem gX7_fill_X7_put : GoodIn wsX7_fill (wsV RX7 136 RX7 yX7_put wsX7_put) := goodIn_app (goodIn_of _ (by decide +kernel)) ggX7_fill_X7_put
theorem dX7_fill_0 : decode cX7_fill 0 = .ok (.aload_n 0, 1) := by decide +kernel
theorem dX7_fill_1 : decode cX7_fill 1 = .ok (.iload_n 1, 1) := by decide +kernel
theorem dX7_fill_2 : decode cX7_fill 2 = .ok (.invokestatic 146, 3) := by decide +kernel
theorem dX7_fill_5 : decode cX7_fill 5 = .ok (.ifCond .eq 7, 3) := by decide +kernel
theorem dX7_fill_8 : decode cX7_fill 8 = .ok (.iconst 0, 1) := by decide +kernel
theorem dX7_fill_9 : decode cX7_fill 9 = .ok (.goto 4, 3) := by decide +kernel
theorem dX7_fill_12 : decode cX7_fill 12 = .ok (.iconst 1, 1) := by decide +kernel
theorem dX7_fill_13 : decode cX7_fill 13 = .ok (.putfield 34, 3) := by decide +kernel
theorem dX7_fill_16 : decode cX7_fill 16 = .ok (.aload_n 0, 1) := by decide +kernel
theorem dX7_fill_17 : decode cX7_fill 17 = .ok (.getfield 34, 3) := by decide +kernel
theorem dX7_fill_20 : decode cX7_fill 20 = .ok (.ifCond .le 5, 3) := by decide +kernel
theorem dX7_fill_23 : decode cX7_fill 23 = .ok (.iconst 0, 1) := by decide +kernel
theorem dX7_fill_24 : decode cX7_fill 24 = .ok (.ireturn, 1) := by decide +kernel
theorem dX7_fill_25 : decode cX7_fill 25 = .ok (.aload_n 0, 1) := by decide +kernel
theorem dX7_fill_26 : decode cX7_fill 26 = .ok (.invokevirtual 107, 3) := by decide +kernel
theorem dX7_fill_29 : decode cX7_fill 29 = .ok (.iconst 0, 1) := by decide +kernel
theorem dX7_fill_30 : decode cX7_fill 30 = .ok (.istore_n 2, 1) := by decide +kernel
theorem dX7_fill_31 : decode cX7_fill 31 = .ok (.iconst 0, 1) := by decide +kernel
theorem dX7_fill_32 : decode cX7_fill 32 = .ok (.istore_n 3, 1) := by decide +kernel
theorem dX7_fill_33 : decode cX7_fill 33 = .ok (.iload_n 3, 1) := by decide +kernel
theorem dX7_fill_34 : decode cX7_fill 34 = .ok (.iconst 3, 1) := by decide +kernel
theorem dX7_fill_35 : decode cX7_fill 35 = .ok (.if_icmp .ge 34, 3) := by decide +kernel
theorem dX7_fill_38 : decode cX7_fill 38 = .ok (.aload_n 0, 1) := by decide +kernel
theorem dX7_fill_39 : decode cX7_fill 39 = .ok (.iload_n 1, 1) := by decide +kernel
theorem dX7_fill_40 : decode cX7_fill 40 = .ok (.iload_n 3, 1) := by decide +kernel
theorem dX7_fill_41 : decode cX7_fill 41 = .ok (.invokevirtual 166, 3) := by decide +kernel
theorem dX7_fill_44 : decode cX7_fill 44 = .ok (.istore 4, 2) := by decide +kernel
theorem dX7_fill_46 : decode cX7_fill 46 = .ok (.iload 4, 2) := by decide +kernel
theorem dX7_fill_48 : decode cX7_fill 48 = .ok (.iconst (-1), 1) := by decide +kernel
theorem dX7_fill_49 : decode cX7_fill 49 = .ok (.if_icmp .eq 14, 3) := by decide +kernel
theorem dX7_fill_52 : decode cX7_fill 52 = .ok (.aload_n 0, 1) := by decide +kernel
theorem dX7_fill_53 : decode cX7_fill 53 = .ok (.iload_n 1, 1) := by decide +kernel
theorem dX7_fill_54 : decode cX7_fill 54 = .ok (.iload_n 3, 1) := by decide +kernel
theorem dX7_fill_55 : decode cX7_fill 55 = .ok (.iload 4, 2) := by decide +kernel
theorem dX7_fill_57 : decode cX7_fill 57 = .ok (.invokevirtual 136, 3) := by decide +kernel
theorem dX7_fill_60 : decode cX7_fill 60 = .ok (.iinc 2 1, 3) := by decide +kernel
theorem dX7_fill_63 : decode cX7_fill 63 = .ok (.iinc 3 1, 3) := by decide +kernel
theorem dX7_fill_66 : decode cX7_fill 66 = .ok (.goto (-33), 3) := by decide +kernel
theorem dX7_fill_69 : decode cX7_fill 69 = .ok (.iload_n 2, 1) := by decide +kernel
theorem dX7_fill_70 : decode cX7_fill 70 = .ok (.ireturn, 1) := by decide +kernel
theorem dX7_dishesInPlan_0 : decode cX7_dishesInPlan 0 = .ok (.iconst 0, 1) := by decide +kernel
theorem dX7_dishesInPlan_1 : decode cX7_dishesInPlan 1 = .ok (.istore_n 1, 1) := by decide +kernel
theorem dX7_dishesInPlan_2 : decode cX7_dishesInPlan 2 = .ok (.iconst 0, 1) := by decide +kernel
theorem dX7_dishesInPlan_3 : decode cX7_dishesInPlan 3 = .ok (.istore_n 2, 1) := by decide +kernel
theorem dX7_dishesInPlan_4 : decode cX7_dishesInPlan 4 = .ok (.iload_n 2, 1) := by decide +kernel
theorem dX7_dishesInPlan_5 : decode cX7_dishesInPlan 5 = .ok (.bipush 84, 2) := by decide +kernel
theorem dX7_dishesInPlan_7 : decode cX7_dishesInPlan 7 = .ok (.if_icmp .ge 30, 3) := by decide +kernel
theorem dX7_dishesInPlan_10 : decode cX7_dishesInPlan 10 = .ok (.iload_n 1, 1) := by decide +kernel
theorem dX7_dishesInPlan_11 : decode cX7_dishesInPlan 11 = .ok (.aload_n 0, 1) := by decide +kernel
theorem dX7_dishesInPlan_12 : decode cX7_dishesInPlan 12 = .ok (.getfield 7, 3) := by decide +kernel
theorem dX7_dishesInPlan_15 : decode cX7_dishesInPlan 15 = .ok (.bipush 89, 2) := by decide +kernel
theorem dX7_dishesInPlan_17 : decode cX7_dishesInPlan 17 = .ok (.iload_n 2, 1) := by decide +kernel
theorem dX7_dishesInPlan_18 : decode cX7_dishesInPlan 18 = .ok (.iadd, 1) := by decide +kernel
theorem dX7_dishesInPlan_19 : decode cX7_dishesInPlan 19 = .ok (.iaload, 1) := by decide +kernel
theorem dX7_dishesInPlan_20 : decode cX7_dishesInPlan 20 = .ok (.iconst (-1), 1) := by decide +kernel
theorem dX7_dishesInPlan_21 : decode cX7_dishesInPlan 21 = .ok (.if_icmp .ne 7, 3) := by decide +kernel
theorem dX7_dishesInPlan_24 : decode cX7_dishesInPlan 24 = .ok (.iconst 0, 1) := by decide +kernel
theorem dX7_dishesInPlan_25 : decode cX7_dishesInPlan 25 = .ok (.goto 4, 3) := by decide +kernel
theorem dX7_dishesInPlan_28 : decode cX7_dishesInPlan 28 = .ok (.iconst 1, 1) := by decide +kernel
theorem dX7_dishesInPlan_29 : decode cX7_dishesInPlan 29 = .ok (.iadd, 1) := by decide +kernel
theorem dX7_dishesInPlan_30 : decode cX7_dishesInPlan 30 = .ok (.istore_n 1, 1) := by decide +kernel
theorem dX7_dishesInPlan_31 : decode cX7_dishesInPlan 31 = .ok (.iinc 2 1, 3) := by decide +kernel
theorem dX7_dishesInPlan_34 : decode cX7_dishesInPlan 34 = .ok (.goto (-30), 3) := by decide +kernel
theorem dX7_dishesInPlan_37 : decode cX7_dishesInPlan 37 = .ok (.iload_n 1, 1) := by decide +kernel
theorem dX7_dishesInPlan_38 : decode cX7_dishesInPlan 38 = .ok (.ireturn, 1) := by decide +kernel
set_option maxRecDepth 20000 in
theorem ggX7_clear_X7_save : GoodIn wsX7_clear wsX7_save := goodIn_r _ [7, 8, 9, 2, 14, 15, 16, 17, 18, 19, 20, 21, 22, 23, 24, 25, 26, 27, 28] rfl (by decide +kernel)
set_option maxRecDepth 20000 in
theorem gX7_clear_X7_save : GoodIn wsX7_clear (wsV RX7 107 RX7 yX7_save wsX7_save) := goodIn_app (goodIn_of _ (by decide +kernel)) ggX7_clear_X7_save
set_option maxRecDepth 20000 in
theorem ggX7_clear_X7_dishesInPlan : GoodIn wsX7_clear wsX7_dishesInPlan := goodIn_r _ [13, 2, 14, 15, 16, 17, 18, 19, 20, 21, 22, 23, 24, 25, 26, 27, 28] rfl (by decide +kernel)
set_option maxRecDepth 20000 in
theorem gX7_clear_X7_dishesInPlan : GoodIn wsX7_clear (wsV RX7 169 RX7 yX7_dishesInPlan wsX7_dishesInPlan) := goodIn_app (goodIn_of _ (by decide +kernel)) ggX7_clear_X7_dishesInPlan
theorem dX7_clear_0 : decode cX7_clear 0 = .ok (.aload_n 0, 1) := by decide +kernel
theorem dX7_clear_1 : decode cX7_clear 1 = .ok (.iconst 0, 1) := by decide +kernel
theorem dX7_clear_2 : decode cX7_clear 2 = .ok (.putfield 34, 3) := by decide +kernel
theorem dX7_clear_5 : decode cX7_clear 5 = .ok (.aload_n 0, 1) := by decide +kernel
theorem dX7_clear_6 : decode cX7_clear 6 = .ok (.invokevirtual 107, 3) := by decide +kernel
theorem dX7_clear_9 : decode cX7_clear 9 = .ok (.aload_n 0, 1) := by decide +kernel
theorem dX7_clear_10 : decode cX7_clear 10 = .ok (.invokevirtual 169, 3) := by decide +kernel
theorem dX7_clear_13 : decode cX7_clear 13 = .ok (.istore_n 1, 1) := by decide +kernel
theorem dX7_clear_14 : decode cX7_clear 14 = .ok (.iconst 0, 1) := by decide +kernel
theorem dX7_clear_15 : decode cX7_clear 15 = .ok (.istore_n 2, 1) := by decide +kernel
theorem dX7_clear_16 : decode cX7_clear 16 = .ok (.iload_n 2, 1) := by decide +kernel
theorem dX7_clear_17 : decode cX7_clear 17 = .ok (.bipush 84, 2) := by decide +kernel
theorem dX7_clear_19 : decode cX7_clear 19 = .ok (.if_icmp .ge 19, 3) := by decide +kernel
theorem dX7_clear_22 : decode cX7_clear 22 = .ok (.aload_n 0, 1) := by decide +kernel
theorem dX7_clear_23 : decode cX7_clear 23 = .ok (.getfield 7, 3) := by decide +kernel
theorem dX7_clear_26 : decode cX7_clear 26 = .ok (.bipush 89, 2) := by decide +kernel
theorem dX7_clear_28 : decode cX7_clear 28 = .ok (.iload_n 2, 1) := by decide +kernel
theorem dX7_clear_29 : decode cX7_clear 29 = .ok (.iadd, 1) := by decide +kernel
theorem dX7_clear_30 : decode cX7_clear 30 = .ok (.iconst (-1), 1) := by decide +kernel
theorem dX7_clear_31 : decode cX7_clear 31 = .ok (.iastore, 1) := by decide +kernel
theorem dX7_clear_32 : decode cX7_clear 32 = .ok (.iinc 2 1, 3) := by decide +kernel
theorem dX7_clear_35 : decode cX7_clear 35 = .ok (.goto (-19), 3) := by decide +kernel
theorem dX7_clear_38 : decode cX7_clear 38 = .ok (.iload_n 1, 1) := by decide +kernel
theorem dX7_clear_39 : decode cX7_clear 39 = .ok (.ireturn, 1) := by decide +kernel
set_option maxRecDepth 20000 in
theorem ggX7_append_X7_within : GoodIn wsX7_append wsX7_within := goodIn_r _ [7] rfl (by decide +kernel)
set_option maxRecDepth 20000 in
theorem gX7_append_X7_within : GoodIn wsX7_append (va_wsS RX7 41 yX7_within wsX7_within) := goodIn_app (goodIn_of _ (by decide +kernel)) ggX7_append_X7_within
theorem dX7_append_0 : decode cX7_append 0 = .ok (.aload_n 0, 1) := by decide +kernel
theorem dX7_append_1 : decode cX7_append 1 = .ok (.iload_n 1, 1) := by decide +kernel
theorem dX7_append_2 : decode cX7_append 2 = .ok (.bipush 33, 2) := by decide +kernel
theorem dX7_append_4 : decode cX7_append 4 = .ok (.bipush 126, 2) := by decide +kernel
theorem dX7_append_6 : decode cX7_append 6 = .ok (.invokestatic 41, 3) := by decide +kernel
theorem dX7_append_9 : decode cX7_append 9 = .ok (.ifCond .ne 7, 3) := by decide +kernel
theorem dX7_append_12 : decode cX7_append 12 = .ok (.iconst 1, 1) := by decide +kernel
theorem dX7_append_13 : decode cX7_append 13 = .ok (.goto 17, 3) := by decide +kernel
theorem dX7_append_16 : decode cX7_append 16 = .ok (.aload_n 0, 1) := by decide +kernel
theorem dX7_append_17 : decode cX7_append 17 = .ok (.getfield 172, 3) := by decide +kernel
theorem dX7_append_20 : decode cX7_append 20 = .ok (.bipush 60, 2) := by decide +kernel
theorem dX7_append_22 : decode cX7_append 22 = .ok (.if_icmp .ne 7, 3) := by decide +kernel
theorem dX7_append_25 : decode cX7_append 25 = .ok (.iconst 2, 1) := by decide +kernel
theorem dX7_append_26 : decode cX7_append 26 = .ok (.goto 4, 3) := by decide +kernel
theorem dX7_append_29 : decode cX7_append 29 = .ok (.iconst 0, 1) := by decide +kernel
theorem dX7_append_30 : decode cX7_append 30 = .ok (.putfield 34, 3) := by decide +kernel
theorem dX7_append_33 : decode cX7_append 33 = .ok (.aload_n 0, 1) := by decide +kernel
theorem dX7_append_34 : decode cX7_append 34 = .ok (.getfield 34, 3) := by decide +kernel
theorem dX7_append_37 : decode cX7_append 37 = .ok (.ifCond .le 5, 3) := by decide +kernel
theorem dX7_append_40 : decode cX7_append 40 = .ok (.iconst 0, 1) := by decide +kernel
theorem dX7_append_41 : decode cX7_append 41 = .ok (.ireturn, 1) := by decide +kernel
theorem dX7_append_42 : decode cX7_append 42 = .ok (.aload_n 0, 1) := by decide +kernel
theorem dX7_append_43 : decode cX7_append 43 = .ok (.getfield 22, 3) := by decide +kernel
theorem dX7_append_46 : decode cX7_append 46 = .ok (.aload_n 0, 1) := by decide +kernel
theorem dX7_append_47 : decode cX7_append 47 = .ok (.getfield 172, 3) := by decide +kernel
theorem dX7_append_50 : decode cX7_append 50 = .ok (.iload_n 1, 1) := by decide +kernel
theorem dX7_append_51 : decode cX7_append 51 = .ok (.iastore, 1) := by decide +kernel
theorem dX7_append_52 : decode cX7_append 52 = .ok (.aload_n 0, 1) := by decide +kernel
theorem dX7_append_53 : decode cX7_append 53 = .ok (.dup, 1) := by decide +kernel
theorem dX7_append_54 : decode cX7_append 54 = .ok (.getfield 172, 3) := by decide +kernel
theorem dX7_append_57 : decode cX7_append 57 = .ok (.iconst 1, 1) := by decide +kernel
theorem dX7_append_58 : decode cX7_append 58 = .ok (.iadd, 1) := by decide +kernel
theorem dX7_append_59 : decode cX7_append 59 = .ok (.putfield 172, 3) := by decide +kernel
theorem dX7_append_62 : decode cX7_append 62 = .ok (.aload_n 0, 1) := by decide +kernel
theorem dX7_append_63 : decode cX7_append 63 = .ok (.getfield 172, 3) := by decide +kernel
theorem dX7_append_66 : decode cX7_append 66 = .ok (.ireturn, 1) := by decide +kernel
theorem dX7_clearBuffer_0 : decode cX7_clearBuffer 0 = .ok (.aload_n 0, 1) := by decide +kernel
theorem dX7_clearBuffer_1 : decode cX7_clearBuffer 1 = .ok (.iconst 0, 1) := by decide +kernel
theorem dX7_clearBuffer_2 : decode cX7_clearBuffer 2 = .ok (.putfield 34, 3) := by decide +kernel
theorem dX7_clearBuffer_5 : decode cX7_clearBuffer 5 = .ok (.aload_n 0, 1) := by decide +kernel
theorem dX7_clearBuffer_6 : decode cX7_clearBuffer 6 = .ok (.getfield 172, 3) := by decide +kernel
theorem dX7_clearBuffer_9 : decode cX7_clearBuffer 9 = .ok (.istore_n 1, 1) := by decide +kernel
theorem dX7_clearBuffer_10 : decode cX7_clearBuffer 10 = .ok (.aload_n 0, 1) := by decide +kernel
theorem dX7_clearBuffer_11 : decode cX7_clearBuffer 11 = .ok (.iconst 0, 1) := by decide +kernel
theorem dX7_clearBuffer_12 : decode cX7_clearBuffer 12 = .ok (.putfield 172, 3) := by decide +kernel
theorem dX7_clearBuffer_15 : decode cX7_clearBuffer 15 = .ok (.iload_n 1, 1) := by decide +kernel
theorem dX7_clearBuffer_16 : decode cX7_clearBuffer 16 = .ok (.ireturn, 1) := by decide +kernel
set_option maxRecDepth 20000 in
theorem ggX7_takesDigit_X7_within : GoodIn wsX7_takesDigit wsX7_within := goodIn_r _ [5] rfl (by decide +kernel)
set_option maxRecDepth 20000 in
theorem gX7_takesDigit_X7_within : GoodIn wsX7_takesDigit (va_wsS RX7 41 yX7_within wsX7_within) := goodIn_app (goodIn_of _ (by decide +kernel)) ggX7_takesDigit_X7_within
set_option maxRecDepth 20000 in
theorem ggX7_takesDigit_X7_isDay : GoodIn wsX7_takesDigit wsX7_isDay := goodIn_r _ [8, 2, 3, 4, 5] rfl (by decide +kernel)
set_option maxRecDepth 20000 in
theorem gX7_takesDigit_X7_isDay : GoodIn wsX7_takesDigit (va_wsS RX7 146 yX7_isDay wsX7_isDay) := goodIn_app (goodIn_of _ (by decide +kernel)) ggX7_takesDigit_X7_isDay
theorem dX7_takesDigit_0 : decode cX7_takesDigit 0 = .ok (.aload_n 0, 1) := by decide +kernel
theorem dX7_takesDigit_1 : decode cX7_takesDigit 1 = .ok (.getfield 175, 3) := by decide +kernel
theorem dX7_takesDigit_4 : decode cX7_takesDigit 4 = .ok (.iconst (-1), 1) := by decide +kernel
theorem dX7_takesDigit_5 : decode cX7_takesDigit 5 = .ok (.if_icmp .ne 7, 3) := by decide +kernel
theorem dX7_takesDigit_8 : decode cX7_takesDigit 8 = .ok (.iload_n 1, 1) := by decide +kernel
theorem dX7_takesDigit_9 : decode cX7_takesDigit 9 = .ok (.goto 12, 3) := by decide +kernel
theorem dX7_takesDigit_12 : decode cX7_takesDigit 12 = .ok (.bipush 10, 2) := by decide +kernel
theorem dX7_takesDigit_14 : decode cX7_takesDigit 14 = .ok (.aload_n 0, 1) := by decide +kernel
theorem dX7_takesDigit_15 : decode cX7_takesDigit 15 = .ok (.getfield 175, 3) := by decide +kernel
theorem dX7_takesDigit_18 : decode cX7_takesDigit 18 = .ok (.imul, 1) := by decide +kernel
theorem dX7_takesDigit_19 : decode cX7_takesDigit 19 = .ok (.iload_n 1, 1) := by decide +kernel
theorem dX7_takesDigit_20 : decode cX7_takesDigit 20 = .ok (.iadd, 1) := by decide +kernel
theorem dX7_takesDigit_21 : decode cX7_takesDigit 21 = .ok (.istore_n 2, 1) := by decide +kernel
theorem dX7_takesDigit_22 : decode cX7_takesDigit 22 = .ok (.iload_n 1, 1) := by decide +kernel
theorem dX7_takesDigit_23 : decode cX7_takesDigit 23 = .ok (.iconst 0, 1) := by decide +kernel
theorem dX7_takesDigit_24 : decode cX7_takesDigit 24 = .ok (.bipush 9, 2) := by decide +kernel
theorem dX7_takesDigit_26 : decode cX7_takesDigit 26 = .ok (.invokestatic 41, 3) := by decide +kernel
theorem dX7_takesDigit_29 : decode cX7_takesDigit 29 = .ok (.ifCond .eq 21, 3) := by decide +kernel
theorem dX7_takesDigit_32 : decode cX7_takesDigit 32 = .ok (.aload_n 0, 1) := by decide +kernel
theorem dX7_takesDigit_33 : decode cX7_takesDigit 33 = .ok (.getfield 175, 3) := by decide +kernel
theorem dX7_takesDigit_36 : decode cX7_takesDigit 36 = .ok (.ifCond .eq 14, 3) := by decide +kernel
theorem dX7_takesDigit_39 : decode cX7_takesDigit 39 = .ok (.iload_n 2, 1) := by decide +kernel
theorem dX7_takesDigit_40 : decode cX7_takesDigit 40 = .ok (.invokestatic 146, 3) := by decide +kernel
theorem dX7_takesDigit_43 : decode cX7_takesDigit 43 = .ok (.ifCond .eq 7, 3) := by decide +kernel
theorem dX7_takesDigit_46 : decode cX7_takesDigit 46 = .ok (.iconst 1, 1) := by decide +kernel
theorem dX7_takesDigit_47 : decode cX7_takesDigit 47 = .ok (.goto 4, 3) := by decide +kernel
theorem dX7_takesDigit_50 : decode cX7_takesDigit 50 = .ok (.iconst 0, 1) := by decide +kernel
theorem dX7_takesDigit_51 : decode cX7_takesDigit 51 = .ok (.istore_n 3, 1) := by decide +kernel
theorem dX7_takesDigit_52 : decode cX7_takesDigit 52 = .ok (.aload_n 0, 1) := by decide +kernel
theorem dX7_takesDigit_53 : decode cX7_takesDigit 53 = .ok (.iload_n 3, 1) := by decide +kernel
theorem dX7_takesDigit_54 : decode cX7_takesDigit 54 = .ok (.ifCond .eq 7, 3) := by decide +kernel
theorem dX7_takesDigit_57 : decode cX7_takesDigit 57 = .ok (.iload_n 2, 1) := by decide +kernel
theorem dX7_takesDigit_58 : decode cX7_takesDigit 58 = .ok (.goto 7, 3) := by decide +kernel
theorem dX7_takesDigit_61 : decode cX7_takesDigit 61 = .ok (.aload_n 0, 1) := by decide +kernel
theorem dX7_takesDigit_62 : decode cX7_takesDigit 62 = .ok (.getfield 175, 3) := by decide +kernel
theorem dX7_takesDigit_65 : decode cX7_takesDigit 65 = .ok (.putfield 175, 3) := by decide +kernel
theorem dX7_takesDigit_68 : decode cX7_takesDigit 68 = .ok (.iload_n 3, 1) := by decide +kernel
theorem dX7_takesDigit_69 : decode cX7_takesDigit 69 = .ok (.ireturn, 1) := by decide +kernel
set_option maxRecDepth 20000 in
theorem ggX7_takes_X7_within : GoodIn wsX7_takes wsX7_within := goodIn_r _ [8] rfl (by decide +kernel)
set_option maxRecDepth 20000 in
theorem gX7_takes_X7_within : GoodIn wsX7_takes (va_wsS RX7 41 yX7_within wsX7_within) := goodIn_app (goodIn_of _ (by decide +kernel)) ggX7_takes_X7_within
set_option maxRecDepth 20000 in
theorem ggX7_takes_X7_takesDigit : GoodIn wsX7_takes wsX7_takesDigit := goodIn_r _ [12, 2, 5, 6, 7, 8, 13, 14, 15, 16, 17, 18, 19, 20, 21, 22, 23, 24, 25, 26, 27, 28, 29, 30] rfl (by decide +kernel)
set_option maxRecDepth 20000 in
theorem gX7_takes_X7_takesDigit : GoodIn wsX7_takes (wsV RX7 184 RX7 yX7_takesDigit wsX7_takesDigit) := goodIn_app (goodIn_of _ (by decide +kernel)) ggX7_takes_X7_takesDigit
theorem dX7_takes_0 : decode cX7_takes 0 = .ok (.aload_n 0, 1) := by decide +kernel
theorem dX7_takes_1 : decode cX7_takes 1 = .ok (.getfield 178, 3) := by decide +kernel
theorem dX7_takes_4 : decode cX7_takes 4 = .ok (.tableswitch 112 0 3 #[32, 112, 54, 85], 32) := by decide +kernel
theorem dX7_takes_36 : decode cX7_takes 36 = .ok (.aload_n 0, 1) := by decide +kernel
theorem dX7_takes_37 : decode cX7_takes 37 = .ok (.iconst (-1), 1) := by decide +kernel
theorem dX7_takes_38 : decode cX7_takes 38 = .ok (.putfield 175, 3) := by decide +kernel
theorem dX7_takes_41 : decode cX7_takes 41 = .ok (.aload_n 0, 1) := by decide +kernel
theorem dX7_takes_42 : decode cX7_takes 42 = .ok (.iconst 1, 1) := by decide +kernel
theorem dX7_takes_43 : decode cX7_takes 43 = .ok (.putfield 178, 3) := by decide +kernel
theorem dX7_takes_46 : decode cX7_takes 46 = .ok (.iload_n 1, 1) := by decide +kernel
theorem dX7_takes_47 : decode cX7_takes 47 = .ok (.bipush 100, 2) := by decide +kernel
theorem dX7_takes_49 : decode cX7_takes 49 = .ok (.if_icmp .ne 7, 3) := by decide +kernel
theorem dX7_takes_52 : decode cX7_takes 52 = .ok (.iconst 1, 1) := by decide +kernel
theorem dX7_takes_53 : decode cX7_takes 53 = .ok (.goto 4, 3) := by decide +kernel
theorem dX7_takes_56 : decode cX7_takes 56 = .ok (.iconst 0, 1) := by decide +kernel
theorem dX7_takes_57 : decode cX7_takes 57 = .ok (.ireturn, 1) := by decide +kernel
theorem dX7_takes_58 : decode cX7_takes 58 = .ok (.aload_n 0, 1) := by decide +kernel
theorem dX7_takes_59 : decode cX7_takes 59 = .ok (.getfield 31, 3) := by decide +kernel
theorem dX7_takes_62 : decode cX7_takes 62 = .ok (.iconst 2, 1) := by decide +kernel
theorem dX7_takes_63 : decode cX7_takes 63 = .ok (.aload_n 0, 1) := by decide +kernel
theorem dX7_takes_64 : decode cX7_takes 64 = .ok (.getfield 181, 3) := by decide +kernel
theorem dX7_takes_67 : decode cX7_takes 67 = .ok (.imul, 1) := by decide +kernel
theorem dX7_takes_68 : decode cX7_takes 68 = .ok (.iconst 1, 1) := by decide +kernel
theorem dX7_takes_69 : decode cX7_takes 69 = .ok (.iadd, 1) := by decide +kernel
theorem dX7_takes_70 : decode cX7_takes 70 = .ok (.iload_n 1, 1) := by decide +kernel
theorem dX7_takes_71 : decode cX7_takes 71 = .ok (.bipush 97, 2) := by decide +kernel
theorem dX7_takes_73 : decode cX7_takes 73 = .ok (.isub, 1) := by decide +kernel
theorem dX7_takes_74 : decode cX7_takes 74 = .ok (.iastore, 1) := by decide +kernel
theorem dX7_takes_75 : decode cX7_takes 75 = .ok (.aload_n 0, 1) := by decide +kernel
theorem dX7_takes_76 : decode cX7_takes 76 = .ok (.iconst 3, 1) := by decide +kernel
theorem dX7_takes_77 : decode cX7_takes 77 = .ok (.putfield 178, 3) := by decide +kernel
theorem dX7_takes_80 : decode cX7_takes 80 = .ok (.iload_n 1, 1) := by decide +kernel
theorem dX7_takes_81 : decode cX7_takes 81 = .ok (.bipush 97, 2) := by decide +kernel
theorem dX7_takes_83 : decode cX7_takes 83 = .ok (.bipush 108, 2) := by decide +kernel
theorem dX7_takes_85 : decode cX7_takes 85 = .ok (.invokestatic 41, 3) := by decide +kernel
theorem dX7_takes_88 : decode cX7_takes 88 = .ok (.ireturn, 1) := by decide +kernel
theorem dX7_takes_89 : decode cX7_takes 89 = .ok (.aload_n 0, 1) := by decide +kernel
theorem dX7_takes_90 : decode cX7_takes 90 = .ok (.dup, 1) := by decide +kernel
theorem dX7_takes_91 : decode cX7_takes 91 = .ok (.getfield 181, 3) := by decide +kernel
theorem dX7_takes_94 : decode cX7_takes 94 = .ok (.iconst 1, 1) := by decide +kernel
theorem dX7_takes_95 : decode cX7_takes 95 = .ok (.iadd, 1) := by decide +kernel
theorem dX7_takes_96 : decode cX7_takes 96 = .ok (.putfield 181, 3) := by decide +kernel
theorem dX7_takes_99 : decode cX7_takes 99 = .ok (.aload_n 0, 1) := by decide +kernel
theorem dX7_takes_100 : decode cX7_takes 100 = .ok (.iconst 0, 1) := by decide +kernel
theorem dX7_takes_101 : decode cX7_takes 101 = .ok (.putfield 178, 3) := by decide +kernel
theorem dX7_takes_104 : decode cX7_takes 104 = .ok (.iload_n 1, 1) := by decide +kernel
theorem dX7_takes_105 : decode cX7_takes 105 = .ok (.bipush 59, 2) := by decide +kernel
theorem dX7_takes_107 : decode cX7_takes 107 = .ok (.if_icmp .ne 7, 3) := by decide +kernel
theorem dX7_takes_110 : decode cX7_takes 110 = .ok (.iconst 1, 1) := by decide +kernel
theorem dX7_takes_111 : decode cX7_takes 111 = .ok (.goto 4, 3) := by decide +kernel
theorem dX7_takes_114 : decode cX7_takes 114 = .ok (.iconst 0, 1) := by decide +kernel
theorem dX7_takes_115 : decode cX7_takes 115 = .ok (.ireturn, 1) := by decide +kernel
theorem dX7_takes_116 : decode cX7_takes 116 = .ok (.iload_n 1, 1) := by decide +kernel
theorem dX7_takes_117 : decode cX7_takes 117 = .ok (.bipush 61, 2) := by decide +kernel
theorem dX7_takes_119 : decode cX7_takes 119 = .ok (.if_icmp .ne 33, 3) := by decide +kernel
theorem dX7_takes_122 : decode cX7_takes 122 = .ok (.aload_n 0, 1) := by decide +kernel
theorem dX7_takes_123 : decode cX7_takes 123 = .ok (.getfield 175, 3) := by decide +kernel
theorem dX7_takes_126 : decode cX7_takes 126 = .ok (.iconst (-1), 1) := by decide +kernel
theorem dX7_takes_127 : decode cX7_takes 127 = .ok (.if_icmp .eq 25, 3) := by decide +kernel
theorem dX7_takes_130 : decode cX7_takes 130 = .ok (.aload_n 0, 1) := by decide +kernel
theorem dX7_takes_131 : decode cX7_takes 131 = .ok (.getfield 31, 3) := by decide +kernel
theorem dX7_takes_134 : decode cX7_takes 134 = .ok (.iconst 2, 1) := by decide +kernel
theorem dX7_takes_135 : decode cX7_takes 135 = .ok (.aload_n 0, 1) := by decide +kernel
theorem dX7_takes_136 : decode cX7_takes 136 = .ok (.getfield 181, 3) := by decide +kernel
theorem dX7_takes_139 : decode cX7_takes 139 = .ok (.imul, 1) := by decide +kernel
theorem dX7_takes_140 : decode cX7_takes 140 = .ok (.aload_n 0, 1) := by decide +kernel
theorem dX7_takes_141 : decode cX7_takes 141 = .ok (.getfield 175, 3) := by decide +kernel
theorem dX7_takes_144 : decode cX7_takes 144 = .ok (.iastore, 1) := by decide +kernel
theorem dX7_takes_145 : decode cX7_takes 145 = .ok (.aload_n 0, 1) := by decide +kernel
theorem dX7_takes_146 : decode cX7_takes 146 = .ok (.iconst 2, 1) := by decide +kernel
theorem dX7_takes_147 : decode cX7_takes 147 = .ok (.putfield 178, 3) := by decide +kernel
theorem dX7_takes_150 : decode cX7_takes 150 = .ok (.iconst 1, 1) := by decide +kernel
theorem dX7_takes_151 : decode cX7_takes 151 = .ok (.ireturn, 1) := by decide +kernel
theorem dX7_takes_152 : decode cX7_takes 152 = .ok (.aload_n 0, 1) := by decide +kernel
theorem dX7_takes_153 : decode cX7_takes 153 = .ok (.iload_n 1, 1) := by decide +kernel
theorem dX7_takes_154 : decode cX7_takes 154 = .ok (.bipush 48, 2) := by decide +kernel
theorem dX7_takes_156 : decode cX7_takes 156 = .ok (.isub, 1) := by decide +kernel
theorem dX7_takes_157 : decode cX7_takes 157 = .ok (.invokevirtual 184, 3) := by decide +kernel
theorem dX7_takes_160 : decode cX7_takes 160 = .ok (.ireturn, 1) := by decide +kernel
set_option maxRecDepth 20000 in
theorem ggX7_rightUpTo_X7_takes : GoodIn wsX7_rightUpTo wsX7_takes := goodIn_r _ [9, 2, 10, 11, 1, 12, 13, 8, 14, 15, 16, 17, 18, 19, 20, 21, 22, 23, 24, 25, 26, 27, 28, 29, 30, 31, 32, 33, 34, 35, 36] rfl (by decide +kernel)
set_option maxRecDepth 20000 in
theorem gX7_rightUpTo_X7_takes : GoodIn wsX7_rightUpTo (wsV RX7 187 RX7 yX7_takes wsX7_takes) := goodIn_app (goodIn_of _ (by decide +kernel)) ggX7_rightUpTo_X7_takes
theorem dX7_rightUpTo_0 : decode cX7_rightUpTo 0 = .ok (.aload_n 0, 1) := by decide +kernel
theorem dX7_rightUpTo_1 : decode cX7_rightUpTo 1 = .ok (.iconst 0, 1) := by decide +kernel
theorem dX7_rightUpTo_2 : decode cX7_rightUpTo 2 = .ok (.putfield 181, 3) := by decide +kernel
theorem dX7_rightUpTo_5 : decode cX7_rightUpTo 5 = .ok (.aload_n 0, 1) := by decide +kernel
theorem dX7_rightUpTo_6 : decode cX7_rightUpTo 6 = .ok (.iconst 0, 1) := by decide +kernel
theorem dX7_rightUpTo_7 : decode cX7_rightUpTo 7 = .ok (.putfield 178, 3) := by decide +kernel
theorem dX7_rightUpTo_10 : decode cX7_rightUpTo 10 = .ok (.iconst 0, 1) := by decide +kernel
theorem dX7_rightUpTo_11 : decode cX7_rightUpTo 11 = .ok (.istore_n 1, 1) := by decide +kernel
theorem dX7_rightUpTo_12 : decode cX7_rightUpTo 12 = .ok (.iload_n 1, 1) := by decide +kernel
theorem dX7_rightUpTo_13 : decode cX7_rightUpTo 13 = .ok (.aload_n 0, 1) := by decide +kernel
theorem dX7_rightUpTo_14 : decode cX7_rightUpTo 14 = .ok (.getfield 172, 3) := by decide +kernel
theorem dX7_rightUpTo_17 : decode cX7_rightUpTo 17 = .ok (.if_icmp .ge 22, 3) := by decide +kernel
theorem dX7_rightUpTo_20 : decode cX7_rightUpTo 20 = .ok (.aload_n 0, 1) := by decide +kernel
theorem dX7_rightUpTo_21 : decode cX7_rightUpTo 21 = .ok (.aload_n 0, 1) := by decide +kernel
theorem dX7_rightUpTo_22 : decode cX7_rightUpTo 22 = .ok (.getfield 22, 3) := by decide +kernel
theorem dX7_rightUpTo_25 : decode cX7_rightUpTo 25 = .ok (.iload_n 1, 1) := by decide +kernel
theorem dX7_rightUpTo_26 : decode cX7_rightUpTo 26 = .ok (.iaload, 1) := by decide +kernel
theorem dX7_rightUpTo_27 : decode cX7_rightUpTo 27 = .ok (.invokevirtual 187, 3) := by decide +kernel
theorem dX7_rightUpTo_30 : decode cX7_rightUpTo 30 = .ok (.ifCond .eq 9, 3) := by decide +kernel
theorem dX7_rightUpTo_33 : decode cX7_rightUpTo 33 = .ok (.iinc 1 1, 3) := by decide +kernel
theorem dX7_rightUpTo_36 : decode cX7_rightUpTo 36 = .ok (.goto (-24), 3) := by decide +kernel
theorem dX7_rightUpTo_39 : decode cX7_rightUpTo 39 = .ok (.iload_n 1, 1) := by decide +kernel
theorem dX7_rightUpTo_40 : decode cX7_rightUpTo 40 = .ok (.ireturn, 1) := by decide +kernel
set_option maxRecDepth 20000 in
theorem ggX7_firstError_X7_rightUpTo : GoodIn wsX7_firstError wsX7_rightUpTo := goodIn_r _ [6, 7, 8, 9, 10, 11, 12, 13, 5, 14, 15, 16, 17, 18, 19, 20, 21, 22, 23, 24, 25, 26, 27, 28, 29, 30, 31, 32, 33, 34, 35, 36, 37, 38, 39, 40, 41] rfl (by decide +kernel)
set_option maxRecDepth 20000 in
theorem gX7_firstError_X7_rightUpTo : GoodIn wsX7_firstError (wsV RX7 190 RX7 yX7_rightUpTo wsX7_rightUpTo) := goodIn_app (goodIn_of _ (by decide +kernel)) ggX7_firstError_X7_rightUpTo
theorem dX7_firstError_0 : decode cX7_firstError 0 = .ok (.aload_n 0, 1) := by decide +kernel
theorem dX7_firstError_1 : decode cX7_firstError 1 = .ok (.iconst 0, 1) := by decide +kernel
theorem dX7_firstError_2 : decode cX7_firstError 2 = .ok (.putfield 34, 3) := by decide +kernel
theorem dX7_firstError_5 : decode cX7_firstError 5 = .ok (.aload_n 0, 1) := by decide +kernel
theorem dX7_firstError_6 : decode cX7_firstError 6 = .ok (.invokevirtual 190, 3) := by decide +kernel
theorem dX7_firstError_9 : decode cX7_firstError 9 = .ok (.ireturn, 1) := by decide +kernel
set_option maxRecDepth 20000 in
theorem ggX7_puts_X7_isDish : GoodIn wsX7_puts wsX7_isDish := goodIn_r _ [6, 7, 8, 9, 5, 10, 84, 85, 86, 87, 88, 89, 90, 91, 92, 93, 94, 95, 96, 97, 98] rfl (by decide +kernel)
set_option maxRecDepth 20000 in
theorem gX7_puts_X7_isDish : GoodIn wsX7_puts (wsV RX7 114 RX7 yX7_isDish wsX7_isDish) := goodIn_app (goodIn_of _ (by decide +kernel)) ggX7_puts_X7_isDish
set_option maxRecDepth 20000 in
theorem ggX7_puts_X7_canServe : GoodIn wsX7_puts wsX7_canServe := goodIn_r _ [14, 15, 16, 17, 5, 18, 7, 19, 20, 21, 22, 23, 24, 25, 26, 27, 28, 29, 30, 31, 32, 33, 34, 35, 36, 37, 38, 39, 40, 41, 42, 43, 44, 45, 46, 47, 48, 49, 50, 51, 52, 53, 54, 55, 56, 57, 58, 59, 60, 61, 62, 63, 64, 65, 66, 67, 68, 69, 70, 71, 72, 73, 74, 75, 76, 77, 78, 79, 80, 81, 82, 83, 84, 85, 86, 87, 88, 89, 90, 91, 92, 93, 94, 95, 96, 97, 98] rfl (by decide +kernel)
set_option maxRecDepth 20000 in
theorem gX7_puts_X7_canServe : GoodIn wsX7_puts (wsV RX7 149 RX7 yX7_canServe wsX7_canServe) := goodIn_app (goodIn_of _ (by decide +kernel)) ggX7_puts_X7_canServe
set_option maxRecDepth 20000 in
theorem ggX7_puts_X7_of : GoodIn wsX7_puts wsX7_of := goodIn_r _ [18, 7, 84, 85, 86, 87, 88, 89, 90, 91, 92, 93, 94, 95, 96, 97, 98] rfl (by decide +kernel)
set_option maxRecDepth 20000 in
theorem gX7_puts_X7_of : GoodIn wsX7_puts (wsV RX7 45 RX7 yX7_of wsX7_of) := goodIn_app (goodIn_of _ (by decide +kernel)) ggX7_puts_X7_of
set_option maxRecDepth 20000 in
theorem ggX7_puts_X7_put : GoodIn wsX7_puts wsX7_put := goodIn_r _ [57, 7, 84, 85, 86, 87, 88, 89, 90, 91, 92, 93, 94, 95, 96, 97, 98] rfl (by decide +kernel)
set_option maxRecDepth 20000 in
theorem gX7_puts_X7_put : GoodIn wsX7_puts (wsV RX7 136 RX7 yX7_put wsX7_put) := goodIn_app (goodIn_of _ (by decide +kernel)) ggX7_puts_X7_put
theorem dX7_puts_0 : decode cX7_puts 0 = .ok (.aload_n 0, 1) := by decide +kernel
theorem dX7_puts_1 : decode cX7_puts 1 = .ok (.getfield 31, 3) := by decide +kernel
theorem dX7_puts_4 : decode cX7_puts 4 = .ok (.iconst 2, 1) := by decide +kernel
theorem dX7_puts_5 : decode cX7_puts 5 = .ok (.iload_n 1, 1) := by decide +kernel
theorem dX7_puts_6 : decode cX7_puts 6 = .ok (.imul, 1) := by decide +kernel
theorem dX7_puts_7 : decode cX7_puts 7 = .ok (.iaload, 1) := by decide +kernel
theorem dX7_puts_8 : decode cX7_puts 8 = .ok (.istore_n 2, 1) := by decide +kernel
theorem dX7_puts_9 : decode cX7_puts 9 = .ok (.aload_n 0, 1) := by decide +kernel
theorem dX7_puts_10 : decode cX7_puts 10 = .ok (.getfield 31, 3) := by decide +kernel
theorem dX7_puts_13 : decode cX7_puts 13 = .ok (.iconst 2, 1) := by decide +kernel
theorem dX7_puts_14 : decode cX7_puts 14 = .ok (.iload_n 1, 1) := by decide +kernel
theorem dX7_puts_15 : decode cX7_puts 15 = .ok (.imul, 1) := by decide +kernel
theorem dX7_puts_16 : decode cX7_puts 16 = .ok (.iconst 1, 1) := by decide +kernel
theorem dX7_puts_17 : decode cX7_puts 17 = .ok (.iadd, 1) := by decide +kernel
theorem dX7_puts_18 : decode cX7_puts 18 = .ok (.iaload, 1) := by decide +kernel
theorem dX7_puts_19 : decode cX7_puts 19 = .ok (.istore_n 3, 1) := by decide +kernel
theorem dX7_puts_20 : decode cX7_puts 20 = .ok (.aload_n 0, 1) := by decide +kernel
theorem dX7_puts_21 : decode cX7_puts 21 = .ok (.iload_n 3, 1) := by decide +kernel
theorem dX7_puts_22 : decode cX7_puts 22 = .ok (.invokevirtual 114, 3) := by decide +kernel
theorem dX7_puts_25 : decode cX7_puts 25 = .ok (.ifCond .eq 16, 3) := by decide +kernel
theorem dX7_puts_28 : decode cX7_puts 28 = .ok (.aload_n 0, 1) := by decide +kernel
theorem dX7_puts_29 : decode cX7_puts 29 = .ok (.iload_n 2, 1) := by decide +kernel
theorem dX7_puts_30 : decode cX7_puts 30 = .ok (.iload_n 3, 1) := by decide +kernel
theorem dX7_puts_31 : decode cX7_puts 31 = .ok (.invokevirtual 149, 3) := by decide +kernel
theorem dX7_puts_34 : decode cX7_puts 34 = .ok (.ifCond .eq 7, 3) := by decide +kernel
theorem dX7_puts_37 : decode cX7_puts 37 = .ok (.iconst 1, 1) := by decide +kernel
theorem dX7_puts_38 : decode cX7_puts 38 = .ok (.goto 4, 3) := by decide +kernel
theorem dX7_puts_41 : decode cX7_puts 41 = .ok (.iconst 0, 1) := by decide +kernel
theorem dX7_puts_42 : decode cX7_puts 42 = .ok (.istore 4, 2) := by decide +kernel
theorem dX7_puts_44 : decode cX7_puts 44 = .ok (.iload 4, 2) := by decide +kernel
theorem dX7_puts_46 : decode cX7_puts 46 = .ok (.ifCond .eq 15, 3) := by decide +kernel
theorem dX7_puts_49 : decode cX7_puts 49 = .ok (.aload_n 0, 1) := by decide +kernel
theorem dX7_puts_50 : decode cX7_puts 50 = .ok (.iload_n 2, 1) := by decide +kernel
theorem dX7_puts_51 : decode cX7_puts 51 = .ok (.aload_n 0, 1) := by decide +kernel
theorem dX7_puts_52 : decode cX7_puts 52 = .ok (.iload_n 3, 1) := by decide +kernel
theorem dX7_puts_53 : decode cX7_puts 53 = .ok (.iconst 0, 1) := by decide +kernel
theorem dX7_puts_54 : decode cX7_puts 54 = .ok (.invokevirtual 45, 3) := by decide +kernel
theorem dX7_puts_57 : decode cX7_puts 57 = .ok (.iload_n 3, 1) := by decide +kernel
theorem dX7_puts_58 : decode cX7_puts 58 = .ok (.invokevirtual 136, 3) := by decide +kernel
theorem dX7_puts_61 : decode cX7_puts 61 = .ok (.iload 4, 2) := by decide +kernel
theorem dX7_puts_63 : decode cX7_puts 63 = .ok (.ireturn, 1) := by decide +kernel
set_option maxRecDepth 20000 in
theorem ggX7_read_X7_rightUpTo : GoodIn wsX7_read wsX7_rightUpTo := goodIn_r _ [9, 4, 2, 1, 10, 11, 12, 13, 8, 14, 15, 16, 17, 18, 19, 20, 21, 22, 23, 24, 25, 26, 115, 116, 117, 118, 119, 120, 121, 122, 123, 124, 125, 126, 127, 128, 129] rfl (by decide +kernel)
set_option maxRecDepth 20000 in
theorem gX7_read_X7_rightUpTo : GoodIn wsX7_read (wsV RX7 190 RX7 yX7_rightUpTo wsX7_rightUpTo) := goodIn_app (goodIn_of _ (by decide +kernel)) ggX7_read_X7_rightUpTo
set_option maxRecDepth 20000 in
theorem ggX7_read_X7_save : GoodIn wsX7_read wsX7_save := goodIn_r _ [30, 31, 32, 33, 115, 116, 117, 118, 119, 120, 121, 122, 123, 124, 125, 126, 127, 128, 129] rfl (by decide +kernel)
set_option maxRecDepth 20000 in
theorem gX7_read_X7_save : GoodIn wsX7_read (wsV RX7 107 RX7 yX7_save wsX7_save) := goodIn_app (goodIn_of _ (by decide +kernel)) ggX7_read_X7_save
set_option maxRecDepth 20000 in
theorem ggX7_read_X7_puts : GoodIn wsX7_read wsX7_puts := goodIn_r _ [37, 16, 38, 39, 40, 8, 41, 33, 17, 18, 19, 42, 43, 44, 45, 46, 47, 48, 49, 50, 51, 52, 53, 54, 55, 56, 57, 58, 59, 60, 61, 62, 63, 64, 65, 66, 67, 68, 69, 70, 71, 72, 73, 74, 75, 76, 77, 78, 79, 80, 81, 82, 83, 84, 85, 86, 87, 88, 89, 90, 91, 92, 93, 94, 95, 96, 97, 98, 99, 100, 101, 102, 103, 104, 105, 106, 107, 108, 109, 110, 111, 112, 113, 114, 115, 116, 117, 118, 119, 120, 121, 122, 123, 124, 125, 126, 127, 128, 129] rfl (by decide +kernel)
set_option maxRecDepth 20000 in
theorem gX7_read_X7_puts : GoodIn wsX7_read (wsV RX7 193 RX7 yX7_puts wsX7_puts) := goodIn_app (goodIn_of _ (by decide +kernel)) ggX7_read_X7_puts
theorem dX7_read_0 : decode cX7_read 0 = .ok (.aload_n 0, 1) := by decide +kernel
theorem dX7_read_1 : decode cX7_read 1 = .ok (.invokevirtual 190, 3) := by decide +kernel
theorem dX7_read_4 : decode cX7_read 4 = .ok (.aload_n 0, 1) := by decide +kernel
theorem dX7_read_5 : decode cX7_read 5 = .ok (.getfield 172, 3) := by decide +kernel
theorem dX7_read_8 : decode cX7_read 8 = .ok (.if_icmp .ne 15, 3) := by decide +kernel
theorem dX7_read_11 : decode cX7_read 11 = .ok (.aload_n 0, 1) := by decide +kernel
theorem dX7_read_12 : decode cX7_read 12 = .ok (.getfield 178, 3) := by decide +kernel
theorem dX7_read_15 : decode cX7_read 15 = .ok (.iconst 3, 1) := by decide +kernel
theorem dX7_read_16 : decode cX7_read 16 = .ok (.if_icmp .ne 7, 3) := by decide +kernel
theorem dX7_read_19 : decode cX7_read 19 = .ok (.iconst 1, 1) := by decide +kernel
theorem dX7_read_20 : decode cX7_read 20 = .ok (.goto 4, 3) := by decide +kernel
theorem dX7_read_23 : decode cX7_read 23 = .ok (.iconst 0, 1) := by decide +kernel
theorem dX7_read_24 : decode cX7_read 24 = .ok (.istore_n 1, 1) := by decide +kernel
theorem dX7_read_25 : decode cX7_read 25 = .ok (.aload_n 0, 1) := by decide +kernel
theorem dX7_read_26 : decode cX7_read 26 = .ok (.iload_n 1, 1) := by decide +kernel
theorem dX7_read_27 : decode cX7_read 27 = .ok (.ifCond .eq 7, 3) := by decide +kernel
theorem dX7_read_30 : decode cX7_read 30 = .ok (.iconst 0, 1) := by decide +kernel
theorem dX7_read_31 : decode cX7_read 31 = .ok (.goto 4, 3) := by decide +kernel
theorem dX7_read_34 : decode cX7_read 34 = .ok (.iconst 1, 1) := by decide +kernel
theorem dX7_read_35 : decode cX7_read 35 = .ok (.putfield 34, 3) := by decide +kernel
theorem dX7_read_38 : decode cX7_read 38 = .ok (.aload_n 0, 1) := by decide +kernel
theorem dX7_read_39 : decode cX7_read 39 = .ok (.getfield 34, 3) := by decide +kernel
theorem dX7_read_42 : decode cX7_read 42 = .ok (.ifCond .le 5, 3) := by decide +kernel
theorem dX7_read_45 : decode cX7_read 45 = .ok (.iconst 0, 1) := by decide +kernel
theorem dX7_read_46 : decode cX7_read 46 = .ok (.ireturn, 1) := by decide +kernel
theorem dX7_read_47 : decode cX7_read 47 = .ok (.aload_n 0, 1) := by decide +kernel
theorem dX7_read_48 : decode cX7_read 48 = .ok (.invokevirtual 107, 3) := by decide +kernel
theorem dX7_read_51 : decode cX7_read 51 = .ok (.aload_n 0, 1) := by decide +kernel
theorem dX7_read_52 : decode cX7_read 52 = .ok (.iconst 0, 1) := by decide +kernel
theorem dX7_read_53 : decode cX7_read 53 = .ok (.putfield 172, 3) := by decide +kernel
theorem dX7_read_56 : decode cX7_read 56 = .ok (.iconst 0, 1) := by decide +kernel
theorem dX7_read_57 : decode cX7_read 57 = .ok (.istore_n 2, 1) := by decide +kernel
theorem dX7_read_58 : decode cX7_read 58 = .ok (.iload_n 2, 1) := by decide +kernel
theorem dX7_read_59 : decode cX7_read 59 = .ok (.aload_n 0, 1) := by decide +kernel
theorem dX7_read_60 : decode cX7_read 60 = .ok (.getfield 181, 3) := by decide +kernel
theorem dX7_read_63 : decode cX7_read 63 = .ok (.if_icmp .gt 17, 3) := by decide +kernel
theorem dX7_read_66 : decode cX7_read 66 = .ok (.aload_n 0, 1) := by decide +kernel
theorem dX7_read_67 : decode cX7_read 67 = .ok (.iload_n 2, 1) := by decide +kernel
theorem dX7_read_68 : decode cX7_read 68 = .ok (.invokevirtual 193, 3) := by decide +kernel
theorem dX7_read_71 : decode cX7_read 71 = .ok (.ifCond .eq 9, 3) := by decide +kernel
theorem dX7_read_74 : decode cX7_read 74 = .ok (.iinc 2 1, 3) := by decide +kernel
theorem dX7_read_77 : decode cX7_read 77 = .ok (.goto (-19), 3) := by decide +kernel
theorem dX7_read_80 : decode cX7_read 80 = .ok (.iload_n 2, 1) := by decide +kernel
theorem dX7_read_81 : decode cX7_read 81 = .ok (.ireturn, 1) := by decide +kernel
set_option maxRecDepth 20000 in
theorem ggX7_isSnapshot_X7_within : GoodIn wsX7_isSnapshot wsX7_within := goodIn_r _ [4] rfl (by decide +kernel)
set_option maxRecDepth 20000 in
theorem gX7_isSnapshot_X7_within : GoodIn wsX7_isSnapshot (va_wsS RX7 41 yX7_within wsX7_within) := goodIn_app (goodIn_of _ (by decide +kernel)) ggX7_isSnapshot_X7_within
theorem dX7_isSnapshot_0 : decode cX7_isSnapshot 0 = .ok (.iload_n 0, 1) := by decide +kernel
theorem dX7_isSnapshot_1 : decode cX7_isSnapshot 1 = .ok (.iconst 0, 1) := by decide +kernel
theorem dX7_isSnapshot_2 : decode cX7_isSnapshot 2 = .ok (.iconst 1, 1) := by decide +kernel
theorem dX7_isSnapshot_3 : decode cX7_isSnapshot 3 = .ok (.invokestatic 41, 3) := by decide +kernel
theorem dX7_isSnapshot_6 : decode cX7_isSnapshot 6 = .ok (.ireturn, 1) := by decide +kernel
set_option maxRecDepth 20000 in
theorem ggX7_take_X7_isSnapshot : GoodIn wsX7_take wsX7_isSnapshot := goodIn_r _ [8, 9, 10, 7, 11] rfl (by decide +kernel)
set_option maxRecDepth 20000 in
theorem gX7_take_X7_isSnapshot : GoodIn wsX7_take (va_wsS RX7 196 yX7_isSnapshot wsX7_isSnapshot) := goodIn_app (goodIn_of _ (by decide +kernel)) ggX7_take_X7_isSnapshot
set_option maxRecDepth 20000 in
theorem ggX7_take_X7_dishesInPlan : GoodIn wsX7_take wsX7_dishesInPlan := goodIn_r _ [15, 4, 16, 17, 18, 19, 20, 21, 22, 23, 24, 25, 26, 27, 28, 29, 30] rfl (by decide +kernel)
set_option maxRecDepth 20000 in
theorem gX7_take_X7_dishesInPlan : GoodIn wsX7_take (wsV RX7 169 RX7 yX7_dishesInPlan wsX7_dishesInPlan) := goodIn_app (goodIn_of _ (by decide +kernel)) ggX7_take_X7_dishesInPlan
theorem dX7_take_0 : decode cX7_take 0 = .ok (.aload_n 0, 1) := by decide +kernel
theorem dX7_take_1 : decode cX7_take 1 = .ok (.iload_n 1, 1) := by decide +kernel
theorem dX7_take_2 : decode cX7_take 2 = .ok (.invokestatic 196, 3) := by decide +kernel
theorem dX7_take_5 : decode cX7_take 5 = .ok (.ifCond .eq 7, 3) := by decide +kernel
theorem dX7_take_8 : decode cX7_take 8 = .ok (.iconst 0, 1) := by decide +kernel
theorem dX7_take_9 : decode cX7_take 9 = .ok (.goto 4, 3) := by decide +kernel
theorem dX7_take_12 : decode cX7_take 12 = .ok (.iconst 1, 1) := by decide +kernel
theorem dX7_take_13 : decode cX7_take 13 = .ok (.putfield 34, 3) := by decide +kernel
theorem dX7_take_16 : decode cX7_take 16 = .ok (.aload_n 0, 1) := by decide +kernel
theorem dX7_take_17 : decode cX7_take 17 = .ok (.getfield 34, 3) := by decide +kernel
theorem dX7_take_20 : decode cX7_take 20 = .ok (.ifCond .le 5, 3) := by decide +kernel
theorem dX7_take_23 : decode cX7_take 23 = .ok (.iconst 0, 1) := by decide +kernel
theorem dX7_take_24 : decode cX7_take 24 = .ok (.ireturn, 1) := by decide +kernel
theorem dX7_take_25 : decode cX7_take 25 = .ok (.aload_n 0, 1) := by decide +kernel
theorem dX7_take_26 : decode cX7_take 26 = .ok (.getfield 19, 3) := by decide +kernel
theorem dX7_take_29 : decode cX7_take 29 = .ok (.iload_n 1, 1) := by decide +kernel
theorem dX7_take_30 : decode cX7_take 30 = .ok (.iconst 1, 1) := by decide +kernel
theorem dX7_take_31 : decode cX7_take 31 = .ok (.iastore, 1) := by decide +kernel
theorem dX7_take_32 : decode cX7_take 32 = .ok (.iconst 0, 1) := by decide +kernel
theorem dX7_take_33 : decode cX7_take 33 = .ok (.istore_n 2, 1) := by decide +kernel
theorem dX7_take_34 : decode cX7_take 34 = .ok (.iload_n 2, 1) := by decide +kernel
theorem dX7_take_35 : decode cX7_take 35 = .ok (.bipush 84, 2) := by decide +kernel
theorem dX7_take_37 : decode cX7_take 37 = .ok (.if_icmp .ge 29, 3) := by decide +kernel
theorem dX7_take_40 : decode cX7_take 40 = .ok (.aload_n 0, 1) := by decide +kernel
theorem dX7_take_41 : decode cX7_take 41 = .ok (.getfield 16, 3) := by decide +kernel
theorem dX7_take_44 : decode cX7_take 44 = .ok (.bipush 84, 2) := by decide +kernel
theorem dX7_take_46 : decode cX7_take 46 = .ok (.iload_n 1, 1) := by decide +kernel
theorem dX7_take_47 : decode cX7_take 47 = .ok (.imul, 1) := by decide +kernel
theorem dX7_take_48 : decode cX7_take 48 = .ok (.iload_n 2, 1) := by decide +kernel
theorem dX7_take_49 : decode cX7_take 49 = .ok (.iadd, 1) := by decide +kernel
theorem dX7_take_50 : decode cX7_take 50 = .ok (.aload_n 0, 1) := by decide +kernel
theorem dX7_take_51 : decode cX7_take 51 = .ok (.getfield 7, 3) := by decide +kernel
theorem dX7_take_54 : decode cX7_take 54 = .ok (.bipush 89, 2) := by decide +kernel
theorem dX7_take_56 : decode cX7_take 56 = .ok (.iload_n 2, 1) := by decide +kernel
theorem dX7_take_57 : decode cX7_take 57 = .ok (.iadd, 1) := by decide +kernel
theorem dX7_take_58 : decode cX7_take 58 = .ok (.iaload, 1) := by decide +kernel
theorem dX7_take_59 : decode cX7_take 59 = .ok (.iastore, 1) := by decide +kernel
theorem dX7_take_60 : decode cX7_take 60 = .ok (.iinc 2 1, 3) := by decide +kernel
theorem dX7_take_63 : decode cX7_take 63 = .ok (.goto (-29), 3) := by decide +kernel
theorem dX7_take_66 : decode cX7_take 66 = .ok (.aload_n 0, 1) := by decide +kernel
theorem dX7_take_67 : decode cX7_take 67 = .ok (.invokevirtual 169, 3) := by decide +kernel
theorem dX7_take_70 : decode cX7_take 70 = .ok (.ireturn, 1) := by decide +kernel
theorem dX7_trade_0 : decode cX7_trade 0 = .ok (.iconst 0, 1) := by decide +kernel
theorem dX7_trade_1 : decode cX7_trade 1 = .ok (.istore_n 2, 1) := by decide +kernel
theorem dX7_trade_2 : decode cX7_trade 2 = .ok (.iload_n 2, 1) := by decide +kernel
theorem dX7_trade_3 : decode cX7_trade 3 = .ok (.bipush 84, 2) := by decide +kernel
theorem dX7_trade_5 : decode cX7_trade 5 = .ok (.if_icmp .ge 51, 3) := by decide +kernel
theorem dX7_trade_8 : decode cX7_trade 8 = .ok (.aload_n 0, 1) := by decide +kernel
theorem dX7_trade_9 : decode cX7_trade 9 = .ok (.getfield 7, 3) := by decide +kernel
theorem dX7_trade_12 : decode cX7_trade 12 = .ok (.bipush 89, 2) := by decide +kernel
theorem dX7_trade_14 : decode cX7_trade 14 = .ok (.iload_n 2, 1) := by decide +kernel
theorem dX7_trade_15 : decode cX7_trade 15 = .ok (.iadd, 1) := by decide +kernel
theorem dX7_trade_16 : decode cX7_trade 16 = .ok (.iaload, 1) := by decide +kernel
theorem dX7_trade_17 : decode cX7_trade 17 = .ok (.istore_n 3, 1) := by decide +kernel
theorem dX7_trade_18 : decode cX7_trade 18 = .ok (.aload_n 0, 1) := by decide +kernel
theorem dX7_trade_19 : decode cX7_trade 19 = .ok (.getfield 7, 3) := by decide +kernel
theorem dX7_trade_22 : decode cX7_trade 22 = .ok (.bipush 89, 2) := by decide +kernel
theorem dX7_trade_24 : decode cX7_trade 24 = .ok (.iload_n 2, 1) := by decide +kernel
theorem dX7_trade_25 : decode cX7_trade 25 = .ok (.iadd, 1) := by decide +kernel
theorem dX7_trade_26 : decode cX7_trade 26 = .ok (.aload_n 0, 1) := by decide +kernel
theorem dX7_trade_27 : decode cX7_trade 27 = .ok (.getfield 16, 3) := by decide +kernel
theorem dX7_trade_30 : decode cX7_trade 30 = .ok (.bipush 84, 2) := by decide +kernel
theorem dX7_trade_32 : decode cX7_trade 32 = .ok (.iload_n 1, 1) := by decide +kernel
theorem dX7_trade_33 : decode cX7_trade 33 = .ok (.imul, 1) := by decide +kernel
theorem dX7_trade_34 : decode cX7_trade 34 = .ok (.iload_n 2, 1) := by decide +kernel
theorem dX7_trade_35 : decode cX7_trade 35 = .ok (.iadd, 1) := by decide +kernel
theorem dX7_trade_36 : decode cX7_trade 36 = .ok (.iaload, 1) := by decide +kernel
theorem dX7_trade_37 : decode cX7_trade 37 = .ok (.iastore, 1) := by decide +kernel
theorem dX7_trade_38 : decode cX7_trade 38 = .ok (.aload_n 0, 1) := by decide +kernel
theorem dX7_trade_39 : decode cX7_trade 39 = .ok (.getfield 16, 3) := by decide +kernel
theorem dX7_trade_42 : decode cX7_trade 42 = .ok (.bipush 84, 2) := by decide +kernel
theorem dX7_trade_44 : decode cX7_trade 44 = .ok (.iload_n 1, 1) := by decide +kernel
theorem dX7_trade_45 : decode cX7_trade 45 = .ok (.imul, 1) := by decide +kernel
theorem dX7_trade_46 : decode cX7_trade 46 = .ok (.iload_n 2, 1) := by decide +kernel
theorem dX7_trade_47 : decode cX7_trade 47 = .ok (.iadd, 1) := by decide +kernel
theorem dX7_trade_48 : decode cX7_trade 48 = .ok (.iload_n 3, 1) := by decide +kernel
theorem dX7_trade_49 : decode cX7_trade 49 = .ok (.iastore, 1) := by decide +kernel
theorem dX7_trade_50 : decode cX7_trade 50 = .ok (.iinc 2 1, 3) := by decide +kernel
theorem dX7_trade_53 : decode cX7_trade 53 = .ok (.goto (-51), 3) := by decide +kernel
theorem dX7_trade_56 : decode cX7_trade 56 = .ok (.return_, 1) := by decide +kernel
set_option maxRecDepth 20000 in
theorem ggX7_hasOwnParts_X7_isDish : GoodIn wsX7_hasOwnParts wsX7_isDish := goodIn_r _ [6, 7, 8, 9, 5, 10, 15, 16, 17, 18, 19, 20, 21, 22, 23, 24, 25, 26, 27, 28, 29] rfl (by decide +kernel)
set_option maxRecDepth 20000 in
theorem gX7_hasOwnParts_X7_isDish : GoodIn wsX7_hasOwnParts (wsV RX7 114 RX7 yX7_isDish wsX7_isDish) := goodIn_app (goodIn_of _ (by decide +kernel)) ggX7_hasOwnParts_X7_isDish
set_option maxRecDepth 20000 in
theorem ggX7_hasOwnParts_X7_of : GoodIn wsX7_hasOwnParts wsX7_of := goodIn_r _ [14, 7, 15, 16, 17, 18, 19, 20, 21, 22, 23, 24, 25, 26, 27, 28, 29] rfl (by decide +kernel)
set_option maxRecDepth 20000 in
theorem gX7_hasOwnParts_X7_of : GoodIn wsX7_hasOwnParts (wsV RX7 45 RX7 yX7_of wsX7_of) := goodIn_app (goodIn_of _ (by decide +kernel)) ggX7_hasOwnParts_X7_of
theorem dX7_hasOwnParts_0 : decode cX7_hasOwnParts 0 = .ok (.iconst 1, 1) := by decide +kernel
theorem dX7_hasOwnParts_1 : decode cX7_hasOwnParts 1 = .ok (.istore_n 2, 1) := by decide +kernel
theorem dX7_hasOwnParts_2 : decode cX7_hasOwnParts 2 = .ok (.iconst 0, 1) := by decide +kernel
theorem dX7_hasOwnParts_3 : decode cX7_hasOwnParts 3 = .ok (.istore_n 3, 1) := by decide +kernel
theorem dX7_hasOwnParts_4 : decode cX7_hasOwnParts 4 = .ok (.iload_n 3, 1) := by decide +kernel
theorem dX7_hasOwnParts_5 : decode cX7_hasOwnParts 5 = .ok (.bipush 84, 2) := by decide +kernel
theorem dX7_hasOwnParts_7 : decode cX7_hasOwnParts 7 = .ok (.if_icmp .ge 60, 3) := by decide +kernel
theorem dX7_hasOwnParts_10 : decode cX7_hasOwnParts 10 = .ok (.aload_n 0, 1) := by decide +kernel
theorem dX7_hasOwnParts_11 : decode cX7_hasOwnParts 11 = .ok (.getfield 16, 3) := by decide +kernel
theorem dX7_hasOwnParts_14 : decode cX7_hasOwnParts 14 = .ok (.bipush 84, 2) := by decide +kernel
theorem dX7_hasOwnParts_16 : decode cX7_hasOwnParts 16 = .ok (.iload_n 1, 1) := by decide +kernel
theorem dX7_hasOwnParts_17 : decode cX7_hasOwnParts 17 = .ok (.imul, 1) := by decide +kernel
theorem dX7_hasOwnParts_18 : decode cX7_hasOwnParts 18 = .ok (.iload_n 3, 1) := by decide +kernel
theorem dX7_hasOwnParts_19 : decode cX7_hasOwnParts 19 = .ok (.iadd, 1) := by decide +kernel
theorem dX7_hasOwnParts_20 : decode cX7_hasOwnParts 20 = .ok (.iaload, 1) := by decide +kernel
theorem dX7_hasOwnParts_21 : decode cX7_hasOwnParts 21 = .ok (.istore 4, 2) := by decide +kernel
theorem dX7_hasOwnParts_23 : decode cX7_hasOwnParts 23 = .ok (.iload_n 2, 1) := by decide +kernel
theorem dX7_hasOwnParts_24 : decode cX7_hasOwnParts 24 = .ok (.ifCond .eq 35, 3) := by decide +kernel
theorem dX7_hasOwnParts_27 : decode cX7_hasOwnParts 27 = .ok (.iload 4, 2) := by decide +kernel
theorem dX7_hasOwnParts_29 : decode cX7_hasOwnParts 29 = .ok (.iconst (-1), 1) := by decide +kernel
theorem dX7_hasOwnParts_30 : decode cX7_hasOwnParts 30 = .ok (.if_icmp .eq 25, 3) := by decide +kernel
theorem dX7_hasOwnParts_33 : decode cX7_hasOwnParts 33 = .ok (.aload_n 0, 1) := by decide +kernel
theorem dX7_hasOwnParts_34 : decode cX7_hasOwnParts 34 = .ok (.iload 4, 2) := by decide +kernel
theorem dX7_hasOwnParts_36 : decode cX7_hasOwnParts 36 = .ok (.invokevirtual 114, 3) := by decide +kernel
theorem dX7_hasOwnParts_39 : decode cX7_hasOwnParts 39 = .ok (.ifCond .eq 20, 3) := by decide +kernel
theorem dX7_hasOwnParts_42 : decode cX7_hasOwnParts 42 = .ok (.aload_n 0, 1) := by decide +kernel
theorem dX7_hasOwnParts_43 : decode cX7_hasOwnParts 43 = .ok (.iload 4, 2) := by decide +kernel
theorem dX7_hasOwnParts_45 : decode cX7_hasOwnParts 45 = .ok (.iconst 0, 1) := by decide +kernel
theorem dX7_hasOwnParts_46 : decode cX7_hasOwnParts 46 = .ok (.invokevirtual 45, 3) := by decide +kernel
theorem dX7_hasOwnParts_49 : decode cX7_hasOwnParts 49 = .ok (.iload_n 3, 1) := by decide +kernel
theorem dX7_hasOwnParts_50 : decode cX7_hasOwnParts 50 = .ok (.iconst 3, 1) := by decide +kernel
theorem dX7_hasOwnParts_51 : decode cX7_hasOwnParts 51 = .ok (.irem, 1) := by decide +kernel
theorem dX7_hasOwnParts_52 : decode cX7_hasOwnParts 52 = .ok (.if_icmp .ne 7, 3) := by decide +kernel
theorem dX7_hasOwnParts_55 : decode cX7_hasOwnParts 55 = .ok (.iconst 1, 1) := by decide +kernel
theorem dX7_hasOwnParts_56 : decode cX7_hasOwnParts 56 = .ok (.goto 4, 3) := by decide +kernel
theorem dX7_hasOwnParts_59 : decode cX7_hasOwnParts 59 = .ok (.iconst 0, 1) := by decide +kernel
theorem dX7_hasOwnParts_60 : decode cX7_hasOwnParts 60 = .ok (.istore_n 2, 1) := by decide +kernel
theorem dX7_hasOwnParts_61 : decode cX7_hasOwnParts 61 = .ok (.iinc 3 1, 3) := by decide +kernel
theorem dX7_hasOwnParts_64 : decode cX7_hasOwnParts 64 = .ok (.goto (-60), 3) := by decide +kernel
theorem dX7_hasOwnParts_67 : decode cX7_hasOwnParts 67 = .ok (.iload_n 2, 1) := by decide +kernel
theorem dX7_hasOwnParts_68 : decode cX7_hasOwnParts 68 = .ok (.ireturn, 1) := by decide +kernel
set_option maxRecDepth 20000 in
theorem ggX7_goodThen_X7_hasOwnParts : GoodIn wsX7_goodThen wsX7_hasOwnParts := goodIn_r _ [5, 6, 7, 8, 9, 4, 10, 11, 12, 13, 14, 15, 16, 17, 18, 88, 89, 90, 91, 92, 93, 94, 95, 96, 97, 98, 99, 100, 101, 102] rfl (by decide +kernel)
set_option maxRecDepth 20000 in
theorem gX7_goodThen_X7_hasOwnParts : GoodIn wsX7_goodThen (wsV RX7 199 RX7 yX7_hasOwnParts wsX7_hasOwnParts) := goodIn_app (goodIn_of _ (by decide +kernel)) ggX7_goodThen_X7_hasOwnParts
set_option maxRecDepth 20000 in
theorem ggX7_goodThen_X7_trade : GoodIn wsX7_goodThen wsX7_trade := goodIn_r _ [22, 11, 6, 88, 89, 90, 91, 92, 93, 94, 95, 96, 97, 98, 99, 100, 101, 102] rfl (by decide +kernel)
set_option maxRecDepth 20000 in
theorem gX7_goodThen_X7_trade : GoodIn wsX7_goodThen (wsV RX7 202 RX7 yX7_trade wsX7_trade) := goodIn_app (goodIn_of _ (by decide +kernel)) ggX7_goodThen_X7_trade
set_option maxRecDepth 20000 in
theorem ggX7_goodThen_X7_isGood : GoodIn wsX7_goodThen wsX7_isGood := goodIn_r _ [26, 11, 27, 28, 29, 4, 30, 31, 32, 33, 34, 35, 36, 37, 38, 39, 40, 41, 42, 43, 44, 45, 15, 16, 17, 18, 46, 47, 48, 49, 50, 51, 52, 53, 54, 55, 56, 57, 58, 59, 60, 61, 62, 63, 64, 65, 66, 67, 68, 69, 70, 71, 72, 73, 74, 75, 76, 77, 78, 79, 80, 81, 82, 83, 84, 85, 86, 87, 88, 89, 90, 91, 92, 93, 94, 95, 96, 97, 98, 99, 100, 101, 102] rfl (by decide +kernel)
set_option maxRecDepth 20000 in
theorem gX7_goodThen_X7_isGood : GoodIn wsX7_goodThen (wsV RX7 156 RX7 yX7_isGood wsX7_isGood) := goodIn_app (goodIn_of _ (by decide +kernel)) ggX7_goodThen_X7_isGood
theorem dX7_goodThen_0 : decode cX7_goodThen 0 = .ok (.aload_n 0, 1) := by decide +kernel
theorem dX7_goodThen_1 : decode cX7_goodThen 1 = .ok (.iload_n 1, 1) := by decide +kernel
theorem dX7_goodThen_2 : decode cX7_goodThen 2 = .ok (.invokevirtual 199, 3) := by decide +kernel
theorem dX7_goodThen_5 : decode cX7_goodThen 5 = .ok (.ifCond .ne 5, 3) := by decide +kernel
theorem dX7_goodThen_8 : decode cX7_goodThen 8 = .ok (.iconst 0, 1) := by decide +kernel
theorem dX7_goodThen_9 : decode cX7_goodThen 9 = .ok (.ireturn, 1) := by decide +kernel
theorem dX7_goodThen_10 : decode cX7_goodThen 10 = .ok (.aload_n 0, 1) := by decide +kernel
theorem dX7_goodThen_11 : decode cX7_goodThen 11 = .ok (.iload_n 1, 1) := by decide +kernel
theorem dX7_goodThen_12 : decode cX7_goodThen 12 = .ok (.invokevirtual 202, 3) := by decide +kernel
theorem dX7_goodThen_15 : decode cX7_goodThen 15 = .ok (.aload_n 0, 1) := by decide +kernel
theorem dX7_goodThen_16 : decode cX7_goodThen 16 = .ok (.invokevirtual 156, 3) := by decide +kernel
theorem dX7_goodThen_19 : decode cX7_goodThen 19 = .ok (.istore_n 2, 1) := by decide +kernel
theorem dX7_goodThen_20 : decode cX7_goodThen 20 = .ok (.aload_n 0, 1) := by decide +kernel
theorem dX7_goodThen_21 : decode cX7_goodThen 21 = .ok (.iload_n 1, 1) := by decide +kernel
theorem dX7_goodThen_22 : decode cX7_goodThen 22 = .ok (.invokevirtual 202, 3) := by decide +kernel
theorem dX7_goodThen_25 : decode cX7_goodThen 25 = .ok (.iload_n 2, 1) := by decide +kernel
theorem dX7_goodThen_26 : decode cX7_goodThen 26 = .ok (.ireturn, 1) := by decide +kernel
set_option maxRecDepth 20000 in
theorem ggX7_restore_X7_isSnapshot : GoodIn wsX7_restore wsX7_isSnapshot := goodIn_r _ [8, 9, 10, 7, 11] rfl (by decide +kernel)
set_option maxRecDepth 20000 in
theorem gX7_restore_X7_isSnapshot : GoodIn wsX7_restore (va_wsS RX7 196 yX7_isSnapshot wsX7_isSnapshot) := goodIn_app (goodIn_of _ (by decide +kernel)) ggX7_restore_X7_isSnapshot
set_option maxRecDepth 20000 in
theorem ggX7_restore_X7_goodThen : GoodIn wsX7_restore wsX7_goodThen := goodIn_r _ [15, 16, 17, 18, 7, 19, 4, 20, 21, 22, 23, 3, 9, 10, 11, 24, 25, 26, 27, 28, 29, 30, 31, 32, 33, 34, 35, 36, 37, 38, 39, 40, 41, 42, 43, 44, 45, 46, 47, 48, 49, 50, 51, 52, 53, 54, 55, 56, 57, 58, 59, 60, 61, 62, 63, 64, 65, 66, 67, 68, 69, 70, 71, 72, 73, 74, 75, 76, 77, 78, 79, 80, 81, 82, 83, 84, 85, 86, 87, 88, 89, 90, 91, 92, 93, 94, 95, 96, 107, 108, 109, 110, 111, 112, 113, 114, 115, 116, 117, 118, 119, 120, 121] rfl (by decide +kernel)
set_option maxRecDepth 20000 in
theorem gX7_restore_X7_goodThen : GoodIn wsX7_restore (wsV RX7 206 RX7 yX7_goodThen wsX7_goodThen) := goodIn_app (goodIn_of _ (by decide +kernel)) ggX7_restore_X7_goodThen
set_option maxRecDepth 20000 in
theorem ggX7_restore_X7_save : GoodIn wsX7_restore wsX7_save := goodIn_r _ [100, 101, 102, 3, 107, 108, 109, 110, 111, 112, 113, 114, 115, 116, 117, 118, 119, 120, 121] rfl (by decide +kernel)
set_option maxRecDepth 20000 in
theorem gX7_restore_X7_save : GoodIn wsX7_restore (wsV RX7 107 RX7 yX7_save wsX7_save) := goodIn_app (goodIn_of _ (by decide +kernel)) ggX7_restore_X7_save
set_option maxRecDepth 20000 in
theorem ggX7_restore_X7_dishesInPlan : GoodIn wsX7_restore wsX7_dishesInPlan := goodIn_r _ [106, 3, 107, 108, 109, 110, 111, 112, 113, 114, 115, 116, 117, 118, 119, 120, 121] rfl (by decide +kernel)
set_option maxRecDepth 20000 in
theorem gX7_restore_X7_dishesInPlan : GoodIn wsX7_restore (wsV RX7 169 RX7 yX7_dishesInPlan wsX7_dishesInPlan) := goodIn_app (goodIn_of _ (by decide +kernel)) ggX7_restore_X7_dishesInPlan
theorem dX7_restore_0 : decode cX7_restore 0 = .ok (.aload_n 0, 1) := by decide +kernel
theorem dX7_restore_1 : decode cX7_restore 1 = .ok (.iload_n 1, 1) := by decide +kernel
theorem dX7_restore_2 : decode cX7_restore 2 = .ok (.invokestatic 196, 3) := by decide +kernel
theorem dX7_restore_5 : decode cX7_restore 5 = .ok (.ifCond .eq 7, 3) := by decide +kernel
theorem dX7_restore_8 : decode cX7_restore 8 = .ok (.iconst 0, 1) := by decide +kernel
theorem dX7_restore_9 : decode cX7_restore 9 = .ok (.goto 4, 3) := by decide +kernel
theorem dX7_restore_12 : decode cX7_restore 12 = .ok (.iconst 1, 1) := by decide +kernel
theorem dX7_restore_13 : decode cX7_restore 13 = .ok (.putfield 34, 3) := by decide +kernel
theorem dX7_restore_16 : decode cX7_restore 16 = .ok (.aload_n 0, 1) := by decide +kernel
theorem dX7_restore_17 : decode cX7_restore 17 = .ok (.getfield 34, 3) := by decide +kernel
theorem dX7_restore_20 : decode cX7_restore 20 = .ok (.ifCond .ne 30, 3) := by decide +kernel
theorem dX7_restore_23 : decode cX7_restore 23 = .ok (.aload_n 0, 1) := by decide +kernel
theorem dX7_restore_24 : decode cX7_restore 24 = .ok (.aload_n 0, 1) := by decide +kernel
theorem dX7_restore_25 : decode cX7_restore 25 = .ok (.getfield 19, 3) := by decide +kernel
theorem dX7_restore_28 : decode cX7_restore 28 = .ok (.iload_n 1, 1) := by decide +kernel
theorem dX7_restore_29 : decode cX7_restore 29 = .ok (.iaload, 1) := by decide +kernel
theorem dX7_restore_30 : decode cX7_restore 30 = .ok (.iconst 1, 1) := by decide +kernel
theorem dX7_restore_31 : decode cX7_restore 31 = .ok (.if_icmp .ne 15, 3) := by decide +kernel
theorem dX7_restore_34 : decode cX7_restore 34 = .ok (.aload_n 0, 1) := by decide +kernel
theorem dX7_restore_35 : decode cX7_restore 35 = .ok (.iload_n 1, 1) := by decide +kernel
theorem dX7_restore_36 : decode cX7_restore 36 = .ok (.invokevirtual 206, 3) := by decide +kernel
theorem dX7_restore_39 : decode cX7_restore 39 = .ok (.ifCond .eq 7, 3) := by decide +kernel
theorem dX7_restore_42 : decode cX7_restore 42 = .ok (.iconst 0, 1) := by decide +kernel
theorem dX7_restore_43 : decode cX7_restore 43 = .ok (.goto 4, 3) := by decide +kernel
theorem dX7_restore_46 : decode cX7_restore 46 = .ok (.iconst 2, 1) := by decide +kernel
theorem dX7_restore_47 : decode cX7_restore 47 = .ok (.putfield 34, 3) := by decide +kernel
theorem dX7_restore_50 : decode cX7_restore 50 = .ok (.aload_n 0, 1) := by decide +kernel
theorem dX7_restore_51 : decode cX7_restore 51 = .ok (.getfield 34, 3) := by decide +kernel
theorem dX7_restore_54 : decode cX7_restore 54 = .ok (.ifCond .le 5, 3) := by decide +kernel
theorem dX7_restore_57 : decode cX7_restore 57 = .ok (.iconst 0, 1) := by decide +kernel
theorem dX7_restore_58 : decode cX7_restore 58 = .ok (.ireturn, 1) := by decide +kernel
theorem dX7_restore_59 : decode cX7_restore 59 = .ok (.aload_n 0, 1) := by decide +kernel
theorem dX7_restore_60 : decode cX7_restore 60 = .ok (.invokevirtual 107, 3) := by decide +kernel
theorem dX7_restore_63 : decode cX7_restore 63 = .ok (.iconst 0, 1) := by decide +kernel
theorem dX7_restore_64 : decode cX7_restore 64 = .ok (.istore_n 2, 1) := by decide +kernel
theorem dX7_restore_65 : decode cX7_restore 65 = .ok (.iload_n 2, 1) := by decide +kernel
theorem dX7_restore_66 : decode cX7_restore 66 = .ok (.bipush 84, 2) := by decide +kernel
theorem dX7_restore_68 : decode cX7_restore 68 = .ok (.if_icmp .ge 29, 3) := by decide +kernel
theorem dX7_restore_71 : decode cX7_restore 71 = .ok (.aload_n 0, 1) := by decide +kernel
theorem dX7_restore_72 : decode cX7_restore 72 = .ok (.getfield 7, 3) := by decide +kernel
theorem dX7_restore_75 : decode cX7_restore 75 = .ok (.bipush 89, 2) := by decide +kernel
theorem dX7_restore_77 : decode cX7_restore 77 = .ok (.iload_n 2, 1) := by decide +kernel
theorem dX7_restore_78 : decode cX7_restore 78 = .ok (.iadd, 1) := by decide +kernel
theorem dX7_restore_79 : decode cX7_restore 79 = .ok (.aload_n 0, 1) := by decide +kernel
theorem dX7_restore_80 : decode cX7_restore 80 = .ok (.getfield 16, 3) := by decide +kernel
theorem dX7_restore_83 : decode cX7_restore 83 = .ok (.bipush 84, 2) := by decide +kernel
theorem dX7_restore_85 : decode cX7_restore 85 = .ok (.iload_n 1, 1) := by decide +kernel
theorem dX7_restore_86 : decode cX7_restore 86 = .ok (.imul, 1) := by decide +kernel
theorem dX7_restore_87 : decode cX7_restore 87 = .ok (.iload_n 2, 1) := by decide +kernel
theorem dX7_restore_88 : decode cX7_restore 88 = .ok (.iadd, 1) := by decide +kernel
theorem dX7_restore_89 : decode cX7_restore 89 = .ok (.iaload, 1) := by decide +kernel
theorem dX7_restore_90 : decode cX7_restore 90 = .ok (.iastore, 1) := by decide +kernel
theorem dX7_restore_91 : decode cX7_restore 91 = .ok (.iinc 2 1, 3) := by decide +kernel
theorem dX7_restore_94 : decode cX7_restore 94 = .ok (.goto (-29), 3) := by decide +kernel
theorem dX7_restore_97 : decode cX7_restore 97 = .ok (.aload_n 0, 1) := by decide +kernel
theorem dX7_restore_98 : decode cX7_restore 98 = .ok (.invokevirtual 169, 3) := by decide +kernel
theorem dX7_restore_101 : decode cX7_restore 101 = .ok (.ireturn, 1) := by decide +kernel
theorem dX7_undo_0 : decode cX7_undo 0 = .ok (.aload_n 0, 1) := by decide +kernel
theorem dX7_undo_1 : decode cX7_undo 1 = .ok (.aload_n 0, 1) := by decide +kernel
theorem dX7_undo_2 : decode cX7_undo 2 = .ok (.getfield 38, 3) := by decide +kernel
theorem dX7_undo_5 : decode cX7_undo 5 = .ok (.ifCond .le 7, 3) := by decide +kernel
theorem dX7_undo_8 : decode cX7_undo 8 = .ok (.iconst 0, 1) := by decide +kernel
theorem dX7_undo_9 : decode cX7_undo 9 = .ok (.goto 4, 3) := by decide +kernel
theorem dX7_undo_12 : decode cX7_undo 12 = .ok (.iconst 1, 1) := by decide +kernel
theorem dX7_undo_13 : decode cX7_undo 13 = .ok (.putfield 34, 3) := by decide +kernel
theorem dX7_undo_16 : decode cX7_undo 16 = .ok (.aload_n 0, 1) := by decide +kernel
theorem dX7_undo_17 : decode cX7_undo 17 = .ok (.getfield 34, 3) := by decide +kernel
theorem dX7_undo_20 : decode cX7_undo 20 = .ok (.ifCond .le 5, 3) := by decide +kernel
theorem dX7_undo_23 : decode cX7_undo 23 = .ok (.iconst 0, 1) := by decide +kernel
theorem dX7_undo_24 : decode cX7_undo 24 = .ok (.ireturn, 1) := by decide +kernel
theorem dX7_undo_25 : decode cX7_undo 25 = .ok (.aload_n 0, 1) := by decide +kernel
theorem dX7_undo_26 : decode cX7_undo 26 = .ok (.dup, 1) := by decide +kernel
theorem dX7_undo_27 : decode cX7_undo 27 = .ok (.getfield 38, 3) := by decide +kernel
theorem dX7_undo_30 : decode cX7_undo 30 = .ok (.iconst 1, 1) := by decide +kernel
theorem dX7_undo_31 : decode cX7_undo 31 = .ok (.isub, 1) := by decide +kernel
theorem dX7_undo_32 : decode cX7_undo 32 = .ok (.putfield 38, 3) := by decide +kernel
theorem dX7_undo_35 : decode cX7_undo 35 = .ok (.iconst 0, 1) := by decide +kernel
theorem dX7_undo_36 : decode cX7_undo 36 = .ok (.istore_n 1, 1) := by decide +kernel
theorem dX7_undo_37 : decode cX7_undo 37 = .ok (.iload_n 1, 1) := by decide +kernel
theorem dX7_undo_38 : decode cX7_undo 38 = .ok (.sipush 173, 3) := by decide +kernel
theorem dX7_undo_41 : decode cX7_undo 41 = .ok (.if_icmp .ge 30, 3) := by decide +kernel
theorem dX7_undo_44 : decode cX7_undo 44 = .ok (.aload_n 0, 1) := by decide +kernel
theorem dX7_undo_45 : decode cX7_undo 45 = .ok (.getfield 7, 3) := by decide +kernel
theorem dX7_undo_48 : decode cX7_undo 48 = .ok (.iload_n 1, 1) := by decide +kernel
theorem dX7_undo_49 : decode cX7_undo 49 = .ok (.aload_n 0, 1) := by decide +kernel
theorem dX7_undo_50 : decode cX7_undo 50 = .ok (.getfield 13, 3) := by decide +kernel
theorem dX7_undo_53 : decode cX7_undo 53 = .ok (.sipush 173, 3) := by decide +kernel
theorem dX7_undo_56 : decode cX7_undo 56 = .ok (.aload_n 0, 1) := by decide +kernel
theorem dX7_undo_57 : decode cX7_undo 57 = .ok (.getfield 38, 3) := by decide +kernel
theorem dX7_undo_60 : decode cX7_undo 60 = .ok (.imul, 1) := by decide +kernel
theorem dX7_undo_61 : decode cX7_undo 61 = .ok (.iload_n 1, 1) := by decide +kernel
theorem dX7_undo_62 : decode cX7_undo 62 = .ok (.iadd, 1) := by decide +kernel
theorem dX7_undo_63 : decode cX7_undo 63 = .ok (.iaload, 1) := by decide +kernel
theorem dX7_undo_64 : decode cX7_undo 64 = .ok (.iastore, 1) := by decide +kernel
theorem dX7_undo_65 : decode cX7_undo 65 = .ok (.iinc 1 1, 3) := by decide +kernel
theorem dX7_undo_68 : decode cX7_undo 68 = .ok (.goto (-31), 3) := by decide +kernel
theorem dX7_undo_71 : decode cX7_undo 71 = .ok (.aload_n 0, 1) := by decide +kernel
theorem dX7_undo_72 : decode cX7_undo 72 = .ok (.getfield 38, 3) := by decide +kernel
theorem dX7_undo_75 : decode cX7_undo 75 = .ok (.ireturn, 1) := by decide +kernel
set_option maxRecDepth 20000 in
theorem ggX7_planned_X7_isDay : GoodIn wsX7_planned wsX7_isDay := goodIn_r _ [5, 6, 7, 4, 8] rfl (by decide +kernel)
set_option maxRecDepth 20000 in
theorem gX7_planned_X7_isDay : GoodIn wsX7_planned (va_wsS RX7 146 yX7_isDay wsX7_isDay) := goodIn_app (goodIn_of _ (by decide +kernel)) ggX7_planned_X7_isDay
set_option maxRecDepth 20000 in
theorem ggX7_planned_X7_isPart : GoodIn wsX7_planned wsX7_isPart := goodIn_r _ [11, 6, 7, 4, 8] rfl (by decide +kernel)
set_option maxRecDepth 20000 in
theorem gX7_planned_X7_isPart : GoodIn wsX7_planned (va_wsS RX7 104 yX7_isPart wsX7_isPart) := goodIn_app (goodIn_of _ (by decide +kernel)) ggX7_planned_X7_isPart
set_option maxRecDepth 20000 in
theorem ggX7_planned_X7_at : GoodIn wsX7_planned wsX7_at := goodIn_r _ [15, 16, 17, 18, 19, 20, 21, 22, 23, 24, 25, 26, 27, 28, 29, 30, 31] rfl (by decide +kernel)
set_option maxRecDepth 20000 in
theorem gX7_planned_X7_at : GoodIn wsX7_planned (wsV RX7 79 RX7 yX7_at wsX7_at) := goodIn_app (goodIn_of _ (by decide +kernel)) ggX7_planned_X7_at
theorem dX7_planned_0 : decode cX7_planned 0 = .ok (.aload_n 0, 1) := by decide +kernel
theorem dX7_planned_1 : decode cX7_planned 1 = .ok (.iload_n 1, 1) := by decide +kernel
theorem dX7_planned_2 : decode cX7_planned 2 = .ok (.invokestatic 146, 3) := by decide +kernel
theorem dX7_planned_5 : decode cX7_planned 5 = .ok (.ifCond .eq 14, 3) := by decide +kernel
theorem dX7_planned_8 : decode cX7_planned 8 = .ok (.iload_n 2, 1) := by decide +kernel
theorem dX7_planned_9 : decode cX7_planned 9 = .ok (.invokestatic 104, 3) := by decide +kernel
theorem dX7_planned_12 : decode cX7_planned 12 = .ok (.ifCond .eq 7, 3) := by decide +kernel
theorem dX7_planned_15 : decode cX7_planned 15 = .ok (.iconst 0, 1) := by decide +kernel
theorem dX7_planned_16 : decode cX7_planned 16 = .ok (.goto 4, 3) := by decide +kernel
theorem dX7_planned_19 : decode cX7_planned 19 = .ok (.iconst 1, 1) := by decide +kernel
theorem dX7_planned_20 : decode cX7_planned 20 = .ok (.putfield 34, 3) := by decide +kernel
theorem dX7_planned_23 : decode cX7_planned 23 = .ok (.aload_n 0, 1) := by decide +kernel
theorem dX7_planned_24 : decode cX7_planned 24 = .ok (.getfield 34, 3) := by decide +kernel
theorem dX7_planned_27 : decode cX7_planned 27 = .ok (.ifCond .le 7, 3) := by decide +kernel
theorem dX7_planned_30 : decode cX7_planned 30 = .ok (.iconst 0, 1) := by decide +kernel
theorem dX7_planned_31 : decode cX7_planned 31 = .ok (.goto 9, 3) := by decide +kernel
