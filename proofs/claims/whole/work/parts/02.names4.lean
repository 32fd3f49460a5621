theorem dX6_leave_86 : decode cX6_leave 86 = .ok (.iload_n 2, 1) := by decide +kernel
theorem dX6_leave_87 : decode cX6_leave 87 = .ok (.invokestatic 102, 3) := by decide +kernel
theorem dX6_leave_90 : decode cX6_leave 90 = .ok (.aload_n 0, 1) := by decide +kernel
theorem dX6_leave_91 : decode cX6_leave 91 = .ok (.getfield 16, 3) := by decide +kernel
theorem dX6_leave_94 : decode cX6_leave 94 = .ok (.getfield 106, 3) := by decide +kernel
theorem dX6_leave_97 : decode cX6_leave 97 = .ok (.iload_n 1, 1) := by decide +kernel
theorem dX6_leave_98 : decode cX6_leave 98 = .ok (.iload_n 2, 1) := by decide +kernel
theorem dX6_leave_99 : decode cX6_leave 99 = .ok (.iconst (-1), 1) := by decide +kernel
theorem dX6_leave_100 : decode cX6_leave 100 = .ok (.if_icmp .ne 7, 3) := by decide +kernel
theorem dX6_leave_103 : decode cX6_leave 103 = .ok (.iconst 0, 1) := by decide +kernel
theorem dX6_leave_104 : decode cX6_leave 104 = .ok (.goto 4, 3) := by decide +kernel
theorem dX6_leave_107 : decode cX6_leave 107 = .ok (.iload_n 3, 1) := by decide +kernel
theorem dX6_leave_108 : decode cX6_leave 108 = .ok (.invokestatic 102, 3) := by decide +kernel
theorem dX6_leave_111 : decode cX6_leave 111 = .ok (.aload_n 0, 1) := by decide +kernel
theorem dX6_leave_112 : decode cX6_leave 112 = .ok (.getfield 22, 3) := by decide +kernel
theorem dX6_leave_115 : decode cX6_leave 115 = .ok (.aload_n 0, 1) := by decide +kernel
theorem dX6_leave_116 : decode cX6_leave 116 = .ok (.getfield 16, 3) := by decide +kernel
theorem dX6_leave_119 : decode cX6_leave 119 = .ok (.invokevirtual 109, 3) := by decide +kernel
theorem dX6_leave_122 : decode cX6_leave 122 = .ok (.ifCond .ne 13, 3) := by decide +kernel
theorem dX6_leave_125 : decode cX6_leave 125 = .ok (.new 71, 3) := by decide +kernel
theorem dX6_leave_128 : decode cX6_leave 128 = .ok (.dup, 1) := by decide +kernel
theorem dX6_leave_129 : decode cX6_leave 129 = .ok (.ldc 113, 2) := by decide +kernel
theorem dX6_leave_131 : decode cX6_leave 131 = .ok (.invokespecial 75, 3) := by decide +kernel
theorem dX6_leave_134 : decode cX6_leave 134 = .ok (.athrow, 1) := by decide +kernel
theorem dX6_leave_135 : decode cX6_leave 135 = .ok (.aload_n 0, 1) := by decide +kernel
theorem dX6_leave_136 : decode cX6_leave 136 = .ok (.getfield 10, 3) := by decide +kernel
theorem dX6_leave_139 : decode cX6_leave 139 = .ok (.getfield 98, 3) := by decide +kernel
theorem dX6_leave_142 : decode cX6_leave 142 = .ok (.iload_n 1, 1) := by decide +kernel
theorem dX6_leave_143 : decode cX6_leave 143 = .ok (.invokestatic 115, 3) := by decide +kernel
theorem dX6_leave_146 : decode cX6_leave 146 = .ok (.istore 4, 2) := by decide +kernel
theorem dX6_leave_148 : decode cX6_leave 148 = .ok (.aload_n 0, 1) := by decide +kernel
theorem dX6_leave_149 : decode cX6_leave 149 = .ok (.invokevirtual 119, 3) := by decide +kernel
theorem dX6_leave_152 : decode cX6_leave 152 = .ok (.iload 4, 2) := by decide +kernel
theorem dX6_leave_154 : decode cX6_leave 154 = .ok (.ireturn, 1) := by decide +kernel
set_option maxRecDepth 20000 in
theorem ggX6_addGuest_X0_save : GoodIn wsX6_addGuest wsX0_save := goodIn_r _ [10, 11, 12, 13, 14, 15, 9, 16, 17, 18, 19, 20, 21, 22, 23, 24, 25, 26, 27, 28, 29, 30, 31, 32, 33, 34, 35, 36, 37, 38, 39, 40, 41, 42, 43, 44, 45, 71, 72, 73, 59, 60, 61, 62, 63, 64, 65, 66, 67, 68, 69, 70] rfl (by decide +kernel)
set_option maxRecDepth 20000 in
theorem gX6_addGuest_X0_save : GoodIn wsX6_addGuest (wsV RX6 76 RX0 yX0_save wsX0_save) := goodIn_app (goodIn_of _ (by decide +kernel)) ggX6_addGuest_X0_save
set_option maxRecDepth 20000 in
theorem ggX6_addGuest_X5_newGuest : GoodIn wsX6_addGuest wsX5_newGuest := goodIn_r _ [49, 30, 31, 32, 50, 36, 51, 59, 60, 61, 62, 63, 64, 65, 66, 67, 68, 69, 70] rfl (by decide +kernel)
set_option maxRecDepth 20000 in
theorem gX6_addGuest_X5_newGuest : GoodIn wsX6_addGuest (wsV RX6 127 RX5 yX5_newGuest wsX5_newGuest) := goodIn_app (goodIn_of _ (by decide +kernel)) ggX6_addGuest_X5_newGuest
theorem dX6_addGuest_0 : decode cX6_addGuest 0 = .ok (.aload_n 0, 1) := by decide +kernel
theorem dX6_addGuest_1 : decode cX6_addGuest 1 = .ok (.getfield 10, 3) := by decide +kernel
theorem dX6_addGuest_4 : decode cX6_addGuest 4 = .ok (.getfield 122, 3) := by decide +kernel
theorem dX6_addGuest_7 : decode cX6_addGuest 7 = .ok (.bipush 6, 2) := by decide +kernel
theorem dX6_addGuest_9 : decode cX6_addGuest 9 = .ok (.if_icmp .lt 13, 3) := by decide +kernel
theorem dX6_addGuest_12 : decode cX6_addGuest 12 = .ok (.new 71, 3) := by decide +kernel
theorem dX6_addGuest_15 : decode cX6_addGuest 15 = .ok (.dup, 1) := by decide +kernel
theorem dX6_addGuest_16 : decode cX6_addGuest 16 = .ok (.ldc 125, 2) := by decide +kernel
theorem dX6_addGuest_18 : decode cX6_addGuest 18 = .ok (.invokespecial 75, 3) := by decide +kernel
theorem dX6_addGuest_21 : decode cX6_addGuest 21 = .ok (.athrow, 1) := by decide +kernel
theorem dX6_addGuest_22 : decode cX6_addGuest 22 = .ok (.aload_n 0, 1) := by decide +kernel
theorem dX6_addGuest_23 : decode cX6_addGuest 23 = .ok (.getfield 38, 3) := by decide +kernel
theorem dX6_addGuest_26 : decode cX6_addGuest 26 = .ok (.aload_n 0, 1) := by decide +kernel
theorem dX6_addGuest_27 : decode cX6_addGuest 27 = .ok (.getfield 10, 3) := by decide +kernel
theorem dX6_addGuest_30 : decode cX6_addGuest 30 = .ok (.invokevirtual 76, 3) := by decide +kernel
theorem dX6_addGuest_33 : decode cX6_addGuest 33 = .ok (.aload_n 0, 1) := by decide +kernel
theorem dX6_addGuest_34 : decode cX6_addGuest 34 = .ok (.getfield 10, 3) := by decide +kernel
theorem dX6_addGuest_37 : decode cX6_addGuest 37 = .ok (.invokevirtual 127, 3) := by decide +kernel
theorem dX6_addGuest_40 : decode cX6_addGuest 40 = .ok (.ireturn, 1) := by decide +kernel
set_option maxRecDepth 20000 in
theorem ggX6_come_X5_hasGuest : GoodIn wsX6_come wsX5_hasGuest := goodIn_r _ [14, 15, 92, 93, 94, 95, 96, 97, 98, 99, 100, 101, 102, 103] rfl (by decide +kernel)
set_option maxRecDepth 20000 in
theorem gX6_come_X5_hasGuest : GoodIn wsX6_come (wsV RX6 131 RX5 yX5_hasGuest wsX5_hasGuest) := goodIn_app (goodIn_of _ (by decide +kernel)) ggX6_come_X5_hasGuest
set_option maxRecDepth 20000 in
theorem ggX6_come_X6_isWithin : GoodIn wsX6_come wsX6_isWithin := goodIn_r _ [19] rfl (by decide +kernel)
set_option maxRecDepth 20000 in
theorem gX6_come_X6_isWithin : GoodIn wsX6_come (va_wsS RX6 56 yX6_isWithin wsX6_isWithin) := goodIn_app (goodIn_of _ (by decide +kernel)) ggX6_come_X6_isWithin
set_option maxRecDepth 20000 in
theorem ggX6_come_X5_copyFrom : GoodIn wsX6_come wsX5_copyFrom := goodIn_r _ [23, 24, 25, 26, 27, 28, 29, 30, 15, 31, 32, 33, 34, 35, 18, 36, 37, 38, 39, 40, 41, 42, 43, 44, 92, 93, 94, 95, 96, 97, 98, 99, 100, 101, 102, 103] rfl (by decide +kernel)
set_option maxRecDepth 20000 in
theorem gX6_come_X5_copyFrom : GoodIn wsX6_come (wsV RX6 95 RX5 yX5_copyFrom wsX5_copyFrom) := goodIn_app (goodIn_of _ (by decide +kernel)) ggX6_come_X5_copyFrom
set_option maxRecDepth 20000 in
theorem ggX6_come_X6_put : GoodIn wsX6_come wsX6_put := goodIn_r _ [47] rfl (by decide +kernel)
set_option maxRecDepth 20000 in
theorem gX6_come_X6_put : GoodIn wsX6_come (va_wsS RX6 102 yX6_put wsX6_put) := goodIn_app (goodIn_of _ (by decide +kernel)) ggX6_come_X6_put
set_option maxRecDepth 20000 in
theorem ggX6_come_X5_hasVetoedDish : GoodIn wsX6_come wsX5_hasVetoedDish := goodIn_r _ [51, 34, 52, 18, 53, 54, 55, 56, 13, 57, 27, 58, 59, 60, 61, 15, 32, 62, 63, 64, 65, 31, 92, 93, 94, 95, 96, 97, 98, 99, 100, 101, 102, 103] rfl (by decide +kernel)
set_option maxRecDepth 20000 in
theorem gX6_come_X5_hasVetoedDish : GoodIn wsX6_come (wsV RX6 141 RX5 yX5_hasVetoedDish wsX5_hasVetoedDish) := goodIn_app (goodIn_of _ (by decide +kernel)) ggX6_come_X5_hasVetoedDish
set_option maxRecDepth 20000 in
theorem ggX6_come_X6_at : GoodIn wsX6_come wsX6_at := goodIn_r _ [53] rfl (by decide +kernel)
set_option maxRecDepth 20000 in
theorem gX6_come_X6_at : GoodIn wsX6_come (va_wsS RX6 115 yX6_at wsX6_at) := goodIn_app (goodIn_of _ (by decide +kernel)) ggX6_come_X6_at
set_option maxRecDepth 20000 in
theorem ggX6_come_X6_takeOverTrial : GoodIn wsX6_come wsX6_takeOverTrial := goodIn_r _ [70, 71, 7, 8, 72, 73, 74, 75, 76, 77, 78, 79, 80, 81, 82, 83, 84, 21, 22, 13, 23, 24, 25, 26, 27, 28, 29, 30, 15, 31, 32, 33, 34, 35, 18, 36, 37, 38, 39, 40, 41, 42, 43, 44, 20, 85, 86, 87, 88, 89, 90, 91, 104, 105, 106, 92, 93, 94, 95, 96, 97, 98, 99, 100, 101, 102, 103] rfl (by decide +kernel)
set_option maxRecDepth 20000 in
theorem gX6_come_X6_takeOverTrial : GoodIn wsX6_come (wsV RX6 119 RX6 yX6_takeOverTrial wsX6_takeOverTrial) := goodIn_app (goodIn_of _ (by decide +kernel)) ggX6_come_X6_takeOverTrial
theorem dX6_come_0 : decode cX6_come 0 = .ok (.aload_n 0, 1) := by decide +kernel
theorem dX6_come_1 : decode cX6_come 1 = .ok (.getfield 10, 3) := by decide +kernel
theorem dX6_come_4 : decode cX6_come 4 = .ok (.iload_n 1, 1) := by decide +kernel
theorem dX6_come_5 : decode cX6_come 5 = .ok (.invokevirtual 131, 3) := by decide +kernel
theorem dX6_come_8 : decode cX6_come 8 = .ok (.ifCond .ne 13, 3) := by decide +kernel
theorem dX6_come_11 : decode cX6_come 11 = .ok (.new 88, 3) := by decide +kernel
theorem dX6_come_14 : decode cX6_come 14 = .ok (.dup, 1) := by decide +kernel
theorem dX6_come_15 : decode cX6_come 15 = .ok (.ldc 134, 2) := by decide +kernel
theorem dX6_come_17 : decode cX6_come 17 = .ok (.invokespecial 92, 3) := by decide +kernel
theorem dX6_come_20 : decode cX6_come 20 = .ok (.athrow, 1) := by decide +kernel
theorem dX6_come_21 : decode cX6_come 21 = .ok (.iload_n 2, 1) := by decide +kernel
theorem dX6_come_22 : decode cX6_come 22 = .ok (.iconst 0, 1) := by decide +kernel
theorem dX6_come_23 : decode cX6_come 23 = .ok (.bipush 127, 2) := by decide +kernel
theorem dX6_come_25 : decode cX6_come 25 = .ok (.invokestatic 56, 3) := by decide +kernel
theorem dX6_come_28 : decode cX6_come 28 = .ok (.ifCond .ne 13, 3) := by decide +kernel
theorem dX6_come_31 : decode cX6_come 31 = .ok (.new 60, 3) := by decide +kernel
theorem dX6_come_34 : decode cX6_come 34 = .ok (.dup, 1) := by decide +kernel
theorem dX6_come_35 : decode cX6_come 35 = .ok (.ldc 136, 2) := by decide +kernel
theorem dX6_come_37 : decode cX6_come 37 = .ok (.invokespecial 64, 3) := by decide +kernel
theorem dX6_come_40 : decode cX6_come 40 = .ok (.athrow, 1) := by decide +kernel
theorem dX6_come_41 : decode cX6_come 41 = .ok (.aload_n 0, 1) := by decide +kernel
theorem dX6_come_42 : decode cX6_come 42 = .ok (.getfield 16, 3) := by decide +kernel
theorem dX6_come_45 : decode cX6_come 45 = .ok (.aload_n 0, 1) := by decide +kernel
theorem dX6_come_46 : decode cX6_come 46 = .ok (.getfield 10, 3) := by decide +kernel
theorem dX6_come_49 : decode cX6_come 49 = .ok (.invokevirtual 95, 3) := by decide +kernel
theorem dX6_come_52 : decode cX6_come 52 = .ok (.aload_n 0, 1) := by decide +kernel
theorem dX6_come_53 : decode cX6_come 53 = .ok (.getfield 16, 3) := by decide +kernel
theorem dX6_come_56 : decode cX6_come 56 = .ok (.getfield 138, 3) := by decide +kernel
theorem dX6_come_59 : decode cX6_come 59 = .ok (.iload_n 1, 1) := by decide +kernel
theorem dX6_come_60 : decode cX6_come 60 = .ok (.iload_n 2, 1) := by decide +kernel
theorem dX6_come_61 : decode cX6_come 61 = .ok (.invokestatic 102, 3) := by decide +kernel
theorem dX6_come_64 : decode cX6_come 64 = .ok (.aload_n 0, 1) := by decide +kernel
theorem dX6_come_65 : decode cX6_come 65 = .ok (.getfield 16, 3) := by decide +kernel
theorem dX6_come_68 : decode cX6_come 68 = .ok (.invokevirtual 141, 3) := by decide +kernel
theorem dX6_come_71 : decode cX6_come 71 = .ok (.ifCond .eq 13, 3) := by decide +kernel
theorem dX6_come_74 : decode cX6_come 74 = .ok (.new 71, 3) := by decide +kernel
theorem dX6_come_77 : decode cX6_come 77 = .ok (.dup, 1) := by decide +kernel
theorem dX6_come_78 : decode cX6_come 78 = .ok (.ldc 145, 2) := by decide +kernel
theorem dX6_come_80 : decode cX6_come 80 = .ok (.invokespecial 75, 3) := by decide +kernel
theorem dX6_come_83 : decode cX6_come 83 = .ok (.athrow, 1) := by decide +kernel
theorem dX6_come_84 : decode cX6_come 84 = .ok (.aload_n 0, 1) := by decide +kernel
theorem dX6_come_85 : decode cX6_come 85 = .ok (.getfield 10, 3) := by decide +kernel
theorem dX6_come_88 : decode cX6_come 88 = .ok (.getfield 138, 3) := by decide +kernel
theorem dX6_come_91 : decode cX6_come 91 = .ok (.iload_n 1, 1) := by decide +kernel
theorem dX6_come_92 : decode cX6_come 92 = .ok (.invokestatic 115, 3) := by decide +kernel
theorem dX6_come_95 : decode cX6_come 95 = .ok (.istore_n 3, 1) := by decide +kernel
theorem dX6_come_96 : decode cX6_come 96 = .ok (.aload_n 0, 1) := by decide +kernel
theorem dX6_come_97 : decode cX6_come 97 = .ok (.invokevirtual 119, 3) := by decide +kernel
theorem dX6_come_100 : decode cX6_come 100 = .ok (.iload_n 3, 1) := by decide +kernel
theorem dX6_come_101 : decode cX6_come 101 = .ok (.ireturn, 1) := by decide +kernel
set_option maxRecDepth 20000 in
theorem ggX6_veto_X5_hasGuest : GoodIn wsX6_veto wsX5_hasGuest := goodIn_r _ [14, 15, 92, 93, 94, 95, 96, 97, 98, 99, 100, 101, 102, 103] rfl (by decide +kernel)
set_option maxRecDepth 20000 in
theorem gX6_veto_X5_hasGuest : GoodIn wsX6_veto (wsV RX6 131 RX5 yX5_hasGuest wsX5_hasGuest) := goodIn_app (goodIn_of _ (by decide +kernel)) ggX6_veto_X5_hasGuest
set_option maxRecDepth 20000 in
theorem ggX6_veto_X6_isWithin : GoodIn wsX6_veto wsX6_isWithin := goodIn_r _ [19] rfl (by decide +kernel)
set_option maxRecDepth 20000 in
theorem gX6_veto_X6_isWithin : GoodIn wsX6_veto (va_wsS RX6 56 yX6_isWithin wsX6_isWithin) := goodIn_app (goodIn_of _ (by decide +kernel)) ggX6_veto_X6_isWithin
set_option maxRecDepth 20000 in
theorem ggX6_veto_X5_copyFrom : GoodIn wsX6_veto wsX5_copyFrom := goodIn_r _ [23, 24, 25, 26, 27, 28, 29, 30, 15, 31, 32, 33, 34, 35, 18, 36, 37, 38, 39, 40, 41, 42, 43, 44, 92, 93, 94, 95, 96, 97, 98, 99, 100, 101, 102, 103] rfl (by decide +kernel)
set_option maxRecDepth 20000 in
theorem gX6_veto_X5_copyFrom : GoodIn wsX6_veto (wsV RX6 95 RX5 yX5_copyFrom wsX5_copyFrom) := goodIn_app (goodIn_of _ (by decide +kernel)) ggX6_veto_X5_copyFrom
set_option maxRecDepth 20000 in
theorem ggX6_veto_X6_put : GoodIn wsX6_veto wsX6_put := goodIn_r _ [47] rfl (by decide +kernel)
set_option maxRecDepth 20000 in
theorem gX6_veto_X6_put : GoodIn wsX6_veto (va_wsS RX6 102 yX6_put wsX6_put) := goodIn_app (goodIn_of _ (by decide +kernel)) ggX6_veto_X6_put
set_option maxRecDepth 20000 in
theorem ggX6_veto_X5_hasVetoedDish : GoodIn wsX6_veto wsX5_hasVetoedDish := goodIn_r _ [51, 34, 52, 18, 53, 54, 55, 56, 13, 57, 27, 58, 59, 60, 61, 15, 32, 62, 63, 64, 65, 31, 92, 93, 94, 95, 96, 97, 98, 99, 100, 101, 102, 103] rfl (by decide +kernel)
set_option maxRecDepth 20000 in
theorem gX6_veto_X5_hasVetoedDish : GoodIn wsX6_veto (wsV RX6 141 RX5 yX5_hasVetoedDish wsX5_hasVetoedDish) := goodIn_app (goodIn_of _ (by decide +kernel)) ggX6_veto_X5_hasVetoedDish
set_option maxRecDepth 20000 in
theorem ggX6_veto_X6_at : GoodIn wsX6_veto wsX6_at := goodIn_r _ [53] rfl (by decide +kernel)
set_option maxRecDepth 20000 in
theorem gX6_veto_X6_at : GoodIn wsX6_veto (va_wsS RX6 115 yX6_at wsX6_at) := goodIn_app (goodIn_of _ (by decide +kernel)) ggX6_veto_X6_at
set_option maxRecDepth 20000 in
theorem ggX6_veto_X6_takeOverTrial : GoodIn wsX6_veto wsX6_takeOverTrial := goodIn_r _ [70, 71, 7, 8, 72, 73, 74, 75, 76, 77, 78, 79, 80, 81, 82, 83, 84, 21, 22, 13, 23, 24, 25, 26, 27, 28, 29, 30, 15, 31, 32, 33, 34, 35, 18, 36, 37, 38, 39, 40, 41, 42, 43, 44, 20, 85, 86, 87, 88, 89, 90, 91, 104, 105, 106, 92, 93, 94, 95, 96, 97, 98, 99, 100, 101, 102, 103] rfl (by decide +kernel)
set_option maxRecDepth 20000 in
theorem gX6_veto_X6_takeOverTrial : GoodIn wsX6_veto (wsV RX6 119 RX6 yX6_takeOverTrial wsX6_takeOverTrial) := goodIn_app (goodIn_of _ (by decide +kernel)) ggX6_veto_X6_takeOverTrial
theorem dX6_veto_0 : decode cX6_veto 0 = .ok (.aload_n 0, 1) := by decide +kernel
theorem dX6_veto_1 : decode cX6_veto 1 = .ok (.getfield 10, 3) := by decide +kernel
theorem dX6_veto_4 : decode cX6_veto 4 = .ok (.iload_n 1, 1) := by decide +kernel
theorem dX6_veto_5 : decode cX6_veto 5 = .ok (.invokevirtual 131, 3) := by decide +kernel
theorem dX6_veto_8 : decode cX6_veto 8 = .ok (.ifCond .ne 13, 3) := by decide +kernel
theorem dX6_veto_11 : decode cX6_veto 11 = .ok (.new 88, 3) := by decide +kernel
theorem dX6_veto_14 : decode cX6_veto 14 = .ok (.dup, 1) := by decide +kernel
theorem dX6_veto_15 : decode cX6_veto 15 = .ok (.ldc 134, 2) := by decide +kernel
theorem dX6_veto_17 : decode cX6_veto 17 = .ok (.invokespecial 92, 3) := by decide +kernel
theorem dX6_veto_20 : decode cX6_veto 20 = .ok (.athrow, 1) := by decide +kernel
theorem dX6_veto_21 : decode cX6_veto 21 = .ok (.iload_n 2, 1) := by decide +kernel
theorem dX6_veto_22 : decode cX6_veto 22 = .ok (.iconst 0, 1) := by decide +kernel
theorem dX6_veto_23 : decode cX6_veto 23 = .ok (.bipush 63, 2) := by decide +kernel
theorem dX6_veto_25 : decode cX6_veto 25 = .ok (.invokestatic 56, 3) := by decide +kernel
theorem dX6_veto_28 : decode cX6_veto 28 = .ok (.ifCond .ne 13, 3) := by decide +kernel
theorem dX6_veto_31 : decode cX6_veto 31 = .ok (.new 60, 3) := by decide +kernel
theorem dX6_veto_34 : decode cX6_veto 34 = .ok (.dup, 1) := by decide +kernel
theorem dX6_veto_35 : decode cX6_veto 35 = .ok (.ldc 147, 2) := by decide +kernel
theorem dX6_veto_37 : decode cX6_veto 37 = .ok (.invokespecial 64, 3) := by decide +kernel
theorem dX6_veto_40 : decode cX6_veto 40 = .ok (.athrow, 1) := by decide +kernel
theorem dX6_veto_41 : decode cX6_veto 41 = .ok (.aload_n 0, 1) := by decide +kernel
theorem dX6_veto_42 : decode cX6_veto 42 = .ok (.getfield 16, 3) := by decide +kernel
theorem dX6_veto_45 : decode cX6_veto 45 = .ok (.aload_n 0, 1) := by decide +kernel
theorem dX6_veto_46 : decode cX6_veto 46 = .ok (.getfield 10, 3) := by decide +kernel
theorem dX6_veto_49 : decode cX6_veto 49 = .ok (.invokevirtual 95, 3) := by decide +kernel
theorem dX6_veto_52 : decode cX6_veto 52 = .ok (.aload_n 0, 1) := by decide +kernel
theorem dX6_veto_53 : decode cX6_veto 53 = .ok (.getfield 16, 3) := by decide +kernel
theorem dX6_veto_56 : decode cX6_veto 56 = .ok (.getfield 149, 3) := by decide +kernel
theorem dX6_veto_59 : decode cX6_veto 59 = .ok (.iload_n 1, 1) := by decide +kernel
theorem dX6_veto_60 : decode cX6_veto 60 = .ok (.iload_n 2, 1) := by decide +kernel
theorem dX6_veto_61 : decode cX6_veto 61 = .ok (.invokestatic 102, 3) := by decide +kernel
theorem dX6_veto_64 : decode cX6_veto 64 = .ok (.aload_n 0, 1) := by decide +kernel
theorem dX6_veto_65 : decode cX6_veto 65 = .ok (.getfield 16, 3) := by decide +kernel
theorem dX6_veto_68 : decode cX6_veto 68 = .ok (.invokevirtual 141, 3) := by decide +kernel
theorem dX6_veto_71 : decode cX6_veto 71 = .ok (.ifCond .eq 13, 3) := by decide +kernel
theorem dX6_veto_74 : decode cX6_veto 74 = .ok (.new 71, 3) := by decide +kernel
theorem dX6_veto_77 : decode cX6_veto 77 = .ok (.dup, 1) := by decide +kernel
theorem dX6_veto_78 : decode cX6_veto 78 = .ok (.ldc 145, 2) := by decide +kernel
theorem dX6_veto_80 : decode cX6_veto 80 = .ok (.invokespecial 75, 3) := by decide +kernel
theorem dX6_veto_83 : decode cX6_veto 83 = .ok (.athrow, 1) := by decide +kernel
theorem dX6_veto_84 : decode cX6_veto 84 = .ok (.aload_n 0, 1) := by decide +kernel
theorem dX6_veto_85 : decode cX6_veto 85 = .ok (.getfield 10, 3) := by decide +kernel
theorem dX6_veto_88 : decode cX6_veto 88 = .ok (.getfield 149, 3) := by decide +kernel
theorem dX6_veto_91 : decode cX6_veto 91 = .ok (.iload_n 1, 1) := by decide +kernel
theorem dX6_veto_92 : decode cX6_veto 92 = .ok (.invokestatic 115, 3) := by decide +kernel
theorem dX6_veto_95 : decode cX6_veto 95 = .ok (.istore_n 3, 1) := by decide +kernel
theorem dX6_veto_96 : decode cX6_veto 96 = .ok (.aload_n 0, 1) := by decide +kernel
theorem dX6_veto_97 : decode cX6_veto 97 = .ok (.invokevirtual 119, 3) := by decide +kernel
theorem dX6_veto_100 : decode cX6_veto 100 = .ok (.iload_n 3, 1) := by decide +kernel
theorem dX6_veto_101 : decode cX6_veto 101 = .ok (.ireturn, 1) := by decide +kernel
set_option maxRecDepth 20000 in
theorem ggX6_set_X6_isWithin : GoodIn wsX6_set wsX6_isWithin := goodIn_r _ [13] rfl (by decide +kernel)
set_option maxRecDepth 20000 in
theorem gX6_set_X6_isWithin : GoodIn wsX6_set (va_wsS RX6 56 yX6_isWithin wsX6_isWithin) := goodIn_app (goodIn_of _ (by decide +kernel)) ggX6_set_X6_isWithin
set_option maxRecDepth 20000 in
theorem ggX6_set_X6_leastValue : GoodIn wsX6_set wsX6_leastValue := goodIn_r _ [16] rfl (by decide +kernel)
set_option maxRecDepth 20000 in
theorem gX6_set_X6_leastValue : GoodIn wsX6_set (va_wsS RX6 154 yX6_leastValue wsX6_leastValue) := goodIn_app (goodIn_of _ (by decide +kernel)) ggX6_set_X6_leastValue
set_option maxRecDepth 20000 in
theorem ggX6_set_X6_greatestValue : GoodIn wsX6_set wsX6_greatestValue := goodIn_r _ [19] rfl (by decide +kernel)
set_option maxRecDepth 20000 in
theorem gX6_set_X6_greatestValue : GoodIn wsX6_set (va_wsS RX6 158 yX6_greatestValue wsX6_greatestValue) := goodIn_app (goodIn_of _ (by decide +kernel)) ggX6_set_X6_greatestValue
set_option maxRecDepth 20000 in
theorem ggX6_set_X5_copyFrom : GoodIn wsX6_set wsX5_copyFrom := goodIn_r _ [24, 25, 26, 27, 28, 29, 30, 31, 32, 33, 34, 35, 36, 37, 12, 38, 39, 40, 41, 42, 43, 44, 45, 46, 92, 93, 94, 95, 96, 97, 98, 99, 100, 101, 102, 103] rfl (by decide +kernel)
set_option maxRecDepth 20000 in
theorem gX6_set_X5_copyFrom : GoodIn wsX6_set (wsV RX6 95 RX5 yX5_copyFrom wsX5_copyFrom) := goodIn_app (goodIn_of _ (by decide +kernel)) ggX6_set_X5_copyFrom
set_option maxRecDepth 20000 in
theorem ggX6_set_X6_put : GoodIn wsX6_set wsX6_put := goodIn_r _ [49] rfl (by decide +kernel)
set_option maxRecDepth 20000 in
theorem gX6_set_X6_put : GoodIn wsX6_set (va_wsS RX6 102 yX6_put wsX6_put) := goodIn_app (goodIn_of _ (by decide +kernel)) ggX6_set_X6_put
set_option maxRecDepth 20000 in
theorem ggX6_set_X5_isAboveBudget : GoodIn wsX6_set wsX5_isAboveBudget := goodIn_r _ [53, 35, 54, 55, 56, 23, 57, 58, 59, 60, 61, 36, 27, 62, 12, 63, 64, 65, 92, 93, 94, 95, 96, 97, 98, 99, 100, 101, 102, 103] rfl (by decide +kernel)
set_option maxRecDepth 20000 in
theorem gX6_set_X5_isAboveBudget : GoodIn wsX6_set (wsV RX6 166 RX5 yX5_isAboveBudget wsX5_isAboveBudget) := goodIn_app (goodIn_of _ (by decide +kernel)) ggX6_set_X5_isAboveBudget
set_option maxRecDepth 20000 in
theorem ggX6_set_X6_at : GoodIn wsX6_set wsX6_at := goodIn_r _ [65] rfl (by decide +kernel)
set_option maxRecDepth 20000 in
theorem gX6_set_X6_at : GoodIn wsX6_set (va_wsS RX6 115 yX6_at wsX6_at) := goodIn_app (goodIn_of _ (by decide +kernel)) ggX6_set_X6_at
set_option maxRecDepth 20000 in
theorem ggX6_set_X6_takeOverTrial : GoodIn wsX6_set wsX6_takeOverTrial := goodIn_r _ [70, 71, 8, 7, 72, 73, 74, 75, 76, 77, 78, 79, 80, 81, 82, 83, 84, 21, 22, 23, 24, 25, 26, 27, 28, 29, 30, 31, 32, 33, 34, 35, 36, 37, 12, 38, 39, 40, 41, 42, 43, 44, 45, 46, 20, 85, 86, 87, 88, 89, 90, 91, 104, 105, 106, 92, 93, 94, 95, 96, 97, 98, 99, 100, 101, 102, 103] rfl (by decide +kernel)
set_option maxRecDepth 20000 in
theorem gX6_set_X6_takeOverTrial : GoodIn wsX6_set (wsV RX6 119 RX6 yX6_takeOverTrial wsX6_takeOverTrial) := goodIn_app (goodIn_of _ (by decide +kernel)) ggX6_set_X6_takeOverTrial
theorem dX6_set_0 : decode cX6_set 0 = .ok (.iload_n 1, 1) := by decide +kernel
theorem dX6_set_1 : decode cX6_set 1 = .ok (.iconst 0, 1) := by decide +kernel
theorem dX6_set_2 : decode cX6_set 2 = .ok (.iconst 2, 1) := by decide +kernel
theorem dX6_set_3 : decode cX6_set 3 = .ok (.invokestatic 56, 3) := by decide +kernel
theorem dX6_set_6 : decode cX6_set 6 = .ok (.ifCond .ne 13, 3) := by decide +kernel
theorem dX6_set_9 : decode cX6_set 9 = .ok (.new 88, 3) := by decide +kernel
theorem dX6_set_12 : decode cX6_set 12 = .ok (.dup, 1) := by decide +kernel
theorem dX6_set_13 : decode cX6_set 13 = .ok (.ldc 152, 2) := by decide +kernel
theorem dX6_set_15 : decode cX6_set 15 = .ok (.invokespecial 92, 3) := by decide +kernel
theorem dX6_set_18 : decode cX6_set 18 = .ok (.athrow, 1) := by decide +kernel
theorem dX6_set_19 : decode cX6_set 19 = .ok (.iload_n 2, 1) := by decide +kernel
theorem dX6_set_20 : decode cX6_set 20 = .ok (.iload_n 1, 1) := by decide +kernel
theorem dX6_set_21 : decode cX6_set 21 = .ok (.invokestatic 154, 3) := by decide +kernel
theorem dX6_set_24 : decode cX6_set 24 = .ok (.iload_n 1, 1) := by decide +kernel
theorem dX6_set_25 : decode cX6_set 25 = .ok (.invokestatic 158, 3) := by decide +kernel
theorem dX6_set_28 : decode cX6_set 28 = .ok (.invokestatic 56, 3) := by decide +kernel
theorem dX6_set_31 : decode cX6_set 31 = .ok (.ifCond .ne 13, 3) := by decide +kernel
theorem dX6_set_34 : decode cX6_set 34 = .ok (.new 60, 3) := by decide +kernel
theorem dX6_set_37 : decode cX6_set 37 = .ok (.dup, 1) := by decide +kernel
theorem dX6_set_38 : decode cX6_set 38 = .ok (.ldc 161, 2) := by decide +kernel
theorem dX6_set_40 : decode cX6_set 40 = .ok (.invokespecial 64, 3) := by decide +kernel
theorem dX6_set_43 : decode cX6_set 43 = .ok (.athrow, 1) := by decide +kernel
theorem dX6_set_44 : decode cX6_set 44 = .ok (.aload_n 0, 1) := by decide +kernel
theorem dX6_set_45 : decode cX6_set 45 = .ok (.getfield 16, 3) := by decide +kernel
theorem dX6_set_48 : decode cX6_set 48 = .ok (.aload_n 0, 1) := by decide +kernel
theorem dX6_set_49 : decode cX6_set 49 = .ok (.getfield 10, 3) := by decide +kernel
theorem dX6_set_52 : decode cX6_set 52 = .ok (.invokevirtual 95, 3) := by decide +kernel
theorem dX6_set_55 : decode cX6_set 55 = .ok (.aload_n 0, 1) := by decide +kernel
theorem dX6_set_56 : decode cX6_set 56 = .ok (.getfield 16, 3) := by decide +kernel
theorem dX6_set_59 : decode cX6_set 59 = .ok (.getfield 163, 3) := by decide +kernel
theorem dX6_set_62 : decode cX6_set 62 = .ok (.iload_n 1, 1) := by decide +kernel
theorem dX6_set_63 : decode cX6_set 63 = .ok (.iload_n 2, 1) := by decide +kernel
theorem dX6_set_64 : decode cX6_set 64 = .ok (.invokestatic 102, 3) := by decide +kernel
theorem dX6_set_67 : decode cX6_set 67 = .ok (.aload_n 0, 1) := by decide +kernel
theorem dX6_set_68 : decode cX6_set 68 = .ok (.getfield 16, 3) := by decide +kernel
theorem dX6_set_71 : decode cX6_set 71 = .ok (.invokevirtual 166, 3) := by decide +kernel
theorem dX6_set_74 : decode cX6_set 74 = .ok (.ifCond .eq 13, 3) := by decide +kernel
theorem dX6_set_77 : decode cX6_set 77 = .ok (.new 71, 3) := by decide +kernel
theorem dX6_set_80 : decode cX6_set 80 = .ok (.dup, 1) := by decide +kernel
theorem dX6_set_81 : decode cX6_set 81 = .ok (.ldc 169, 2) := by decide +kernel
theorem dX6_set_83 : decode cX6_set 83 = .ok (.invokespecial 75, 3) := by decide +kernel
theorem dX6_set_86 : decode cX6_set 86 = .ok (.athrow, 1) := by decide +kernel
theorem dX6_set_87 : decode cX6_set 87 = .ok (.aload_n 0, 1) := by decide +kernel
theorem dX6_set_88 : decode cX6_set 88 = .ok (.getfield 10, 3) := by decide +kernel
theorem dX6_set_91 : decode cX6_set 91 = .ok (.getfield 163, 3) := by decide +kernel
theorem dX6_set_94 : decode cX6_set 94 = .ok (.iload_n 1, 1) := by decide +kernel
theorem dX6_set_95 : decode cX6_set 95 = .ok (.invokestatic 115, 3) := by decide +kernel
theorem dX6_set_98 : decode cX6_set 98 = .ok (.istore_n 3, 1) := by decide +kernel
theorem dX6_set_99 : decode cX6_set 99 = .ok (.aload_n 0, 1) := by decide +kernel
theorem dX6_set_100 : decode cX6_set 100 = .ok (.invokevirtual 119, 3) := by decide +kernel
theorem dX6_set_103 : decode cX6_set 103 = .ok (.iload_n 3, 1) := by decide +kernel
theorem dX6_set_104 : decode cX6_set 104 = .ok (.ireturn, 1) := by decide +kernel
set_option maxRecDepth 20000 in
theorem ggX6_serve_X6_isDay : GoodIn wsX6_serve wsX6_isDay := goodIn_r _ [13] rfl (by decide +kernel)
set_option maxRecDepth 20000 in
theorem gX6_serve_X6_isDay : GoodIn wsX6_serve (va_wsS RX6 171 yX6_isDay wsX6_isDay) := goodIn_app (goodIn_of _ (by decide +kernel)) ggX6_serve_X6_isDay
set_option maxRecDepth 20000 in
theorem ggX6_serve_X5_hasDish : GoodIn wsX6_serve wsX5_hasDish := goodIn_r _ [18, 19, 153, 154, 155, 156, 157, 158, 159, 160, 161, 162, 163, 164] rfl (by decide +kernel)
set_option maxRecDepth 20000 in
theorem gX6_serve_X5_hasDish : GoodIn wsX6_serve (wsV RX6 84 RX5 yX5_hasDish wsX5_hasDish) := goodIn_app (goodIn_of _ (by decide +kernel)) ggX6_serve_X5_hasDish
set_option maxRecDepth 20000 in
theorem ggX6_serve_X6_at : GoodIn wsX6_serve wsX6_at := goodIn_r _ [22] rfl (by decide +kernel)
set_option maxRecDepth 20000 in
theorem gX6_serve_X6_at : GoodIn wsX6_serve (va_wsS RX6 115 yX6_at wsX6_at) := goodIn_app (goodIn_of _ (by decide +kernel)) ggX6_serve_X6_at
set_option maxRecDepth 20000 in
theorem ggX6_serve_X2_reasonAgainst : GoodIn wsX6_serve wsX2_reasonAgainst := goodIn_r _ [27, 28, 29, 30, 31, 32, 33, 34, 12, 35, 21, 22, 36, 37, 38, 17, 39, 40, 41, 42, 43, 44, 45, 46, 47, 48, 49, 50, 51, 52, 53, 54, 55, 56, 57, 58, 59, 60, 61, 62, 63, 64, 65, 66, 67, 68, 69, 70, 71, 19, 72, 73, 74, 75, 76, 77, 78, 79, 80, 81, 82, 83, 84, 85, 86, 87, 88, 89, 90, 91, 92, 93, 94, 95, 96, 97, 98, 99, 165, 166, 153, 154, 155, 156, 157, 158, 159, 160, 161, 162, 163, 164, 167, 168] rfl (by decide +kernel)
set_option maxRecDepth 20000 in
theorem gX6_serve_X2_reasonAgainst : GoodIn wsX6_serve (wsV RX6 179 RX2 yX2_reasonAgainst wsX2_reasonAgainst) := goodIn_app (goodIn_of _ (by decide +kernel)) ggX6_serve_X2_reasonAgainst
set_option maxRecDepth 20000 in
theorem ggX6_serve_X0_save : GoodIn wsX6_serve wsX0_save := goodIn_r _ [104, 105, 106, 107, 108, 109, 103, 110, 111, 112, 113, 114, 17, 115, 19, 116, 61, 40, 117, 72, 118, 45, 51, 46, 119, 60, 120, 12, 121, 122, 123, 96, 124, 125, 126, 127, 128, 169, 170, 171, 153, 154, 155, 156, 157, 158, 159, 160, 161, 162, 163, 164] rfl (by decide +kernel)
set_option maxRecDepth 20000 in
theorem gX6_serve_X0_save : GoodIn wsX6_serve (wsV RX6 76 RX0 yX0_save wsX0_save) := goodIn_app (goodIn_of _ (by decide +kernel)) ggX6_serve_X0_save
set_option maxRecDepth 20000 in
theorem ggX6_serve_X6_cellOf : GoodIn wsX6_serve wsX6_cellOf := goodIn_r _ [35] rfl (by decide +kernel)
set_option maxRecDepth 20000 in
theorem gX6_serve_X6_cellOf : GoodIn wsX6_serve (va_wsS RX6 188 yX6_cellOf wsX6_cellOf) := goodIn_app (goodIn_of _ (by decide +kernel)) ggX6_serve_X6_cellOf
set_option maxRecDepth 20000 in
theorem ggX6_serve_X6_put : GoodIn wsX6_serve wsX6_put := goodIn_r _ [84] rfl (by decide +kernel)
set_option maxRecDepth 20000 in
theorem gX6_serve_X6_put : GoodIn wsX6_serve (va_wsS RX6 102 yX6_put wsX6_put) := goodIn_app (goodIn_of _ (by decide +kernel)) ggX6_serve_X6_put
set_option maxRecDepth 20000 in
theorem ggX6_serve_X2_joyOfDish : GoodIn wsX6_serve wsX2_joyOfDish := goodIn_r _ [134, 135, 136, 137, 26, 138, 28, 139, 32, 140, 95, 96, 97, 29, 21, 12, 22, 34, 35, 141, 142, 143, 144, 145, 165, 166, 153, 154, 155, 156, 157, 158, 159, 160, 161, 162, 163, 164] rfl (by decide +kernel)
set_option maxRecDepth 20000 in
theorem gX6_serve_X2_joyOfDish : GoodIn wsX6_serve (wsV RX6 192 RX2 yX2_joyOfDish wsX2_joyOfDish) := goodIn_app (goodIn_of _ (by decide +kernel)) ggX6_serve_X2_joyOfDish
theorem dX6_serve_0 : decode cX6_serve 0 = .ok (.iload_n 1, 1) := by decide +kernel
theorem dX6_serve_1 : decode cX6_serve 1 = .ok (.invokestatic 171, 3) := by decide +kernel
theorem dX6_serve_4 : decode cX6_serve 4 = .ok (.ifCond .eq 14, 3) := by decide +kernel
theorem dX6_serve_7 : decode cX6_serve 7 = .ok (.aload_n 0, 1) := by decide +kernel
theorem dX6_serve_8 : decode cX6_serve 8 = .ok (.getfield 10, 3) := by decide +kernel
theorem dX6_serve_11 : decode cX6_serve 11 = .ok (.iload_n 2, 1) := by decide +kernel
theorem dX6_serve_12 : decode cX6_serve 12 = .ok (.invokevirtual 84, 3) := by decide +kernel
theorem dX6_serve_15 : decode cX6_serve 15 = .ok (.ifCond .ne 13, 3) := by decide +kernel
theorem dX6_serve_18 : decode cX6_serve 18 = .ok (.new 88, 3) := by decide +kernel
theorem dX6_serve_21 : decode cX6_serve 21 = .ok (.dup, 1) := by decide +kernel
theorem dX6_serve_22 : decode cX6_serve 22 = .ok (.ldc 174, 2) := by decide +kernel
theorem dX6_serve_24 : decode cX6_serve 24 = .ok (.invokespecial 92, 3) := by decide +kernel
theorem dX6_serve_27 : decode cX6_serve 27 = .ok (.athrow, 1) := by decide +kernel
theorem dX6_serve_28 : decode cX6_serve 28 = .ok (.aload_n 0, 1) := by decide +kernel
theorem dX6_serve_29 : decode cX6_serve 29 = .ok (.getfield 10, 3) := by decide +kernel
theorem dX6_serve_32 : decode cX6_serve 32 = .ok (.getfield 176, 3) := by decide +kernel
theorem dX6_serve_35 : decode cX6_serve 35 = .ok (.iload_n 2, 1) := by decide +kernel
theorem dX6_serve_36 : decode cX6_serve 36 = .ok (.invokestatic 115, 3) := by decide +kernel
theorem dX6_serve_39 : decode cX6_serve 39 = .ok (.istore_n 3, 1) := by decide +kernel
theorem dX6_serve_40 : decode cX6_serve 40 = .ok (.aload_n 0, 1) := by decide +kernel
theorem dX6_serve_41 : decode cX6_serve 41 = .ok (.getfield 31, 3) := by decide +kernel
theorem dX6_serve_44 : decode cX6_serve 44 = .ok (.iload_n 1, 1) := by decide +kernel
theorem dX6_serve_45 : decode cX6_serve 45 = .ok (.iload_n 3, 1) := by decide +kernel
theorem dX6_serve_46 : decode cX6_serve 46 = .ok (.iload_n 2, 1) := by decide +kernel
theorem dX6_serve_47 : decode cX6_serve 47 = .ok (.invokevirtual 179, 3) := by decide +kernel
theorem dX6_serve_50 : decode cX6_serve 50 = .ok (.ifCond .eq 13, 3) := by decide +kernel
theorem dX6_serve_53 : decode cX6_serve 53 = .ok (.new 71, 3) := by decide +kernel
theorem dX6_serve_56 : decode cX6_serve 56 = .ok (.dup, 1) := by decide +kernel
theorem dX6_serve_57 : decode cX6_serve 57 = .ok (.ldc 183, 2) := by decide +kernel
theorem dX6_serve_59 : decode cX6_serve 59 = .ok (.invokespecial 75, 3) := by decide +kernel
theorem dX6_serve_62 : decode cX6_serve 62 = .ok (.athrow, 1) := by decide +kernel
theorem dX6_serve_63 : decode cX6_serve 63 = .ok (.aload_n 0, 1) := by decide +kernel
theorem dX6_serve_64 : decode cX6_serve 64 = .ok (.getfield 38, 3) := by decide +kernel
theorem dX6_serve_67 : decode cX6_serve 67 = .ok (.aload_n 0, 1) := by decide +kernel
theorem dX6_serve_68 : decode cX6_serve 68 = .ok (.getfield 10, 3) := by decide +kernel
theorem dX6_serve_71 : decode cX6_serve 71 = .ok (.invokevirtual 76, 3) := by decide +kernel
theorem dX6_serve_74 : decode cX6_serve 74 = .ok (.aload_n 0, 1) := by decide +kernel
theorem dX6_serve_75 : decode cX6_serve 75 = .ok (.getfield 10, 3) := by decide +kernel
theorem dX6_serve_78 : decode cX6_serve 78 = .ok (.getfield 185, 3) := by decide +kernel
theorem dX6_serve_81 : decode cX6_serve 81 = .ok (.iload_n 1, 1) := by decide +kernel
theorem dX6_serve_82 : decode cX6_serve 82 = .ok (.iload_n 3, 1) := by decide +kernel
theorem dX6_serve_83 : decode cX6_serve 83 = .ok (.invokestatic 188, 3) := by decide +kernel
theorem dX6_serve_86 : decode cX6_serve 86 = .ok (.iload_n 2, 1) := by decide +kernel
theorem dX6_serve_87 : decode cX6_serve 87 = .ok (.invokestatic 102, 3) := by decide +kernel
theorem dX6_serve_90 : decode cX6_serve 90 = .ok (.aload_n 0, 1) := by decide +kernel
theorem dX6_serve_91 : decode cX6_serve 91 = .ok (.getfield 31, 3) := by decide +kernel
theorem dX6_serve_94 : decode cX6_serve 94 = .ok (.iload_n 1, 1) := by decide +kernel
theorem dX6_serve_95 : decode cX6_serve 95 = .ok (.iload_n 2, 1) := by decide +kernel
theorem dX6_serve_96 : decode cX6_serve 96 = .ok (.invokevirtual 192, 3) := by decide +kernel
theorem dX6_serve_99 : decode cX6_serve 99 = .ok (.ireturn, 1) := by decide +kernel
set_option maxRecDepth 20000 in
theorem ggX6_drop_X6_isDay : GoodIn wsX6_drop wsX6_isDay := goodIn_r _ [12] rfl (by decide +kernel)
set_option maxRecDepth 20000 in
theorem gX6_drop_X6_isDay : GoodIn wsX6_drop (va_wsS RX6 171 yX6_isDay wsX6_isDay) := goodIn_app (goodIn_of _ (by decide +kernel)) ggX6_drop_X6_isDay
set_option maxRecDepth 20000 in
theorem ggX6_drop_X6_isPart : GoodIn wsX6_drop wsX6_isPart := goodIn_r _ [15] rfl (by decide +kernel)
set_option maxRecDepth 20000 in
theorem gX6_drop_X6_isPart : GoodIn wsX6_drop (va_wsS RX6 195 yX6_isPart wsX6_isPart) := goodIn_app (goodIn_of _ (by decide +kernel)) ggX6_drop_X6_isPart
set_option maxRecDepth 20000 in
theorem ggX6_drop_X6_cellOf : GoodIn wsX6_drop wsX6_cellOf := goodIn_r _ [18] rfl (by decide +kernel)
set_option maxRecDepth 20000 in
theorem gX6_drop_X6_cellOf : GoodIn wsX6_drop (va_wsS RX6 188 yX6_cellOf wsX6_cellOf) := goodIn_app (goodIn_of _ (by decide +kernel)) ggX6_drop_X6_cellOf
set_option maxRecDepth 20000 in
theorem ggX6_drop_X6_at : GoodIn wsX6_drop wsX6_at := goodIn_r _ [21] rfl (by decide +kernel)
set_option maxRecDepth 20000 in
theorem gX6_drop_X6_at : GoodIn wsX6_drop (va_wsS RX6 115 yX6_at wsX6_at) := goodIn_app (goodIn_of _ (by decide +kernel)) ggX6_drop_X6_at
set_option maxRecDepth 20000 in
theorem ggX6_drop_X5_copyFrom : GoodIn wsX6_drop wsX5_copyFrom := goodIn_r _ [26, 27, 28, 29, 30, 31, 32, 33, 34, 35, 36, 37, 38, 39, 11, 40, 41, 42, 43, 44, 45, 46, 47, 48, 116, 117, 118, 119, 120, 121, 122, 123, 124, 125, 126, 127] rfl (by decide +kernel)
set_option maxRecDepth 20000 in
theorem gX6_drop_X5_copyFrom : GoodIn wsX6_drop (wsV RX6 95 RX5 yX5_copyFrom wsX5_copyFrom) := goodIn_app (goodIn_of _ (by decide +kernel)) ggX6_drop_X5_copyFrom
set_option maxRecDepth 20000 in
theorem ggX6_drop_X6_put : GoodIn wsX6_drop wsX6_put := goodIn_r _ [51] rfl (by decide +kernel)
set_option maxRecDepth 20000 in
theorem gX6_drop_X6_put : GoodIn wsX6_drop (va_wsS RX6 102 yX6_put wsX6_put) := goodIn_app (goodIn_of _ (by decide +kernel)) ggX6_drop_X6_put
set_option maxRecDepth 20000 in
theorem ggX6_drop_X1_areSound : GoodIn wsX6_drop wsX1_areSound := goodIn_r _ [56, 57, 58, 59, 55, 60, 61, 62, 63, 64, 65, 66, 67, 68, 69, 70, 71, 72, 73, 74, 25, 75, 27, 32, 20, 11, 21, 76, 77, 78, 79, 80, 81, 17, 18, 82, 83, 84, 85, 86, 87, 43, 88, 89, 90, 50, 51, 116, 117, 118, 119, 120, 121, 122, 123, 124, 125, 126, 127, 128, 129] rfl (by decide +kernel)
set_option maxRecDepth 20000 in
theorem gX6_drop_X1_areSound : GoodIn wsX6_drop (wsV RX6 109 RX1 yX1_areSound wsX1_areSound) := goodIn_app (goodIn_of _ (by decide +kernel)) ggX6_drop_X1_areSound
set_option maxRecDepth 20000 in
theorem ggX6_drop_X6_takeOverTrial : GoodIn wsX6_drop wsX6_takeOverTrial := goodIn_r _ [94, 95, 5, 7, 96, 97, 98, 99, 100, 101, 102, 103, 104, 105, 106, 107, 108, 23, 24, 25, 26, 27, 28, 29, 30, 31, 32, 33, 34, 35, 36, 37, 38, 39, 11, 40, 41, 42, 43, 44, 45, 46, 47, 48, 22, 109, 110, 111, 112, 113, 114, 115, 130, 131, 132, 116, 117, 118, 119, 120, 121, 122, 123, 124, 125, 126, 127] rfl (by decide +kernel)
set_option maxRecDepth 20000 in
theorem gX6_drop_X6_takeOverTrial : GoodIn wsX6_drop (wsV RX6 119 RX6 yX6_takeOverTrial wsX6_takeOverTrial) := goodIn_app (goodIn_of _ (by decide +kernel)) ggX6_drop_X6_takeOverTrial
theorem dX6_drop_0 : decode cX6_drop 0 = .ok (.iload_n 1, 1) := by decide +kernel
theorem dX6_drop_1 : decode cX6_drop 1 = .ok (.invokestatic 171, 3) := by decide +kernel
theorem dX6_drop_4 : decode cX6_drop 4 = .ok (.ifCond .eq 10, 3) := by decide +kernel
theorem dX6_drop_7 : decode cX6_drop 7 = .ok (.iload_n 2, 1) := by decide +kernel
theorem dX6_drop_8 : decode cX6_drop 8 = .ok (.invokestatic 195, 3) := by decide +kernel
theorem dX6_drop_11 : decode cX6_drop 11 = .ok (.ifCond .ne 13, 3) := by decide +kernel
theorem dX6_drop_14 : decode cX6_drop 14 = .ok (.new 88, 3) := by decide +kernel
theorem dX6_drop_17 : decode cX6_drop 17 = .ok (.dup, 1) := by decide +kernel
theorem dX6_drop_18 : decode cX6_drop 18 = .ok (.ldc 198, 2) := by decide +kernel
theorem dX6_drop_20 : decode cX6_drop 20 = .ok (.invokespecial 92, 3) := by decide +kernel
theorem dX6_drop_23 : decode cX6_drop 23 = .ok (.athrow, 1) := by decide +kernel
theorem dX6_drop_24 : decode cX6_drop 24 = .ok (.iload_n 1, 1) := by decide +kernel
theorem dX6_drop_25 : decode cX6_drop 25 = .ok (.iload_n 2, 1) := by decide +kernel
theorem dX6_drop_26 : decode cX6_drop 26 = .ok (.invokestatic 188, 3) := by decide +kernel
theorem dX6_drop_29 : decode cX6_drop 29 = .ok (.istore_n 3, 1) := by decide +kernel
theorem dX6_drop_30 : decode cX6_drop 30 = .ok (.aload_n 0, 1) := by decide +kernel
theorem dX6_drop_31 : decode cX6_drop 31 = .ok (.getfield 10, 3) := by decide +kernel
theorem dX6_drop_34 : decode cX6_drop 34 = .ok (.getfield 185, 3) := by decide +kernel
theorem dX6_drop_37 : decode cX6_drop 37 = .ok (.iload_n 3, 1) := by decide +kernel
theorem dX6_drop_38 : decode cX6_drop 38 = .ok (.invokestatic 115, 3) := by decide +kernel
theorem dX6_drop_41 : decode cX6_drop 41 = .ok (.istore 4, 2) := by decide +kernel
theorem dX6_drop_43 : decode cX6_drop 43 = .ok (.iload 4, 2) := by decide +kernel
theorem dX6_drop_45 : decode cX6_drop 45 = .ok (.iconst (-1), 1) := by decide +kernel
theorem dX6_drop_46 : decode cX6_drop 46 = .ok (.if_icmp .ne 13, 3) := by decide +kernel
theorem dX6_drop_49 : decode cX6_drop 49 = .ok (.new 71, 3) := by decide +kernel
theorem dX6_drop_52 : decode cX6_drop 52 = .ok (.dup, 1) := by decide +kernel
theorem dX6_drop_53 : decode cX6_drop 53 = .ok (.ldc 200, 2) := by decide +kernel
theorem dX6_drop_55 : decode cX6_drop 55 = .ok (.invokespecial 75, 3) := by decide +kernel
theorem dX6_drop_58 : decode cX6_drop 58 = .ok (.athrow, 1) := by decide +kernel
theorem dX6_drop_59 : decode cX6_drop 59 = .ok (.aload_n 0, 1) := by decide +kernel
theorem dX6_drop_60 : decode cX6_drop 60 = .ok (.getfield 16, 3) := by decide +kernel
theorem dX6_drop_63 : decode cX6_drop 63 = .ok (.aload_n 0, 1) := by decide +kernel
theorem dX6_drop_64 : decode cX6_drop 64 = .ok (.getfield 10, 3) := by decide +kernel
theorem dX6_drop_67 : decode cX6_drop 67 = .ok (.invokevirtual 95, 3) := by decide +kernel
theorem dX6_drop_70 : decode cX6_drop 70 = .ok (.aload_n 0, 1) := by decide +kernel
theorem dX6_drop_71 : decode cX6_drop 71 = .ok (.getfield 16, 3) := by decide +kernel
theorem dX6_drop_74 : decode cX6_drop 74 = .ok (.getfield 185, 3) := by decide +kernel
theorem dX6_drop_77 : decode cX6_drop 77 = .ok (.iload_n 3, 1) := by decide +kernel
theorem dX6_drop_78 : decode cX6_drop 78 = .ok (.iconst (-1), 1) := by decide +kernel
theorem dX6_drop_79 : decode cX6_drop 79 = .ok (.invokestatic 102, 3) := by decide +kernel
theorem dX6_drop_82 : decode cX6_drop 82 = .ok (.aload_n 0, 1) := by decide +kernel
theorem dX6_drop_83 : decode cX6_drop 83 = .ok (.getfield 22, 3) := by decide +kernel
theorem dX6_drop_86 : decode cX6_drop 86 = .ok (.aload_n 0, 1) := by decide +kernel
theorem dX6_drop_87 : decode cX6_drop 87 = .ok (.getfield 16, 3) := by decide +kernel
theorem dX6_drop_90 : decode cX6_drop 90 = .ok (.invokevirtual 109, 3) := by decide +kernel
theorem dX6_drop_93 : decode cX6_drop 93 = .ok (.ifCond .ne 13, 3) := by decide +kernel
theorem dX6_drop_96 : decode cX6_drop 96 = .ok (.new 71, 3) := by decide +kernel
theorem dX6_drop_99 : decode cX6_drop 99 = .ok (.dup, 1) := by decide +kernel
theorem dX6_drop_100 : decode cX6_drop 100 = .ok (.ldc 113, 2) := by decide +kernel
theorem dX6_drop_102 : decode cX6_drop 102 = .ok (.invokespecial 75, 3) := by decide +kernel
theorem dX6_drop_105 : decode cX6_drop 105 = .ok (.athrow, 1) := by decide +kernel
theorem dX6_drop_106 : decode cX6_drop 106 = .ok (.aload_n 0, 1) := by decide +kernel
theorem dX6_drop_107 : decode cX6_drop 107 = .ok (.invokevirtual 119, 3) := by decide +kernel
theorem dX6_drop_110 : decode cX6_drop 110 = .ok (.iload 4, 2) := by decide +kernel
theorem dX6_drop_112 : decode cX6_drop 112 = .ok (.ireturn, 1) := by decide +kernel
set_option maxRecDepth 20000 in
theorem ggX6_exchange_X6_isDay : GoodIn wsX6_exchange wsX6_isDay := goodIn_r _ [11] rfl (by decide +kernel)
set_option maxRecDepth 20000 in
theorem gX6_exchange_X6_isDay : GoodIn wsX6_exchange (va_wsS RX6 171 yX6_isDay wsX6_isDay) := goodIn_app (goodIn_of _ (by decide +kernel)) ggX6_exchange_X6_isDay
set_option maxRecDepth 20000 in
theorem ggX6_exchange_X5_copyFrom : GoodIn wsX6_exchange wsX5_copyFrom := goodIn_r _ [16, 17, 18, 19, 20, 21, 22, 23, 24, 25, 26, 27, 28, 29, 10, 30, 31, 32, 33, 34, 35, 36, 37, 38, 173, 174, 175, 176, 177, 178, 179, 180, 181, 182, 183, 184] rfl (by decide +kernel)
set_option maxRecDepth 20000 in
theorem gX6_exchange_X5_copyFrom : GoodIn wsX6_exchange (wsV RX6 95 RX5 yX5_copyFrom wsX5_copyFrom) := goodIn_app (goodIn_of _ (by decide +kernel)) ggX6_exchange_X5_copyFrom
set_option maxRecDepth 20000 in
theorem ggX6_exchange_X5_exchangeMeals : GoodIn wsX6_exchange wsX5_exchangeMeals := goodIn_r _ [42, 28, 43, 10, 44, 45, 46, 47, 48, 173, 174, 175, 176, 177, 178, 179, 180, 181, 182, 183, 184] rfl (by decide +kernel)
set_option maxRecDepth 20000 in
theorem gX6_exchange_X5_exchangeMeals : GoodIn wsX6_exchange (wsV RX6 204 RX5 yX5_exchangeMeals wsX5_exchangeMeals) := goodIn_app (goodIn_of _ (by decide +kernel)) ggX6_exchange_X5_exchangeMeals
set_option maxRecDepth 20000 in
theorem ggX6_exchange_X6_canStand : GoodIn wsX6_exchange wsX6_canStand := goodIn_r _ [52, 53, 54, 55, 56, 15, 57, 28, 45, 10, 46, 58, 59, 60, 61, 20, 62, 63, 64, 65, 24, 26, 66, 67, 68, 69, 25, 70, 71, 72, 73, 27, 74, 75, 76, 77, 78, 79, 80, 81, 19, 43, 44, 82, 83, 84, 85, 86, 87, 88, 89, 90, 91, 92, 93, 94, 95, 96, 97, 98, 99, 100, 101, 102, 103, 104, 105, 17, 22, 106, 107, 108, 109, 110, 111, 112, 113, 114, 115, 116, 117, 33, 118, 119, 120, 47, 48, 166, 167, 168, 169, 170, 171, 172, 173, 174, 175, 176, 177, 178, 179, 180, 181, 182, 183, 184, 185, 186] rfl (by decide +kernel)
set_option maxRecDepth 20000 in
theorem gX6_exchange_X6_canStand : GoodIn wsX6_exchange (wsV RX6 208 RX6 yX6_canStand wsX6_canStand) := goodIn_app (goodIn_of _ (by decide +kernel)) ggX6_exchange_X6_canStand
set_option maxRecDepth 20000 in
theorem ggX6_exchange_X6_takeOverTrial : GoodIn wsX6_exchange wsX6_takeOverTrial := goodIn_r _ [124, 125, 6, 5, 126, 127, 128, 129, 130, 131, 132, 133, 134, 135, 136, 137, 138, 13, 14, 15, 16, 17, 18, 19, 20, 21, 22, 23, 24, 25, 26, 27, 28, 29, 10, 30, 31, 32, 33, 34, 35, 36, 37, 38, 12, 166, 167, 168, 169, 170, 171, 172, 187, 188, 189, 173, 174, 175, 176, 177, 178, 179, 180, 181, 182, 183, 184] rfl (by decide +kernel)
set_option maxRecDepth 20000 in
theorem gX6_exchange_X6_takeOverTrial : GoodIn wsX6_exchange (wsV RX6 119 RX6 yX6_takeOverTrial wsX6_takeOverTrial) := goodIn_app (goodIn_of _ (by decide +kernel)) ggX6_exchange_X6_takeOverTrial
set_option maxRecDepth 20000 in
theorem ggX6_exchange_X2_joyOfPlan : GoodIn wsX6_exchange wsX2_joyOfPlan := goodIn_r _ [143, 144, 145, 146, 142, 147, 148, 149, 43, 10, 44, 45, 46, 150, 151, 152, 153, 154, 155, 156, 157, 158, 159, 160, 117, 33, 118, 161, 162, 163, 164, 165, 190, 191, 173, 174, 175, 176, 177, 178, 179, 180, 181, 182, 183, 184] rfl (by decide +kernel)
set_option maxRecDepth 20000 in
theorem gX6_exchange_X2_joyOfPlan : GoodIn wsX6_exchange (wsV RX6 213 RX2 yX2_joyOfPlan wsX2_joyOfPlan) := goodIn_app (goodIn_of _ (by decide +kernel)) ggX6_exchange_X2_joyOfPlan
theorem dX6_exchange_0 : decode cX6_exchange 0 = .ok (.iload_n 1, 1) := by decide +kernel
theorem dX6_exchange_1 : decode cX6_exchange 1 = .ok (.invokestatic 171, 3) := by decide +kernel
theorem dX6_exchange_4 : decode cX6_exchange 4 = .ok (.ifCond .eq 10, 3) := by decide +kernel
theorem dX6_exchange_7 : decode cX6_exchange 7 = .ok (.iload_n 2, 1) := by decide +kernel
theorem dX6_exchange_8 : decode cX6_exchange 8 = .ok (.invokestatic 171, 3) := by decide +kernel
theorem dX6_exchange_11 : decode cX6_exchange 11 = .ok (.ifCond .ne 13, 3) := by decide +kernel
theorem dX6_exchange_14 : decode cX6_exchange 14 = .ok (.new 88, 3) := by decide +kernel
theorem dX6_exchange_17 : decode cX6_exchange 17 = .ok (.dup, 1) := by decide +kernel
theorem dX6_exchange_18 : decode cX6_exchange 18 = .ok (.ldc 202, 2) := by decide +kernel
theorem dX6_exchange_20 : decode cX6_exchange 20 = .ok (.invokespecial 92, 3) := by decide +kernel
theorem dX6_exchange_23 : decode cX6_exchange 23 = .ok (.athrow, 1) := by decide +kernel
theorem dX6_exchange_24 : decode cX6_exchange 24 = .ok (.aload_n 0, 1) := by decide +kernel
theorem dX6_exchange_25 : decode cX6_exchange 25 = .ok (.getfield 16, 3) := by decide +kernel
theorem dX6_exchange_28 : decode cX6_exchange 28 = .ok (.aload_n 0, 1) := by decide +kernel
theorem dX6_exchange_29 : decode cX6_exchange 29 = .ok (.getfield 10, 3) := by decide +kernel
theorem dX6_exchange_32 : decode cX6_exchange 32 = .ok (.invokevirtual 95, 3) := by decide +kernel
theorem dX6_exchange_35 : decode cX6_exchange 35 = .ok (.aload_n 0, 1) := by decide +kernel
theorem dX6_exchange_36 : decode cX6_exchange 36 = .ok (.getfield 16, 3) := by decide +kernel
theorem dX6_exchange_39 : decode cX6_exchange 39 = .ok (.iload_n 1, 1) := by decide +kernel
theorem dX6_exchange_40 : decode cX6_exchange 40 = .ok (.iload_n 2, 1) := by decide +kernel
theorem dX6_exchange_41 : decode cX6_exchange 41 = .ok (.invokevirtual 204, 3) := by decide +kernel
theorem dX6_exchange_44 : decode cX6_exchange 44 = .ok (.aload_n 0, 1) := by decide +kernel
theorem dX6_exchange_45 : decode cX6_exchange 45 = .ok (.aload_n 0, 1) := by decide +kernel
theorem dX6_exchange_46 : decode cX6_exchange 46 = .ok (.getfield 16, 3) := by decide +kernel
theorem dX6_exchange_49 : decode cX6_exchange 49 = .ok (.invokevirtual 208, 3) := by decide +kernel
theorem dX6_exchange_52 : decode cX6_exchange 52 = .ok (.ifCond .ne 13, 3) := by decide +kernel
theorem dX6_exchange_55 : decode cX6_exchange 55 = .ok (.new 71, 3) := by decide +kernel
theorem dX6_exchange_58 : decode cX6_exchange 58 = .ok (.dup, 1) := by decide +kernel
theorem dX6_exchange_59 : decode cX6_exchange 59 = .ok (.ldc 211, 2) := by decide +kernel
theorem dX6_exchange_61 : decode cX6_exchange 61 = .ok (.invokespecial 75, 3) := by decide +kernel
theorem dX6_exchange_64 : decode cX6_exchange 64 = .ok (.athrow, 1) := by decide +kernel
theorem dX6_exchange_65 : decode cX6_exchange 65 = .ok (.aload_n 0, 1) := by decide +kernel
theorem dX6_exchange_66 : decode cX6_exchange 66 = .ok (.invokevirtual 119, 3) := by decide +kernel
theorem dX6_exchange_69 : decode cX6_exchange 69 = .ok (.aload_n 0, 1) := by decide +kernel
theorem dX6_exchange_70 : decode cX6_exchange 70 = .ok (.getfield 31, 3) := by decide +kernel
theorem dX6_exchange_73 : decode cX6_exchange 73 = .ok (.invokevirtual 213, 3) := by decide +kernel
theorem dX6_exchange_76 : decode cX6_exchange 76 = .ok (.ireturn, 1) := by decide +kernel
set_option maxRecDepth 20000 in
theorem ggX6_fill_X6_isDay : GoodIn wsX6_fill wsX6_isDay := goodIn_r _ [10] rfl (by decide +kernel)
set_option maxRecDepth 20000 in
theorem gX6_fill_X6_isDay : GoodIn wsX6_fill (va_wsS RX6 171 yX6_isDay wsX6_isDay) := goodIn_app (goodIn_of _ (by decide +kernel)) ggX6_fill_X6_isDay
set_option maxRecDepth 20000 in
theorem ggX6_fill_X0_save : GoodIn wsX6_fill wsX0_save := goodIn_r _ [15, 16, 17, 18, 19, 20, 14, 21, 22, 23, 24, 25, 26, 27, 28, 29, 30, 31, 32, 33, 34, 35, 36, 37, 38, 39, 40, 9, 41, 42, 43, 44, 45, 46, 47, 48, 49, 166, 167, 168, 154, 155, 156, 157, 158, 159, 160, 161, 162, 163, 164, 165] rfl (by decide +kernel)
set_option maxRecDepth 20000 in
theorem gX6_fill_X0_save : GoodIn wsX6_fill (wsV RX6 76 RX0 yX0_save wsX0_save) := goodIn_app (goodIn_of _ (by decide +kernel)) ggX6_fill_X0_save
set_option maxRecDepth 20000 in
theorem ggX6_fill_X2_bestDish : GoodIn wsX6_fill wsX2_bestDish := goodIn_r _ [54, 55, 56, 57, 58, 59, 53, 60, 61, 62, 63, 64, 65, 66, 9, 67, 68, 69, 70, 71, 72, 26, 73, 31, 74, 75, 76, 77, 35, 37, 78, 79, 80, 81, 36, 82, 83, 84, 85, 86, 87, 88, 89, 39, 30, 90, 91, 92, 93, 94, 95, 96, 97, 98, 99, 28, 33, 100, 101, 102, 103, 104, 105, 106, 107, 108, 109, 110, 111, 112, 113, 114, 115, 116, 117, 118, 119, 120, 121, 122, 44, 123, 124, 125, 126, 127, 128, 129, 130, 131, 132, 133, 134, 135, 136, 137, 138, 139, 140, 141, 142, 143, 144, 169, 170, 154, 155, 156, 157, 158, 159, 160, 161, 162, 163, 164, 165, 171, 172] rfl (by decide +kernel)
set_option maxRecDepth 20000 in
theorem gX6_fill_X2_bestDish : GoodIn wsX6_fill (wsV RX6 216 RX2 yX2_bestDish wsX2_bestDish) := goodIn_app (goodIn_of _ (by decide +kernel)) ggX6_fill_X2_bestDish
set_option maxRecDepth 20000 in
theorem ggX6_fill_X6_cellOf : GoodIn wsX6_fill wsX6_cellOf := goodIn_r _ [67] rfl (by decide +kernel)
set_option maxRecDepth 20000 in
theorem gX6_fill_X6_cellOf : GoodIn wsX6_fill (va_wsS RX6 188 yX6_cellOf wsX6_cellOf) := goodIn_app (goodIn_of _ (by decide +kernel)) ggX6_fill_X6_cellOf
set_option maxRecDepth 20000 in
theorem ggX6_fill_X6_put : GoodIn wsX6_fill wsX6_put := goodIn_r _ [111] rfl (by decide +kernel)
set_option maxRecDepth 20000 in
theorem gX6_fill_X6_put : GoodIn wsX6_fill (va_wsS RX6 102 yX6_put wsX6_put) := goodIn_app (goodIn_of _ (by decide +kernel)) ggX6_fill_X6_put
theorem dX6_fill_0 : decode cX6_fill 0 = .ok (.iload_n 1, 1) := by decide +kernel
theorem dX6_fill_1 : decode cX6_fill 1 = .ok (.invokestatic 171, 3) := by decide +kernel
theorem dX6_fill_4 : decode cX6_fill 4 = .ok (.ifCond .ne 13, 3) := by decide +kernel
theorem dX6_fill_7 : decode cX6_fill 7 = .ok (.new 88, 3) := by decide +kernel
theorem dX6_fill_10 : decode cX6_fill 10 = .ok (.dup, 1) := by decide +kernel
theorem dX6_fill_11 : decode cX6_fill 11 = .ok (.ldc 202, 2) := by decide +kernel
theorem dX6_fill_13 : decode cX6_fill 13 = .ok (.invokespecial 92, 3) := by decide +kernel
theorem dX6_fill_16 : decode cX6_fill 16 = .ok (.athrow, 1) := by decide +kernel
theorem dX6_fill_17 : decode cX6_fill 17 = .ok (.aload_n 0, 1) := by decide +kernel
theorem dX6_fill_18 : decode cX6_fill 18 = .ok (.getfield 38, 3) := by decide +kernel
theorem dX6_fill_21 : decode cX6_fill 21 = .ok (.aload_n 0, 1) := by decide +kernel
theorem dX6_fill_22 : decode cX6_fill 22 = .ok (.getfield 10, 3) := by decide +kernel
theorem dX6_fill_25 : decode cX6_fill 25 = .ok (.invokevirtual 76, 3) := by decide +kernel
theorem dX6_fill_28 : decode cX6_fill 28 = .ok (.iconst 0, 1) := by decide +kernel
theorem dX6_fill_29 : decode cX6_fill 29 = .ok (.istore_n 2, 1) := by decide +kernel
theorem dX6_fill_30 : decode cX6_fill 30 = .ok (.iconst 0, 1) := by decide +kernel
theorem dX6_fill_31 : decode cX6_fill 31 = .ok (.istore_n 3, 1) := by decide +kernel
theorem dX6_fill_32 : decode cX6_fill 32 = .ok (.iload_n 3, 1) := by decide +kernel
theorem dX6_fill_33 : decode cX6_fill 33 = .ok (.iconst 3, 1) := by decide +kernel
theorem dX6_fill_34 : decode cX6_fill 34 = .ok (.if_icmp .ge 46, 3) := by decide +kernel
theorem dX6_fill_37 : decode cX6_fill 37 = .ok (.aload_n 0, 1) := by decide +kernel
theorem dX6_fill_38 : decode cX6_fill 38 = .ok (.getfield 31, 3) := by decide +kernel
theorem dX6_fill_41 : decode cX6_fill 41 = .ok (.iload_n 1, 1) := by decide +kernel
theorem dX6_fill_42 : decode cX6_fill 42 = .ok (.iload_n 3, 1) := by decide +kernel
theorem dX6_fill_43 : decode cX6_fill 43 = .ok (.invokevirtual 216, 3) := by decide +kernel
theorem dX6_fill_46 : decode cX6_fill 46 = .ok (.istore 4, 2) := by decide +kernel
theorem dX6_fill_48 : decode cX6_fill 48 = .ok (.iload 4, 2) := by decide +kernel
theorem dX6_fill_50 : decode cX6_fill 50 = .ok (.iconst (-1), 1) := by decide +kernel
theorem dX6_fill_51 : decode cX6_fill 51 = .ok (.if_icmp .eq 23, 3) := by decide +kernel
theorem dX6_fill_54 : decode cX6_fill 54 = .ok (.aload_n 0, 1) := by decide +kernel
theorem dX6_fill_55 : decode cX6_fill 55 = .ok (.getfield 10, 3) := by decide +kernel
theorem dX6_fill_58 : decode cX6_fill 58 = .ok (.getfield 185, 3) := by decide +kernel
theorem dX6_fill_61 : decode cX6_fill 61 = .ok (.iload_n 1, 1) := by decide +kernel
theorem dX6_fill_62 : decode cX6_fill 62 = .ok (.iload_n 3, 1) := by decide +kernel
theorem dX6_fill_63 : decode cX6_fill 63 = .ok (.invokestatic 188, 3) := by decide +kernel
theorem dX6_fill_66 : decode cX6_fill 66 = .ok (.iload 4, 2) := by decide +kernel
theorem dX6_fill_68 : decode cX6_fill 68 = .ok (.invokestatic 102, 3) := by decide +kernel
theorem dX6_fill_71 : decode cX6_fill 71 = .ok (.iinc 2 1, 3) := by decide +kernel
theorem dX6_fill_74 : decode cX6_fill 74 = .ok (.iinc 3 1, 3) := by decide +kernel
theorem dX6_fill_77 : decode cX6_fill 77 = .ok (.goto (-45), 3) := by decide +kernel
theorem dX6_fill_80 : decode cX6_fill 80 = .ok (.iload_n 2, 1) := by decide +kernel
theorem dX6_fill_81 : decode cX6_fill 81 = .ok (.ireturn, 1) := by decide +kernel
set_option maxRecDepth 20000 in
theorem ggX6_clear_X5_planCount : GoodIn wsX6_clear wsX5_planCount := goodIn_r _ [8, 9, 10, 11, 7, 12, 13, 14, 15, 16, 65, 66, 67, 68, 69, 70, 71, 72, 73, 74, 75, 76] rfl (by decide +kernel)
set_option maxRecDepth 20000 in
theorem gX6_clear_X5_planCount : GoodIn wsX6_clear (wsV RX6 219 RX5 yX5_planCount wsX5_planCount) := goodIn_app (goodIn_of _ (by decide +kernel)) ggX6_clear_X5_planCount
set_option maxRecDepth 20000 in
theorem ggX6_clear_X0_save : GoodIn wsX6_clear wsX0_save := goodIn_r _ [21, 22, 23, 24, 25, 26, 20, 27, 28, 29, 30, 31, 7, 32, 33, 34, 35, 36, 37, 38, 39, 40, 41, 42, 43, 13, 44, 15, 45, 46, 47, 48, 49, 50, 51, 52, 53, 77, 78, 79, 65, 66, 67, 68, 69, 70, 71, 72, 73, 74, 75, 76] rfl (by decide +kernel)
set_option maxRecDepth 20000 in
theorem gX6_clear_X0_save : GoodIn wsX6_clear (wsV RX6 76 RX0 yX0_save wsX0_save) := goodIn_app (goodIn_of _ (by decide +kernel)) ggX6_clear_X0_save
set_option maxRecDepth 20000 in
theorem ggX6_clear_J7_fill_53178 : GoodIn wsX6_clear wsJ7_fill_53178 := goodIn_r _ [57] rfl (by decide +kernel)
set_option maxRecDepth 20000 in
theorem gX6_clear_J7_fill_53178 : GoodIn wsX6_clear (va_wsS RX6 222 yJ7_fill_53178 wsJ7_fill_53178) := goodIn_app (goodIn_of _ (by decide +kernel)) ggX6_clear_J7_fill_53178
theorem dX6_clear_0 : decode cX6_clear 0 = .ok (.aload_n 0, 1) := by decide +kernel
theorem dX6_clear_1 : decode cX6_clear 1 = .ok (.getfield 10, 3) := by decide +kernel
theorem dX6_clear_4 : decode cX6_clear 4 = .ok (.invokevirtual 219, 3) := by decide +kernel
theorem dX6_clear_7 : decode cX6_clear 7 = .ok (.istore_n 1, 1) := by decide +kernel
theorem dX6_clear_8 : decode cX6_clear 8 = .ok (.aload_n 0, 1) := by decide +kernel
theorem dX6_clear_9 : decode cX6_clear 9 = .ok (.getfield 38, 3) := by decide +kernel
theorem dX6_clear_12 : decode cX6_clear 12 = .ok (.aload_n 0, 1) := by decide +kernel
theorem dX6_clear_13 : decode cX6_clear 13 = .ok (.getfield 10, 3) := by decide +kernel
theorem dX6_clear_16 : decode cX6_clear 16 = .ok (.invokevirtual 76, 3) := by decide +kernel
theorem dX6_clear_19 : decode cX6_clear 19 = .ok (.aload_n 0, 1) := by decide +kernel
theorem dX6_clear_20 : decode cX6_clear 20 = .ok (.getfield 10, 3) := by decide +kernel
theorem dX6_clear_23 : decode cX6_clear 23 = .ok (.getfield 185, 3) := by decide +kernel
theorem dX6_clear_26 : decode cX6_clear 26 = .ok (.iconst (-1), 1) := by decide +kernel
theorem dX6_clear_27 : decode cX6_clear 27 = .ok (.invokestatic 222, 3) := by decide +kernel
theorem dX6_clear_30 : decode cX6_clear 30 = .ok (.iload_n 1, 1) := by decide +kernel
theorem dX6_clear_31 : decode cX6_clear 31 = .ok (.ireturn, 1) := by decide +kernel
set_option maxRecDepth 20000 in
theorem ggX6_append_X6_isWithin : GoodIn wsX6_append wsX6_isWithin := goodIn_r _ [10] rfl (by decide +kernel)
set_option maxRecDepth 20000 in
theorem gX6_append_X6_isWithin : GoodIn wsX6_append (va_wsS RX6 56 yX6_isWithin wsX6_isWithin) := goodIn_app (goodIn_of _ (by decide +kernel)) ggX6_append_X6_isWithin
set_option maxRecDepth 20000 in
theorem ggX6_append_X3_addCode : GoodIn wsX6_append wsX3_addCode := goodIn_r _ [15, 16, 17, 18, 9, 19, 27, 28] rfl (by decide +kernel)
set_option maxRecDepth 20000 in
theorem gX6_append_X3_addCode : GoodIn wsX6_append (wsV RX6 235 RX3 yX3_addCode wsX3_addCode) := goodIn_app (goodIn_of _ (by decide +kernel)) ggX6_append_X3_addCode
theorem dX6_append_0 : decode cX6_append 0 = .ok (.iload_n 1, 1) := by decide +kernel
theorem dX6_append_1 : decode cX6_append 1 = .ok (.bipush 33, 2) := by decide +kernel
theorem dX6_append_3 : decode cX6_append 3 = .ok (.bipush 126, 2) := by decide +kernel
theorem dX6_append_5 : decode cX6_append 5 = .ok (.invokestatic 56, 3) := by decide +kernel
theorem dX6_append_8 : decode cX6_append 8 = .ok (.ifCond .ne 13, 3) := by decide +kernel
theorem dX6_append_11 : decode cX6_append 11 = .ok (.new 60, 3) := by decide +kernel
theorem dX6_append_14 : decode cX6_append 14 = .ok (.dup, 1) := by decide +kernel
theorem dX6_append_15 : decode cX6_append 15 = .ok (.ldc 228, 2) := by decide +kernel
theorem dX6_append_17 : decode cX6_append 17 = .ok (.invokespecial 64, 3) := by decide +kernel
theorem dX6_append_20 : decode cX6_append 20 = .ok (.athrow, 1) := by decide +kernel
theorem dX6_append_21 : decode cX6_append 21 = .ok (.aload_n 0, 1) := by decide +kernel
theorem dX6_append_22 : decode cX6_append 22 = .ok (.getfield 52, 3) := by decide +kernel
theorem dX6_append_25 : decode cX6_append 25 = .ok (.getfield 230, 3) := by decide +kernel
theorem dX6_append_28 : decode cX6_append 28 = .ok (.bipush 60, 2) := by decide +kernel
theorem dX6_append_30 : decode cX6_append 30 = .ok (.if_icmp .lt 13, 3) := by decide +kernel
theorem dX6_append_33 : decode cX6_append 33 = .ok (.new 71, 3) := by decide +kernel
theorem dX6_append_36 : decode cX6_append 36 = .ok (.dup, 1) := by decide +kernel
theorem dX6_append_37 : decode cX6_append 37 = .ok (.ldc 233, 2) := by decide +kernel
theorem dX6_append_39 : decode cX6_append 39 = .ok (.invokespecial 75, 3) := by decide +kernel
theorem dX6_append_42 : decode cX6_append 42 = .ok (.athrow, 1) := by decide +kernel
theorem dX6_append_43 : decode cX6_append 43 = .ok (.aload_n 0, 1) := by decide +kernel
theorem dX6_append_44 : decode cX6_append 44 = .ok (.getfield 52, 3) := by decide +kernel
theorem dX6_append_47 : decode cX6_append 47 = .ok (.iload_n 1, 1) := by decide +kernel
theorem dX6_append_48 : decode cX6_append 48 = .ok (.invokevirtual 235, 3) := by decide +kernel
theorem dX6_append_51 : decode cX6_append 51 = .ok (.aload_n 0, 1) := by decide +kernel
theorem dX6_append_52 : decode cX6_append 52 = .ok (.getfield 52, 3) := by decide +kernel
theorem dX6_append_55 : decode cX6_append 55 = .ok (.getfield 230, 3) := by decide +kernel
theorem dX6_append_58 : decode cX6_append 58 = .ok (.ireturn, 1) := by decide +kernel
set_option maxRecDepth 20000 in
theorem ggX6_clearBuffer_X3_makeEmpty : GoodIn wsX6_clearBuffer wsX3_makeEmpty := goodIn_r _ [7, 8, 16, 17] rfl (by decide +kernel)
set_option maxRecDepth 20000 in
theorem gX6_clearBuffer_X3_makeEmpty : GoodIn wsX6_clearBuffer (wsV RX6 239 RX3 yX3_makeEmpty wsX3_makeEmpty) := goodIn_app (goodIn_of _ (by decide +kernel)) ggX6_clearBuffer_X3_makeEmpty
theorem dX6_clearBuffer_0 : decode cX6_clearBuffer 0 = .ok (.aload_n 0, 1) := by decide +kernel
theorem dX6_clearBuffer_1 : decode cX6_clearBuffer 1 = .ok (.getfield 52, 3) := by decide +kernel
theorem dX6_clearBuffer_4 : decode cX6_clearBuffer 4 = .ok (.getfield 230, 3) := by decide +kernel
theorem dX6_clearBuffer_7 : decode cX6_clearBuffer 7 = .ok (.istore_n 1, 1) := by decide +kernel
theorem dX6_clearBuffer_8 : decode cX6_clearBuffer 8 = .ok (.aload_n 0, 1) := by decide +kernel
theorem dX6_clearBuffer_9 : decode cX6_clearBuffer 9 = .ok (.getfield 52, 3) := by decide +kernel
theorem dX6_clearBuffer_12 : decode cX6_clearBuffer 12 = .ok (.invokevirtual 239, 3) := by decide +kernel
theorem dX6_clearBuffer_15 : decode cX6_clearBuffer 15 = .ok (.iload_n 1, 1) := by decide +kernel
theorem dX6_clearBuffer_16 : decode cX6_clearBuffer 16 = .ok (.ireturn, 1) := by decide +kernel
set_option maxRecDepth 20000 in
theorem ggX6_firstError_X3_errorIndex : GoodIn wsX6_firstError wsX3_errorIndex := goodIn_r _ [6, 7, 8, 9, 10, 11, 12, 13, 5, 14, 15, 16, 17, 18, 19, 20, 21, 22, 30, 31] rfl (by decide +kernel)
set_option maxRecDepth 20000 in
theorem gX6_firstError_X3_errorIndex : GoodIn wsX6_firstError (wsV RX6 242 RX3 yX3_errorIndex wsX3_errorIndex) := goodIn_app (goodIn_of _ (by decide +kernel)) ggX6_firstError_X3_errorIndex
theorem dX6_firstError_0 : decode cX6_firstError 0 = .ok (.aload_n 0, 1) := by decide +kernel
theorem dX6_firstError_1 : decode cX6_firstError 1 = .ok (.getfield 52, 3) := by decide +kernel
theorem dX6_firstError_4 : decode cX6_firstError 4 = .ok (.invokevirtual 242, 3) := by decide +kernel
theorem dX6_firstError_7 : decode cX6_firstError 7 = .ok (.ireturn, 1) := by decide +kernel
set_option maxRecDepth 20000 in
theorem ggX6_read_X3_isComplete : GoodIn wsX6_read wsX3_isComplete := goodIn_r _ [10, 11, 12, 13, 14, 15, 9, 16, 17, 18, 19, 20, 21, 22, 23, 24, 25, 26, 27, 28, 29, 30, 180, 181] rfl (by decide +kernel)
set_option maxRecDepth 20000 in
theorem gX6_read_X3_isComplete : GoodIn wsX6_read (wsV RX6 245 RX3 yX3_isComplete wsX3_isComplete) := goodIn_app (goodIn_of _ (by decide +kernel)) ggX6_read_X3_isComplete
set_option maxRecDepth 20000 in
theorem ggX6_read_X0_save : GoodIn wsX6_read wsX0_save := goodIn_r _ [35, 36, 37, 38, 39, 40, 34, 41, 42, 43, 44, 45, 46, 47, 48, 49, 50, 51, 52, 53, 54, 55, 56, 57, 58, 59, 60, 18, 61, 62, 63, 64, 65, 66, 67, 68, 69, 182, 183, 184, 185, 186, 187, 188, 189, 190, 191, 192, 193, 194, 195, 196] rfl (by decide +kernel)
set_option maxRecDepth 20000 in
theorem gX6_read_X0_save : GoodIn wsX6_read (wsV RX6 76 RX0 yX0_save wsX0_save) := goodIn_app (goodIn_of _ (by decide +kernel)) ggX6_read_X0_save
set_option maxRecDepth 20000 in
theorem ggX6_read_X3_entryCount : GoodIn wsX6_read wsX3_entryCount := goodIn_r _ [73, 11, 12, 17, 18, 19, 180, 181] rfl (by decide +kernel)
set_option maxRecDepth 20000 in
theorem gX6_read_X3_entryCount : GoodIn wsX6_read (wsV RX6 250 RX3 yX3_entryCount wsX3_entryCount) := goodIn_app (goodIn_of _ (by decide +kernel)) ggX6_read_X3_entryCount
set_option maxRecDepth 20000 in
theorem ggX6_read_X3_startOf : GoodIn wsX6_read wsX3_startOf := goodIn_r _ [77, 11, 12, 17, 18, 19, 180, 181] rfl (by decide +kernel)
set_option maxRecDepth 20000 in
theorem gX6_read_X3_startOf : GoodIn wsX6_read (wsV RX6 253 RX3 yX3_startOf wsX3_startOf) := goodIn_app (goodIn_of _ (by decide +kernel)) ggX6_read_X3_startOf
set_option maxRecDepth 20000 in
theorem ggX6_read_X3_dayFrom : GoodIn wsX6_read wsX3_dayFrom := goodIn_r _ [81, 11, 12, 17, 18, 19, 180, 181] rfl (by decide +kernel)
set_option maxRecDepth 20000 in
theorem gX6_read_X3_dayFrom : GoodIn wsX6_read (wsV RX6 256 RX3 yX3_dayFrom wsX3_dayFrom) := goodIn_app (goodIn_of _ (by decide +kernel)) ggX6_read_X3_dayFrom
set_option maxRecDepth 20000 in
theorem ggX6_read_X3_dishFrom : GoodIn wsX6_read wsX3_dishFrom := goodIn_r _ [85, 11, 12, 17, 18, 19, 180, 181] rfl (by decide +kernel)
set_option maxRecDepth 20000 in
theorem gX6_read_X3_dishFrom : GoodIn wsX6_read (wsV RX6 259 RX3 yX3_dishFrom wsX3_dishFrom) := goodIn_app (goodIn_of _ (by decide +kernel)) ggX6_read_X3_dishFrom
set_option maxRecDepth 20000 in
theorem ggX6_read_X6_servesIfItCan : GoodIn wsX6_read wsX6_servesIfItCan := goodIn_r _ [89, 5, 90, 91, 92, 93, 94, 95, 46, 96, 48, 97, 17, 18, 19, 98, 99, 100, 101, 102, 103, 104, 105, 106, 107, 108, 109, 110, 111, 112, 113, 114, 51, 115, 116, 117, 118, 55, 57, 119, 120, 121, 122, 56, 123, 124, 125, 126, 127, 128, 129, 130, 59, 50, 131, 132, 133, 134, 135, 136, 137, 138, 139, 140, 53, 141, 142, 143, 144, 145, 146, 147, 148, 149, 150, 151, 152, 153, 154, 155, 156, 157, 158, 159, 160, 161, 162, 163, 64, 164, 165, 166, 167, 168, 173, 174, 175, 176, 177, 178, 179, 185, 186, 187, 188, 189, 190, 191, 192, 193, 194, 195, 196, 197, 198, 199, 200] rfl (by decide +kernel)
set_option maxRecDepth 20000 in
theorem gX6_read_X6_servesIfItCan : GoodIn wsX6_read (wsV RX6 262 RX6 yX6_servesIfItCan wsX6_servesIfItCan) := goodIn_app (goodIn_of _ (by decide +kernel)) ggX6_read_X6_servesIfItCan
set_option maxRecDepth 20000 in
theorem ggX6_read_X3_makeEmpty : GoodIn wsX6_read wsX3_makeEmpty := goodIn_r _ [172, 11, 180, 181] rfl (by decide +kernel)
set_option maxRecDepth 20000 in
theorem gX6_read_X3_makeEmpty : GoodIn wsX6_read (wsV RX6 239 RX3 yX3_makeEmpty wsX3_makeEmpty) := goodIn_app (goodIn_of _ (by decide +kernel)) ggX6_read_X3_makeEmpty
theorem dX6_read_0 : decode cX6_read 0 = .ok (.aload_n 0, 1) := by decide +kernel
theorem dX6_read_1 : decode cX6_read 1 = .ok (.getfield 52, 3) := by decide +kernel
theorem dX6_read_4 : decode cX6_read 4 = .ok (.invokevirtual 245, 3) := by decide +kernel
theorem dX6_read_7 : decode cX6_read 7 = .ok (.ifCond .ne 13, 3) := by decide +kernel
theorem dX6_read_10 : decode cX6_read 10 = .ok (.new 60, 3) := by decide +kernel
theorem dX6_read_13 : decode cX6_read 13 = .ok (.dup, 1) := by decide +kernel
theorem dX6_read_14 : decode cX6_read 14 = .ok (.ldc 248, 2) := by decide +kernel
theorem dX6_read_16 : decode cX6_read 16 = .ok (.invokespecial 64, 3) := by decide +kernel
theorem dX6_read_19 : decode cX6_read 19 = .ok (.athrow, 1) := by decide +kernel
theorem dX6_read_20 : decode cX6_read 20 = .ok (.aload_n 0, 1) := by decide +kernel
theorem dX6_read_21 : decode cX6_read 21 = .ok (.getfield 38, 3) := by decide +kernel
theorem dX6_read_24 : decode cX6_read 24 = .ok (.aload_n 0, 1) := by decide +kernel
theorem dX6_read_25 : decode cX6_read 25 = .ok (.getfield 10, 3) := by decide +kernel
theorem dX6_read_28 : decode cX6_read 28 = .ok (.invokevirtual 76, 3) := by decide +kernel
theorem dX6_read_31 : decode cX6_read 31 = .ok (.iconst 0, 1) := by decide +kernel
theorem dX6_read_32 : decode cX6_read 32 = .ok (.istore_n 1, 1) := by decide +kernel
theorem dX6_read_33 : decode cX6_read 33 = .ok (.aload_n 0, 1) := by decide +kernel
theorem dX6_read_34 : decode cX6_read 34 = .ok (.getfield 52, 3) := by decide +kernel
theorem dX6_read_37 : decode cX6_read 37 = .ok (.invokevirtual 250, 3) := by decide +kernel
theorem dX6_read_40 : decode cX6_read 40 = .ok (.istore_n 2, 1) := by decide +kernel
theorem dX6_read_41 : decode cX6_read 41 = .ok (.iconst 1, 1) := by decide +kernel
theorem dX6_read_42 : decode cX6_read 42 = .ok (.istore_n 3, 1) := by decide +kernel
theorem dX6_read_43 : decode cX6_read 43 = .ok (.iconst 0, 1) := by decide +kernel
theorem dX6_read_44 : decode cX6_read 44 = .ok (.istore 4, 2) := by decide +kernel
theorem dX6_read_46 : decode cX6_read 46 = .ok (.iload 4, 2) := by decide +kernel
theorem dX6_read_48 : decode cX6_read 48 = .ok (.iload_n 2, 1) := by decide +kernel
theorem dX6_read_49 : decode cX6_read 49 = .ok (.if_icmp .ge 54, 3) := by decide +kernel
theorem dX6_read_52 : decode cX6_read 52 = .ok (.iload_n 3, 1) := by decide +kernel
theorem dX6_read_53 : decode cX6_read 53 = .ok (.ifCond .eq 50, 3) := by decide +kernel
theorem dX6_read_56 : decode cX6_read 56 = .ok (.aload_n 0, 1) := by decide +kernel
theorem dX6_read_57 : decode cX6_read 57 = .ok (.getfield 52, 3) := by decide +kernel
theorem dX6_read_60 : decode cX6_read 60 = .ok (.iload 4, 2) := by decide +kernel
theorem dX6_read_62 : decode cX6_read 62 = .ok (.invokevirtual 253, 3) := by decide +kernel
theorem dX6_read_65 : decode cX6_read 65 = .ok (.istore 5, 2) := by decide +kernel
theorem dX6_read_67 : decode cX6_read 67 = .ok (.aload_n 0, 1) := by decide +kernel
theorem dX6_read_68 : decode cX6_read 68 = .ok (.aload_n 0, 1) := by decide +kernel
theorem dX6_read_69 : decode cX6_read 69 = .ok (.getfield 52, 3) := by decide +kernel
theorem dX6_read_72 : decode cX6_read 72 = .ok (.iload 5, 2) := by decide +kernel
theorem dX6_read_74 : decode cX6_read 74 = .ok (.invokevirtual 256, 3) := by decide +kernel
theorem dX6_read_77 : decode cX6_read 77 = .ok (.aload_n 0, 1) := by decide +kernel
theorem dX6_read_78 : decode cX6_read 78 = .ok (.getfield 52, 3) := by decide +kernel
theorem dX6_read_81 : decode cX6_read 81 = .ok (.iload 5, 2) := by decide +kernel
theorem dX6_read_83 : decode cX6_read 83 = .ok (.invokevirtual 259, 3) := by decide +kernel
theorem dX6_read_86 : decode cX6_read 86 = .ok (.invokevirtual 262, 3) := by decide +kernel
theorem dX6_read_89 : decode cX6_read 89 = .ok (.istore_n 3, 1) := by decide +kernel
theorem dX6_read_90 : decode cX6_read 90 = .ok (.iload_n 3, 1) := by decide +kernel
theorem dX6_read_91 : decode cX6_read 91 = .ok (.ifCond .eq 6, 3) := by decide +kernel
theorem dX6_read_94 : decode cX6_read 94 = .ok (.iinc 1 1, 3) := by decide +kernel
theorem dX6_read_97 : decode cX6_read 97 = .ok (.iinc 4 1, 3) := by decide +kernel
theorem dX6_read_100 : decode cX6_read 100 = .ok (.goto (-54), 3) := by decide +kernel
theorem dX6_read_103 : decode cX6_read 103 = .ok (.aload_n 0, 1) := by decide +kernel
theorem dX6_read_104 : decode cX6_read 104 = .ok (.getfield 52, 3) := by decide +kernel
theorem dX6_read_107 : decode cX6_read 107 = .ok (.invokevirtual 239, 3) := by decide +kernel
theorem dX6_read_110 : decode cX6_read 110 = .ok (.iload_n 1, 1) := by decide +kernel
theorem dX6_read_111 : decode cX6_read 111 = .ok (.ireturn, 1) := by decide +kernel
set_option maxRecDepth 20000 in
theorem ggX6_take_X6_isWithin : GoodIn wsX6_take wsX6_isWithin := goodIn_r _ [9] rfl (by decide +kernel)
set_option maxRecDepth 20000 in
theorem gX6_take_X6_isWithin : GoodIn wsX6_take (va_wsS RX6 56 yX6_isWithin wsX6_isWithin) := goodIn_app (goodIn_of _ (by decide +kernel)) ggX6_take_X6_isWithin
set_option maxRecDepth 20000 in
theorem ggX6_take_X4_keep : GoodIn wsX6_take wsX4_keep := goodIn_r _ [14, 15, 16, 17, 8, 18, 19, 20, 50, 51] rfl (by decide +kernel)
set_option maxRecDepth 20000 in
theorem gX6_take_X4_keep : GoodIn wsX6_take (wsV RX6 268 RX4 yX4_keep wsX4_keep) := goodIn_app (goodIn_of _ (by decide +kernel)) ggX6_take_X4_keep
set_option maxRecDepth 20000 in
theorem ggX6_take_X5_planCount : GoodIn wsX6_take wsX5_planCount := goodIn_r _ [25, 26, 27, 28, 24, 29, 30, 17, 8, 18, 38, 39, 40, 41, 42, 43, 44, 45, 46, 47, 48, 49] rfl (by decide +kernel)
set_option maxRecDepth 20000 in
theorem gX6_take_X5_planCount : GoodIn wsX6_take (wsV RX6 219 RX5 yX5_planCount wsX5_planCount) := goodIn_app (goodIn_of _ (by decide +kernel)) ggX6_take_X5_planCount
theorem dX6_take_0 : decode cX6_take 0 = .ok (.iload_n 1, 1) := by decide +kernel
theorem dX6_take_1 : decode cX6_take 1 = .ok (.iconst 0, 1) := by decide +kernel
theorem dX6_take_2 : decode cX6_take 2 = .ok (.iconst 1, 1) := by decide +kernel
theorem dX6_take_3 : decode cX6_take 3 = .ok (.invokestatic 56, 3) := by decide +kernel
theorem dX6_take_6 : decode cX6_take 6 = .ok (.ifCond .ne 14, 3) := by decide +kernel
theorem dX6_take_9 : decode cX6_take 9 = .ok (.new 88, 3) := by decide +kernel
theorem dX6_take_12 : decode cX6_take 12 = .ok (.dup, 1) := by decide +kernel
theorem dX6_take_13 : decode cX6_take 13 = .ok (.ldc_w 266, 3) := by decide +kernel
theorem dX6_take_16 : decode cX6_take 16 = .ok (.invokespecial 92, 3) := by decide +kernel
theorem dX6_take_19 : decode cX6_take 19 = .ok (.athrow, 1) := by decide +kernel
theorem dX6_take_20 : decode cX6_take 20 = .ok (.aload_n 0, 1) := by decide +kernel
theorem dX6_take_21 : decode cX6_take 21 = .ok (.getfield 45, 3) := by decide +kernel
theorem dX6_take_24 : decode cX6_take 24 = .ok (.iload_n 1, 1) := by decide +kernel
theorem dX6_take_25 : decode cX6_take 25 = .ok (.aload_n 0, 1) := by decide +kernel
theorem dX6_take_26 : decode cX6_take 26 = .ok (.getfield 10, 3) := by decide +kernel
theorem dX6_take_29 : decode cX6_take 29 = .ok (.getfield 185, 3) := by decide +kernel
theorem dX6_take_32 : decode cX6_take 32 = .ok (.invokevirtual 268, 3) := by decide +kernel
theorem dX6_take_35 : decode cX6_take 35 = .ok (.aload_n 0, 1) := by decide +kernel
theorem dX6_take_36 : decode cX6_take 36 = .ok (.getfield 10, 3) := by decide +kernel
theorem dX6_take_39 : decode cX6_take 39 = .ok (.invokevirtual 219, 3) := by decide +kernel
theorem dX6_take_42 : decode cX6_take 42 = .ok (.ireturn, 1) := by decide +kernel
set_option maxRecDepth 20000 in
theorem ggX6_restore_X6_isWithin : GoodIn wsX6_restore wsX6_isWithin := goodIn_r _ [12] rfl (by decide +kernel)
set_option maxRecDepth 20000 in
theorem gX6_restore_X6_isWithin : GoodIn wsX6_restore (va_wsS RX6 56 yX6_isWithin wsX6_isWithin) := goodIn_app (goodIn_of _ (by decide +kernel)) ggX6_restore_X6_isWithin
set_option maxRecDepth 20000 in
theorem ggX6_restore_X4_isTaken : GoodIn wsX6_restore wsX4_isTaken := goodIn_r _ [17, 18, 182, 183] rfl (by decide +kernel)
set_option maxRecDepth 20000 in
theorem gX6_restore_X4_isTaken : GoodIn wsX6_restore (wsV RX6 272 RX4 yX4_isTaken wsX4_isTaken) := goodIn_app (goodIn_of _ (by decide +kernel)) ggX6_restore_X4_isTaken
set_option maxRecDepth 20000 in
theorem ggX6_restore_X5_copyFrom : GoodIn wsX6_restore wsX5_copyFrom := goodIn_r _ [23, 24, 25, 26, 27, 28, 29, 30, 31, 32, 33, 34, 35, 36, 11, 37, 38, 39, 40, 41, 42, 43, 44, 45, 170, 171, 172, 173, 174, 175, 176, 177, 178, 179, 180, 181] rfl (by decide +kernel)
set_option maxRecDepth 20000 in
theorem gX6_restore_X5_copyFrom : GoodIn wsX6_restore (wsV RX6 95 RX5 yX5_copyFrom wsX5_copyFrom) := goodIn_app (goodIn_of _ (by decide +kernel)) ggX6_restore_X5_copyFrom
set_option maxRecDepth 20000 in
theorem ggX6_restore_X4_copyTo : GoodIn wsX6_restore wsX4_copyTo := goodIn_r _ [49, 50, 51, 11, 52, 53, 54, 182, 183] rfl (by decide +kernel)
set_option maxRecDepth 20000 in
theorem gX6_restore_X4_copyTo : GoodIn wsX6_restore (wsV RX6 277 RX4 yX4_copyTo wsX4_copyTo) := goodIn_app (goodIn_of _ (by decide +kernel)) ggX6_restore_X4_copyTo
set_option maxRecDepth 20000 in
theorem ggX6_restore_X5_hasStrangeDish : GoodIn wsX6_restore wsX5_hasStrangeDish := goodIn_r _ [58, 35, 25, 51, 11, 52, 59, 60, 61, 22, 62, 24, 170, 171, 172, 173, 174, 175, 176, 177, 178, 179, 180, 181] rfl (by decide +kernel)
set_option maxRecDepth 20000 in
theorem gX6_restore_X5_hasStrangeDish : GoodIn wsX6_restore (wsV RX6 280 RX5 yX5_hasStrangeDish wsX5_hasStrangeDish) := goodIn_app (goodIn_of _ (by decide +kernel)) ggX6_restore_X5_hasStrangeDish
set_option maxRecDepth 20000 in
theorem ggX6_restore_X6_canStand : GoodIn wsX6_restore wsX6_canStand := goodIn_r _ [66, 67, 68, 69, 70, 22, 71, 35, 51, 11, 52, 72, 73, 74, 75, 27, 76, 77, 78, 79, 31, 33, 80, 81, 82, 83, 32, 84, 85, 86, 87, 34, 88, 89, 90, 91, 92, 93, 94, 95, 26, 96, 97, 98, 99, 100, 101, 102, 103, 104, 105, 106, 107, 108, 109, 110, 111, 112, 113, 114, 115, 116, 117, 118, 119, 120, 121, 24, 29, 122, 123, 124, 125, 126, 127, 128, 129, 130, 131, 132, 133, 40, 134, 135, 136, 53, 54, 163, 164, 165, 166, 167, 168, 169, 170, 171, 172, 173, 174, 175, 176, 177, 178, 179, 180, 181, 184, 185] rfl (by decide +kernel)
set_option maxRecDepth 20000 in
theorem gX6_restore_X6_canStand : GoodIn wsX6_restore (wsV RX6 208 RX6 yX6_canStand wsX6_canStand) := goodIn_app (goodIn_of _ (by decide +kernel)) ggX6_restore_X6_canStand
set_option maxRecDepth 20000 in
theorem ggX6_restore_X6_takeOverTrial : GoodIn wsX6_restore wsX6_takeOverTrial := goodIn_r _ [140, 141, 7, 6, 142, 143, 144, 145, 146, 147, 148, 149, 150, 151, 152, 153, 154, 20, 21, 22, 23, 24, 25, 26, 27, 28, 29, 30, 31, 32, 33, 34, 35, 36, 11, 37, 38, 39, 40, 41, 42, 43, 44, 45, 19, 163, 164, 165, 166, 167, 168, 169, 186, 187, 188, 170, 171, 172, 173, 174, 175, 176, 177, 178, 179, 180, 181] rfl (by decide +kernel)
set_option maxRecDepth 20000 in
theorem gX6_restore_X6_takeOverTrial : GoodIn wsX6_restore (wsV RX6 119 RX6 yX6_takeOverTrial wsX6_takeOverTrial) := goodIn_app (goodIn_of _ (by decide +kernel)) ggX6_restore_X6_takeOverTrial
set_option maxRecDepth 20000 in
theorem ggX6_restore_X5_planCount : GoodIn wsX6_restore wsX5_planCount := goodIn_r _ [158, 159, 160, 161, 22, 162, 35, 51, 11, 52, 170, 171, 172, 173, 174, 175, 176, 177, 178, 179, 180, 181] rfl (by decide +kernel)
set_option maxRecDepth 20000 in
theorem gX6_restore_X5_planCount : GoodIn wsX6_restore (wsV RX6 219 RX5 yX5_planCount wsX5_planCount) := goodIn_app (goodIn_of _ (by decide +kernel)) ggX6_restore_X5_planCount
theorem dX6_restore_0 : decode cX6_restore 0 = .ok (.iload_n 1, 1) := by decide +kernel
theorem dX6_restore_1 : decode cX6_restore 1 = .ok (.iconst 0, 1) := by decide +kernel
theorem dX6_restore_2 : decode cX6_restore 2 = .ok (.iconst 1, 1) := by decide +kernel
theorem dX6_restore_3 : decode cX6_restore 3 = .ok (.invokestatic 56, 3) := by decide +kernel
theorem dX6_restore_6 : decode cX6_restore 6 = .ok (.ifCond .ne 14, 3) := by decide +kernel
theorem dX6_restore_9 : decode cX6_restore 9 = .ok (.new 88, 3) := by decide +kernel
theorem dX6_restore_12 : decode cX6_restore 12 = .ok (.dup, 1) := by decide +kernel
theorem dX6_restore_13 : decode cX6_restore 13 = .ok (.ldc_w 266, 3) := by decide +kernel
theorem dX6_restore_16 : decode cX6_restore 16 = .ok (.invokespecial 92, 3) := by decide +kernel
theorem dX6_restore_19 : decode cX6_restore 19 = .ok (.athrow, 1) := by decide +kernel
theorem dX6_restore_20 : decode cX6_restore 20 = .ok (.aload_n 0, 1) := by decide +kernel
theorem dX6_restore_21 : decode cX6_restore 21 = .ok (.getfield 45, 3) := by decide +kernel
theorem dX6_restore_24 : decode cX6_restore 24 = .ok (.iload_n 1, 1) := by decide +kernel
theorem dX6_restore_25 : decode cX6_restore 25 = .ok (.invokevirtual 272, 3) := by decide +kernel
theorem dX6_restore_28 : decode cX6_restore 28 = .ok (.ifCond .ne 14, 3) := by decide +kernel
theorem dX6_restore_31 : decode cX6_restore 31 = .ok (.new 71, 3) := by decide +kernel
theorem dX6_restore_34 : decode cX6_restore 34 = .ok (.dup, 1) := by decide +kernel
theorem dX6_restore_35 : decode cX6_restore 35 = .ok (.ldc_w 275, 3) := by decide +kernel
theorem dX6_restore_38 : decode cX6_restore 38 = .ok (.invokespecial 75, 3) := by decide +kernel
theorem dX6_restore_41 : decode cX6_restore 41 = .ok (.athrow, 1) := by decide +kernel
theorem dX6_restore_42 : decode cX6_restore 42 = .ok (.aload_n 0, 1) := by decide +kernel
theorem dX6_restore_43 : decode cX6_restore 43 = .ok (.getfield 16, 3) := by decide +kernel
theorem dX6_restore_46 : decode cX6_restore 46 = .ok (.aload_n 0, 1) := by decide +kernel
theorem dX6_restore_47 : decode cX6_restore 47 = .ok (.getfield 10, 3) := by decide +kernel
theorem dX6_restore_50 : decode cX6_restore 50 = .ok (.invokevirtual 95, 3) := by decide +kernel
theorem dX6_restore_53 : decode cX6_restore 53 = .ok (.aload_n 0, 1) := by decide +kernel
theorem dX6_restore_54 : decode cX6_restore 54 = .ok (.getfield 45, 3) := by decide +kernel
theorem dX6_restore_57 : decode cX6_restore 57 = .ok (.iload_n 1, 1) := by decide +kernel
theorem dX6_restore_58 : decode cX6_restore 58 = .ok (.aload_n 0, 1) := by decide +kernel
theorem dX6_restore_59 : decode cX6_restore 59 = .ok (.getfield 16, 3) := by decide +kernel
theorem dX6_restore_62 : decode cX6_restore 62 = .ok (.getfield 185, 3) := by decide +kernel
theorem dX6_restore_65 : decode cX6_restore 65 = .ok (.invokevirtual 277, 3) := by decide +kernel
theorem dX6_restore_68 : decode cX6_restore 68 = .ok (.aload_n 0, 1) := by decide +kernel
theorem dX6_restore_69 : decode cX6_restore 69 = .ok (.getfield 16, 3) := by decide +kernel
theorem dX6_restore_72 : decode cX6_restore 72 = .ok (.invokevirtual 280, 3) := by decide +kernel
theorem dX6_restore_75 : decode cX6_restore 75 = .ok (.ifCond .ne 14, 3) := by decide +kernel
theorem dX6_restore_78 : decode cX6_restore 78 = .ok (.aload_n 0, 1) := by decide +kernel
theorem dX6_restore_79 : decode cX6_restore 79 = .ok (.aload_n 0, 1) := by decide +kernel
theorem dX6_restore_80 : decode cX6_restore 80 = .ok (.getfield 16, 3) := by decide +kernel
theorem dX6_restore_83 : decode cX6_restore 83 = .ok (.invokevirtual 208, 3) := by decide +kernel
theorem dX6_restore_86 : decode cX6_restore 86 = .ok (.ifCond .ne 13, 3) := by decide +kernel
theorem dX6_restore_89 : decode cX6_restore 89 = .ok (.new 71, 3) := by decide +kernel
theorem dX6_restore_92 : decode cX6_restore 92 = .ok (.dup, 1) := by decide +kernel
theorem dX6_restore_93 : decode cX6_restore 93 = .ok (.ldc 211, 2) := by decide +kernel
theorem dX6_restore_95 : decode cX6_restore 95 = .ok (.invokespecial 75, 3) := by decide +kernel
theorem dX6_restore_98 : decode cX6_restore 98 = .ok (.athrow, 1) := by decide +kernel
theorem dX6_restore_99 : decode cX6_restore 99 = .ok (.aload_n 0, 1) := by decide +kernel
theorem dX6_restore_100 : decode cX6_restore 100 = .ok (.invokevirtual 119, 3) := by decide +kernel
theorem dX6_restore_103 : decode cX6_restore 103 = .ok (.aload_n 0, 1) := by decide +kernel
theorem dX6_restore_104 : decode cX6_restore 104 = .ok (.getfield 10, 3) := by decide +kernel
theorem dX6_restore_107 : decode cX6_restore 107 = .ok (.invokevirtual 219, 3) := by decide +kernel
theorem dX6_restore_110 : decode cX6_restore 110 = .ok (.ireturn, 1) := by decide +kernel
set_option maxRecDepth 20000 in
theorem ggX6_undo_X0_bringBack : GoodIn wsX6_undo wsX0_bringBack := goodIn_r _ [10, 11, 12, 13, 14, 9, 15, 16, 17, 18, 19, 20, 21, 22, 23, 24, 25, 26, 27, 28, 29, 30, 31, 32, 33, 34, 35, 36, 37, 38, 39, 40, 41, 42, 43, 44, 45, 53, 54, 55, 56, 57, 58, 59, 60, 61, 62, 63, 64, 65, 66, 67] rfl (by decide +kernel)
set_option maxRecDepth 20000 in
theorem gX6_undo_X0_bringBack : GoodIn wsX6_undo (wsV RX6 288 RX0 yX0_bringBack wsX0_bringBack) := goodIn_app (goodIn_of _ (by decide +kernel)) ggX6_undo_X0_bringBack
theorem dX6_undo_0 : decode cX6_undo 0 = .ok (.aload_n 0, 1) := by decide +kernel
theorem dX6_undo_1 : decode cX6_undo 1 = .ok (.getfield 38, 3) := by decide +kernel
theorem dX6_undo_4 : decode cX6_undo 4 = .ok (.getfield 283, 3) := by decide +kernel
theorem dX6_undo_7 : decode cX6_undo 7 = .ok (.ifCond .ne 14, 3) := by decide +kernel
theorem dX6_undo_10 : decode cX6_undo 10 = .ok (.new 71, 3) := by decide +kernel
theorem dX6_undo_13 : decode cX6_undo 13 = .ok (.dup, 1) := by decide +kernel
theorem dX6_undo_14 : decode cX6_undo 14 = .ok (.ldc_w 286, 3) := by decide +kernel
theorem dX6_undo_17 : decode cX6_undo 17 = .ok (.invokespecial 75, 3) := by decide +kernel
theorem dX6_undo_20 : decode cX6_undo 20 = .ok (.athrow, 1) := by decide +kernel
theorem dX6_undo_21 : decode cX6_undo 21 = .ok (.aload_n 0, 1) := by decide +kernel
theorem dX6_undo_22 : decode cX6_undo 22 = .ok (.getfield 38, 3) := by decide +kernel
theorem dX6_undo_25 : decode cX6_undo 25 = .ok (.aload_n 0, 1) := by decide +kernel
theorem dX6_undo_26 : decode cX6_undo 26 = .ok (.getfield 10, 3) := by decide +kernel
theorem dX6_undo_29 : decode cX6_undo 29 = .ok (.invokevirtual 288, 3) := by decide +kernel
theorem dX6_undo_32 : decode cX6_undo 32 = .ok (.aload_n 0, 1) := by decide +kernel
theorem dX6_undo_33 : decode cX6_undo 33 = .ok (.getfield 38, 3) := by decide +kernel
theorem dX6_undo_36 : decode cX6_undo 36 = .ok (.getfield 283, 3) := by decide +kernel
theorem dX6_undo_39 : decode cX6_undo 39 = .ok (.ireturn, 1) := by decide +kernel
set_option maxRecDepth 20000 in
theorem ggX6_planned_X6_isDay : GoodIn wsX6_planned wsX6_isDay := goodIn_r _ [8] rfl (by decide +kernel)
set_option maxRecDepth 20000 in
theorem gX6_planned_X6_isDay : GoodIn wsX6_planned (va_wsS RX6 171 yX6_isDay wsX6_isDay) := goodIn_app (goodIn_of _ (by decide +kernel)) ggX6_planned_X6_isDay
set_option maxRecDepth 20000 in
theorem ggX6_planned_X6_isPart : GoodIn wsX6_planned wsX6_isPart := goodIn_r _ [11] rfl (by decide +kernel)
set_option maxRecDepth 20000 in
theorem gX6_planned_X6_isPart : GoodIn wsX6_planned (va_wsS RX6 195 yX6_isPart wsX6_isPart) := goodIn_app (goodIn_of _ (by decide +kernel)) ggX6_planned_X6_isPart
set_option maxRecDepth 20000 in
theorem ggX6_planned_X6_cellOf : GoodIn wsX6_planned wsX6_cellOf := goodIn_r _ [14] rfl (by decide +kernel)
set_option maxRecDepth 20000 in
theorem gX6_planned_X6_cellOf : GoodIn wsX6_planned (va_wsS RX6 188 yX6_cellOf wsX6_cellOf) := goodIn_app (goodIn_of _ (by decide +kernel)) ggX6_planned_X6_cellOf
set_option maxRecDepth 20000 in
theorem ggX6_planned_X6_at : GoodIn wsX6_planned wsX6_at := goodIn_r _ [17] rfl (by decide +kernel)
set_option maxRecDepth 20000 in
theorem gX6_planned_X6_at : GoodIn wsX6_planned (va_wsS RX6 115 yX6_at wsX6_at) := goodIn_app (goodIn_of _ (by decide +kernel)) ggX6_planned_X6_at
theorem dX6_planned_0 : decode cX6_planned 0 = .ok (.iload_n 1, 1) := by decide +kernel
theorem dX6_planned_1 : decode cX6_planned 1 = .ok (.invokestatic 171, 3) := by decide +kernel
theorem dX6_planned_4 : decode cX6_planned 4 = .ok (.ifCond .eq 10, 3) := by decide +kernel
theorem dX6_planned_7 : decode cX6_planned 7 = .ok (.iload_n 2, 1) := by decide +kernel
theorem dX6_planned_8 : decode cX6_planned 8 = .ok (.invokestatic 195, 3) := by decide +kernel
theorem dX6_planned_11 : decode cX6_planned 11 = .ok (.ifCond .ne 13, 3) := by decide +kernel
theorem dX6_planned_14 : decode cX6_planned 14 = .ok (.new 88, 3) := by decide +kernel
theorem dX6_planned_17 : decode cX6_planned 17 = .ok (.dup, 1) := by decide +kernel
theorem dX6_planned_18 : decode cX6_planned 18 = .ok (.ldc 198, 2) := by decide +kernel
theorem dX6_planned_20 : decode cX6_planned 20 = .ok (.invokespecial 92, 3) := by decide +kernel
theorem dX6_planned_23 : decode cX6_planned 23 = .ok (.athrow, 1) := by decide +kernel
theorem dX6_planned_24 : decode cX6_planned 24 = .ok (.aload_n 0, 1) := by decide +kernel
theorem dX6_planned_25 : decode cX6_planned 25 = .ok (.getfield 10, 3) := by decide +kernel
theorem dX6_planned_28 : decode cX6_planned 28 = .ok (.getfield 185, 3) := by decide +kernel
theorem dX6_planned_31 : decode cX6_planned 31 = .ok (.iload_n 1, 1) := by decide +kernel
theorem dX6_planned_32 : decode cX6_planned 32 = .ok (.iload_n 2, 1) := by decide +kernel
theorem dX6_planned_33 : decode cX6_planned 33 = .ok (.invokestatic 188, 3) := by decide +kernel
theorem dX6_planned_36 : decode cX6_planned 36 = .ok (.invokestatic 115, 3) := by decide +kernel
theorem dX6_planned_39 : decode cX6_planned 39 = .ok (.ireturn, 1) := by decide +kernel
set_option maxRecDepth 20000 in
theorem ggX6_dish_X5_hasDish : GoodIn wsX6_dish wsX5_hasDish := goodIn_r _ [10, 11, 92, 93, 94, 95, 96, 97, 98, 99, 100, 101, 102, 103] rfl (by decide +kernel)
set_option maxRecDepth 20000 in
theorem gX6_dish_X5_hasDish : GoodIn wsX6_dish (wsV RX6 84 RX5 yX5_hasDish wsX5_hasDish) := goodIn_app (goodIn_of _ (by decide +kernel)) ggX6_dish_X5_hasDish
set_option maxRecDepth 20000 in
theorem ggX6_dish_X6_isWithin : GoodIn wsX6_dish wsX6_isWithin := goodIn_r _ [15] rfl (by decide +kernel)
set_option maxRecDepth 20000 in
theorem gX6_dish_X6_isWithin : GoodIn wsX6_dish (va_wsS RX6 56 yX6_isWithin wsX6_isWithin) := goodIn_app (goodIn_of _ (by decide +kernel)) ggX6_dish_X6_isWithin
set_option maxRecDepth 20000 in
theorem ggX6_dish_X6_figureOfDish : GoodIn wsX6_dish wsX6_figureOfDish := goodIn_r _ [19, 5, 20, 21, 22, 23, 24, 25, 26, 27, 28, 14, 29, 30, 31, 32, 9, 33, 11, 34, 35, 36, 37, 38, 39, 40, 41, 42, 43, 44, 45, 46, 47, 48, 49, 50, 51, 52, 53, 54, 55, 56, 57, 58, 59, 60, 61, 62, 63, 64, 65, 66, 67, 68, 69, 70, 71, 72, 73, 74, 75, 76, 77, 78, 79, 80, 81, 82, 83, 84, 85, 86, 87, 88, 89, 90, 91, 92, 93, 94, 95, 96, 97, 98, 99, 100, 101, 102, 103, 104, 105] rfl (by decide +kernel)
set_option maxRecDepth 20000 in
theorem gX6_dish_X6_figureOfDish : GoodIn wsX6_dish (wsV RX6 293 RX6 yX6_figureOfDish wsX6_figureOfDish) := goodIn_app (goodIn_of _ (by decide +kernel)) ggX6_dish_X6_figureOfDish
theorem dX6_dish_0 : decode cX6_dish 0 = .ok (.aload_n 0, 1) := by decide +kernel
theorem dX6_dish_1 : decode cX6_dish 1 = .ok (.getfield 10, 3) := by decide +kernel
theorem dX6_dish_4 : decode cX6_dish 4 = .ok (.iload_n 1, 1) := by decide +kernel
theorem dX6_dish_5 : decode cX6_dish 5 = .ok (.invokevirtual 84, 3) := by decide +kernel
theorem dX6_dish_8 : decode cX6_dish 8 = .ok (.ifCond .ne 13, 3) := by decide +kernel
theorem dX6_dish_11 : decode cX6_dish 11 = .ok (.new 88, 3) := by decide +kernel
theorem dX6_dish_14 : decode cX6_dish 14 = .ok (.dup, 1) := by decide +kernel
theorem dX6_dish_15 : decode cX6_dish 15 = .ok (.ldc 90, 2) := by decide +kernel
theorem dX6_dish_17 : decode cX6_dish 17 = .ok (.invokespecial 92, 3) := by decide +kernel
theorem dX6_dish_20 : decode cX6_dish 20 = .ok (.athrow, 1) := by decide +kernel
theorem dX6_dish_21 : decode cX6_dish 21 = .ok (.iload_n 2, 1) := by decide +kernel
theorem dX6_dish_22 : decode cX6_dish 22 = .ok (.iconst 0, 1) := by decide +kernel
theorem dX6_dish_23 : decode cX6_dish 23 = .ok (.bipush 8, 2) := by decide +kernel
theorem dX6_dish_25 : decode cX6_dish 25 = .ok (.invokestatic 56, 3) := by decide +kernel
theorem dX6_dish_28 : decode cX6_dish 28 = .ok (.ifCond .ne 14, 3) := by decide +kernel
theorem dX6_dish_31 : decode cX6_dish 31 = .ok (.new 60, 3) := by decide +kernel
theorem dX6_dish_34 : decode cX6_dish 34 = .ok (.dup, 1) := by decide +kernel
theorem dX6_dish_35 : decode cX6_dish 35 = .ok (.ldc_w 291, 3) := by decide +kernel
theorem dX6_dish_38 : decode cX6_dish 38 = .ok (.invokespecial 64, 3) := by decide +kernel
theorem dX6_dish_41 : decode cX6_dish 41 = .ok (.athrow, 1) := by decide +kernel
theorem dX6_dish_42 : decode cX6_dish 42 = .ok (.aload_n 0, 1) := by decide +kernel
theorem dX6_dish_43 : decode cX6_dish 43 = .ok (.iload_n 1, 1) := by decide +kernel
theorem dX6_dish_44 : decode cX6_dish 44 = .ok (.iload_n 2, 1) := by decide +kernel
theorem dX6_dish_45 : decode cX6_dish 45 = .ok (.invokevirtual 293, 3) := by decide +kernel
theorem dX6_dish_48 : decode cX6_dish 48 = .ok (.ireturn, 1) := by decide +kernel
set_option maxRecDepth 20000 in
theorem ggX6_guest_X5_hasGuest : GoodIn wsX6_guest wsX5_hasGuest := goodIn_r _ [10, 11, 48, 49, 50, 51, 52, 53, 54, 55, 56, 57, 58, 59] rfl (by decide +kernel)
set_option maxRecDepth 20000 in
theorem gX6_guest_X5_hasGuest : GoodIn wsX6_guest (wsV RX6 131 RX5 yX5_hasGuest wsX5_hasGuest) := goodIn_app (goodIn_of _ (by decide +kernel)) ggX6_guest_X5_hasGuest
set_option maxRecDepth 20000 in
theorem ggX6_guest_X6_isWithin : GoodIn wsX6_guest wsX6_isWithin := goodIn_r _ [15] rfl (by decide +kernel)
set_option maxRecDepth 20000 in
theorem gX6_guest_X6_isWithin : GoodIn wsX6_guest (va_wsS RX6 56 yX6_isWithin wsX6_isWithin) := goodIn_app (goodIn_of _ (by decide +kernel)) ggX6_guest_X6_isWithin
set_option maxRecDepth 20000 in
theorem ggX6_guest_X6_figureOfGuest : GoodIn wsX6_guest wsX6_figureOfGuest := goodIn_r _ [19, 5, 20, 21, 22, 23, 14, 24, 25, 26, 27, 9, 28, 29, 30, 31, 32, 33, 34, 35, 36, 37, 38, 39, 40, 41, 42, 43, 44, 45, 46, 47, 48, 49, 50, 51, 52, 53, 54, 55, 56, 57, 58, 59] rfl (by decide +kernel)
set_option maxRecDepth 20000 in
theorem gX6_guest_X6_figureOfGuest : GoodIn wsX6_guest (wsV RX6 298 RX6 yX6_figureOfGuest wsX6_figureOfGuest) := goodIn_app (goodIn_of _ (by decide +kernel)) ggX6_guest_X6_figureOfGuest
theorem dX6_guest_0 : decode cX6_guest 0 = .ok (.aload_n 0, 1) := by decide +kernel
theorem dX6_guest_1 : decode cX6_guest 1 = .ok (.getfield 10, 3) := by decide +kernel
theorem dX6_guest_4 : decode cX6_guest 4 = .ok (.iload_n 1, 1) := by decide +kernel
theorem dX6_guest_5 : decode cX6_guest 5 = .ok (.invokevirtual 131, 3) := by decide +kernel
theorem dX6_guest_8 : decode cX6_guest 8 = .ok (.ifCond .ne 13, 3) := by decide +kernel
theorem dX6_guest_11 : decode cX6_guest 11 = .ok (.new 88, 3) := by decide +kernel
theorem dX6_guest_14 : decode cX6_guest 14 = .ok (.dup, 1) := by decide +kernel
theorem dX6_guest_15 : decode cX6_guest 15 = .ok (.ldc 134, 2) := by decide +kernel
theorem dX6_guest_17 : decode cX6_guest 17 = .ok (.invokespecial 92, 3) := by decide +kernel
theorem dX6_guest_20 : decode cX6_guest 20 = .ok (.athrow, 1) := by decide +kernel
theorem dX6_guest_21 : decode cX6_guest 21 = .ok (.iload_n 2, 1) := by decide +kernel
theorem dX6_guest_22 : decode cX6_guest 22 = .ok (.iconst 0, 1) := by decide +kernel
theorem dX6_guest_23 : decode cX6_guest 23 = .ok (.iconst 2, 1) := by decide +kernel
theorem dX6_guest_24 : decode cX6_guest 24 = .ok (.invokestatic 56, 3) := by decide +kernel
theorem dX6_guest_27 : decode cX6_guest 27 = .ok (.ifCond .ne 14, 3) := by decide +kernel
theorem dX6_guest_30 : decode cX6_guest 30 = .ok (.new 60, 3) := by decide +kernel
theorem dX6_guest_33 : decode cX6_guest 33 = .ok (.dup, 1) := by decide +kernel
theorem dX6_guest_34 : decode cX6_guest 34 = .ok (.ldc_w 296, 3) := by decide +kernel
theorem dX6_guest_37 : decode cX6_guest 37 = .ok (.invokespecial 64, 3) := by decide +kernel
theorem dX6_guest_40 : decode cX6_guest 40 = .ok (.athrow, 1) := by decide +kernel
theorem dX6_guest_41 : decode cX6_guest 41 = .ok (.aload_n 0, 1) := by decide +kernel
theorem dX6_guest_42 : decode cX6_guest 42 = .ok (.iload_n 1, 1) := by decide +kernel
theorem dX6_guest_43 : decode cX6_guest 43 = .ok (.iload_n 2, 1) := by decide +kernel
theorem dX6_guest_44 : decode cX6_guest 44 = .ok (.invokevirtual 298, 3) := by decide +kernel
theorem dX6_guest_47 : decode cX6_guest 47 = .ok (.ireturn, 1) := by decide +kernel
set_option maxRecDepth 20000 in
theorem ggX6_day_X6_isDay : GoodIn wsX6_day wsX6_isDay := goodIn_r _ [8] rfl (by decide +kernel)
set_option maxRecDepth 20000 in
theorem gX6_day_X6_isDay : GoodIn wsX6_day (va_wsS RX6 171 yX6_isDay wsX6_isDay) := goodIn_app (goodIn_of _ (by decide +kernel)) ggX6_day_X6_isDay
set_option maxRecDepth 20000 in
theorem ggX6_day_X6_isWithin : GoodIn wsX6_day wsX6_isWithin := goodIn_r _ [11] rfl (by decide +kernel)
set_option maxRecDepth 20000 in
theorem gX6_day_X6_isWithin : GoodIn wsX6_day (va_wsS RX6 56 yX6_isWithin wsX6_isWithin) := goodIn_app (goodIn_of _ (by decide +kernel)) ggX6_day_X6_isWithin
set_option maxRecDepth 20000 in
theorem ggX6_day_X6_figureOfDay : GoodIn wsX6_day wsX6_figureOfDay := goodIn_r _ [15, 16, 17, 18, 19, 20, 21, 22, 23, 24, 7, 25, 26, 27, 28, 29, 30, 31, 32, 33, 34, 35, 36, 37, 38, 39, 40, 41, 42, 43, 44, 45, 46, 47, 48, 49, 50, 51, 52, 53, 54, 55, 56, 57, 58, 59, 60, 61, 62, 63, 64, 65, 66, 67, 68, 69, 70, 71, 72, 73, 74, 75, 76, 77, 78, 79, 80, 81, 82, 83, 84, 85, 86, 87, 88, 89, 90, 91, 92, 93, 94] rfl (by decide +kernel)
set_option maxRecDepth 20000 in
theorem gX6_day_X6_figureOfDay : GoodIn wsX6_day (wsV RX6 303 RX6 yX6_figureOfDay wsX6_figureOfDay) := goodIn_app (goodIn_of _ (by decide +kernel)) ggX6_day_X6_figureOfDay
theorem dX6_day_0 : decode cX6_day 0 = .ok (.iload_n 1, 1) := by decide +kernel
theorem dX6_day_1 : decode cX6_day 1 = .ok (.invokestatic 171, 3) := by decide +kernel
theorem dX6_day_4 : decode cX6_day 4 = .ok (.ifCond .ne 13, 3) := by decide +kernel
theorem dX6_day_7 : decode cX6_day 7 = .ok (.new 88, 3) := by decide +kernel
theorem dX6_day_10 : decode cX6_day 10 = .ok (.dup, 1) := by decide +kernel
theorem dX6_day_11 : decode cX6_day 11 = .ok (.ldc 202, 2) := by decide +kernel
theorem dX6_day_13 : decode cX6_day 13 = .ok (.invokespecial 92, 3) := by decide +kernel
theorem dX6_day_16 : decode cX6_day 16 = .ok (.athrow, 1) := by decide +kernel
theorem dX6_day_17 : decode cX6_day 17 = .ok (.iload_n 2, 1) := by decide +kernel
theorem dX6_day_18 : decode cX6_day 18 = .ok (.iconst 0, 1) := by decide +kernel
theorem dX6_day_19 : decode cX6_day 19 = .ok (.iconst 4, 1) := by decide +kernel
theorem dX6_day_20 : decode cX6_day 20 = .ok (.invokestatic 56, 3) := by decide +kernel
theorem dX6_day_23 : decode cX6_day 23 = .ok (.ifCond .ne 14, 3) := by decide +kernel
theorem dX6_day_26 : decode cX6_day 26 = .ok (.new 60, 3) := by decide +kernel
theorem dX6_day_29 : decode cX6_day 29 = .ok (.dup, 1) := by decide +kernel
theorem dX6_day_30 : decode cX6_day 30 = .ok (.ldc_w 301, 3) := by decide +kernel
theorem dX6_day_33 : decode cX6_day 33 = .ok (.invokespecial 64, 3) := by decide +kernel
theorem dX6_day_36 : decode cX6_day 36 = .ok (.athrow, 1) := by decide +kernel
theorem dX6_day_37 : decode cX6_day 37 = .ok (.aload_n 0, 1) := by decide +kernel
theorem dX6_day_38 : decode cX6_day 38 = .ok (.iload_n 1, 1) := by decide +kernel
theorem dX6_day_39 : decode cX6_day 39 = .ok (.iload_n 2, 1) := by decide +kernel
theorem dX6_day_40 : decode cX6_day 40 = .ok (.invokevirtual 303, 3) := by decide +kernel
theorem dX6_day_43 : decode cX6_day 43 = .ok (.ireturn, 1) := by decide +kernel
set_option maxRecDepth 20000 in
theorem ggX6_source_X6_isDay : GoodIn wsX6_source wsX6_isDay := goodIn_r _ [8] rfl (by decide +kernel)
set_option maxRecDepth 20000 in
theorem gX6_source_X6_isDay : GoodIn wsX6_source (va_wsS RX6 171 yX6_isDay wsX6_isDay) := goodIn_app (goodIn_of _ (by decide +kernel)) ggX6_source_X6_isDay
set_option maxRecDepth 20000 in
theorem ggX6_source_X6_isPart : GoodIn wsX6_source wsX6_isPart := goodIn_r _ [11] rfl (by decide +kernel)
set_option maxRecDepth 20000 in
theorem gX6_source_X6_isPart : GoodIn wsX6_source (va_wsS RX6 195 yX6_isPart wsX6_isPart) := goodIn_app (goodIn_of _ (by decide +kernel)) ggX6_source_X6_isPart
set_option maxRecDepth 20000 in
theorem ggX6_source_X6_cellOf : GoodIn wsX6_source wsX6_cellOf := goodIn_r _ [14] rfl (by decide +kernel)
set_option maxRecDepth 20000 in
theorem gX6_source_X6_cellOf : GoodIn wsX6_source (va_wsS RX6 188 yX6_cellOf wsX6_cellOf) := goodIn_app (goodIn_of _ (by decide +kernel)) ggX6_source_X6_cellOf
set_option maxRecDepth 20000 in
theorem ggX6_source_X1_sourceDay : GoodIn wsX6_source wsX1_sourceDay := goodIn_r _ [19, 20, 21, 22, 7, 23, 24, 25, 26, 18, 27, 28, 29, 30, 31, 32, 33, 34, 35, 36, 37, 38, 39, 40, 41, 42, 43, 44, 13, 14, 45, 46, 47, 48, 49, 50, 51, 52, 53, 54, 55, 56, 64, 65, 66, 67, 68, 69, 70, 71, 72, 73, 74, 75, 76, 77] rfl (by decide +kernel)
set_option maxRecDepth 20000 in
theorem gX6_source_X1_sourceDay : GoodIn wsX6_source (wsV RX6 306 RX1 yX1_sourceDay wsX1_sourceDay) := goodIn_app (goodIn_of _ (by decide +kernel)) ggX6_source_X1_sourceDay
theorem dX6_source_0 : decode cX6_source 0 = .ok (.iload_n 1, 1) := by decide +kernel
theorem dX6_source_1 : decode cX6_source 1 = .ok (.invokestatic 171, 3) := by decide +kernel
theorem dX6_source_4 : decode cX6_source 4 = .ok (.ifCond .eq 10, 3) := by decide +kernel
theorem dX6_source_7 : decode cX6_source 7 = .ok (.iload_n 2, 1) := by decide +kernel
theorem dX6_source_8 : decode cX6_source 8 = .ok (.invokestatic 195, 3) := by decide +kernel
theorem dX6_source_11 : decode cX6_source 11 = .ok (.ifCond .ne 13, 3) := by decide +kernel
theorem dX6_source_14 : decode cX6_source 14 = .ok (.new 88, 3) := by decide +kernel
theorem dX6_source_17 : decode cX6_source 17 = .ok (.dup, 1) := by decide +kernel
theorem dX6_source_18 : decode cX6_source 18 = .ok (.ldc 198, 2) := by decide +kernel
theorem dX6_source_20 : decode cX6_source 20 = .ok (.invokespecial 92, 3) := by decide +kernel
theorem dX6_source_23 : decode cX6_source 23 = .ok (.athrow, 1) := by decide +kernel
theorem dX6_source_24 : decode cX6_source 24 = .ok (.aload_n 0, 1) := by decide +kernel
theorem dX6_source_25 : decode cX6_source 25 = .ok (.getfield 22, 3) := by decide +kernel
theorem dX6_source_28 : decode cX6_source 28 = .ok (.aload_n 0, 1) := by decide +kernel
theorem dX6_source_29 : decode cX6_source 29 = .ok (.getfield 10, 3) := by decide +kernel
theorem dX6_source_32 : decode cX6_source 32 = .ok (.iload_n 1, 1) := by decide +kernel
theorem dX6_source_33 : decode cX6_source 33 = .ok (.iload_n 2, 1) := by decide +kernel
theorem dX6_source_34 : decode cX6_source 34 = .ok (.invokestatic 188, 3) := by decide +kernel
theorem dX6_source_37 : decode cX6_source 37 = .ok (.invokevirtual 306, 3) := by decide +kernel
theorem dX6_source_40 : decode cX6_source 40 = .ok (.ireturn, 1) := by decide +kernel
set_option maxRecDepth 20000 in
theorem ggX6_count_X6_isWithin : GoodIn wsX6_count wsX6_isWithin := goodIn_r _ [6] rfl (by decide +kernel)
set_option maxRecDepth 20000 in
theorem gX6_count_X6_isWithin : GoodIn wsX6_count (va_wsS RX6 56 yX6_isWithin wsX6_isWithin) := goodIn_app (goodIn_of _ (by decide +kernel)) ggX6_count_X6_isWithin
set_option maxRecDepth 20000 in
theorem ggX6_count_X6_figureOfAll : GoodIn wsX6_count wsX6_figureOfAll := goodIn_r _ [10, 11, 12, 13, 14, 15, 16, 17, 18, 19, 20, 21, 22, 23, 24, 25, 26, 27, 28, 29, 5, 30, 31, 32, 33, 34, 35, 36, 37, 38, 39, 40, 41, 42, 43, 44, 45, 46, 47, 48, 49, 50, 51, 52, 53, 54, 55, 56, 57, 58, 59, 60, 61, 62, 63, 64, 65, 66, 67, 68, 69, 70, 71, 72, 73, 74, 75, 76, 77, 78, 79, 80, 81, 82, 83, 84, 85, 86, 87, 88, 89, 90, 91, 92, 93, 94, 95, 96, 97, 98, 99, 100, 101, 102, 103, 104, 105, 106, 107, 108, 109, 110, 111, 112, 113, 114, 115, 116, 117, 118, 119, 120, 121, 122, 123, 124, 125, 126, 127, 128, 129, 130, 131, 132, 133, 134, 135, 136, 137, 138, 139, 140, 141, 142, 143, 144, 145, 146, 147, 148, 149, 150, 151, 152, 153, 154, 155, 156, 157, 158, 159, 160, 161, 162, 163, 164, 165, 166, 167, 168, 169, 170, 171] rfl (by decide +kernel)
set_option maxRecDepth 20000 in
theorem gX6_count_X6_figureOfAll : GoodIn wsX6_count (wsV RX6 312 RX6 yX6_figureOfAll wsX6_figureOfAll) := goodIn_app (goodIn_of _ (by decide +kernel)) ggX6_count_X6_figureOfAll
theorem dX6_count_0 : decode cX6_count 0 = .ok (.iload_n 1, 1) := by decide +kernel
theorem dX6_count_1 : decode cX6_count 1 = .ok (.iconst 0, 1) := by decide +kernel
theorem dX6_count_2 : decode cX6_count 2 = .ok (.bipush 13, 2) := by decide +kernel
theorem dX6_count_4 : decode cX6_count 4 = .ok (.invokestatic 56, 3) := by decide +kernel
theorem dX6_count_7 : decode cX6_count 7 = .ok (.ifCond .ne 14, 3) := by decide +kernel
theorem dX6_count_10 : decode cX6_count 10 = .ok (.new 60, 3) := by decide +kernel
theorem dX6_count_13 : decode cX6_count 13 = .ok (.dup, 1) := by decide +kernel
theorem dX6_count_14 : decode cX6_count 14 = .ok (.ldc_w 310, 3) := by decide +kernel
theorem dX6_count_17 : decode cX6_count 17 = .ok (.invokespecial 64, 3) := by decide +kernel
theorem dX6_count_20 : decode cX6_count 20 = .ok (.athrow, 1) := by decide +kernel
theorem dX6_count_21 : decode cX6_count 21 = .ok (.aload_n 0, 1) := by decide +kernel
theorem dX6_count_22 : decode cX6_count 22 = .ok (.iload_n 1, 1) := by decide +kernel
theorem dX6_count_23 : decode cX6_count 23 = .ok (.invokevirtual 312, 3) := by decide +kernel
theorem dX6_count_26 : decode cX6_count 26 = .ok (.ireturn, 1) := by decide +kernel
set_option maxRecDepth 20000 in
theorem ggX6_setting_X6_isWithin : GoodIn wsX6_setting wsX6_isWithin := goodIn_r _ [8] rfl (by decide +kernel)
set_option maxRecDepth 20000 in
theorem gX6_setting_X6_isWithin : GoodIn wsX6_setting (va_wsS RX6 56 yX6_isWithin wsX6_isWithin) := goodIn_app (goodIn_of _ (by decide +kernel)) ggX6_setting_X6_isWithin
set_option maxRecDepth 20000 in
theorem ggX6_setting_X6_at : GoodIn wsX6_setting wsX6_at := goodIn_r _ [11] rfl (by decide +kernel)
set_option maxRecDepth 20000 in
theorem gX6_setting_X6_at : GoodIn wsX6_setting (va_wsS RX6 115 yX6_at wsX6_at) := goodIn_app (goodIn_of _ (by decide +kernel)) ggX6_setting_X6_at
theorem dX6_setting_0 : decode cX6_setting 0 = .ok (.iload_n 1, 1) := by decide +kernel
theorem dX6_setting_1 : decode cX6_setting 1 = .ok (.iconst 0, 1) := by decide +kernel
theorem dX6_setting_2 : decode cX6_setting 2 = .ok (.iconst 2, 1) := by decide +kernel
theorem dX6_setting_3 : decode cX6_setting 3 = .ok (.invokestatic 56, 3) := by decide +kernel
theorem dX6_setting_6 : decode cX6_setting 6 = .ok (.ifCond .ne 13, 3) := by decide +kernel
theorem dX6_setting_9 : decode cX6_setting 9 = .ok (.new 88, 3) := by decide +kernel
theorem dX6_setting_12 : decode cX6_setting 12 = .ok (.dup, 1) := by decide +kernel
theorem dX6_setting_13 : decode cX6_setting 13 = .ok (.ldc 152, 2) := by decide +kernel
theorem dX6_setting_15 : decode cX6_setting 15 = .ok (.invokespecial 92, 3) := by decide +kernel
theorem dX6_setting_18 : decode cX6_setting 18 = .ok (.athrow, 1) := by decide +kernel
theorem dX6_setting_19 : decode cX6_setting 19 = .ok (.aload_n 0, 1) := by decide +kernel
theorem dX6_setting_20 : decode cX6_setting 20 = .ok (.getfield 10, 3) := by decide +kernel
theorem dX6_setting_23 : decode cX6_setting 23 = .ok (.getfield 163, 3) := by decide +kernel
theorem dX6_setting_26 : decode cX6_setting 26 = .ok (.iload_n 1, 1) := by decide +kernel
theorem dX6_setting_27 : decode cX6_setting 27 = .ok (.invokestatic 115, 3) := by decide +kernel
theorem dX6_setting_30 : decode cX6_setting 30 = .ok (.ireturn, 1) := by decide +kernel
set_option maxRecDepth 20000 in
theorem ggX6_whyNot_X6_isDay : GoodIn wsX6_whyNot wsX6_isDay := goodIn_r _ [8] rfl (by decide +kernel)
set_option maxRecDepth 20000 in
theorem gX6_whyNot_X6_isDay : GoodIn wsX6_whyNot (va_wsS RX6 171 yX6_isDay wsX6_isDay) := goodIn_app (goodIn_of _ (by decide +kernel)) ggX6_whyNot_X6_isDay
set_option maxRecDepth 20000 in
theorem ggX6_whyNot_X6_isPart : GoodIn wsX6_whyNot wsX6_isPart := goodIn_r _ [11] rfl (by decide +kernel)
set_option maxRecDepth 20000 in
theorem gX6_whyNot_X6_isPart : GoodIn wsX6_whyNot (va_wsS RX6 195 yX6_isPart wsX6_isPart) := goodIn_app (goodIn_of _ (by decide +kernel)) ggX6_whyNot_X6_isPart
set_option maxRecDepth 20000 in
theorem ggX6_whyNot_X5_hasDish : GoodIn wsX6_whyNot wsX5_hasDish := goodIn_r _ [16, 17, 104, 105, 106, 107, 108, 109, 110, 111, 112, 113, 114, 115] rfl (by decide +kernel)
set_option maxRecDepth 20000 in
theorem gX6_whyNot_X5_hasDish : GoodIn wsX6_whyNot (wsV RX6 84 RX5 yX5_hasDish wsX5_hasDish) := goodIn_app (goodIn_of _ (by decide +kernel)) ggX6_whyNot_X5_hasDish
set_option maxRecDepth 20000 in
theorem ggX6_whyNot_X2_reasonAgainst : GoodIn wsX6_whyNot wsX2_reasonAgainst := goodIn_r _ [22, 23, 24, 25, 26, 27, 28, 29, 7, 30, 31, 32, 33, 34, 35, 15, 36, 37, 38, 39, 40, 41, 42, 43, 44, 45, 46, 47, 48, 49, 50, 51, 52, 53, 54, 55, 56, 57, 58, 59, 60, 61, 62, 63, 64, 65, 66, 67, 68, 17, 69, 70, 71, 72, 73, 74, 75, 76, 77, 78, 79, 80, 81, 82, 83, 84, 85, 86, 87, 88, 89, 90, 91, 92, 93, 94, 95, 96, 116, 117, 104, 105, 106, 107, 108, 109, 110, 111, 112, 113, 114, 115, 118, 119] rfl (by decide +kernel)
set_option maxRecDepth 20000 in
theorem gX6_whyNot_X2_reasonAgainst : GoodIn wsX6_whyNot (wsV RX6 179 RX2 yX2_reasonAgainst wsX2_reasonAgainst) := goodIn_app (goodIn_of _ (by decide +kernel)) ggX6_whyNot_X2_reasonAgainst
theorem dX6_whyNot_0 : decode cX6_whyNot 0 = .ok (.iload_n 1, 1) := by decide +kernel
theorem dX6_whyNot_1 : decode cX6_whyNot 1 = .ok (.invokestatic 171, 3) := by decide +kernel
theorem dX6_whyNot_4 : decode cX6_whyNot 4 = .ok (.ifCond .eq 21, 3) := by decide +kernel
theorem dX6_whyNot_7 : decode cX6_whyNot 7 = .ok (.iload_n 2, 1) := by decide +kernel
theorem dX6_whyNot_8 : decode cX6_whyNot 8 = .ok (.invokestatic 195, 3) := by decide +kernel
theorem dX6_whyNot_11 : decode cX6_whyNot 11 = .ok (.ifCond .eq 14, 3) := by decide +kernel
theorem dX6_whyNot_14 : decode cX6_whyNot 14 = .ok (.aload_n 0, 1) := by decide +kernel
theorem dX6_whyNot_15 : decode cX6_whyNot 15 = .ok (.getfield 10, 3) := by decide +kernel
theorem dX6_whyNot_18 : decode cX6_whyNot 18 = .ok (.iload_n 3, 1) := by decide +kernel
theorem dX6_whyNot_19 : decode cX6_whyNot 19 = .ok (.invokevirtual 84, 3) := by decide +kernel
theorem dX6_whyNot_22 : decode cX6_whyNot 22 = .ok (.ifCond .ne 14, 3) := by decide +kernel
theorem dX6_whyNot_25 : decode cX6_whyNot 25 = .ok (.new 88, 3) := by decide +kernel
theorem dX6_whyNot_28 : decode cX6_whyNot 28 = .ok (.dup, 1) := by decide +kernel
theorem dX6_whyNot_29 : decode cX6_whyNot 29 = .ok (.ldc_w 315, 3) := by decide +kernel
theorem dX6_whyNot_32 : decode cX6_whyNot 32 = .ok (.invokespecial 92, 3) := by decide +kernel
theorem dX6_whyNot_35 : decode cX6_whyNot 35 = .ok (.athrow, 1) := by decide +kernel
theorem dX6_whyNot_36 : decode cX6_whyNot 36 = .ok (.aload_n 0, 1) := by decide +kernel
theorem dX6_whyNot_37 : decode cX6_whyNot 37 = .ok (.getfield 31, 3) := by decide +kernel
theorem dX6_whyNot_40 : decode cX6_whyNot 40 = .ok (.iload_n 1, 1) := by decide +kernel
theorem dX6_whyNot_41 : decode cX6_whyNot 41 = .ok (.iload_n 2, 1) := by decide +kernel
theorem dX6_whyNot_42 : decode cX6_whyNot 42 = .ok (.iload_n 3, 1) := by decide +kernel
theorem dX6_whyNot_43 : decode cX6_whyNot 43 = .ok (.invokevirtual 179, 3) := by decide +kernel
