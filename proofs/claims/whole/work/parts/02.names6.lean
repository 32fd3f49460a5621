theorem dX7_joyNow_46 : decode cX7_joyNow 46 = .ok (.if_icmp .eq 31, 3) := by decide +kernel
theorem dX7_joyNow_49 : decode cX7_joyNow 49 = .ok (.aload_n 0, 1) := by decide +kernel
theorem dX7_joyNow_50 : decode cX7_joyNow 50 = .ok (.aload_n 0, 1) := by decide +kernel
theorem dX7_joyNow_51 : decode cX7_joyNow 51 = .ok (.getfield 7, 3) := by decide +kernel
theorem dX7_joyNow_54 : decode cX7_joyNow 54 = .ok (.bipush 89, 2) := by decide +kernel
theorem dX7_joyNow_56 : decode cX7_joyNow 56 = .ok (.iload 5, 2) := by decide +kernel
theorem dX7_joyNow_58 : decode cX7_joyNow 58 = .ok (.iadd, 1) := by decide +kernel
theorem dX7_joyNow_59 : decode cX7_joyNow 59 = .ok (.iaload, 1) := by decide +kernel
theorem dX7_joyNow_60 : decode cX7_joyNow 60 = .ok (.iconst 2, 1) := by decide +kernel
theorem dX7_joyNow_61 : decode cX7_joyNow 61 = .ok (.invokevirtual 45, 3) := by decide +kernel
theorem dX7_joyNow_64 : decode cX7_joyNow 64 = .ok (.aload_n 0, 1) := by decide +kernel
theorem dX7_joyNow_65 : decode cX7_joyNow 65 = .ok (.iload_n 2, 1) := by decide +kernel
theorem dX7_joyNow_66 : decode cX7_joyNow 66 = .ok (.iconst 2, 1) := by decide +kernel
theorem dX7_joyNow_67 : decode cX7_joyNow 67 = .ok (.invokevirtual 45, 3) := by decide +kernel
theorem dX7_joyNow_70 : decode cX7_joyNow 70 = .ok (.if_icmp .ne 7, 3) := by decide +kernel
theorem dX7_joyNow_73 : decode cX7_joyNow 73 = .ok (.iconst 1, 1) := by decide +kernel
theorem dX7_joyNow_74 : decode cX7_joyNow 74 = .ok (.goto 4, 3) := by decide +kernel
theorem dX7_joyNow_77 : decode cX7_joyNow 77 = .ok (.iconst 0, 1) := by decide +kernel
theorem dX7_joyNow_78 : decode cX7_joyNow 78 = .ok (.iadd, 1) := by decide +kernel
theorem dX7_joyNow_79 : decode cX7_joyNow 79 = .ok (.istore 4, 2) := by decide +kernel
theorem dX7_joyNow_81 : decode cX7_joyNow 81 = .ok (.iinc 5 1, 3) := by decide +kernel
theorem dX7_joyNow_84 : decode cX7_joyNow 84 = .ok (.goto (-59), 3) := by decide +kernel
theorem dX7_joyNow_87 : decode cX7_joyNow 87 = .ok (.aload_n 0, 1) := by decide +kernel
theorem dX7_joyNow_88 : decode cX7_joyNow 88 = .ok (.iload_n 2, 1) := by decide +kernel
theorem dX7_joyNow_89 : decode cX7_joyNow 89 = .ok (.iconst 3, 1) := by decide +kernel
theorem dX7_joyNow_90 : decode cX7_joyNow 90 = .ok (.invokevirtual 45, 3) := by decide +kernel
theorem dX7_joyNow_93 : decode cX7_joyNow 93 = .ok (.aload_n 0, 1) := by decide +kernel
theorem dX7_joyNow_94 : decode cX7_joyNow 94 = .ok (.getfield 7, 3) := by decide +kernel
theorem dX7_joyNow_97 : decode cX7_joyNow 97 = .ok (.iconst 0, 1) := by decide +kernel
theorem dX7_joyNow_98 : decode cX7_joyNow 98 = .ok (.iaload, 1) := by decide +kernel
theorem dX7_joyNow_99 : decode cX7_joyNow 99 = .ok (.iload 4, 2) := by decide +kernel
theorem dX7_joyNow_101 : decode cX7_joyNow 101 = .ok (.imul, 1) := by decide +kernel
theorem dX7_joyNow_102 : decode cX7_joyNow 102 = .ok (.isub, 1) := by decide +kernel
theorem dX7_joyNow_103 : decode cX7_joyNow 103 = .ok (.istore 5, 2) := by decide +kernel
theorem dX7_joyNow_105 : decode cX7_joyNow 105 = .ok (.iload 5, 2) := by decide +kernel
theorem dX7_joyNow_107 : decode cX7_joyNow 107 = .ok (.ifCond .ge 7, 3) := by decide +kernel
theorem dX7_joyNow_110 : decode cX7_joyNow 110 = .ok (.iconst 0, 1) := by decide +kernel
theorem dX7_joyNow_111 : decode cX7_joyNow 111 = .ok (.goto 5, 3) := by decide +kernel
theorem dX7_joyNow_114 : decode cX7_joyNow 114 = .ok (.iload 5, 2) := by decide +kernel
theorem dX7_joyNow_116 : decode cX7_joyNow 116 = .ok (.ireturn, 1) := by decide +kernel
set_option maxRecDepth 20000 in
theorem ggX7_joyOf_X7_at : GoodIn wsX7_joyOf wsX7_at := goodIn_r _ [5, 6, 15, 16, 17, 18, 19, 20, 21, 22, 23, 24, 25, 26, 27, 28, 29] (by decide +kernel) (by decide +kernel)
set_option maxRecDepth 20000 in
theorem gX7_joyOf_X7_at : GoodIn wsX7_joyOf (wsV RX7 79 RX7 yX7_at wsX7_at) := goodIn_app (goodIn_of _ (by decide +kernel)) ggX7_joyOf_X7_at
set_option maxRecDepth 20000 in
theorem ggX7_joyOf_X7_joyNow : GoodIn wsX7_joyOf wsX7_joyNow := goodIn_r _ [10, 6, 11, 12, 13, 4, 14, 15, 16, 17, 18, 19, 20, 21, 22, 23, 24, 25, 26, 27, 28, 29] (by decide +kernel) (by decide +kernel)
set_option maxRecDepth 20000 in
theorem gX7_joyOf_X7_joyNow : GoodIn wsX7_joyOf (wsV RX7 98 RX7 yX7_joyNow wsX7_joyNow) := goodIn_app (goodIn_of _ (by decide +kernel)) ggX7_joyOf_X7_joyNow
theorem dX7_joyOf_0 : decode cX7_joyOf 0 = .ok (.iconst 0, 1) := by decide +kernel
theorem dX7_joyOf_1 : decode cX7_joyOf 1 = .ok (.istore_n 2, 1) := by decide +kernel
theorem dX7_joyOf_2 : decode cX7_joyOf 2 = .ok (.iconst 0, 1) := by decide +kernel
theorem dX7_joyOf_3 : decode cX7_joyOf 3 = .ok (.istore_n 3, 1) := by decide +kernel
theorem dX7_joyOf_4 : decode cX7_joyOf 4 = .ok (.iload_n 3, 1) := by decide +kernel
theorem dX7_joyOf_5 : decode cX7_joyOf 5 = .ok (.iconst 3, 1) := by decide +kernel
theorem dX7_joyOf_6 : decode cX7_joyOf 6 = .ok (.if_icmp .ge 37, 3) := by decide +kernel
theorem dX7_joyOf_9 : decode cX7_joyOf 9 = .ok (.iload_n 2, 1) := by decide +kernel
theorem dX7_joyOf_10 : decode cX7_joyOf 10 = .ok (.aload_n 0, 1) := by decide +kernel
theorem dX7_joyOf_11 : decode cX7_joyOf 11 = .ok (.iload_n 1, 1) := by decide +kernel
theorem dX7_joyOf_12 : decode cX7_joyOf 12 = .ok (.iload_n 3, 1) := by decide +kernel
theorem dX7_joyOf_13 : decode cX7_joyOf 13 = .ok (.invokevirtual 79, 3) := by decide +kernel
theorem dX7_joyOf_16 : decode cX7_joyOf 16 = .ok (.iconst (-1), 1) := by decide +kernel
theorem dX7_joyOf_17 : decode cX7_joyOf 17 = .ok (.if_icmp .ne 7, 3) := by decide +kernel
theorem dX7_joyOf_20 : decode cX7_joyOf 20 = .ok (.iconst 0, 1) := by decide +kernel
theorem dX7_joyOf_21 : decode cX7_joyOf 21 = .ok (.goto 14, 3) := by decide +kernel
theorem dX7_joyOf_24 : decode cX7_joyOf 24 = .ok (.aload_n 0, 1) := by decide +kernel
theorem dX7_joyOf_25 : decode cX7_joyOf 25 = .ok (.iload_n 1, 1) := by decide +kernel
theorem dX7_joyOf_26 : decode cX7_joyOf 26 = .ok (.aload_n 0, 1) := by decide +kernel
theorem dX7_joyOf_27 : decode cX7_joyOf 27 = .ok (.iload_n 1, 1) := by decide +kernel
theorem dX7_joyOf_28 : decode cX7_joyOf 28 = .ok (.iload_n 3, 1) := by decide +kernel
theorem dX7_joyOf_29 : decode cX7_joyOf 29 = .ok (.invokevirtual 79, 3) := by decide +kernel
theorem dX7_joyOf_32 : decode cX7_joyOf 32 = .ok (.invokevirtual 98, 3) := by decide +kernel
theorem dX7_joyOf_35 : decode cX7_joyOf 35 = .ok (.iadd, 1) := by decide +kernel
theorem dX7_joyOf_36 : decode cX7_joyOf 36 = .ok (.istore_n 2, 1) := by decide +kernel
theorem dX7_joyOf_37 : decode cX7_joyOf 37 = .ok (.iinc 3 1, 3) := by decide +kernel
theorem dX7_joyOf_40 : decode cX7_joyOf 40 = .ok (.goto (-36), 3) := by decide +kernel
theorem dX7_joyOf_43 : decode cX7_joyOf 43 = .ok (.iload_n 2, 1) := by decide +kernel
theorem dX7_joyOf_44 : decode cX7_joyOf 44 = .ok (.ireturn, 1) := by decide +kernel
set_option maxRecDepth 20000 in
theorem ggX7_joyOfAll_X7_joyOf : GoodIn wsX7_joyOfAll wsX7_joyOf := goodIn_r _ [5, 6, 7, 8, 4, 9, 10, 11, 12, 13, 14, 15, 16, 17, 18, 19, 20, 21, 22, 23, 24, 25, 26, 27, 28, 29, 30, 31, 32, 33] (by decide +kernel) (by decide +kernel)
set_option maxRecDepth 20000 in
theorem gX7_joyOfAll_X7_joyOf : GoodIn wsX7_joyOfAll (wsV RX7 101 RX7 yX7_joyOf wsX7_joyOf) := goodIn_app (goodIn_of _ (by decide +kernel)) ggX7_joyOfAll_X7_joyOf
theorem dX7_joyOfAll_0 : decode cX7_joyOfAll 0 = .ok (.iconst 0, 1) := by decide +kernel
theorem dX7_joyOfAll_1 : decode cX7_joyOfAll 1 = .ok (.istore_n 1, 1) := by decide +kernel
theorem dX7_joyOfAll_2 : decode cX7_joyOfAll 2 = .ok (.iconst 0, 1) := by decide +kernel
theorem dX7_joyOfAll_3 : decode cX7_joyOfAll 3 = .ok (.istore_n 2, 1) := by decide +kernel
theorem dX7_joyOfAll_4 : decode cX7_joyOfAll 4 = .ok (.iload_n 2, 1) := by decide +kernel
theorem dX7_joyOfAll_5 : decode cX7_joyOfAll 5 = .ok (.bipush 28, 2) := by decide +kernel
theorem dX7_joyOfAll_7 : decode cX7_joyOfAll 7 = .ok (.if_icmp .ge 17, 3) := by decide +kernel
theorem dX7_joyOfAll_10 : decode cX7_joyOfAll 10 = .ok (.iload_n 1, 1) := by decide +kernel
theorem dX7_joyOfAll_11 : decode cX7_joyOfAll 11 = .ok (.aload_n 0, 1) := by decide +kernel
theorem dX7_joyOfAll_12 : decode cX7_joyOfAll 12 = .ok (.iload_n 2, 1) := by decide +kernel
theorem dX7_joyOfAll_13 : decode cX7_joyOfAll 13 = .ok (.invokevirtual 101, 3) := by decide +kernel
theorem dX7_joyOfAll_16 : decode cX7_joyOfAll 16 = .ok (.iadd, 1) := by decide +kernel
theorem dX7_joyOfAll_17 : decode cX7_joyOfAll 17 = .ok (.istore_n 1, 1) := by decide +kernel
theorem dX7_joyOfAll_18 : decode cX7_joyOfAll 18 = .ok (.iinc 2 1, 3) := by decide +kernel
theorem dX7_joyOfAll_21 : decode cX7_joyOfAll 21 = .ok (.goto (-17), 3) := by decide +kernel
theorem dX7_joyOfAll_24 : decode cX7_joyOfAll 24 = .ok (.iload_n 1, 1) := by decide +kernel
theorem dX7_joyOfAll_25 : decode cX7_joyOfAll 25 = .ok (.ireturn, 1) := by decide +kernel
set_option maxRecDepth 20000 in
theorem ggX7_addDish_X7_isPart : GoodIn wsX7_addDish wsX7_isPart := goodIn_r _ [6, 7, 8, 5, 9] (by decide +kernel) (by decide +kernel)
set_option maxRecDepth 20000 in
theorem gX7_addDish_X7_isPart : GoodIn wsX7_addDish (va_wsS RX7 104 yX7_isPart wsX7_isPart) := goodIn_app (goodIn_of _ (by decide +kernel)) ggX7_addDish_X7_isPart
set_option maxRecDepth 20000 in
theorem ggX7_addDish_X7_within : GoodIn wsX7_addDish wsX7_within := goodIn_r _ [9] (by decide +kernel) (by decide +kernel)
set_option maxRecDepth 20000 in
theorem gX7_addDish_X7_within : GoodIn wsX7_addDish (va_wsS RX7 41 yX7_within wsX7_within) := goodIn_app (goodIn_of _ (by decide +kernel)) ggX7_addDish_X7_within
set_option maxRecDepth 20000 in
theorem ggX7_addDish_X7_save : GoodIn wsX7_addDish wsX7_save := goodIn_r _ [13, 14, 15, 1, 16, 17, 18, 19, 20, 21, 22, 23, 24, 25, 26, 27, 28, 29, 30] (by decide +kernel) (by decide +kernel)
set_option maxRecDepth 20000 in
theorem gX7_addDish_X7_save : GoodIn wsX7_addDish (wsV RX7 107 RX7 yX7_save wsX7_save) := goodIn_app (goodIn_of _ (by decide +kernel)) ggX7_addDish_X7_save
theorem dX7_addDish_0 : decode cX7_addDish 0 = .ok (.iload_n 1, 1) := by decide +kernel
theorem dX7_addDish_1 : decode cX7_addDish 1 = .ok (.invokestatic 104, 3) := by decide +kernel
theorem dX7_addDish_4 : decode cX7_addDish 4 = .ok (.ifCond .eq 37, 3) := by decide +kernel
theorem dX7_addDish_7 : decode cX7_addDish 7 = .ok (.iload_n 2, 1) := by decide +kernel
theorem dX7_addDish_8 : decode cX7_addDish 8 = .ok (.iconst 0, 1) := by decide +kernel
theorem dX7_addDish_9 : decode cX7_addDish 9 = .ok (.bipush 30, 2) := by decide +kernel
theorem dX7_addDish_11 : decode cX7_addDish 11 = .ok (.invokestatic 41, 3) := by decide +kernel
theorem dX7_addDish_14 : decode cX7_addDish 14 = .ok (.ifCond .eq 27, 3) := by decide +kernel
theorem dX7_addDish_17 : decode cX7_addDish 17 = .ok (.iload_n 3, 1) := by decide +kernel
theorem dX7_addDish_18 : decode cX7_addDish 18 = .ok (.iconst 0, 1) := by decide +kernel
theorem dX7_addDish_19 : decode cX7_addDish 19 = .ok (.iconst 5, 1) := by decide +kernel
theorem dX7_addDish_20 : decode cX7_addDish 20 = .ok (.invokestatic 41, 3) := by decide +kernel
theorem dX7_addDish_23 : decode cX7_addDish 23 = .ok (.ifCond .eq 18, 3) := by decide +kernel
theorem dX7_addDish_26 : decode cX7_addDish 26 = .ok (.iload 4, 2) := by decide +kernel
theorem dX7_addDish_28 : decode cX7_addDish 28 = .ok (.iconst 1, 1) := by decide +kernel
theorem dX7_addDish_29 : decode cX7_addDish 29 = .ok (.bipush 9, 2) := by decide +kernel
theorem dX7_addDish_31 : decode cX7_addDish 31 = .ok (.invokestatic 41, 3) := by decide +kernel
theorem dX7_addDish_34 : decode cX7_addDish 34 = .ok (.ifCond .eq 7, 3) := by decide +kernel
theorem dX7_addDish_37 : decode cX7_addDish 37 = .ok (.iconst 1, 1) := by decide +kernel
theorem dX7_addDish_38 : decode cX7_addDish 38 = .ok (.goto 4, 3) := by decide +kernel
theorem dX7_addDish_41 : decode cX7_addDish 41 = .ok (.iconst 0, 1) := by decide +kernel
theorem dX7_addDish_42 : decode cX7_addDish 42 = .ok (.istore 5, 2) := by decide +kernel
theorem dX7_addDish_44 : decode cX7_addDish 44 = .ok (.aload_n 0, 1) := by decide +kernel
theorem dX7_addDish_45 : decode cX7_addDish 45 = .ok (.iload 5, 2) := by decide +kernel
theorem dX7_addDish_47 : decode cX7_addDish 47 = .ok (.ifCond .ne 7, 3) := by decide +kernel
theorem dX7_addDish_50 : decode cX7_addDish 50 = .ok (.iconst 1, 1) := by decide +kernel
theorem dX7_addDish_51 : decode cX7_addDish 51 = .ok (.goto 19, 3) := by decide +kernel
theorem dX7_addDish_54 : decode cX7_addDish 54 = .ok (.aload_n 0, 1) := by decide +kernel
theorem dX7_addDish_55 : decode cX7_addDish 55 = .ok (.getfield 7, 3) := by decide +kernel
theorem dX7_addDish_58 : decode cX7_addDish 58 = .ok (.iconst 3, 1) := by decide +kernel
theorem dX7_addDish_59 : decode cX7_addDish 59 = .ok (.iaload, 1) := by decide +kernel
theorem dX7_addDish_60 : decode cX7_addDish 60 = .ok (.bipush 12, 2) := by decide +kernel
theorem dX7_addDish_62 : decode cX7_addDish 62 = .ok (.if_icmp .ne 7, 3) := by decide +kernel
theorem dX7_addDish_65 : decode cX7_addDish 65 = .ok (.iconst 2, 1) := by decide +kernel
theorem dX7_addDish_66 : decode cX7_addDish 66 = .ok (.goto 4, 3) := by decide +kernel
theorem dX7_addDish_69 : decode cX7_addDish 69 = .ok (.iconst 0, 1) := by decide +kernel
theorem dX7_addDish_70 : decode cX7_addDish 70 = .ok (.putfield 34, 3) := by decide +kernel
theorem dX7_addDish_73 : decode cX7_addDish 73 = .ok (.aload_n 0, 1) := by decide +kernel
theorem dX7_addDish_74 : decode cX7_addDish 74 = .ok (.getfield 34, 3) := by decide +kernel
theorem dX7_addDish_77 : decode cX7_addDish 77 = .ok (.ifCond .le 5, 3) := by decide +kernel
theorem dX7_addDish_80 : decode cX7_addDish 80 = .ok (.iconst 0, 1) := by decide +kernel
theorem dX7_addDish_81 : decode cX7_addDish 81 = .ok (.ireturn, 1) := by decide +kernel
theorem dX7_addDish_82 : decode cX7_addDish 82 = .ok (.aload_n 0, 1) := by decide +kernel
theorem dX7_addDish_83 : decode cX7_addDish 83 = .ok (.invokevirtual 107, 3) := by decide +kernel
theorem dX7_addDish_86 : decode cX7_addDish 86 = .ok (.iconst 5, 1) := by decide +kernel
theorem dX7_addDish_87 : decode cX7_addDish 87 = .ok (.bipush 6, 2) := by decide +kernel
theorem dX7_addDish_89 : decode cX7_addDish 89 = .ok (.aload_n 0, 1) := by decide +kernel
theorem dX7_addDish_90 : decode cX7_addDish 90 = .ok (.getfield 7, 3) := by decide +kernel
theorem dX7_addDish_93 : decode cX7_addDish 93 = .ok (.iconst 3, 1) := by decide +kernel
theorem dX7_addDish_94 : decode cX7_addDish 94 = .ok (.iaload, 1) := by decide +kernel
theorem dX7_addDish_95 : decode cX7_addDish 95 = .ok (.imul, 1) := by decide +kernel
theorem dX7_addDish_96 : decode cX7_addDish 96 = .ok (.iadd, 1) := by decide +kernel
theorem dX7_addDish_97 : decode cX7_addDish 97 = .ok (.istore 6, 2) := by decide +kernel
theorem dX7_addDish_99 : decode cX7_addDish 99 = .ok (.aload_n 0, 1) := by decide +kernel
theorem dX7_addDish_100 : decode cX7_addDish 100 = .ok (.getfield 7, 3) := by decide +kernel
theorem dX7_addDish_103 : decode cX7_addDish 103 = .ok (.iload 6, 2) := by decide +kernel
theorem dX7_addDish_105 : decode cX7_addDish 105 = .ok (.iconst 0, 1) := by decide +kernel
theorem dX7_addDish_106 : decode cX7_addDish 106 = .ok (.iadd, 1) := by decide +kernel
theorem dX7_addDish_107 : decode cX7_addDish 107 = .ok (.iload_n 1, 1) := by decide +kernel
theorem dX7_addDish_108 : decode cX7_addDish 108 = .ok (.iastore, 1) := by decide +kernel
theorem dX7_addDish_109 : decode cX7_addDish 109 = .ok (.aload_n 0, 1) := by decide +kernel
theorem dX7_addDish_110 : decode cX7_addDish 110 = .ok (.getfield 7, 3) := by decide +kernel
theorem dX7_addDish_113 : decode cX7_addDish 113 = .ok (.iload 6, 2) := by decide +kernel
theorem dX7_addDish_115 : decode cX7_addDish 115 = .ok (.iconst 1, 1) := by decide +kernel
theorem dX7_addDish_116 : decode cX7_addDish 116 = .ok (.iadd, 1) := by decide +kernel
theorem dX7_addDish_117 : decode cX7_addDish 117 = .ok (.iload_n 2, 1) := by decide +kernel
theorem dX7_addDish_118 : decode cX7_addDish 118 = .ok (.iastore, 1) := by decide +kernel
theorem dX7_addDish_119 : decode cX7_addDish 119 = .ok (.aload_n 0, 1) := by decide +kernel
theorem dX7_addDish_120 : decode cX7_addDish 120 = .ok (.getfield 7, 3) := by decide +kernel
theorem dX7_addDish_123 : decode cX7_addDish 123 = .ok (.iload 6, 2) := by decide +kernel
theorem dX7_addDish_125 : decode cX7_addDish 125 = .ok (.iconst 2, 1) := by decide +kernel
theorem dX7_addDish_126 : decode cX7_addDish 126 = .ok (.iadd, 1) := by decide +kernel
theorem dX7_addDish_127 : decode cX7_addDish 127 = .ok (.iload_n 3, 1) := by decide +kernel
theorem dX7_addDish_128 : decode cX7_addDish 128 = .ok (.iastore, 1) := by decide +kernel
theorem dX7_addDish_129 : decode cX7_addDish 129 = .ok (.aload_n 0, 1) := by decide +kernel
theorem dX7_addDish_130 : decode cX7_addDish 130 = .ok (.getfield 7, 3) := by decide +kernel
theorem dX7_addDish_133 : decode cX7_addDish 133 = .ok (.iload 6, 2) := by decide +kernel
theorem dX7_addDish_135 : decode cX7_addDish 135 = .ok (.iconst 3, 1) := by decide +kernel
theorem dX7_addDish_136 : decode cX7_addDish 136 = .ok (.iadd, 1) := by decide +kernel
theorem dX7_addDish_137 : decode cX7_addDish 137 = .ok (.iload 4, 2) := by decide +kernel
theorem dX7_addDish_139 : decode cX7_addDish 139 = .ok (.iastore, 1) := by decide +kernel
theorem dX7_addDish_140 : decode cX7_addDish 140 = .ok (.aload_n 0, 1) := by decide +kernel
theorem dX7_addDish_141 : decode cX7_addDish 141 = .ok (.getfield 7, 3) := by decide +kernel
theorem dX7_addDish_144 : decode cX7_addDish 144 = .ok (.iload 6, 2) := by decide +kernel
theorem dX7_addDish_146 : decode cX7_addDish 146 = .ok (.iconst 4, 1) := by decide +kernel
theorem dX7_addDish_147 : decode cX7_addDish 147 = .ok (.iadd, 1) := by decide +kernel
theorem dX7_addDish_148 : decode cX7_addDish 148 = .ok (.iconst (-1), 1) := by decide +kernel
theorem dX7_addDish_149 : decode cX7_addDish 149 = .ok (.iastore, 1) := by decide +kernel
theorem dX7_addDish_150 : decode cX7_addDish 150 = .ok (.aload_n 0, 1) := by decide +kernel
theorem dX7_addDish_151 : decode cX7_addDish 151 = .ok (.getfield 7, 3) := by decide +kernel
theorem dX7_addDish_154 : decode cX7_addDish 154 = .ok (.iload 6, 2) := by decide +kernel
theorem dX7_addDish_156 : decode cX7_addDish 156 = .ok (.iconst 5, 1) := by decide +kernel
theorem dX7_addDish_157 : decode cX7_addDish 157 = .ok (.iadd, 1) := by decide +kernel
theorem dX7_addDish_158 : decode cX7_addDish 158 = .ok (.iconst 0, 1) := by decide +kernel
theorem dX7_addDish_159 : decode cX7_addDish 159 = .ok (.iastore, 1) := by decide +kernel
theorem dX7_addDish_160 : decode cX7_addDish 160 = .ok (.aload_n 0, 1) := by decide +kernel
theorem dX7_addDish_161 : decode cX7_addDish 161 = .ok (.getfield 7, 3) := by decide +kernel
theorem dX7_addDish_164 : decode cX7_addDish 164 = .ok (.iconst 3, 1) := by decide +kernel
theorem dX7_addDish_165 : decode cX7_addDish 165 = .ok (.dup2, 1) := by decide +kernel
theorem dX7_addDish_166 : decode cX7_addDish 166 = .ok (.iaload, 1) := by decide +kernel
theorem dX7_addDish_167 : decode cX7_addDish 167 = .ok (.iconst 1, 1) := by decide +kernel
theorem dX7_addDish_168 : decode cX7_addDish 168 = .ok (.iadd, 1) := by decide +kernel
theorem dX7_addDish_169 : decode cX7_addDish 169 = .ok (.iastore, 1) := by decide +kernel
theorem dX7_addDish_170 : decode cX7_addDish 170 = .ok (.aload_n 0, 1) := by decide +kernel
theorem dX7_addDish_171 : decode cX7_addDish 171 = .ok (.getfield 7, 3) := by decide +kernel
theorem dX7_addDish_174 : decode cX7_addDish 174 = .ok (.iconst 3, 1) := by decide +kernel
theorem dX7_addDish_175 : decode cX7_addDish 175 = .ok (.iaload, 1) := by decide +kernel
theorem dX7_addDish_176 : decode cX7_addDish 176 = .ok (.iconst 1, 1) := by decide +kernel
theorem dX7_addDish_177 : decode cX7_addDish 177 = .ok (.isub, 1) := by decide +kernel
theorem dX7_addDish_178 : decode cX7_addDish 178 = .ok (.ireturn, 1) := by decide +kernel
theorem dX7_setLeft_0 : decode cX7_setLeft 0 = .ok (.aload_n 0, 1) := by decide +kernel
theorem dX7_setLeft_1 : decode cX7_setLeft 1 = .ok (.getfield 7, 3) := by decide +kernel
theorem dX7_setLeft_4 : decode cX7_setLeft 4 = .ok (.iconst 5, 1) := by decide +kernel
theorem dX7_setLeft_5 : decode cX7_setLeft 5 = .ok (.bipush 6, 2) := by decide +kernel
theorem dX7_setLeft_7 : decode cX7_setLeft 7 = .ok (.iload_n 1, 1) := by decide +kernel
theorem dX7_setLeft_8 : decode cX7_setLeft 8 = .ok (.imul, 1) := by decide +kernel
theorem dX7_setLeft_9 : decode cX7_setLeft 9 = .ok (.iadd, 1) := by decide +kernel
theorem dX7_setLeft_10 : decode cX7_setLeft 10 = .ok (.iconst 4, 1) := by decide +kernel
theorem dX7_setLeft_11 : decode cX7_setLeft 11 = .ok (.iadd, 1) := by decide +kernel
theorem dX7_setLeft_12 : decode cX7_setLeft 12 = .ok (.iload_n 2, 1) := by decide +kernel
theorem dX7_setLeft_13 : decode cX7_setLeft 13 = .ok (.iastore, 1) := by decide +kernel
theorem dX7_setLeft_14 : decode cX7_setLeft 14 = .ok (.aload_n 0, 1) := by decide +kernel
theorem dX7_setLeft_15 : decode cX7_setLeft 15 = .ok (.getfield 7, 3) := by decide +kernel
theorem dX7_setLeft_18 : decode cX7_setLeft 18 = .ok (.iconst 5, 1) := by decide +kernel
theorem dX7_setLeft_19 : decode cX7_setLeft 19 = .ok (.bipush 6, 2) := by decide +kernel
theorem dX7_setLeft_21 : decode cX7_setLeft 21 = .ok (.iload_n 1, 1) := by decide +kernel
theorem dX7_setLeft_22 : decode cX7_setLeft 22 = .ok (.imul, 1) := by decide +kernel
theorem dX7_setLeft_23 : decode cX7_setLeft 23 = .ok (.iadd, 1) := by decide +kernel
theorem dX7_setLeft_24 : decode cX7_setLeft 24 = .ok (.iconst 5, 1) := by decide +kernel
theorem dX7_setLeft_25 : decode cX7_setLeft 25 = .ok (.iadd, 1) := by decide +kernel
theorem dX7_setLeft_26 : decode cX7_setLeft 26 = .ok (.iload_n 2, 1) := by decide +kernel
theorem dX7_setLeft_27 : decode cX7_setLeft 27 = .ok (.iconst (-1), 1) := by decide +kernel
theorem dX7_setLeft_28 : decode cX7_setLeft 28 = .ok (.if_icmp .ne 7, 3) := by decide +kernel
theorem dX7_setLeft_31 : decode cX7_setLeft 31 = .ok (.iconst 0, 1) := by decide +kernel
theorem dX7_setLeft_32 : decode cX7_setLeft 32 = .ok (.goto 4, 3) := by decide +kernel
theorem dX7_setLeft_35 : decode cX7_setLeft 35 = .ok (.iload_n 3, 1) := by decide +kernel
theorem dX7_setLeft_36 : decode cX7_setLeft 36 = .ok (.iastore, 1) := by decide +kernel
theorem dX7_setLeft_37 : decode cX7_setLeft 37 = .ok (.return_, 1) := by decide +kernel
set_option maxRecDepth 20000 in
theorem ggX7_soundThen_X7_of : GoodIn wsX7_soundThen wsX7_of := goodIn_r _ [5, 6, 37, 38, 39, 40, 41, 42, 43, 44, 45, 46, 47, 48, 49, 50, 51] (by decide +kernel) (by decide +kernel)
set_option maxRecDepth 20000 in
theorem gX7_soundThen_X7_of : GoodIn wsX7_soundThen (wsV RX7 45 RX7 yX7_of wsX7_of) := goodIn_app (goodIn_of _ (by decide +kernel)) ggX7_soundThen_X7_of
set_option maxRecDepth 20000 in
theorem ggX7_soundThen_X7_setLeft : GoodIn wsX7_soundThen wsX7_setLeft := goodIn_r _ [10, 6, 37, 38, 39, 40, 41, 42, 43, 44, 45, 46, 47, 48, 49, 50, 51] (by decide +kernel) (by decide +kernel)
set_option maxRecDepth 20000 in
theorem gX7_soundThen_X7_setLeft : GoodIn wsX7_soundThen (wsV RX7 110 RX7 yX7_setLeft wsX7_setLeft) := goodIn_app (goodIn_of _ (by decide +kernel)) ggX7_soundThen_X7_setLeft
set_option maxRecDepth 20000 in
theorem ggX7_soundThen_X7_match : GoodIn wsX7_soundThen wsX7_match := goodIn_r _ [14, 15, 16, 6, 17, 18, 19, 4, 20, 1, 2, 3, 5, 21, 22, 23, 24, 25, 26, 27, 28, 29, 30, 31, 32, 33, 34, 35, 36, 37, 38, 39, 40, 41, 42, 43, 44, 45, 46, 47, 48, 49, 50, 51] (by decide +kernel) (by decide +kernel)
set_option maxRecDepth 20000 in
theorem gX7_soundThen_X7_match : GoodIn wsX7_soundThen (wsV RX7 95 RX7 yX7_match wsX7_match) := goodIn_app (goodIn_of _ (by decide +kernel)) ggX7_soundThen_X7_match
theorem dX7_soundThen_0 : decode cX7_soundThen 0 = .ok (.aload_n 0, 1) := by decide +kernel
theorem dX7_soundThen_1 : decode cX7_soundThen 1 = .ok (.iload_n 1, 1) := by decide +kernel
theorem dX7_soundThen_2 : decode cX7_soundThen 2 = .ok (.iconst 4, 1) := by decide +kernel
theorem dX7_soundThen_3 : decode cX7_soundThen 3 = .ok (.invokevirtual 45, 3) := by decide +kernel
theorem dX7_soundThen_6 : decode cX7_soundThen 6 = .ok (.istore 4, 2) := by decide +kernel
theorem dX7_soundThen_8 : decode cX7_soundThen 8 = .ok (.aload_n 0, 1) := by decide +kernel
theorem dX7_soundThen_9 : decode cX7_soundThen 9 = .ok (.iload_n 1, 1) := by decide +kernel
theorem dX7_soundThen_10 : decode cX7_soundThen 10 = .ok (.iconst 5, 1) := by decide +kernel
theorem dX7_soundThen_11 : decode cX7_soundThen 11 = .ok (.invokevirtual 45, 3) := by decide +kernel
theorem dX7_soundThen_14 : decode cX7_soundThen 14 = .ok (.istore 5, 2) := by decide +kernel
theorem dX7_soundThen_16 : decode cX7_soundThen 16 = .ok (.aload_n 0, 1) := by decide +kernel
theorem dX7_soundThen_17 : decode cX7_soundThen 17 = .ok (.iload_n 1, 1) := by decide +kernel
theorem dX7_soundThen_18 : decode cX7_soundThen 18 = .ok (.iload_n 2, 1) := by decide +kernel
theorem dX7_soundThen_19 : decode cX7_soundThen 19 = .ok (.iload_n 3, 1) := by decide +kernel
theorem dX7_soundThen_20 : decode cX7_soundThen 20 = .ok (.invokevirtual 110, 3) := by decide +kernel
theorem dX7_soundThen_23 : decode cX7_soundThen 23 = .ok (.aload_n 0, 1) := by decide +kernel
theorem dX7_soundThen_24 : decode cX7_soundThen 24 = .ok (.invokevirtual 95, 3) := by decide +kernel
theorem dX7_soundThen_27 : decode cX7_soundThen 27 = .ok (.istore 6, 2) := by decide +kernel
theorem dX7_soundThen_29 : decode cX7_soundThen 29 = .ok (.aload_n 0, 1) := by decide +kernel
theorem dX7_soundThen_30 : decode cX7_soundThen 30 = .ok (.iload_n 1, 1) := by decide +kernel
theorem dX7_soundThen_31 : decode cX7_soundThen 31 = .ok (.iload 4, 2) := by decide +kernel
theorem dX7_soundThen_33 : decode cX7_soundThen 33 = .ok (.iload 5, 2) := by decide +kernel
theorem dX7_soundThen_35 : decode cX7_soundThen 35 = .ok (.invokevirtual 110, 3) := by decide +kernel
theorem dX7_soundThen_38 : decode cX7_soundThen 38 = .ok (.iload 6, 2) := by decide +kernel
theorem dX7_soundThen_40 : decode cX7_soundThen 40 = .ok (.ireturn, 1) := by decide +kernel
set_option maxRecDepth 20000 in
theorem ggX7_leave_X7_isDish : GoodIn wsX7_leave wsX7_isDish := goodIn_r _ [6, 7, 8, 9, 5, 10, 55, 56, 57, 58, 59, 60, 61, 62, 63, 64, 65, 66, 67, 68, 69] (by decide +kernel) (by decide +kernel)
set_option maxRecDepth 20000 in
theorem gX7_leave_X7_isDish : GoodIn wsX7_leave (wsV RX7 114 RX7 yX7_isDish wsX7_isDish) := goodIn_app (goodIn_of _ (by decide +kernel)) ggX7_leave_X7_isDish
set_option maxRecDepth 20000 in
theorem ggX7_leave_X7_within : GoodIn wsX7_leave wsX7_within := goodIn_r _ [10] (by decide +kernel) (by decide +kernel)
set_option maxRecDepth 20000 in
theorem gX7_leave_X7_within : GoodIn wsX7_leave (va_wsS RX7 41 yX7_within wsX7_within) := goodIn_app (goodIn_of _ (by decide +kernel)) ggX7_leave_X7_within
set_option maxRecDepth 20000 in
theorem ggX7_leave_X7_soundThen : GoodIn wsX7_leave wsX7_soundThen := goodIn_r _ [14, 15, 16, 17, 5, 18, 7, 19, 20, 21, 22, 23, 24, 25, 26, 27, 28, 29, 30, 31, 32, 33, 34, 35, 36, 37, 38, 39, 40, 41, 42, 43, 44, 45, 46, 47, 48, 55, 56, 57, 58, 59, 60, 61, 62, 63, 64, 65, 66, 67, 68, 69] (by decide +kernel) (by decide +kernel)
set_option maxRecDepth 20000 in
theorem gX7_leave_X7_soundThen : GoodIn wsX7_leave (wsV RX7 117 RX7 yX7_soundThen wsX7_soundThen) := goodIn_app (goodIn_of _ (by decide +kernel)) ggX7_leave_X7_soundThen
set_option maxRecDepth 20000 in
theorem ggX7_leave_X7_save : GoodIn wsX7_leave wsX7_save := goodIn_r _ [52, 53, 54, 7, 55, 56, 57, 58, 59, 60, 61, 62, 63, 64, 65, 66, 67, 68, 69] (by decide +kernel) (by decide +kernel)
set_option maxRecDepth 20000 in
theorem gX7_leave_X7_save : GoodIn wsX7_leave (wsV RX7 107 RX7 yX7_save wsX7_save) := goodIn_app (goodIn_of _ (by decide +kernel)) ggX7_leave_X7_save
set_option maxRecDepth 20000 in
theorem ggX7_leave_X7_of : GoodIn wsX7_leave wsX7_of := goodIn_r _ [18, 7, 55, 56, 57, 58, 59, 60, 61, 62, 63, 64, 65, 66, 67, 68, 69] (by decide +kernel) (by decide +kernel)
set_option maxRecDepth 20000 in
theorem gX7_leave_X7_of : GoodIn wsX7_leave (wsV RX7 45 RX7 yX7_of wsX7_of) := goodIn_app (goodIn_of _ (by decide +kernel)) ggX7_leave_X7_of
set_option maxRecDepth 20000 in
theorem ggX7_leave_X7_setLeft : GoodIn wsX7_leave wsX7_setLeft := goodIn_r _ [22, 7, 55, 56, 57, 58, 59, 60, 61, 62, 63, 64, 65, 66, 67, 68, 69] (by decide +kernel) (by decide +kernel)
set_option maxRecDepth 20000 in
theorem gX7_leave_X7_setLeft : GoodIn wsX7_leave (wsV RX7 110 RX7 yX7_setLeft wsX7_setLeft) := goodIn_app (goodIn_of _ (by decide +kernel)) ggX7_leave_X7_setLeft
theorem dX7_leave_0 : decode cX7_leave 0 = .ok (.aload_n 0, 1) := by decide +kernel
theorem dX7_leave_1 : decode cX7_leave 1 = .ok (.iload_n 1, 1) := by decide +kernel
theorem dX7_leave_2 : decode cX7_leave 2 = .ok (.invokevirtual 114, 3) := by decide +kernel
theorem dX7_leave_5 : decode cX7_leave 5 = .ok (.ifCond .eq 20, 3) := by decide +kernel
theorem dX7_leave_8 : decode cX7_leave 8 = .ok (.iload_n 2, 1) := by decide +kernel
theorem dX7_leave_9 : decode cX7_leave 9 = .ok (.iconst (-1), 1) := by decide +kernel
theorem dX7_leave_10 : decode cX7_leave 10 = .ok (.if_icmp .eq 11, 3) := by decide +kernel
theorem dX7_leave_13 : decode cX7_leave 13 = .ok (.aload_n 0, 1) := by decide +kernel
theorem dX7_leave_14 : decode cX7_leave 14 = .ok (.iload_n 2, 1) := by decide +kernel
theorem dX7_leave_15 : decode cX7_leave 15 = .ok (.invokevirtual 114, 3) := by decide +kernel
theorem dX7_leave_18 : decode cX7_leave 18 = .ok (.ifCond .eq 7, 3) := by decide +kernel
theorem dX7_leave_21 : decode cX7_leave 21 = .ok (.iconst 1, 1) := by decide +kernel
theorem dX7_leave_22 : decode cX7_leave 22 = .ok (.goto 4, 3) := by decide +kernel
theorem dX7_leave_25 : decode cX7_leave 25 = .ok (.iconst 0, 1) := by decide +kernel
theorem dX7_leave_26 : decode cX7_leave 26 = .ok (.istore 4, 2) := by decide +kernel
theorem dX7_leave_28 : decode cX7_leave 28 = .ok (.iload_n 2, 1) := by decide +kernel
theorem dX7_leave_29 : decode cX7_leave 29 = .ok (.iconst (-1), 1) := by decide +kernel
theorem dX7_leave_30 : decode cX7_leave 30 = .ok (.if_icmp .eq 18, 3) := by decide +kernel
theorem dX7_leave_33 : decode cX7_leave 33 = .ok (.iload_n 3, 1) := by decide +kernel
theorem dX7_leave_34 : decode cX7_leave 34 = .ok (.iconst 1, 1) := by decide +kernel
theorem dX7_leave_35 : decode cX7_leave 35 = .ok (.bipush 6, 2) := by decide +kernel
theorem dX7_leave_37 : decode cX7_leave 37 = .ok (.invokestatic 41, 3) := by decide +kernel
theorem dX7_leave_40 : decode cX7_leave 40 = .ok (.ifCond .eq 12, 3) := by decide +kernel
theorem dX7_leave_43 : decode cX7_leave 43 = .ok (.iload_n 1, 1) := by decide +kernel
theorem dX7_leave_44 : decode cX7_leave 44 = .ok (.iload_n 2, 1) := by decide +kernel
theorem dX7_leave_45 : decode cX7_leave 45 = .ok (.if_icmp .eq 7, 3) := by decide +kernel
theorem dX7_leave_48 : decode cX7_leave 48 = .ok (.iconst 1, 1) := by decide +kernel
theorem dX7_leave_49 : decode cX7_leave 49 = .ok (.goto 4, 3) := by decide +kernel
theorem dX7_leave_52 : decode cX7_leave 52 = .ok (.iconst 0, 1) := by decide +kernel
theorem dX7_leave_53 : decode cX7_leave 53 = .ok (.istore 5, 2) := by decide +kernel
theorem dX7_leave_55 : decode cX7_leave 55 = .ok (.aload_n 0, 1) := by decide +kernel
theorem dX7_leave_56 : decode cX7_leave 56 = .ok (.iload 4, 2) := by decide +kernel
theorem dX7_leave_58 : decode cX7_leave 58 = .ok (.ifCond .ne 7, 3) := by decide +kernel
theorem dX7_leave_61 : decode cX7_leave 61 = .ok (.iconst 1, 1) := by decide +kernel
theorem dX7_leave_62 : decode cX7_leave 62 = .ok (.goto 13, 3) := by decide +kernel
theorem dX7_leave_65 : decode cX7_leave 65 = .ok (.iload 5, 2) := by decide +kernel
theorem dX7_leave_67 : decode cX7_leave 67 = .ok (.ifCond .ne 7, 3) := by decide +kernel
theorem dX7_leave_70 : decode cX7_leave 70 = .ok (.iconst 2, 1) := by decide +kernel
theorem dX7_leave_71 : decode cX7_leave 71 = .ok (.goto 4, 3) := by decide +kernel
theorem dX7_leave_74 : decode cX7_leave 74 = .ok (.iconst 0, 1) := by decide +kernel
theorem dX7_leave_75 : decode cX7_leave 75 = .ok (.putfield 34, 3) := by decide +kernel
theorem dX7_leave_78 : decode cX7_leave 78 = .ok (.aload_n 0, 1) := by decide +kernel
theorem dX7_leave_79 : decode cX7_leave 79 = .ok (.getfield 34, 3) := by decide +kernel
theorem dX7_leave_82 : decode cX7_leave 82 = .ok (.ifCond .ne 22, 3) := by decide +kernel
theorem dX7_leave_85 : decode cX7_leave 85 = .ok (.aload_n 0, 1) := by decide +kernel
theorem dX7_leave_86 : decode cX7_leave 86 = .ok (.aload_n 0, 1) := by decide +kernel
theorem dX7_leave_87 : decode cX7_leave 87 = .ok (.iload_n 1, 1) := by decide +kernel
theorem dX7_leave_88 : decode cX7_leave 88 = .ok (.iload_n 2, 1) := by decide +kernel
theorem dX7_leave_89 : decode cX7_leave 89 = .ok (.iload_n 3, 1) := by decide +kernel
theorem dX7_leave_90 : decode cX7_leave 90 = .ok (.invokevirtual 117, 3) := by decide +kernel
theorem dX7_leave_93 : decode cX7_leave 93 = .ok (.ifCond .eq 7, 3) := by decide +kernel
theorem dX7_leave_96 : decode cX7_leave 96 = .ok (.iconst 0, 1) := by decide +kernel
theorem dX7_leave_97 : decode cX7_leave 97 = .ok (.goto 4, 3) := by decide +kernel
theorem dX7_leave_100 : decode cX7_leave 100 = .ok (.iconst 3, 1) := by decide +kernel
theorem dX7_leave_101 : decode cX7_leave 101 = .ok (.putfield 34, 3) := by decide +kernel
theorem dX7_leave_104 : decode cX7_leave 104 = .ok (.aload_n 0, 1) := by decide +kernel
theorem dX7_leave_105 : decode cX7_leave 105 = .ok (.getfield 34, 3) := by decide +kernel
theorem dX7_leave_108 : decode cX7_leave 108 = .ok (.ifCond .le 5, 3) := by decide +kernel
theorem dX7_leave_111 : decode cX7_leave 111 = .ok (.iconst 0, 1) := by decide +kernel
theorem dX7_leave_112 : decode cX7_leave 112 = .ok (.ireturn, 1) := by decide +kernel
theorem dX7_leave_113 : decode cX7_leave 113 = .ok (.aload_n 0, 1) := by decide +kernel
theorem dX7_leave_114 : decode cX7_leave 114 = .ok (.invokevirtual 107, 3) := by decide +kernel
theorem dX7_leave_117 : decode cX7_leave 117 = .ok (.aload_n 0, 1) := by decide +kernel
theorem dX7_leave_118 : decode cX7_leave 118 = .ok (.iload_n 1, 1) := by decide +kernel
theorem dX7_leave_119 : decode cX7_leave 119 = .ok (.iconst 4, 1) := by decide +kernel
theorem dX7_leave_120 : decode cX7_leave 120 = .ok (.invokevirtual 45, 3) := by decide +kernel
theorem dX7_leave_123 : decode cX7_leave 123 = .ok (.istore 6, 2) := by decide +kernel
theorem dX7_leave_125 : decode cX7_leave 125 = .ok (.aload_n 0, 1) := by decide +kernel
theorem dX7_leave_126 : decode cX7_leave 126 = .ok (.iload_n 1, 1) := by decide +kernel
theorem dX7_leave_127 : decode cX7_leave 127 = .ok (.iload_n 2, 1) := by decide +kernel
theorem dX7_leave_128 : decode cX7_leave 128 = .ok (.iload_n 3, 1) := by decide +kernel
theorem dX7_leave_129 : decode cX7_leave 129 = .ok (.invokevirtual 110, 3) := by decide +kernel
theorem dX7_leave_132 : decode cX7_leave 132 = .ok (.iload 6, 2) := by decide +kernel
theorem dX7_leave_134 : decode cX7_leave 134 = .ok (.ireturn, 1) := by decide +kernel
set_option maxRecDepth 20000 in
theorem ggX7_addGuest_X7_save : GoodIn wsX7_addGuest wsX7_save := goodIn_r _ [7, 8, 9, 1, 10, 11, 12, 13, 14, 15, 16, 17, 18, 19, 20, 21, 22, 23, 24] (by decide +kernel) (by decide +kernel)
set_option maxRecDepth 20000 in
theorem gX7_addGuest_X7_save : GoodIn wsX7_addGuest (wsV RX7 107 RX7 yX7_save wsX7_save) := goodIn_app (goodIn_of _ (by decide +kernel)) ggX7_addGuest_X7_save
theorem dX7_addGuest_0 : decode cX7_addGuest 0 = .ok (.aload_n 0, 1) := by decide +kernel
theorem dX7_addGuest_1 : decode cX7_addGuest 1 = .ok (.aload_n 0, 1) := by decide +kernel
theorem dX7_addGuest_2 : decode cX7_addGuest 2 = .ok (.getfield 7, 3) := by decide +kernel
theorem dX7_addGuest_5 : decode cX7_addGuest 5 = .ok (.iconst 4, 1) := by decide +kernel
theorem dX7_addGuest_6 : decode cX7_addGuest 6 = .ok (.iaload, 1) := by decide +kernel
theorem dX7_addGuest_7 : decode cX7_addGuest 7 = .ok (.bipush 6, 2) := by decide +kernel
theorem dX7_addGuest_9 : decode cX7_addGuest 9 = .ok (.if_icmp .ne 7, 3) := by decide +kernel
theorem dX7_addGuest_12 : decode cX7_addGuest 12 = .ok (.iconst 1, 1) := by decide +kernel
theorem dX7_addGuest_13 : decode cX7_addGuest 13 = .ok (.goto 4, 3) := by decide +kernel
theorem dX7_addGuest_16 : decode cX7_addGuest 16 = .ok (.iconst 0, 1) := by decide +kernel
theorem dX7_addGuest_17 : decode cX7_addGuest 17 = .ok (.putfield 34, 3) := by decide +kernel
theorem dX7_addGuest_20 : decode cX7_addGuest 20 = .ok (.aload_n 0, 1) := by decide +kernel
theorem dX7_addGuest_21 : decode cX7_addGuest 21 = .ok (.getfield 34, 3) := by decide +kernel
theorem dX7_addGuest_24 : decode cX7_addGuest 24 = .ok (.ifCond .le 5, 3) := by decide +kernel
theorem dX7_addGuest_27 : decode cX7_addGuest 27 = .ok (.iconst 0, 1) := by decide +kernel
theorem dX7_addGuest_28 : decode cX7_addGuest 28 = .ok (.ireturn, 1) := by decide +kernel
theorem dX7_addGuest_29 : decode cX7_addGuest 29 = .ok (.aload_n 0, 1) := by decide +kernel
theorem dX7_addGuest_30 : decode cX7_addGuest 30 = .ok (.invokevirtual 107, 3) := by decide +kernel
theorem dX7_addGuest_33 : decode cX7_addGuest 33 = .ok (.aload_n 0, 1) := by decide +kernel
theorem dX7_addGuest_34 : decode cX7_addGuest 34 = .ok (.getfield 7, 3) := by decide +kernel
theorem dX7_addGuest_37 : decode cX7_addGuest 37 = .ok (.bipush 77, 2) := by decide +kernel
theorem dX7_addGuest_39 : decode cX7_addGuest 39 = .ok (.iconst 2, 1) := by decide +kernel
theorem dX7_addGuest_40 : decode cX7_addGuest 40 = .ok (.aload_n 0, 1) := by decide +kernel
theorem dX7_addGuest_41 : decode cX7_addGuest 41 = .ok (.getfield 7, 3) := by decide +kernel
theorem dX7_addGuest_44 : decode cX7_addGuest 44 = .ok (.iconst 4, 1) := by decide +kernel
theorem dX7_addGuest_45 : decode cX7_addGuest 45 = .ok (.iaload, 1) := by decide +kernel
theorem dX7_addGuest_46 : decode cX7_addGuest 46 = .ok (.imul, 1) := by decide +kernel
theorem dX7_addGuest_47 : decode cX7_addGuest 47 = .ok (.iadd, 1) := by decide +kernel
theorem dX7_addGuest_48 : decode cX7_addGuest 48 = .ok (.iconst 0, 1) := by decide +kernel
theorem dX7_addGuest_49 : decode cX7_addGuest 49 = .ok (.iadd, 1) := by decide +kernel
theorem dX7_addGuest_50 : decode cX7_addGuest 50 = .ok (.bipush 127, 2) := by decide +kernel
theorem dX7_addGuest_52 : decode cX7_addGuest 52 = .ok (.iastore, 1) := by decide +kernel
theorem dX7_addGuest_53 : decode cX7_addGuest 53 = .ok (.aload_n 0, 1) := by decide +kernel
theorem dX7_addGuest_54 : decode cX7_addGuest 54 = .ok (.getfield 7, 3) := by decide +kernel
theorem dX7_addGuest_57 : decode cX7_addGuest 57 = .ok (.bipush 77, 2) := by decide +kernel
theorem dX7_addGuest_59 : decode cX7_addGuest 59 = .ok (.iconst 2, 1) := by decide +kernel
theorem dX7_addGuest_60 : decode cX7_addGuest 60 = .ok (.aload_n 0, 1) := by decide +kernel
theorem dX7_addGuest_61 : decode cX7_addGuest 61 = .ok (.getfield 7, 3) := by decide +kernel
theorem dX7_addGuest_64 : decode cX7_addGuest 64 = .ok (.iconst 4, 1) := by decide +kernel
theorem dX7_addGuest_65 : decode cX7_addGuest 65 = .ok (.iaload, 1) := by decide +kernel
theorem dX7_addGuest_66 : decode cX7_addGuest 66 = .ok (.imul, 1) := by decide +kernel
theorem dX7_addGuest_67 : decode cX7_addGuest 67 = .ok (.iadd, 1) := by decide +kernel
theorem dX7_addGuest_68 : decode cX7_addGuest 68 = .ok (.iconst 1, 1) := by decide +kernel
theorem dX7_addGuest_69 : decode cX7_addGuest 69 = .ok (.iadd, 1) := by decide +kernel
theorem dX7_addGuest_70 : decode cX7_addGuest 70 = .ok (.iconst 0, 1) := by decide +kernel
theorem dX7_addGuest_71 : decode cX7_addGuest 71 = .ok (.iastore, 1) := by decide +kernel
theorem dX7_addGuest_72 : decode cX7_addGuest 72 = .ok (.aload_n 0, 1) := by decide +kernel
theorem dX7_addGuest_73 : decode cX7_addGuest 73 = .ok (.getfield 7, 3) := by decide +kernel
theorem dX7_addGuest_76 : decode cX7_addGuest 76 = .ok (.iconst 4, 1) := by decide +kernel
theorem dX7_addGuest_77 : decode cX7_addGuest 77 = .ok (.dup2, 1) := by decide +kernel
theorem dX7_addGuest_78 : decode cX7_addGuest 78 = .ok (.iaload, 1) := by decide +kernel
theorem dX7_addGuest_79 : decode cX7_addGuest 79 = .ok (.iconst 1, 1) := by decide +kernel
theorem dX7_addGuest_80 : decode cX7_addGuest 80 = .ok (.iadd, 1) := by decide +kernel
theorem dX7_addGuest_81 : decode cX7_addGuest 81 = .ok (.iastore, 1) := by decide +kernel
theorem dX7_addGuest_82 : decode cX7_addGuest 82 = .ok (.aload_n 0, 1) := by decide +kernel
theorem dX7_addGuest_83 : decode cX7_addGuest 83 = .ok (.getfield 7, 3) := by decide +kernel
theorem dX7_addGuest_86 : decode cX7_addGuest 86 = .ok (.iconst 4, 1) := by decide +kernel
theorem dX7_addGuest_87 : decode cX7_addGuest 87 = .ok (.iaload, 1) := by decide +kernel
theorem dX7_addGuest_88 : decode cX7_addGuest 88 = .ok (.iconst 1, 1) := by decide +kernel
theorem dX7_addGuest_89 : decode cX7_addGuest 89 = .ok (.isub, 1) := by decide +kernel
theorem dX7_addGuest_90 : decode cX7_addGuest 90 = .ok (.ireturn, 1) := by decide +kernel
set_option maxRecDepth 20000 in
theorem ggX7_vetoedThen_X7_ofGuest : GoodIn wsX7_vetoedThen wsX7_ofGuest := goodIn_r _ [6, 1, 26, 27, 28, 29, 30, 31, 32, 33, 34, 35, 36, 37, 38, 39, 40] (by decide +kernel) (by decide +kernel)
set_option maxRecDepth 20000 in
theorem gX7_vetoedThen_X7_ofGuest : GoodIn wsX7_vetoedThen (wsV RX7 66 RX7 yX7_ofGuest wsX7_ofGuest) := goodIn_app (goodIn_of _ (by decide +kernel)) ggX7_vetoedThen_X7_ofGuest
set_option maxRecDepth 20000 in
theorem ggX7_vetoedThen_X7_someVetoed : GoodIn wsX7_vetoedThen wsX7_someVetoed := goodIn_r _ [10, 1, 11, 12, 13, 5, 14, 15, 16, 17, 18, 2, 3, 4, 6, 19, 20, 21, 22, 23, 24, 25, 26, 27, 28, 29, 30, 31, 32, 33, 34, 35, 36, 37, 38, 39, 40] (by decide +kernel) (by decide +kernel)
set_option maxRecDepth 20000 in
theorem gX7_vetoedThen_X7_someVetoed : GoodIn wsX7_vetoedThen (wsV RX7 88 RX7 yX7_someVetoed wsX7_someVetoed) := goodIn_app (goodIn_of _ (by decide +kernel)) ggX7_vetoedThen_X7_someVetoed
theorem dX7_vetoedThen_0 : decode cX7_vetoedThen 0 = .ok (.aload_n 0, 1) := by decide +kernel
theorem dX7_vetoedThen_1 : decode cX7_vetoedThen 1 = .ok (.iload_n 1, 1) := by decide +kernel
theorem dX7_vetoedThen_2 : decode cX7_vetoedThen 2 = .ok (.iload_n 2, 1) := by decide +kernel
theorem dX7_vetoedThen_3 : decode cX7_vetoedThen 3 = .ok (.invokevirtual 66, 3) := by decide +kernel
theorem dX7_vetoedThen_6 : decode cX7_vetoedThen 6 = .ok (.istore 4, 2) := by decide +kernel
theorem dX7_vetoedThen_8 : decode cX7_vetoedThen 8 = .ok (.aload_n 0, 1) := by decide +kernel
theorem dX7_vetoedThen_9 : decode cX7_vetoedThen 9 = .ok (.getfield 7, 3) := by decide +kernel
theorem dX7_vetoedThen_12 : decode cX7_vetoedThen 12 = .ok (.bipush 77, 2) := by decide +kernel
theorem dX7_vetoedThen_14 : decode cX7_vetoedThen 14 = .ok (.iconst 2, 1) := by decide +kernel
theorem dX7_vetoedThen_15 : decode cX7_vetoedThen 15 = .ok (.iload_n 1, 1) := by decide +kernel
theorem dX7_vetoedThen_16 : decode cX7_vetoedThen 16 = .ok (.imul, 1) := by decide +kernel
theorem dX7_vetoedThen_17 : decode cX7_vetoedThen 17 = .ok (.iadd, 1) := by decide +kernel
theorem dX7_vetoedThen_18 : decode cX7_vetoedThen 18 = .ok (.iload_n 2, 1) := by decide +kernel
theorem dX7_vetoedThen_19 : decode cX7_vetoedThen 19 = .ok (.iadd, 1) := by decide +kernel
theorem dX7_vetoedThen_20 : decode cX7_vetoedThen 20 = .ok (.iload_n 3, 1) := by decide +kernel
theorem dX7_vetoedThen_21 : decode cX7_vetoedThen 21 = .ok (.iastore, 1) := by decide +kernel
theorem dX7_vetoedThen_22 : decode cX7_vetoedThen 22 = .ok (.aload_n 0, 1) := by decide +kernel
theorem dX7_vetoedThen_23 : decode cX7_vetoedThen 23 = .ok (.invokevirtual 88, 3) := by decide +kernel
theorem dX7_vetoedThen_26 : decode cX7_vetoedThen 26 = .ok (.istore 5, 2) := by decide +kernel
theorem dX7_vetoedThen_28 : decode cX7_vetoedThen 28 = .ok (.aload_n 0, 1) := by decide +kernel
theorem dX7_vetoedThen_29 : decode cX7_vetoedThen 29 = .ok (.getfield 7, 3) := by decide +kernel
theorem dX7_vetoedThen_32 : decode cX7_vetoedThen 32 = .ok (.bipush 77, 2) := by decide +kernel
theorem dX7_vetoedThen_34 : decode cX7_vetoedThen 34 = .ok (.iconst 2, 1) := by decide +kernel
theorem dX7_vetoedThen_35 : decode cX7_vetoedThen 35 = .ok (.iload_n 1, 1) := by decide +kernel
theorem dX7_vetoedThen_36 : decode cX7_vetoedThen 36 = .ok (.imul, 1) := by decide +kernel
theorem dX7_vetoedThen_37 : decode cX7_vetoedThen 37 = .ok (.iadd, 1) := by decide +kernel
theorem dX7_vetoedThen_38 : decode cX7_vetoedThen 38 = .ok (.iload_n 2, 1) := by decide +kernel
theorem dX7_vetoedThen_39 : decode cX7_vetoedThen 39 = .ok (.iadd, 1) := by decide +kernel
theorem dX7_vetoedThen_40 : decode cX7_vetoedThen 40 = .ok (.iload 4, 2) := by decide +kernel
theorem dX7_vetoedThen_42 : decode cX7_vetoedThen 42 = .ok (.iastore, 1) := by decide +kernel
theorem dX7_vetoedThen_43 : decode cX7_vetoedThen 43 = .ok (.iload 5, 2) := by decide +kernel
theorem dX7_vetoedThen_45 : decode cX7_vetoedThen 45 = .ok (.ireturn, 1) := by decide +kernel
set_option maxRecDepth 20000 in
theorem ggX7_changesGuest_X7_isGuest : GoodIn wsX7_changesGuest wsX7_isGuest := goodIn_r _ [7, 2, 8, 9, 6, 10, 44, 45, 46, 47, 48, 49, 50, 51, 52, 53, 54, 55, 56, 57, 58] (by decide +kernel) (by decide +kernel)
set_option maxRecDepth 20000 in
theorem gX7_changesGuest_X7_isGuest : GoodIn wsX7_changesGuest (wsV RX7 120 RX7 yX7_isGuest wsX7_isGuest) := goodIn_app (goodIn_of _ (by decide +kernel)) ggX7_changesGuest_X7_isGuest
set_option maxRecDepth 20000 in
theorem ggX7_changesGuest_X7_within : GoodIn wsX7_changesGuest wsX7_within := goodIn_r _ [10] (by decide +kernel) (by decide +kernel)
set_option maxRecDepth 20000 in
theorem gX7_changesGuest_X7_within : GoodIn wsX7_changesGuest (va_wsS RX7 41 yX7_within wsX7_within) := goodIn_app (goodIn_of _ (by decide +kernel)) ggX7_changesGuest_X7_within
set_option maxRecDepth 20000 in
theorem ggX7_changesGuest_X7_vetoedThen : GoodIn wsX7_changesGuest wsX7_vetoedThen := goodIn_r _ [14, 2, 15, 16, 17, 6, 18, 19, 20, 21, 22, 23, 24, 25, 26, 27, 28, 29, 30, 31, 32, 33, 34, 35, 36, 37, 44, 45, 46, 47, 48, 49, 50, 51, 52, 53, 54, 55, 56, 57, 58] (by decide +kernel) (by decide +kernel)
set_option maxRecDepth 20000 in
theorem gX7_changesGuest_X7_vetoedThen : GoodIn wsX7_changesGuest (wsV RX7 123 RX7 yX7_vetoedThen wsX7_vetoedThen) := goodIn_app (goodIn_of _ (by decide +kernel)) ggX7_changesGuest_X7_vetoedThen
set_option maxRecDepth 20000 in
theorem ggX7_changesGuest_X7_save : GoodIn wsX7_changesGuest wsX7_save := goodIn_r _ [41, 42, 43, 2, 44, 45, 46, 47, 48, 49, 50, 51, 52, 53, 54, 55, 56, 57, 58] (by decide +kernel) (by decide +kernel)
set_option maxRecDepth 20000 in
theorem gX7_changesGuest_X7_save : GoodIn wsX7_changesGuest (wsV RX7 107 RX7 yX7_save wsX7_save) := goodIn_app (goodIn_of _ (by decide +kernel)) ggX7_changesGuest_X7_save
set_option maxRecDepth 20000 in
theorem ggX7_changesGuest_X7_ofGuest : GoodIn wsX7_changesGuest wsX7_ofGuest := goodIn_r _ [18, 2, 44, 45, 46, 47, 48, 49, 50, 51, 52, 53, 54, 55, 56, 57, 58] (by decide +kernel) (by decide +kernel)
set_option maxRecDepth 20000 in
theorem gX7_changesGuest_X7_ofGuest : GoodIn wsX7_changesGuest (wsV RX7 66 RX7 yX7_ofGuest wsX7_ofGuest) := goodIn_app (goodIn_of _ (by decide +kernel)) ggX7_changesGuest_X7_ofGuest
theorem dX7_changesGuest_0 : decode cX7_changesGuest 0 = .ok (.aload_n 0, 1) := by decide +kernel
theorem dX7_changesGuest_1 : decode cX7_changesGuest 1 = .ok (.aload_n 0, 1) := by decide +kernel
theorem dX7_changesGuest_2 : decode cX7_changesGuest 2 = .ok (.iload_n 1, 1) := by decide +kernel
theorem dX7_changesGuest_3 : decode cX7_changesGuest 3 = .ok (.invokevirtual 120, 3) := by decide +kernel
theorem dX7_changesGuest_6 : decode cX7_changesGuest 6 = .ok (.ifCond .ne 7, 3) := by decide +kernel
theorem dX7_changesGuest_9 : decode cX7_changesGuest 9 = .ok (.iconst 1, 1) := by decide +kernel
theorem dX7_changesGuest_10 : decode cX7_changesGuest 10 = .ok (.goto 18, 3) := by decide +kernel
theorem dX7_changesGuest_13 : decode cX7_changesGuest 13 = .ok (.iload_n 3, 1) := by decide +kernel
theorem dX7_changesGuest_14 : decode cX7_changesGuest 14 = .ok (.iconst 0, 1) := by decide +kernel
theorem dX7_changesGuest_15 : decode cX7_changesGuest 15 = .ok (.iload 4, 2) := by decide +kernel
theorem dX7_changesGuest_17 : decode cX7_changesGuest 17 = .ok (.invokestatic 41, 3) := by decide +kernel
theorem dX7_changesGuest_20 : decode cX7_changesGuest 20 = .ok (.ifCond .ne 7, 3) := by decide +kernel
theorem dX7_changesGuest_23 : decode cX7_changesGuest 23 = .ok (.iconst 2, 1) := by decide +kernel
theorem dX7_changesGuest_24 : decode cX7_changesGuest 24 = .ok (.goto 4, 3) := by decide +kernel
theorem dX7_changesGuest_27 : decode cX7_changesGuest 27 = .ok (.iconst 0, 1) := by decide +kernel
theorem dX7_changesGuest_28 : decode cX7_changesGuest 28 = .ok (.putfield 34, 3) := by decide +kernel
theorem dX7_changesGuest_31 : decode cX7_changesGuest 31 = .ok (.aload_n 0, 1) := by decide +kernel
theorem dX7_changesGuest_32 : decode cX7_changesGuest 32 = .ok (.getfield 34, 3) := by decide +kernel
theorem dX7_changesGuest_35 : decode cX7_changesGuest 35 = .ok (.ifCond .ne 22, 3) := by decide +kernel
theorem dX7_changesGuest_38 : decode cX7_changesGuest 38 = .ok (.aload_n 0, 1) := by decide +kernel
theorem dX7_changesGuest_39 : decode cX7_changesGuest 39 = .ok (.aload_n 0, 1) := by decide +kernel
theorem dX7_changesGuest_40 : decode cX7_changesGuest 40 = .ok (.iload_n 1, 1) := by decide +kernel
theorem dX7_changesGuest_41 : decode cX7_changesGuest 41 = .ok (.iload_n 2, 1) := by decide +kernel
theorem dX7_changesGuest_42 : decode cX7_changesGuest 42 = .ok (.iload_n 3, 1) := by decide +kernel
theorem dX7_changesGuest_43 : decode cX7_changesGuest 43 = .ok (.invokevirtual 123, 3) := by decide +kernel
theorem dX7_changesGuest_46 : decode cX7_changesGuest 46 = .ok (.ifCond .eq 7, 3) := by decide +kernel
theorem dX7_changesGuest_49 : decode cX7_changesGuest 49 = .ok (.iconst 3, 1) := by decide +kernel
theorem dX7_changesGuest_50 : decode cX7_changesGuest 50 = .ok (.goto 4, 3) := by decide +kernel
theorem dX7_changesGuest_53 : decode cX7_changesGuest 53 = .ok (.iconst 0, 1) := by decide +kernel
theorem dX7_changesGuest_54 : decode cX7_changesGuest 54 = .ok (.putfield 34, 3) := by decide +kernel
theorem dX7_changesGuest_57 : decode cX7_changesGuest 57 = .ok (.aload_n 0, 1) := by decide +kernel
theorem dX7_changesGuest_58 : decode cX7_changesGuest 58 = .ok (.getfield 34, 3) := by decide +kernel
theorem dX7_changesGuest_61 : decode cX7_changesGuest 61 = .ok (.ifCond .le 5, 3) := by decide +kernel
theorem dX7_changesGuest_64 : decode cX7_changesGuest 64 = .ok (.iconst 0, 1) := by decide +kernel
theorem dX7_changesGuest_65 : decode cX7_changesGuest 65 = .ok (.ireturn, 1) := by decide +kernel
theorem dX7_changesGuest_66 : decode cX7_changesGuest 66 = .ok (.aload_n 0, 1) := by decide +kernel
theorem dX7_changesGuest_67 : decode cX7_changesGuest 67 = .ok (.invokevirtual 107, 3) := by decide +kernel
theorem dX7_changesGuest_70 : decode cX7_changesGuest 70 = .ok (.aload_n 0, 1) := by decide +kernel
theorem dX7_changesGuest_71 : decode cX7_changesGuest 71 = .ok (.iload_n 1, 1) := by decide +kernel
theorem dX7_changesGuest_72 : decode cX7_changesGuest 72 = .ok (.iload_n 2, 1) := by decide +kernel
theorem dX7_changesGuest_73 : decode cX7_changesGuest 73 = .ok (.invokevirtual 66, 3) := by decide +kernel
theorem dX7_changesGuest_76 : decode cX7_changesGuest 76 = .ok (.istore 5, 2) := by decide +kernel
theorem dX7_changesGuest_78 : decode cX7_changesGuest 78 = .ok (.aload_n 0, 1) := by decide +kernel
theorem dX7_changesGuest_79 : decode cX7_changesGuest 79 = .ok (.getfield 7, 3) := by decide +kernel
theorem dX7_changesGuest_82 : decode cX7_changesGuest 82 = .ok (.bipush 77, 2) := by decide +kernel
theorem dX7_changesGuest_84 : decode cX7_changesGuest 84 = .ok (.iconst 2, 1) := by decide +kernel
theorem dX7_changesGuest_85 : decode cX7_changesGuest 85 = .ok (.iload_n 1, 1) := by decide +kernel
theorem dX7_changesGuest_86 : decode cX7_changesGuest 86 = .ok (.imul, 1) := by decide +kernel
theorem dX7_changesGuest_87 : decode cX7_changesGuest 87 = .ok (.iadd, 1) := by decide +kernel
theorem dX7_changesGuest_88 : decode cX7_changesGuest 88 = .ok (.iload_n 2, 1) := by decide +kernel
theorem dX7_changesGuest_89 : decode cX7_changesGuest 89 = .ok (.iadd, 1) := by decide +kernel
theorem dX7_changesGuest_90 : decode cX7_changesGuest 90 = .ok (.iload_n 3, 1) := by decide +kernel
theorem dX7_changesGuest_91 : decode cX7_changesGuest 91 = .ok (.iastore, 1) := by decide +kernel
theorem dX7_changesGuest_92 : decode cX7_changesGuest 92 = .ok (.iload 5, 2) := by decide +kernel
theorem dX7_changesGuest_94 : decode cX7_changesGuest 94 = .ok (.ireturn, 1) := by decide +kernel
set_option maxRecDepth 20000 in
theorem ggX7_come_X7_changesGuest : GoodIn wsX7_come wsX7_changesGuest := goodIn_r _ [5, 6, 7, 8, 9, 10, 4, 11, 12, 13, 14, 15, 16, 17, 18, 19, 20, 21, 22, 23, 24, 25, 26, 27, 28, 29, 30, 31, 32, 33, 34, 35, 36, 37, 38, 39, 40, 41, 42, 43, 44, 45, 46, 47, 48, 49, 50, 51, 52, 53, 54, 55, 56, 57, 58, 59, 60, 61, 62] (by decide +kernel) (by decide +kernel)
set_option maxRecDepth 20000 in
theorem gX7_come_X7_changesGuest : GoodIn wsX7_come (wsV RX7 126 RX7 yX7_changesGuest wsX7_changesGuest) := goodIn_app (goodIn_of _ (by decide +kernel)) ggX7_come_X7_changesGuest
theorem dX7_come_0 : decode cX7_come 0 = .ok (.aload_n 0, 1) := by decide +kernel
theorem dX7_come_1 : decode cX7_come 1 = .ok (.iload_n 1, 1) := by decide +kernel
theorem dX7_come_2 : decode cX7_come 2 = .ok (.iconst 0, 1) := by decide +kernel
theorem dX7_come_3 : decode cX7_come 3 = .ok (.iload_n 2, 1) := by decide +kernel
theorem dX7_come_4 : decode cX7_come 4 = .ok (.bipush 127, 2) := by decide +kernel
theorem dX7_come_6 : decode cX7_come 6 = .ok (.invokevirtual 126, 3) := by decide +kernel
theorem dX7_come_9 : decode cX7_come 9 = .ok (.ireturn, 1) := by decide +kernel
set_option maxRecDepth 20000 in
theorem ggX7_veto_X7_changesGuest : GoodIn wsX7_veto wsX7_changesGuest := goodIn_r _ [5, 6, 7, 8, 9, 10, 4, 11, 12, 13, 14, 15, 16, 17, 18, 19, 20, 21, 22, 23, 24, 25, 26, 27, 28, 29, 30, 31, 32, 33, 34, 35, 36, 37, 38, 39, 40, 41, 42, 43, 44, 45, 46, 47, 48, 49, 50, 51, 52, 53, 54, 55, 56, 57, 58, 59, 60, 61, 62] (by decide +kernel) (by decide +kernel)
set_option maxRecDepth 20000 in
theorem gX7_veto_X7_changesGuest : GoodIn wsX7_veto (wsV RX7 126 RX7 yX7_changesGuest wsX7_changesGuest) := goodIn_app (goodIn_of _ (by decide +kernel)) ggX7_veto_X7_changesGuest
theorem dX7_veto_0 : decode cX7_veto 0 = .ok (.aload_n 0, 1) := by decide +kernel
theorem dX7_veto_1 : decode cX7_veto 1 = .ok (.iload_n 1, 1) := by decide +kernel
theorem dX7_veto_2 : decode cX7_veto 2 = .ok (.iconst 1, 1) := by decide +kernel
theorem dX7_veto_3 : decode cX7_veto 3 = .ok (.iload_n 2, 1) := by decide +kernel
theorem dX7_veto_4 : decode cX7_veto 4 = .ok (.bipush 63, 2) := by decide +kernel
theorem dX7_veto_6 : decode cX7_veto 6 = .ok (.invokevirtual 126, 3) := by decide +kernel
theorem dX7_veto_9 : decode cX7_veto 9 = .ok (.ireturn, 1) := by decide +kernel
set_option maxRecDepth 20000 in
theorem ggX7_isSetting_X7_within : GoodIn wsX7_isSetting wsX7_within := goodIn_r _ [4] (by decide +kernel) (by decide +kernel)
set_option maxRecDepth 20000 in
theorem gX7_isSetting_X7_within : GoodIn wsX7_isSetting (va_wsS RX7 41 yX7_within wsX7_within) := goodIn_app (goodIn_of _ (by decide +kernel)) ggX7_isSetting_X7_within
theorem dX7_isSetting_0 : decode cX7_isSetting 0 = .ok (.iload_n 0, 1) := by decide +kernel
theorem dX7_isSetting_1 : decode cX7_isSetting 1 = .ok (.iconst 0, 1) := by decide +kernel
theorem dX7_isSetting_2 : decode cX7_isSetting 2 = .ok (.iconst 2, 1) := by decide +kernel
theorem dX7_isSetting_3 : decode cX7_isSetting 3 = .ok (.invokestatic 41, 3) := by decide +kernel
theorem dX7_isSetting_6 : decode cX7_isSetting 6 = .ok (.ireturn, 1) := by decide +kernel
set_option maxRecDepth 20000 in
theorem ggX7_isValue_X7_within : GoodIn wsX7_isValue wsX7_within := goodIn_r _ [4] (by decide +kernel) (by decide +kernel)
set_option maxRecDepth 20000 in
theorem gX7_isValue_X7_within : GoodIn wsX7_isValue (va_wsS RX7 41 yX7_within wsX7_within) := goodIn_app (goodIn_of _ (by decide +kernel)) ggX7_isValue_X7_within
theorem dX7_isValue_0 : decode cX7_isValue 0 = .ok (.iload_n 0, 1) := by decide +kernel
theorem dX7_isValue_1 : decode cX7_isValue 1 = .ok (.ifCond .ne 13, 3) := by decide +kernel
theorem dX7_isValue_4 : decode cX7_isValue 4 = .ok (.iload_n 1, 1) := by decide +kernel
theorem dX7_isValue_5 : decode cX7_isValue 5 = .ok (.iconst 0, 1) := by decide +kernel
theorem dX7_isValue_6 : decode cX7_isValue 6 = .ok (.bipush 9, 2) := by decide +kernel
theorem dX7_isValue_8 : decode cX7_isValue 8 = .ok (.invokestatic 41, 3) := by decide +kernel
theorem dX7_isValue_11 : decode cX7_isValue 11 = .ok (.goto 26, 3) := by decide +kernel
theorem dX7_isValue_14 : decode cX7_isValue 14 = .ok (.iload_n 0, 1) := by decide +kernel
theorem dX7_isValue_15 : decode cX7_isValue 15 = .ok (.iconst 1, 1) := by decide +kernel
theorem dX7_isValue_16 : decode cX7_isValue 16 = .ok (.if_icmp .ne 13, 3) := by decide +kernel
theorem dX7_isValue_19 : decode cX7_isValue 19 = .ok (.iload_n 1, 1) := by decide +kernel
theorem dX7_isValue_20 : decode cX7_isValue 20 = .ok (.iconst 1, 1) := by decide +kernel
theorem dX7_isValue_21 : decode cX7_isValue 21 = .ok (.bipush 10, 2) := by decide +kernel
theorem dX7_isValue_23 : decode cX7_isValue 23 = .ok (.invokestatic 41, 3) := by decide +kernel
theorem dX7_isValue_26 : decode cX7_isValue 26 = .ok (.goto 11, 3) := by decide +kernel
theorem dX7_isValue_29 : decode cX7_isValue 29 = .ok (.iload_n 1, 1) := by decide +kernel
theorem dX7_isValue_30 : decode cX7_isValue 30 = .ok (.iconst 0, 1) := by decide +kernel
theorem dX7_isValue_31 : decode cX7_isValue 31 = .ok (.sipush 999, 3) := by decide +kernel
theorem dX7_isValue_34 : decode cX7_isValue 34 = .ok (.invokestatic 41, 3) := by decide +kernel
theorem dX7_isValue_37 : decode cX7_isValue 37 = .ok (.ireturn, 1) := by decide +kernel
set_option maxRecDepth 20000 in
theorem ggX7_set_X7_isSetting : GoodIn wsX7_set wsX7_isSetting := goodIn_r _ [6, 7, 8, 5, 9] (by decide +kernel) (by decide +kernel)
set_option maxRecDepth 20000 in
theorem gX7_set_X7_isSetting : GoodIn wsX7_set (va_wsS RX7 130 yX7_isSetting wsX7_isSetting) := goodIn_app (goodIn_of _ (by decide +kernel)) ggX7_set_X7_isSetting
set_option maxRecDepth 20000 in
theorem ggX7_set_X7_isValue : GoodIn wsX7_set wsX7_isValue := goodIn_r _ [12, 7, 8, 5, 9] (by decide +kernel) (by decide +kernel)
set_option maxRecDepth 20000 in
theorem gX7_set_X7_isValue : GoodIn wsX7_set (va_wsS RX7 133 yX7_isValue wsX7_isValue) := goodIn_app (goodIn_of _ (by decide +kernel)) ggX7_set_X7_isValue
set_option maxRecDepth 20000 in
theorem ggX7_set_X7_isDear : GoodIn wsX7_set wsX7_isDear := goodIn_r _ [16, 17, 18, 19, 5, 20, 21, 22, 23, 24, 25, 26, 27, 28, 2, 29, 30, 31, 32, 39, 40, 41, 42, 43, 44, 45, 46, 47, 48, 49, 50, 51, 52, 53] (by decide +kernel) (by decide +kernel)
set_option maxRecDepth 20000 in
theorem gX7_set_X7_isDear : GoodIn wsX7_set (wsV RX7 92 RX7 yX7_isDear wsX7_isDear) := goodIn_app (goodIn_of _ (by decide +kernel)) ggX7_set_X7_isDear
set_option maxRecDepth 20000 in
theorem ggX7_set_X7_save : GoodIn wsX7_set wsX7_save := goodIn_r _ [36, 37, 38, 2, 39, 40, 41, 42, 43, 44, 45, 46, 47, 48, 49, 50, 51, 52, 53] (by decide +kernel) (by decide +kernel)
set_option maxRecDepth 20000 in
theorem gX7_set_X7_save : GoodIn wsX7_set (wsV RX7 107 RX7 yX7_save wsX7_save) := goodIn_app (goodIn_of _ (by decide +kernel)) ggX7_set_X7_save
theorem dX7_set_0 : decode cX7_set 0 = .ok (.aload_n 0, 1) := by decide +kernel
theorem dX7_set_1 : decode cX7_set 1 = .ok (.iload_n 1, 1) := by decide +kernel
theorem dX7_set_2 : decode cX7_set 2 = .ok (.invokestatic 130, 3) := by decide +kernel
theorem dX7_set_5 : decode cX7_set 5 = .ok (.ifCond .ne 7, 3) := by decide +kernel
theorem dX7_set_8 : decode cX7_set 8 = .ok (.iconst 1, 1) := by decide +kernel
theorem dX7_set_9 : decode cX7_set 9 = .ok (.goto 33, 3) := by decide +kernel
theorem dX7_set_12 : decode cX7_set 12 = .ok (.iload_n 1, 1) := by decide +kernel
theorem dX7_set_13 : decode cX7_set 13 = .ok (.iload_n 2, 1) := by decide +kernel
theorem dX7_set_14 : decode cX7_set 14 = .ok (.invokestatic 133, 3) := by decide +kernel
theorem dX7_set_17 : decode cX7_set 17 = .ok (.ifCond .ne 7, 3) := by decide +kernel
theorem dX7_set_20 : decode cX7_set 20 = .ok (.iconst 2, 1) := by decide +kernel
theorem dX7_set_21 : decode cX7_set 21 = .ok (.goto 21, 3) := by decide +kernel
theorem dX7_set_24 : decode cX7_set 24 = .ok (.iload_n 1, 1) := by decide +kernel
theorem dX7_set_25 : decode cX7_set 25 = .ok (.iconst 2, 1) := by decide +kernel
theorem dX7_set_26 : decode cX7_set 26 = .ok (.if_icmp .ne 15, 3) := by decide +kernel
theorem dX7_set_29 : decode cX7_set 29 = .ok (.aload_n 0, 1) := by decide +kernel
theorem dX7_set_30 : decode cX7_set 30 = .ok (.iload_n 2, 1) := by decide +kernel
theorem dX7_set_31 : decode cX7_set 31 = .ok (.invokevirtual 92, 3) := by decide +kernel
theorem dX7_set_34 : decode cX7_set 34 = .ok (.ifCond .eq 7, 3) := by decide +kernel
theorem dX7_set_37 : decode cX7_set 37 = .ok (.iconst 3, 1) := by decide +kernel
theorem dX7_set_38 : decode cX7_set 38 = .ok (.goto 4, 3) := by decide +kernel
theorem dX7_set_41 : decode cX7_set 41 = .ok (.iconst 0, 1) := by decide +kernel
theorem dX7_set_42 : decode cX7_set 42 = .ok (.putfield 34, 3) := by decide +kernel
theorem dX7_set_45 : decode cX7_set 45 = .ok (.aload_n 0, 1) := by decide +kernel
theorem dX7_set_46 : decode cX7_set 46 = .ok (.getfield 34, 3) := by decide +kernel
theorem dX7_set_49 : decode cX7_set 49 = .ok (.ifCond .le 5, 3) := by decide +kernel
theorem dX7_set_52 : decode cX7_set 52 = .ok (.iconst 0, 1) := by decide +kernel
theorem dX7_set_53 : decode cX7_set 53 = .ok (.ireturn, 1) := by decide +kernel
theorem dX7_set_54 : decode cX7_set 54 = .ok (.aload_n 0, 1) := by decide +kernel
theorem dX7_set_55 : decode cX7_set 55 = .ok (.invokevirtual 107, 3) := by decide +kernel
theorem dX7_set_58 : decode cX7_set 58 = .ok (.aload_n 0, 1) := by decide +kernel
theorem dX7_set_59 : decode cX7_set 59 = .ok (.getfield 7, 3) := by decide +kernel
theorem dX7_set_62 : decode cX7_set 62 = .ok (.iload_n 1, 1) := by decide +kernel
theorem dX7_set_63 : decode cX7_set 63 = .ok (.iaload, 1) := by decide +kernel
theorem dX7_set_64 : decode cX7_set 64 = .ok (.istore_n 3, 1) := by decide +kernel
theorem dX7_set_65 : decode cX7_set 65 = .ok (.aload_n 0, 1) := by decide +kernel
theorem dX7_set_66 : decode cX7_set 66 = .ok (.getfield 7, 3) := by decide +kernel
theorem dX7_set_69 : decode cX7_set 69 = .ok (.iload_n 1, 1) := by decide +kernel
theorem dX7_set_70 : decode cX7_set 70 = .ok (.iload_n 2, 1) := by decide +kernel
theorem dX7_set_71 : decode cX7_set 71 = .ok (.iastore, 1) := by decide +kernel
theorem dX7_set_72 : decode cX7_set 72 = .ok (.iload_n 3, 1) := by decide +kernel
theorem dX7_set_73 : decode cX7_set 73 = .ok (.ireturn, 1) := by decide +kernel
theorem dX7_put_0 : decode cX7_put 0 = .ok (.aload_n 0, 1) := by decide +kernel
theorem dX7_put_1 : decode cX7_put 1 = .ok (.getfield 7, 3) := by decide +kernel
theorem dX7_put_4 : decode cX7_put 4 = .ok (.bipush 89, 2) := by decide +kernel
theorem dX7_put_6 : decode cX7_put 6 = .ok (.iconst 3, 1) := by decide +kernel
theorem dX7_put_7 : decode cX7_put 7 = .ok (.iload_n 1, 1) := by decide +kernel
theorem dX7_put_8 : decode cX7_put 8 = .ok (.imul, 1) := by decide +kernel
theorem dX7_put_9 : decode cX7_put 9 = .ok (.iadd, 1) := by decide +kernel
theorem dX7_put_10 : decode cX7_put 10 = .ok (.iload_n 2, 1) := by decide +kernel
theorem dX7_put_11 : decode cX7_put 11 = .ok (.iadd, 1) := by decide +kernel
theorem dX7_put_12 : decode cX7_put 12 = .ok (.iload_n 3, 1) := by decide +kernel
theorem dX7_put_13 : decode cX7_put 13 = .ok (.iastore, 1) := by decide +kernel
theorem dX7_put_14 : decode cX7_put 14 = .ok (.return_, 1) := by decide +kernel
set_option maxRecDepth 20000 in
theorem ggX7_soundWith_X7_at : GoodIn wsX7_soundWith wsX7_at := goodIn_r _ [5, 6, 41, 42, 43, 44, 45, 46, 47, 48, 49, 50, 51, 52, 53, 54, 55] (by decide +kernel) (by decide +kernel)
set_option maxRecDepth 20000 in
theorem gX7_soundWith_X7_at : GoodIn wsX7_soundWith (wsV RX7 79 RX7 yX7_at wsX7_at) := goodIn_app (goodIn_of _ (by decide +kernel)) ggX7_soundWith_X7_at
set_option maxRecDepth 20000 in
theorem ggX7_soundWith_X7_put : GoodIn wsX7_soundWith wsX7_put := goodIn_r _ [10, 6, 41, 42, 43, 44, 45, 46, 47, 48, 49, 50, 51, 52, 53, 54, 55] (by decide +kernel) (by decide +kernel)
set_option maxRecDepth 20000 in
theorem gX7_soundWith_X7_put : GoodIn wsX7_soundWith (wsV RX7 136 RX7 yX7_put wsX7_put) := goodIn_app (goodIn_of _ (by decide +kernel)) ggX7_soundWith_X7_put
set_option maxRecDepth 20000 in
theorem ggX7_soundWith_X7_match : GoodIn wsX7_soundWith wsX7_match := goodIn_r _ [14, 15, 16, 6, 17, 18, 19, 4, 20, 21, 22, 23, 24, 25, 26, 27, 28, 29, 30, 31, 32, 33, 34, 35, 36, 37, 38, 39, 40, 41, 42, 43, 44, 45, 46, 47, 48, 49, 50, 51, 52, 53, 54, 55] (by decide +kernel) (by decide +kernel)
set_option maxRecDepth 20000 in
theorem gX7_soundWith_X7_match : GoodIn wsX7_soundWith (wsV RX7 95 RX7 yX7_match wsX7_match) := goodIn_app (goodIn_of _ (by decide +kernel)) ggX7_soundWith_X7_match
theorem dX7_soundWith_0 : decode cX7_soundWith 0 = .ok (.aload_n 0, 1) := by decide +kernel
theorem dX7_soundWith_1 : decode cX7_soundWith 1 = .ok (.iload_n 1, 1) := by decide +kernel
theorem dX7_soundWith_2 : decode cX7_soundWith 2 = .ok (.iload_n 2, 1) := by decide +kernel
theorem dX7_soundWith_3 : decode cX7_soundWith 3 = .ok (.invokevirtual 79, 3) := by decide +kernel
theorem dX7_soundWith_6 : decode cX7_soundWith 6 = .ok (.istore 4, 2) := by decide +kernel
theorem dX7_soundWith_8 : decode cX7_soundWith 8 = .ok (.aload_n 0, 1) := by decide +kernel
theorem dX7_soundWith_9 : decode cX7_soundWith 9 = .ok (.iload_n 1, 1) := by decide +kernel
theorem dX7_soundWith_10 : decode cX7_soundWith 10 = .ok (.iload_n 2, 1) := by decide +kernel
theorem dX7_soundWith_11 : decode cX7_soundWith 11 = .ok (.iload_n 3, 1) := by decide +kernel
theorem dX7_soundWith_12 : decode cX7_soundWith 12 = .ok (.invokevirtual 136, 3) := by decide +kernel
theorem dX7_soundWith_15 : decode cX7_soundWith 15 = .ok (.aload_n 0, 1) := by decide +kernel
theorem dX7_soundWith_16 : decode cX7_soundWith 16 = .ok (.invokevirtual 95, 3) := by decide +kernel
theorem dX7_soundWith_19 : decode cX7_soundWith 19 = .ok (.istore 5, 2) := by decide +kernel
theorem dX7_soundWith_21 : decode cX7_soundWith 21 = .ok (.aload_n 0, 1) := by decide +kernel
theorem dX7_soundWith_22 : decode cX7_soundWith 22 = .ok (.iload_n 1, 1) := by decide +kernel
theorem dX7_soundWith_23 : decode cX7_soundWith 23 = .ok (.iload_n 2, 1) := by decide +kernel
theorem dX7_soundWith_24 : decode cX7_soundWith 24 = .ok (.iload 4, 2) := by decide +kernel
theorem dX7_soundWith_26 : decode cX7_soundWith 26 = .ok (.invokevirtual 136, 3) := by decide +kernel
theorem dX7_soundWith_29 : decode cX7_soundWith 29 = .ok (.iload 5, 2) := by decide +kernel
theorem dX7_soundWith_31 : decode cX7_soundWith 31 = .ok (.ireturn, 1) := by decide +kernel
set_option maxRecDepth 20000 in
theorem ggX7_reason_X7_at : GoodIn wsX7_reason wsX7_at := goodIn_r _ [6, 1, 68, 69, 70, 71, 72, 73, 74, 75, 76, 77, 78, 79, 80, 81, 82] (by decide +kernel) (by decide +kernel)
set_option maxRecDepth 20000 in
theorem gX7_reason_X7_at : GoodIn wsX7_reason (wsV RX7 79 RX7 yX7_at wsX7_at) := goodIn_app (goodIn_of _ (by decide +kernel)) ggX7_reason_X7_at
set_option maxRecDepth 20000 in
theorem ggX7_reason_X7_of : GoodIn wsX7_reason wsX7_of := goodIn_r _ [10, 1, 68, 69, 70, 71, 72, 73, 74, 75, 76, 77, 78, 79, 80, 81, 82] (by decide +kernel) (by decide +kernel)
set_option maxRecDepth 20000 in
theorem gX7_reason_X7_of : GoodIn wsX7_reason (wsV RX7 45 RX7 yX7_of wsX7_of) := goodIn_app (goodIn_of _ (by decide +kernel)) ggX7_reason_X7_of
set_option maxRecDepth 20000 in
theorem ggX7_reason_X7_isVetoed : GoodIn wsX7_reason wsX7_isVetoed := goodIn_r _ [14, 15, 16, 17, 5, 18, 1, 19, 20, 21, 22, 23, 24, 25, 7, 8, 9, 10, 68, 69, 70, 71, 72, 73, 74, 75, 76, 77, 78, 79, 80, 81, 82] (by decide +kernel) (by decide +kernel)
set_option maxRecDepth 20000 in
theorem gX7_reason_X7_isVetoed : GoodIn wsX7_reason (wsV RX7 76 RX7 yX7_isVetoed wsX7_isVetoed) := goodIn_app (goodIn_of _ (by decide +kernel)) ggX7_reason_X7_isVetoed
set_option maxRecDepth 20000 in
theorem ggX7_reason_X7_weekCost : GoodIn wsX7_reason wsX7_weekCost := goodIn_r _ [29, 30, 31, 32, 5, 33, 2, 3, 4, 6, 1, 7, 8, 9, 10, 68, 69, 70, 71, 72, 73, 74, 75, 76, 77, 78, 79, 80, 81, 82] (by decide +kernel) (by decide +kernel)
set_option maxRecDepth 20000 in
theorem gX7_reason_X7_weekCost : GoodIn wsX7_reason (wsV RX7 85 RX7 yX7_weekCost wsX7_weekCost) := goodIn_app (goodIn_of _ (by decide +kernel)) ggX7_reason_X7_weekCost
set_option maxRecDepth 20000 in
theorem ggX7_reason_X7_soundWith : GoodIn wsX7_reason wsX7_soundWith := goodIn_r _ [37, 2, 3, 4, 5, 6, 1, 38, 39, 40, 41, 42, 43, 44, 45, 46, 47, 48, 49, 50, 51, 7, 8, 9, 10, 52, 53, 54, 55, 56, 57, 58, 59, 60, 61, 62, 63, 64, 65, 66, 67, 68, 69, 70, 71, 72, 73, 74, 75, 76, 77, 78, 79, 80, 81, 82] (by decide +kernel) (by decide +kernel)
set_option maxRecDepth 20000 in
theorem gX7_reason_X7_soundWith : GoodIn wsX7_reason (wsV RX7 139 RX7 yX7_soundWith wsX7_soundWith) := goodIn_app (goodIn_of _ (by decide +kernel)) ggX7_reason_X7_soundWith
theorem dX7_reason_0 : decode cX7_reason 0 = .ok (.aload_n 0, 1) := by decide +kernel
theorem dX7_reason_1 : decode cX7_reason 1 = .ok (.iload_n 1, 1) := by decide +kernel
theorem dX7_reason_2 : decode cX7_reason 2 = .ok (.iload_n 2, 1) := by decide +kernel
theorem dX7_reason_3 : decode cX7_reason 3 = .ok (.invokevirtual 79, 3) := by decide +kernel
theorem dX7_reason_6 : decode cX7_reason 6 = .ok (.iconst (-1), 1) := by decide +kernel
theorem dX7_reason_7 : decode cX7_reason 7 = .ok (.if_icmp .eq 5, 3) := by decide +kernel
theorem dX7_reason_10 : decode cX7_reason 10 = .ok (.iconst 1, 1) := by decide +kernel
theorem dX7_reason_11 : decode cX7_reason 11 = .ok (.ireturn, 1) := by decide +kernel
theorem dX7_reason_12 : decode cX7_reason 12 = .ok (.aload_n 0, 1) := by decide +kernel
theorem dX7_reason_13 : decode cX7_reason 13 = .ok (.iload_n 3, 1) := by decide +kernel
theorem dX7_reason_14 : decode cX7_reason 14 = .ok (.iconst 0, 1) := by decide +kernel
theorem dX7_reason_15 : decode cX7_reason 15 = .ok (.invokevirtual 45, 3) := by decide +kernel
theorem dX7_reason_18 : decode cX7_reason 18 = .ok (.iload_n 2, 1) := by decide +kernel
theorem dX7_reason_19 : decode cX7_reason 19 = .ok (.if_icmp .eq 5, 3) := by decide +kernel
theorem dX7_reason_22 : decode cX7_reason 22 = .ok (.iconst 2, 1) := by decide +kernel
theorem dX7_reason_23 : decode cX7_reason 23 = .ok (.ireturn, 1) := by decide +kernel
theorem dX7_reason_24 : decode cX7_reason 24 = .ok (.aload_n 0, 1) := by decide +kernel
theorem dX7_reason_25 : decode cX7_reason 25 = .ok (.iload_n 1, 1) := by decide +kernel
theorem dX7_reason_26 : decode cX7_reason 26 = .ok (.iload_n 3, 1) := by decide +kernel
theorem dX7_reason_27 : decode cX7_reason 27 = .ok (.invokevirtual 76, 3) := by decide +kernel
theorem dX7_reason_30 : decode cX7_reason 30 = .ok (.ifCond .eq 5, 3) := by decide +kernel
theorem dX7_reason_33 : decode cX7_reason 33 = .ok (.iconst 3, 1) := by decide +kernel
theorem dX7_reason_34 : decode cX7_reason 34 = .ok (.ireturn, 1) := by decide +kernel
theorem dX7_reason_35 : decode cX7_reason 35 = .ok (.aload_n 0, 1) := by decide +kernel
theorem dX7_reason_36 : decode cX7_reason 36 = .ok (.iload_n 1, 1) := by decide +kernel
theorem dX7_reason_37 : decode cX7_reason 37 = .ok (.bipush 7, 2) := by decide +kernel
theorem dX7_reason_39 : decode cX7_reason 39 = .ok (.idiv, 1) := by decide +kernel
theorem dX7_reason_40 : decode cX7_reason 40 = .ok (.invokevirtual 85, 3) := by decide +kernel
theorem dX7_reason_43 : decode cX7_reason 43 = .ok (.aload_n 0, 1) := by decide +kernel
theorem dX7_reason_44 : decode cX7_reason 44 = .ok (.iload_n 3, 1) := by decide +kernel
theorem dX7_reason_45 : decode cX7_reason 45 = .ok (.iconst 1, 1) := by decide +kernel
theorem dX7_reason_46 : decode cX7_reason 46 = .ok (.invokevirtual 45, 3) := by decide +kernel
theorem dX7_reason_49 : decode cX7_reason 49 = .ok (.iadd, 1) := by decide +kernel
theorem dX7_reason_50 : decode cX7_reason 50 = .ok (.aload_n 0, 1) := by decide +kernel
theorem dX7_reason_51 : decode cX7_reason 51 = .ok (.getfield 7, 3) := by decide +kernel
theorem dX7_reason_54 : decode cX7_reason 54 = .ok (.iconst 2, 1) := by decide +kernel
theorem dX7_reason_55 : decode cX7_reason 55 = .ok (.iaload, 1) := by decide +kernel
theorem dX7_reason_56 : decode cX7_reason 56 = .ok (.if_icmp .le 7, 3) := by decide +kernel
theorem dX7_reason_59 : decode cX7_reason 59 = .ok (.iconst 4, 1) := by decide +kernel
theorem dX7_reason_60 : decode cX7_reason 60 = .ok (.goto 18, 3) := by decide +kernel
theorem dX7_reason_63 : decode cX7_reason 63 = .ok (.aload_n 0, 1) := by decide +kernel
theorem dX7_reason_64 : decode cX7_reason 64 = .ok (.iload_n 1, 1) := by decide +kernel
theorem dX7_reason_65 : decode cX7_reason 65 = .ok (.iload_n 2, 1) := by decide +kernel
theorem dX7_reason_66 : decode cX7_reason 66 = .ok (.iload_n 3, 1) := by decide +kernel
theorem dX7_reason_67 : decode cX7_reason 67 = .ok (.invokevirtual 139, 3) := by decide +kernel
theorem dX7_reason_70 : decode cX7_reason 70 = .ok (.ifCond .eq 7, 3) := by decide +kernel
theorem dX7_reason_73 : decode cX7_reason 73 = .ok (.iconst 0, 1) := by decide +kernel
theorem dX7_reason_74 : decode cX7_reason 74 = .ok (.goto 4, 3) := by decide +kernel
theorem dX7_reason_77 : decode cX7_reason 77 = .ok (.iconst 5, 1) := by decide +kernel
theorem dX7_reason_78 : decode cX7_reason 78 = .ok (.ireturn, 1) := by decide +kernel
set_option maxRecDepth 20000 in
theorem ggX7_canServe_X7_of : GoodIn wsX7_canServe wsX7_of := goodIn_r _ [5, 6, 72, 73, 74, 75, 76, 77, 78, 79, 80, 81, 82, 83, 84, 85, 86] (by decide +kernel) (by decide +kernel)
set_option maxRecDepth 20000 in
theorem gX7_canServe_X7_of : GoodIn wsX7_canServe (wsV RX7 45 RX7 yX7_of wsX7_of) := goodIn_app (goodIn_of _ (by decide +kernel)) ggX7_canServe_X7_of
set_option maxRecDepth 20000 in
theorem ggX7_canServe_X7_reason : GoodIn wsX7_canServe wsX7_reason := goodIn_r _ [10, 6, 11, 12, 13, 4, 14, 1, 2, 3, 5, 15, 16, 17, 18, 19, 20, 21, 22, 23, 24, 25, 26, 27, 28, 29, 30, 31, 32, 33, 34, 35, 36, 37, 38, 39, 40, 41, 42, 43, 44, 45, 46, 47, 48, 49, 50, 51, 52, 53, 54, 55, 56, 57, 58, 59, 60, 61, 62, 63, 64, 65, 66, 67, 68, 69, 70, 71, 72, 73, 74, 75, 76, 77, 78, 79, 80, 81, 82, 83, 84, 85, 86] (by decide +kernel) (by decide +kernel)
set_option maxRecDepth 20000 in
theorem gX7_canServe_X7_reason : GoodIn wsX7_canServe (wsV RX7 142 RX7 yX7_reason wsX7_reason) := goodIn_app (goodIn_of _ (by decide +kernel)) ggX7_canServe_X7_reason
theorem dX7_canServe_0 : decode cX7_canServe 0 = .ok (.aload_n 0, 1) := by decide +kernel
theorem dX7_canServe_1 : decode cX7_canServe 1 = .ok (.iload_n 1, 1) := by decide +kernel
theorem dX7_canServe_2 : decode cX7_canServe 2 = .ok (.aload_n 0, 1) := by decide +kernel
theorem dX7_canServe_3 : decode cX7_canServe 3 = .ok (.iload_n 2, 1) := by decide +kernel
theorem dX7_canServe_4 : decode cX7_canServe 4 = .ok (.iconst 0, 1) := by decide +kernel
theorem dX7_canServe_5 : decode cX7_canServe 5 = .ok (.invokevirtual 45, 3) := by decide +kernel
theorem dX7_canServe_8 : decode cX7_canServe 8 = .ok (.iload_n 2, 1) := by decide +kernel
theorem dX7_canServe_9 : decode cX7_canServe 9 = .ok (.invokevirtual 142, 3) := by decide +kernel
theorem dX7_canServe_12 : decode cX7_canServe 12 = .ok (.ifCond .ne 7, 3) := by decide +kernel
theorem dX7_canServe_15 : decode cX7_canServe 15 = .ok (.iconst 1, 1) := by decide +kernel
theorem dX7_canServe_16 : decode cX7_canServe 16 = .ok (.goto 4, 3) := by decide +kernel
theorem dX7_canServe_19 : decode cX7_canServe 19 = .ok (.iconst 0, 1) := by decide +kernel
theorem dX7_canServe_20 : decode cX7_canServe 20 = .ok (.ireturn, 1) := by decide +kernel
set_option maxRecDepth 20000 in
theorem ggX7_serve_X7_isDay : GoodIn wsX7_serve wsX7_isDay := goodIn_r _ [5, 6, 7, 4, 8] (by decide +kernel) (by decide +kernel)
set_option maxRecDepth 20000 in
theorem gX7_serve_X7_isDay : GoodIn wsX7_serve (va_wsS RX7 146 yX7_isDay wsX7_isDay) := goodIn_app (goodIn_of _ (by decide +kernel)) ggX7_serve_X7_isDay
set_option maxRecDepth 20000 in
theorem ggX7_serve_X7_isDish : GoodIn wsX7_serve wsX7_isDish := goodIn_r _ [12, 13, 6, 7, 4, 8, 97, 98, 99, 100, 101, 102, 103, 104, 105, 106, 107, 108, 109, 110, 111] (by decide +kernel) (by decide +kernel)
set_option maxRecDepth 20000 in
theorem gX7_serve_X7_isDish : GoodIn wsX7_serve (wsV RX7 114 RX7 yX7_isDish wsX7_isDish) := goodIn_app (goodIn_of _ (by decide +kernel)) ggX7_serve_X7_isDish
set_option maxRecDepth 20000 in
theorem ggX7_serve_X7_canServe : GoodIn wsX7_serve wsX7_canServe := goodIn_r _ [17, 18, 19, 20, 4, 21, 13, 22, 23, 24, 25, 26, 27, 28, 29, 30, 31, 32, 33, 34, 35, 36, 37, 38, 39, 40, 41, 42, 43, 44, 45, 46, 47, 48, 49, 50, 51, 52, 53, 54, 55, 56, 57, 58, 59, 60, 61, 62, 63, 64, 65, 66, 67, 68, 69, 70, 71, 72, 73, 74, 75, 76, 77, 78, 79, 80, 81, 82, 83, 84, 85, 86, 97, 98, 99, 100, 101, 102, 103, 104, 105, 106, 107, 108, 109, 110, 111] (by decide +kernel) (by decide +kernel)
set_option maxRecDepth 20000 in
theorem gX7_serve_X7_canServe : GoodIn wsX7_serve (wsV RX7 149 RX7 yX7_canServe wsX7_canServe) := goodIn_app (goodIn_of _ (by decide +kernel)) ggX7_serve_X7_canServe
set_option maxRecDepth 20000 in
theorem ggX7_serve_X7_save : GoodIn wsX7_serve wsX7_save := goodIn_r _ [90, 91, 92, 13, 97, 98, 99, 100, 101, 102, 103, 104, 105, 106, 107, 108, 109, 110, 111] (by decide +kernel) (by decide +kernel)
set_option maxRecDepth 20000 in
theorem gX7_serve_X7_save : GoodIn wsX7_serve (wsV RX7 107 RX7 yX7_save wsX7_save) := goodIn_app (goodIn_of _ (by decide +kernel)) ggX7_serve_X7_save
set_option maxRecDepth 20000 in
theorem ggX7_serve_X7_of : GoodIn wsX7_serve wsX7_of := goodIn_r _ [21, 13, 97, 98, 99, 100, 101, 102, 103, 104, 105, 106, 107, 108, 109, 110, 111] (by decide +kernel) (by decide +kernel)
set_option maxRecDepth 20000 in
theorem gX7_serve_X7_of : GoodIn wsX7_serve (wsV RX7 45 RX7 yX7_of wsX7_of) := goodIn_app (goodIn_of _ (by decide +kernel)) ggX7_serve_X7_of
set_option maxRecDepth 20000 in
theorem ggX7_serve_X7_put : GoodIn wsX7_serve wsX7_put := goodIn_r _ [60, 13, 97, 98, 99, 100, 101, 102, 103, 104, 105, 106, 107, 108, 109, 110, 111] (by decide +kernel) (by decide +kernel)
set_option maxRecDepth 20000 in
theorem gX7_serve_X7_put : GoodIn wsX7_serve (wsV RX7 136 RX7 yX7_put wsX7_put) := goodIn_app (goodIn_of _ (by decide +kernel)) ggX7_serve_X7_put
set_option maxRecDepth 20000 in
theorem ggX7_serve_X7_joyNow : GoodIn wsX7_serve wsX7_joyNow := goodIn_r _ [96, 13, 18, 19, 20, 4, 21, 97, 98, 99, 100, 101, 102, 103, 104, 105, 106, 107, 108, 109, 110, 111] (by decide +kernel) (by decide +kernel)
set_option maxRecDepth 20000 in
theorem gX7_serve_X7_joyNow : GoodIn wsX7_serve (wsV RX7 98 RX7 yX7_joyNow wsX7_joyNow) := goodIn_app (goodIn_of _ (by decide +kernel)) ggX7_serve_X7_joyNow
theorem dX7_serve_0 : decode cX7_serve 0 = .ok (.aload_n 0, 1) := by decide +kernel
theorem dX7_serve_1 : decode cX7_serve 1 = .ok (.iload_n 1, 1) := by decide +kernel
theorem dX7_serve_2 : decode cX7_serve 2 = .ok (.invokestatic 146, 3) := by decide +kernel
theorem dX7_serve_5 : decode cX7_serve 5 = .ok (.ifCond .eq 15, 3) := by decide +kernel
theorem dX7_serve_8 : decode cX7_serve 8 = .ok (.aload_n 0, 1) := by decide +kernel
theorem dX7_serve_9 : decode cX7_serve 9 = .ok (.iload_n 2, 1) := by decide +kernel
theorem dX7_serve_10 : decode cX7_serve 10 = .ok (.invokevirtual 114, 3) := by decide +kernel
theorem dX7_serve_13 : decode cX7_serve 13 = .ok (.ifCond .eq 7, 3) := by decide +kernel
theorem dX7_serve_16 : decode cX7_serve 16 = .ok (.iconst 0, 1) := by decide +kernel
theorem dX7_serve_17 : decode cX7_serve 17 = .ok (.goto 4, 3) := by decide +kernel
theorem dX7_serve_20 : decode cX7_serve 20 = .ok (.iconst 1, 1) := by decide +kernel
theorem dX7_serve_21 : decode cX7_serve 21 = .ok (.putfield 34, 3) := by decide +kernel
theorem dX7_serve_24 : decode cX7_serve 24 = .ok (.aload_n 0, 1) := by decide +kernel
theorem dX7_serve_25 : decode cX7_serve 25 = .ok (.getfield 34, 3) := by decide +kernel
theorem dX7_serve_28 : decode cX7_serve 28 = .ok (.ifCond .ne 21, 3) := by decide +kernel
theorem dX7_serve_31 : decode cX7_serve 31 = .ok (.aload_n 0, 1) := by decide +kernel
theorem dX7_serve_32 : decode cX7_serve 32 = .ok (.aload_n 0, 1) := by decide +kernel
theorem dX7_serve_33 : decode cX7_serve 33 = .ok (.iload_n 1, 1) := by decide +kernel
theorem dX7_serve_34 : decode cX7_serve 34 = .ok (.iload_n 2, 1) := by decide +kernel
theorem dX7_serve_35 : decode cX7_serve 35 = .ok (.invokevirtual 149, 3) := by decide +kernel
theorem dX7_serve_38 : decode cX7_serve 38 = .ok (.ifCond .eq 7, 3) := by decide +kernel
theorem dX7_serve_41 : decode cX7_serve 41 = .ok (.iconst 0, 1) := by decide +kernel
theorem dX7_serve_42 : decode cX7_serve 42 = .ok (.goto 4, 3) := by decide +kernel
theorem dX7_serve_45 : decode cX7_serve 45 = .ok (.iconst 2, 1) := by decide +kernel
theorem dX7_serve_46 : decode cX7_serve 46 = .ok (.putfield 34, 3) := by decide +kernel
theorem dX7_serve_49 : decode cX7_serve 49 = .ok (.aload_n 0, 1) := by decide +kernel
theorem dX7_serve_50 : decode cX7_serve 50 = .ok (.getfield 34, 3) := by decide +kernel
theorem dX7_serve_53 : decode cX7_serve 53 = .ok (.ifCond .le 5, 3) := by decide +kernel
theorem dX7_serve_56 : decode cX7_serve 56 = .ok (.iconst 0, 1) := by decide +kernel
theorem dX7_serve_57 : decode cX7_serve 57 = .ok (.ireturn, 1) := by decide +kernel
theorem dX7_serve_58 : decode cX7_serve 58 = .ok (.aload_n 0, 1) := by decide +kernel
theorem dX7_serve_59 : decode cX7_serve 59 = .ok (.invokevirtual 107, 3) := by decide +kernel
theorem dX7_serve_62 : decode cX7_serve 62 = .ok (.aload_n 0, 1) := by decide +kernel
theorem dX7_serve_63 : decode cX7_serve 63 = .ok (.iload_n 1, 1) := by decide +kernel
theorem dX7_serve_64 : decode cX7_serve 64 = .ok (.aload_n 0, 1) := by decide +kernel
theorem dX7_serve_65 : decode cX7_serve 65 = .ok (.iload_n 2, 1) := by decide +kernel
theorem dX7_serve_66 : decode cX7_serve 66 = .ok (.iconst 0, 1) := by decide +kernel
theorem dX7_serve_67 : decode cX7_serve 67 = .ok (.invokevirtual 45, 3) := by decide +kernel
theorem dX7_serve_70 : decode cX7_serve 70 = .ok (.iload_n 2, 1) := by decide +kernel
theorem dX7_serve_71 : decode cX7_serve 71 = .ok (.invokevirtual 136, 3) := by decide +kernel
theorem dX7_serve_74 : decode cX7_serve 74 = .ok (.aload_n 0, 1) := by decide +kernel
theorem dX7_serve_75 : decode cX7_serve 75 = .ok (.iload_n 1, 1) := by decide +kernel
theorem dX7_serve_76 : decode cX7_serve 76 = .ok (.iload_n 2, 1) := by decide +kernel
theorem dX7_serve_77 : decode cX7_serve 77 = .ok (.invokevirtual 98, 3) := by decide +kernel
theorem dX7_serve_80 : decode cX7_serve 80 = .ok (.ireturn, 1) := by decide +kernel
set_option maxRecDepth 20000 in
theorem ggX7_drop_X7_isDay : GoodIn wsX7_drop wsX7_isDay := goodIn_r _ [5, 6, 7, 4, 8] (by decide +kernel) (by decide +kernel)
set_option maxRecDepth 20000 in
theorem gX7_drop_X7_isDay : GoodIn wsX7_drop (va_wsS RX7 146 yX7_isDay wsX7_isDay) := goodIn_app (goodIn_of _ (by decide +kernel)) ggX7_drop_X7_isDay
set_option maxRecDepth 20000 in
theorem ggX7_drop_X7_isPart : GoodIn wsX7_drop wsX7_isPart := goodIn_r _ [11, 6, 7, 4, 8] (by decide +kernel) (by decide +kernel)
set_option maxRecDepth 20000 in
theorem gX7_drop_X7_isPart : GoodIn wsX7_drop (va_wsS RX7 104 yX7_isPart wsX7_isPart) := goodIn_app (goodIn_of _ (by decide +kernel)) ggX7_drop_X7_isPart
set_option maxRecDepth 20000 in
theorem ggX7_drop_X7_at : GoodIn wsX7_drop wsX7_at := goodIn_r _ [15, 16, 61, 62, 63, 64, 65, 66, 67, 68, 69, 70, 71, 72, 73, 74, 75] (by decide +kernel) (by decide +kernel)
set_option maxRecDepth 20000 in
theorem gX7_drop_X7_at : GoodIn wsX7_drop (wsV RX7 79 RX7 yX7_at wsX7_at) := goodIn_app (goodIn_of _ (by decide +kernel)) ggX7_drop_X7_at
set_option maxRecDepth 20000 in
theorem ggX7_drop_X7_soundWith : GoodIn wsX7_drop wsX7_soundWith := goodIn_r _ [20, 12, 13, 14, 4, 15, 16, 21, 22, 23, 24, 25, 26, 27, 28, 29, 30, 31, 32, 33, 34, 35, 36, 37, 38, 39, 40, 41, 42, 43, 44, 45, 46, 47, 48, 49, 50, 51, 52, 53, 54, 61, 62, 63, 64, 65, 66, 67, 68, 69, 70, 71, 72, 73, 74, 75] (by decide +kernel) (by decide +kernel)
set_option maxRecDepth 20000 in
theorem gX7_drop_X7_soundWith : GoodIn wsX7_drop (wsV RX7 139 RX7 yX7_soundWith wsX7_soundWith) := goodIn_app (goodIn_of _ (by decide +kernel)) ggX7_drop_X7_soundWith
set_option maxRecDepth 20000 in
theorem ggX7_drop_X7_save : GoodIn wsX7_drop wsX7_save := goodIn_r _ [58, 59, 60, 16, 61, 62, 63, 64, 65, 66, 67, 68, 69, 70, 71, 72, 73, 74, 75] (by decide +kernel) (by decide +kernel)
set_option maxRecDepth 20000 in
theorem gX7_drop_X7_save : GoodIn wsX7_drop (wsV RX7 107 RX7 yX7_save wsX7_save) := goodIn_app (goodIn_of _ (by decide +kernel)) ggX7_drop_X7_save
set_option maxRecDepth 20000 in
theorem ggX7_drop_X7_put : GoodIn wsX7_drop wsX7_put := goodIn_r _ [24, 16, 61, 62, 63, 64, 65, 66, 67, 68, 69, 70, 71, 72, 73, 74, 75] (by decide +kernel) (by decide +kernel)
set_option maxRecDepth 20000 in
theorem gX7_drop_X7_put : GoodIn wsX7_drop (wsV RX7 136 RX7 yX7_put wsX7_put) := goodIn_app (goodIn_of _ (by decide +kernel)) ggX7_drop_X7_put
theorem dX7_drop_0 : decode cX7_drop 0 = .ok (.aload_n 0, 1) := by decide +kernel
theorem dX7_drop_1 : decode cX7_drop 1 = .ok (.iload_n 1, 1) := by decide +kernel
theorem dX7_drop_2 : decode cX7_drop 2 = .ok (.invokestatic 146, 3) := by decide +kernel
theorem dX7_drop_5 : decode cX7_drop 5 = .ok (.ifCond .eq 14, 3) := by decide +kernel
theorem dX7_drop_8 : decode cX7_drop 8 = .ok (.iload_n 2, 1) := by decide +kernel
theorem dX7_drop_9 : decode cX7_drop 9 = .ok (.invokestatic 104, 3) := by decide +kernel
theorem dX7_drop_12 : decode cX7_drop 12 = .ok (.ifCond .eq 7, 3) := by decide +kernel
theorem dX7_drop_15 : decode cX7_drop 15 = .ok (.iconst 0, 1) := by decide +kernel
theorem dX7_drop_16 : decode cX7_drop 16 = .ok (.goto 4, 3) := by decide +kernel
theorem dX7_drop_19 : decode cX7_drop 19 = .ok (.iconst 1, 1) := by decide +kernel
theorem dX7_drop_20 : decode cX7_drop 20 = .ok (.putfield 34, 3) := by decide +kernel
theorem dX7_drop_23 : decode cX7_drop 23 = .ok (.aload_n 0, 1) := by decide +kernel
theorem dX7_drop_24 : decode cX7_drop 24 = .ok (.getfield 34, 3) := by decide +kernel
theorem dX7_drop_27 : decode cX7_drop 27 = .ok (.ifCond .ne 32, 3) := by decide +kernel
theorem dX7_drop_30 : decode cX7_drop 30 = .ok (.aload_n 0, 1) := by decide +kernel
theorem dX7_drop_31 : decode cX7_drop 31 = .ok (.aload_n 0, 1) := by decide +kernel
theorem dX7_drop_32 : decode cX7_drop 32 = .ok (.iload_n 1, 1) := by decide +kernel
theorem dX7_drop_33 : decode cX7_drop 33 = .ok (.iload_n 2, 1) := by decide +kernel
theorem dX7_drop_34 : decode cX7_drop 34 = .ok (.invokevirtual 79, 3) := by decide +kernel
theorem dX7_drop_37 : decode cX7_drop 37 = .ok (.iconst (-1), 1) := by decide +kernel
theorem dX7_drop_38 : decode cX7_drop 38 = .ok (.if_icmp .eq 17, 3) := by decide +kernel
theorem dX7_drop_41 : decode cX7_drop 41 = .ok (.aload_n 0, 1) := by decide +kernel
theorem dX7_drop_42 : decode cX7_drop 42 = .ok (.iload_n 1, 1) := by decide +kernel
theorem dX7_drop_43 : decode cX7_drop 43 = .ok (.iload_n 2, 1) := by decide +kernel
theorem dX7_drop_44 : decode cX7_drop 44 = .ok (.iconst (-1), 1) := by decide +kernel
theorem dX7_drop_45 : decode cX7_drop 45 = .ok (.invokevirtual 139, 3) := by decide +kernel
theorem dX7_drop_48 : decode cX7_drop 48 = .ok (.ifCond .eq 7, 3) := by decide +kernel
theorem dX7_drop_51 : decode cX7_drop 51 = .ok (.iconst 0, 1) := by decide +kernel
theorem dX7_drop_52 : decode cX7_drop 52 = .ok (.goto 4, 3) := by decide +kernel
theorem dX7_drop_55 : decode cX7_drop 55 = .ok (.iconst 2, 1) := by decide +kernel
theorem dX7_drop_56 : decode cX7_drop 56 = .ok (.putfield 34, 3) := by decide +kernel
theorem dX7_drop_59 : decode cX7_drop 59 = .ok (.aload_n 0, 1) := by decide +kernel
theorem dX7_drop_60 : decode cX7_drop 60 = .ok (.getfield 34, 3) := by decide +kernel
theorem dX7_drop_63 : decode cX7_drop 63 = .ok (.ifCond .le 5, 3) := by decide +kernel
theorem dX7_drop_66 : decode cX7_drop 66 = .ok (.iconst 0, 1) := by decide +kernel
theorem dX7_drop_67 : decode cX7_drop 67 = .ok (.ireturn, 1) := by decide +kernel
theorem dX7_drop_68 : decode cX7_drop 68 = .ok (.aload_n 0, 1) := by decide +kernel
theorem dX7_drop_69 : decode cX7_drop 69 = .ok (.invokevirtual 107, 3) := by decide +kernel
theorem dX7_drop_72 : decode cX7_drop 72 = .ok (.aload_n 0, 1) := by decide +kernel
theorem dX7_drop_73 : decode cX7_drop 73 = .ok (.iload_n 1, 1) := by decide +kernel
theorem dX7_drop_74 : decode cX7_drop 74 = .ok (.iload_n 2, 1) := by decide +kernel
theorem dX7_drop_75 : decode cX7_drop 75 = .ok (.invokevirtual 79, 3) := by decide +kernel
theorem dX7_drop_78 : decode cX7_drop 78 = .ok (.istore_n 3, 1) := by decide +kernel
theorem dX7_drop_79 : decode cX7_drop 79 = .ok (.aload_n 0, 1) := by decide +kernel
theorem dX7_drop_80 : decode cX7_drop 80 = .ok (.iload_n 1, 1) := by decide +kernel
theorem dX7_drop_81 : decode cX7_drop 81 = .ok (.iload_n 2, 1) := by decide +kernel
theorem dX7_drop_82 : decode cX7_drop 82 = .ok (.iconst (-1), 1) := by decide +kernel
theorem dX7_drop_83 : decode cX7_drop 83 = .ok (.invokevirtual 136, 3) := by decide +kernel
theorem dX7_drop_86 : decode cX7_drop 86 = .ok (.iload_n 3, 1) := by decide +kernel
theorem dX7_drop_87 : decode cX7_drop 87 = .ok (.ireturn, 1) := by decide +kernel
set_option maxRecDepth 20000 in
theorem ggX7_swap_X7_at : GoodIn wsX7_swap wsX7_at := goodIn_r _ [5, 6, 11, 12, 13, 14, 15, 16, 17, 18, 19, 20, 21, 22, 23, 24, 25] (by decide +kernel) (by decide +kernel)
set_option maxRecDepth 20000 in
theorem gX7_swap_X7_at : GoodIn wsX7_swap (wsV RX7 79 RX7 yX7_at wsX7_at) := goodIn_app (goodIn_of _ (by decide +kernel)) ggX7_swap_X7_at
set_option maxRecDepth 20000 in
theorem ggX7_swap_X7_put : GoodIn wsX7_swap wsX7_put := goodIn_r _ [10, 6, 11, 12, 13, 14, 15, 16, 17, 18, 19, 20, 21, 22, 23, 24, 25] (by decide +kernel) (by decide +kernel)
set_option maxRecDepth 20000 in
theorem gX7_swap_X7_put : GoodIn wsX7_swap (wsV RX7 136 RX7 yX7_put wsX7_put) := goodIn_app (goodIn_of _ (by decide +kernel)) ggX7_swap_X7_put
theorem dX7_swap_0 : decode cX7_swap 0 = .ok (.iconst 0, 1) := by decide +kernel
theorem dX7_swap_1 : decode cX7_swap 1 = .ok (.istore_n 3, 1) := by decide +kernel
theorem dX7_swap_2 : decode cX7_swap 2 = .ok (.iload_n 3, 1) := by decide +kernel
theorem dX7_swap_3 : decode cX7_swap 3 = .ok (.iconst 3, 1) := by decide +kernel
theorem dX7_swap_4 : decode cX7_swap 4 = .ok (.if_icmp .ge 37, 3) := by decide +kernel
theorem dX7_swap_7 : decode cX7_swap 7 = .ok (.aload_n 0, 1) := by decide +kernel
theorem dX7_swap_8 : decode cX7_swap 8 = .ok (.iload_n 1, 1) := by decide +kernel
theorem dX7_swap_9 : decode cX7_swap 9 = .ok (.iload_n 3, 1) := by decide +kernel
theorem dX7_swap_10 : decode cX7_swap 10 = .ok (.invokevirtual 79, 3) := by decide +kernel
theorem dX7_swap_13 : decode cX7_swap 13 = .ok (.istore 4, 2) := by decide +kernel
theorem dX7_swap_15 : decode cX7_swap 15 = .ok (.aload_n 0, 1) := by decide +kernel
theorem dX7_swap_16 : decode cX7_swap 16 = .ok (.iload_n 1, 1) := by decide +kernel
theorem dX7_swap_17 : decode cX7_swap 17 = .ok (.iload_n 3, 1) := by decide +kernel
theorem dX7_swap_18 : decode cX7_swap 18 = .ok (.aload_n 0, 1) := by decide +kernel
theorem dX7_swap_19 : decode cX7_swap 19 = .ok (.iload_n 2, 1) := by decide +kernel
theorem dX7_swap_20 : decode cX7_swap 20 = .ok (.iload_n 3, 1) := by decide +kernel
theorem dX7_swap_21 : decode cX7_swap 21 = .ok (.invokevirtual 79, 3) := by decide +kernel
theorem dX7_swap_24 : decode cX7_swap 24 = .ok (.invokevirtual 136, 3) := by decide +kernel
theorem dX7_swap_27 : decode cX7_swap 27 = .ok (.aload_n 0, 1) := by decide +kernel
theorem dX7_swap_28 : decode cX7_swap 28 = .ok (.iload_n 2, 1) := by decide +kernel
theorem dX7_swap_29 : decode cX7_swap 29 = .ok (.iload_n 3, 1) := by decide +kernel
theorem dX7_swap_30 : decode cX7_swap 30 = .ok (.iload 4, 2) := by decide +kernel
theorem dX7_swap_32 : decode cX7_swap 32 = .ok (.invokevirtual 136, 3) := by decide +kernel
theorem dX7_swap_35 : decode cX7_swap 35 = .ok (.iinc 3 1, 3) := by decide +kernel
theorem dX7_swap_38 : decode cX7_swap 38 = .ok (.goto (-36), 3) := by decide +kernel
theorem dX7_swap_41 : decode cX7_swap 41 = .ok (.return_, 1) := by decide +kernel
set_option maxRecDepth 20000 in
theorem ggX7_goodSwapped_X7_swap : GoodIn wsX7_goodSwapped wsX7_swap := goodIn_r _ [5, 6, 7, 8, 4, 9, 10, 11, 12, 13, 14, 80, 81, 82, 83, 84, 85, 86, 87, 88, 89, 90, 91, 92, 93, 94] (by decide +kernel) (by decide +kernel)
set_option maxRecDepth 20000 in
theorem gX7_goodSwapped_X7_swap : GoodIn wsX7_goodSwapped (wsV RX7 152 RX7 yX7_swap wsX7_swap) := goodIn_app (goodIn_of _ (by decide +kernel)) ggX7_goodSwapped_X7_swap
set_option maxRecDepth 20000 in
theorem ggX7_goodSwapped_X7_isGood : GoodIn wsX7_goodSwapped wsX7_isGood := goodIn_r _ [18, 10, 19, 20, 21, 4, 22, 23, 24, 25, 26, 27, 28, 29, 30, 31, 32, 33, 34, 35, 36, 37, 38, 39, 40, 41, 42, 43, 44, 45, 46, 47, 48, 49, 50, 51, 52, 53, 6, 7, 8, 9, 54, 55, 56, 57, 58, 59, 60, 61, 62, 63, 64, 65, 66, 67, 68, 69, 70, 71, 72, 73, 74, 75, 76, 77, 78, 79, 80, 81, 82, 83, 84, 85, 86, 87, 88, 89, 90, 91, 92, 93, 94] (by decide +kernel) (by decide +kernel)
set_option maxRecDepth 20000 in
theorem gX7_goodSwapped_X7_isGood : GoodIn wsX7_goodSwapped (wsV RX7 156 RX7 yX7_isGood wsX7_isGood) := goodIn_app (goodIn_of _ (by decide +kernel)) ggX7_goodSwapped_X7_isGood
theorem dX7_goodSwapped_0 : decode cX7_goodSwapped 0 = .ok (.aload_n 0, 1) := by decide +kernel
theorem dX7_goodSwapped_1 : decode cX7_goodSwapped 1 = .ok (.iload_n 1, 1) := by decide +kernel
theorem dX7_goodSwapped_2 : decode cX7_goodSwapped 2 = .ok (.iload_n 2, 1) := by decide +kernel
theorem dX7_goodSwapped_3 : decode cX7_goodSwapped 3 = .ok (.invokevirtual 152, 3) := by decide +kernel
theorem dX7_goodSwapped_6 : decode cX7_goodSwapped 6 = .ok (.aload_n 0, 1) := by decide +kernel
theorem dX7_goodSwapped_7 : decode cX7_goodSwapped 7 = .ok (.invokevirtual 156, 3) := by decide +kernel
theorem dX7_goodSwapped_10 : decode cX7_goodSwapped 10 = .ok (.istore_n 3, 1) := by decide +kernel
theorem dX7_goodSwapped_11 : decode cX7_goodSwapped 11 = .ok (.aload_n 0, 1) := by decide +kernel
theorem dX7_goodSwapped_12 : decode cX7_goodSwapped 12 = .ok (.iload_n 1, 1) := by decide +kernel
theorem dX7_goodSwapped_13 : decode cX7_goodSwapped 13 = .ok (.iload_n 2, 1) := by decide +kernel
theorem dX7_goodSwapped_14 : decode cX7_goodSwapped 14 = .ok (.invokevirtual 152, 3) := by decide +kernel
theorem dX7_goodSwapped_17 : decode cX7_goodSwapped 17 = .ok (.iload_n 3, 1) := by decide +kernel
theorem dX7_goodSwapped_18 : decode cX7_goodSwapped 18 = .ok (.ireturn, 1) := by decide +kernel
set_option maxRecDepth 20000 in
theorem ggX7_exchange_X7_isDay : GoodIn wsX7_exchange wsX7_isDay := goodIn_r _ [5, 6, 7, 4, 8] (by decide +kernel) (by decide +kernel)
set_option maxRecDepth 20000 in
theorem gX7_exchange_X7_isDay : GoodIn wsX7_exchange (va_wsS RX7 146 yX7_isDay wsX7_isDay) := goodIn_app (goodIn_of _ (by decide +kernel)) ggX7_exchange_X7_isDay
set_option maxRecDepth 20000 in
theorem ggX7_exchange_X7_goodSwapped : GoodIn wsX7_exchange wsX7_goodSwapped := goodIn_r _ [12, 13, 14, 15, 4, 16, 17, 18, 19, 20, 21, 22, 23, 24, 25, 26, 27, 28, 29, 30, 31, 32, 33, 34, 35, 36, 37, 38, 39, 40, 41, 42, 43, 44, 45, 46, 47, 48, 49, 50, 51, 52, 53, 54, 55, 56, 57, 58, 59, 60, 61, 62, 63, 64, 65, 66, 67, 68, 69, 70, 71, 72, 73, 74, 75, 76, 77, 78, 79, 80, 81, 82, 83, 84, 85, 86, 87, 88, 89, 90, 109, 110, 111, 112, 113, 114, 115, 116, 117, 118, 119, 120, 121, 122, 123] (by decide +kernel) (by decide +kernel)
set_option maxRecDepth 20000 in
theorem gX7_exchange_X7_goodSwapped : GoodIn wsX7_exchange (wsV RX7 159 RX7 yX7_goodSwapped wsX7_goodSwapped) := goodIn_app (goodIn_of _ (by decide +kernel)) ggX7_exchange_X7_goodSwapped
set_option maxRecDepth 20000 in
theorem ggX7_exchange_X7_save : GoodIn wsX7_exchange wsX7_save := goodIn_r _ [94, 95, 96, 21, 109, 110, 111, 112, 113, 114, 115, 116, 117, 118, 119, 120, 121, 122, 123] (by decide +kernel) (by decide +kernel)
set_option maxRecDepth 20000 in
theorem gX7_exchange_X7_save : GoodIn wsX7_exchange (wsV RX7 107 RX7 yX7_save wsX7_save) := goodIn_app (goodIn_of _ (by decide +kernel)) ggX7_exchange_X7_save
set_option maxRecDepth 20000 in
theorem ggX7_exchange_X7_swap : GoodIn wsX7_exchange wsX7_swap := goodIn_r _ [16, 17, 18, 19, 4, 20, 21, 22, 23, 24, 25, 109, 110, 111, 112, 113, 114, 115, 116, 117, 118, 119, 120, 121, 122, 123] (by decide +kernel) (by decide +kernel)
set_option maxRecDepth 20000 in
theorem gX7_exchange_X7_swap : GoodIn wsX7_exchange (wsV RX7 152 RX7 yX7_swap wsX7_swap) := goodIn_app (goodIn_of _ (by decide +kernel)) ggX7_exchange_X7_swap
set_option maxRecDepth 20000 in
theorem ggX7_exchange_X7_joyOfAll : GoodIn wsX7_exchange wsX7_joyOfAll := goodIn_r _ [100, 101, 102, 103, 4, 104, 17, 18, 19, 20, 21, 105, 106, 107, 108, 49, 50, 51, 52, 109, 110, 111, 112, 113, 114, 115, 116, 117, 118, 119, 120, 121, 122, 123] (by decide +kernel) (by decide +kernel)
set_option maxRecDepth 20000 in
theorem gX7_exchange_X7_joyOfAll : GoodIn wsX7_exchange (wsV RX7 162 RX7 yX7_joyOfAll wsX7_joyOfAll) := goodIn_app (goodIn_of _ (by decide +kernel)) ggX7_exchange_X7_joyOfAll
theorem dX7_exchange_0 : decode cX7_exchange 0 = .ok (.aload_n 0, 1) := by decide +kernel
theorem dX7_exchange_1 : decode cX7_exchange 1 = .ok (.iload_n 1, 1) := by decide +kernel
theorem dX7_exchange_2 : decode cX7_exchange 2 = .ok (.invokestatic 146, 3) := by decide +kernel
theorem dX7_exchange_5 : decode cX7_exchange 5 = .ok (.ifCond .eq 14, 3) := by decide +kernel
theorem dX7_exchange_8 : decode cX7_exchange 8 = .ok (.iload_n 2, 1) := by decide +kernel
theorem dX7_exchange_9 : decode cX7_exchange 9 = .ok (.invokestatic 146, 3) := by decide +kernel
theorem dX7_exchange_12 : decode cX7_exchange 12 = .ok (.ifCond .eq 7, 3) := by decide +kernel
theorem dX7_exchange_15 : decode cX7_exchange 15 = .ok (.iconst 0, 1) := by decide +kernel
theorem dX7_exchange_16 : decode cX7_exchange 16 = .ok (.goto 4, 3) := by decide +kernel
theorem dX7_exchange_19 : decode cX7_exchange 19 = .ok (.iconst 1, 1) := by decide +kernel
theorem dX7_exchange_20 : decode cX7_exchange 20 = .ok (.putfield 34, 3) := by decide +kernel
theorem dX7_exchange_23 : decode cX7_exchange 23 = .ok (.aload_n 0, 1) := by decide +kernel
theorem dX7_exchange_24 : decode cX7_exchange 24 = .ok (.getfield 34, 3) := by decide +kernel
theorem dX7_exchange_27 : decode cX7_exchange 27 = .ok (.ifCond .ne 21, 3) := by decide +kernel
theorem dX7_exchange_30 : decode cX7_exchange 30 = .ok (.aload_n 0, 1) := by decide +kernel
theorem dX7_exchange_31 : decode cX7_exchange 31 = .ok (.aload_n 0, 1) := by decide +kernel
theorem dX7_exchange_32 : decode cX7_exchange 32 = .ok (.iload_n 1, 1) := by decide +kernel
theorem dX7_exchange_33 : decode cX7_exchange 33 = .ok (.iload_n 2, 1) := by decide +kernel
theorem dX7_exchange_34 : decode cX7_exchange 34 = .ok (.invokevirtual 159, 3) := by decide +kernel
theorem dX7_exchange_37 : decode cX7_exchange 37 = .ok (.ifCond .eq 7, 3) := by decide +kernel
theorem dX7_exchange_40 : decode cX7_exchange 40 = .ok (.iconst 0, 1) := by decide +kernel
theorem dX7_exchange_41 : decode cX7_exchange 41 = .ok (.goto 4, 3) := by decide +kernel
theorem dX7_exchange_44 : decode cX7_exchange 44 = .ok (.iconst 2, 1) := by decide +kernel
theorem dX7_exchange_45 : decode cX7_exchange 45 = .ok (.putfield 34, 3) := by decide +kernel
theorem dX7_exchange_48 : decode cX7_exchange 48 = .ok (.aload_n 0, 1) := by decide +kernel
theorem dX7_exchange_49 : decode cX7_exchange 49 = .ok (.getfield 34, 3) := by decide +kernel
theorem dX7_exchange_52 : decode cX7_exchange 52 = .ok (.ifCond .le 5, 3) := by decide +kernel
theorem dX7_exchange_55 : decode cX7_exchange 55 = .ok (.iconst 0, 1) := by decide +kernel
theorem dX7_exchange_56 : decode cX7_exchange 56 = .ok (.ireturn, 1) := by decide +kernel
theorem dX7_exchange_57 : decode cX7_exchange 57 = .ok (.aload_n 0, 1) := by decide +kernel
theorem dX7_exchange_58 : decode cX7_exchange 58 = .ok (.invokevirtual 107, 3) := by decide +kernel
theorem dX7_exchange_61 : decode cX7_exchange 61 = .ok (.aload_n 0, 1) := by decide +kernel
theorem dX7_exchange_62 : decode cX7_exchange 62 = .ok (.iload_n 1, 1) := by decide +kernel
theorem dX7_exchange_63 : decode cX7_exchange 63 = .ok (.iload_n 2, 1) := by decide +kernel
theorem dX7_exchange_64 : decode cX7_exchange 64 = .ok (.invokevirtual 152, 3) := by decide +kernel
theorem dX7_exchange_67 : decode cX7_exchange 67 = .ok (.aload_n 0, 1) := by decide +kernel
theorem dX7_exchange_68 : decode cX7_exchange 68 = .ok (.invokevirtual 162, 3) := by decide +kernel
theorem dX7_exchange_71 : decode cX7_exchange 71 = .ok (.ireturn, 1) := by decide +kernel
set_option maxRecDepth 20000 in
theorem ggX7_bestFor_X7_reason : GoodIn wsX7_bestFor wsX7_reason := goodIn_r _ [6, 1, 7, 8, 9, 5, 10, 11, 12, 13, 14, 15, 16, 17, 18, 19, 20, 21, 22, 23, 24, 25, 26, 27, 28, 29, 30, 31, 32, 33, 34, 35, 36, 37, 38, 39, 40, 41, 42, 43, 44, 45, 46, 47, 48, 49, 50, 51, 52, 53, 54, 55, 56, 57, 58, 59, 60, 61, 62, 63, 64, 65, 66, 67, 68, 69, 70, 71, 76, 77, 78, 79, 80, 81, 82, 83, 84, 85, 86, 87, 88, 89, 90] (by decide +kernel) (by decide +kernel)
set_option maxRecDepth 20000 in
theorem gX7_bestFor_X7_reason : GoodIn wsX7_bestFor (wsV RX7 142 RX7 yX7_reason wsX7_reason) := goodIn_app (goodIn_of _ (by decide +kernel)) ggX7_bestFor_X7_reason
set_option maxRecDepth 20000 in
theorem ggX7_bestFor_X7_joyNow : GoodIn wsX7_bestFor wsX7_joyNow := goodIn_r _ [75, 1, 11, 12, 13, 5, 14, 76, 77, 78, 79, 80, 81, 82, 83, 84, 85, 86, 87, 88, 89, 90] (by decide +kernel) (by decide +kernel)
set_option maxRecDepth 20000 in
theorem gX7_bestFor_X7_joyNow : GoodIn wsX7_bestFor (wsV RX7 98 RX7 yX7_joyNow wsX7_joyNow) := goodIn_app (goodIn_of _ (by decide +kernel)) ggX7_bestFor_X7_joyNow
set_option maxRecDepth 20000 in
theorem ggX7_bestFor_X7_of : GoodIn wsX7_bestFor wsX7_of := goodIn_r _ [14, 1, 76, 77, 78, 79, 80, 81, 82, 83, 84, 85, 86, 87, 88, 89, 90] (by decide +kernel) (by decide +kernel)
set_option maxRecDepth 20000 in
theorem gX7_bestFor_X7_of : GoodIn wsX7_bestFor (wsV RX7 45 RX7 yX7_of wsX7_of) := goodIn_app (goodIn_of _ (by decide +kernel)) ggX7_bestFor_X7_of
theorem dX7_bestFor_0 : decode cX7_bestFor 0 = .ok (.iconst (-1), 1) := by decide +kernel
theorem dX7_bestFor_1 : decode cX7_bestFor 1 = .ok (.istore_n 3, 1) := by decide +kernel
theorem dX7_bestFor_2 : decode cX7_bestFor 2 = .ok (.iconst 0, 1) := by decide +kernel
theorem dX7_bestFor_3 : decode cX7_bestFor 3 = .ok (.istore 4, 2) := by decide +kernel
theorem dX7_bestFor_5 : decode cX7_bestFor 5 = .ok (.iload 4, 2) := by decide +kernel
theorem dX7_bestFor_7 : decode cX7_bestFor 7 = .ok (.aload_n 0, 1) := by decide +kernel
theorem dX7_bestFor_8 : decode cX7_bestFor 8 = .ok (.getfield 7, 3) := by decide +kernel
theorem dX7_bestFor_11 : decode cX7_bestFor 11 = .ok (.iconst 3, 1) := by decide +kernel
theorem dX7_bestFor_12 : decode cX7_bestFor 12 = .ok (.iaload, 1) := by decide +kernel
theorem dX7_bestFor_13 : decode cX7_bestFor 13 = .ok (.if_icmp .ge 78, 3) := by decide +kernel
theorem dX7_bestFor_16 : decode cX7_bestFor 16 = .ok (.aload_n 0, 1) := by decide +kernel
theorem dX7_bestFor_17 : decode cX7_bestFor 17 = .ok (.iload_n 1, 1) := by decide +kernel
theorem dX7_bestFor_18 : decode cX7_bestFor 18 = .ok (.iload_n 2, 1) := by decide +kernel
theorem dX7_bestFor_19 : decode cX7_bestFor 19 = .ok (.iload 4, 2) := by decide +kernel
theorem dX7_bestFor_21 : decode cX7_bestFor 21 = .ok (.invokevirtual 142, 3) := by decide +kernel
theorem dX7_bestFor_24 : decode cX7_bestFor 24 = .ok (.ifCond .ne 61, 3) := by decide +kernel
theorem dX7_bestFor_27 : decode cX7_bestFor 27 = .ok (.iload_n 3, 1) := by decide +kernel
theorem dX7_bestFor_28 : decode cX7_bestFor 28 = .ok (.iconst (-1), 1) := by decide +kernel
theorem dX7_bestFor_29 : decode cX7_bestFor 29 = .ok (.if_icmp .ne 7, 3) := by decide +kernel
theorem dX7_bestFor_32 : decode cX7_bestFor 32 = .ok (.iconst 1, 1) := by decide +kernel
theorem dX7_bestFor_33 : decode cX7_bestFor 33 = .ok (.goto 17, 3) := by decide +kernel
theorem dX7_bestFor_36 : decode cX7_bestFor 36 = .ok (.aload_n 0, 1) := by decide +kernel
theorem dX7_bestFor_37 : decode cX7_bestFor 37 = .ok (.iload_n 1, 1) := by decide +kernel
theorem dX7_bestFor_38 : decode cX7_bestFor 38 = .ok (.iload 4, 2) := by decide +kernel
theorem dX7_bestFor_40 : decode cX7_bestFor 40 = .ok (.invokevirtual 98, 3) := by decide +kernel
theorem dX7_bestFor_43 : decode cX7_bestFor 43 = .ok (.aload_n 0, 1) := by decide +kernel
theorem dX7_bestFor_44 : decode cX7_bestFor 44 = .ok (.iload_n 1, 1) := by decide +kernel
theorem dX7_bestFor_45 : decode cX7_bestFor 45 = .ok (.iload_n 3, 1) := by decide +kernel
theorem dX7_bestFor_46 : decode cX7_bestFor 46 = .ok (.invokevirtual 98, 3) := by decide +kernel
theorem dX7_bestFor_49 : decode cX7_bestFor 49 = .ok (.isub, 1) := by decide +kernel
theorem dX7_bestFor_50 : decode cX7_bestFor 50 = .ok (.istore 5, 2) := by decide +kernel
theorem dX7_bestFor_52 : decode cX7_bestFor 52 = .ok (.iload 5, 2) := by decide +kernel
theorem dX7_bestFor_54 : decode cX7_bestFor 54 = .ok (.ifCond .gt 24, 3) := by decide +kernel
theorem dX7_bestFor_57 : decode cX7_bestFor 57 = .ok (.iload 5, 2) := by decide +kernel
theorem dX7_bestFor_59 : decode cX7_bestFor 59 = .ok (.ifCond .ne 24, 3) := by decide +kernel
theorem dX7_bestFor_62 : decode cX7_bestFor 62 = .ok (.aload_n 0, 1) := by decide +kernel
theorem dX7_bestFor_63 : decode cX7_bestFor 63 = .ok (.iload 4, 2) := by decide +kernel
theorem dX7_bestFor_65 : decode cX7_bestFor 65 = .ok (.iconst 1, 1) := by decide +kernel
theorem dX7_bestFor_66 : decode cX7_bestFor 66 = .ok (.invokevirtual 45, 3) := by decide +kernel
theorem dX7_bestFor_69 : decode cX7_bestFor 69 = .ok (.aload_n 0, 1) := by decide +kernel
theorem dX7_bestFor_70 : decode cX7_bestFor 70 = .ok (.iload_n 3, 1) := by decide +kernel
theorem dX7_bestFor_71 : decode cX7_bestFor 71 = .ok (.iconst 1, 1) := by decide +kernel
theorem dX7_bestFor_72 : decode cX7_bestFor 72 = .ok (.invokevirtual 45, 3) := by decide +kernel
theorem dX7_bestFor_75 : decode cX7_bestFor 75 = .ok (.if_icmp .ge 8, 3) := by decide +kernel
theorem dX7_bestFor_78 : decode cX7_bestFor 78 = .ok (.iload 4, 2) := by decide +kernel
theorem dX7_bestFor_80 : decode cX7_bestFor 80 = .ok (.goto 4, 3) := by decide +kernel
theorem dX7_bestFor_83 : decode cX7_bestFor 83 = .ok (.iload_n 3, 1) := by decide +kernel
theorem dX7_bestFor_84 : decode cX7_bestFor 84 = .ok (.istore_n 3, 1) := by decide +kernel
theorem dX7_bestFor_85 : decode cX7_bestFor 85 = .ok (.iinc 4 1, 3) := by decide +kernel
theorem dX7_bestFor_88 : decode cX7_bestFor 88 = .ok (.goto (-83), 3) := by decide +kernel
theorem dX7_bestFor_91 : decode cX7_bestFor 91 = .ok (.iload_n 3, 1) := by decide +kernel
theorem dX7_bestFor_92 : decode cX7_bestFor 92 = .ok (.ireturn, 1) := by decide +kernel
set_option maxRecDepth 20000 in
theorem ggX7_fill_X7_isDay : GoodIn wsX7_fill wsX7_isDay := goodIn_r _ [5, 6, 7, 4, 8] (by decide +kernel) (by decide +kernel)
set_option maxRecDepth 20000 in
theorem gX7_fill_X7_isDay : GoodIn wsX7_fill (va_wsS RX7 146 yX7_isDay wsX7_isDay) := goodIn_app (goodIn_of _ (by decide +kernel)) ggX7_fill_X7_isDay
set_option maxRecDepth 20000 in
theorem ggX7_fill_X7_save : GoodIn wsX7_fill wsX7_save := goodIn_r _ [12, 13, 14, 15, 93, 94, 95, 96, 97, 98, 99, 100, 101, 102, 103, 104, 105, 106, 107] (by decide +kernel) (by decide +kernel)
set_option maxRecDepth 20000 in
theorem gX7_fill_X7_save : GoodIn wsX7_fill (wsV RX7 107 RX7 yX7_save wsX7_save) := goodIn_app (goodIn_of _ (by decide +kernel)) ggX7_fill_X7_save
set_option maxRecDepth 20000 in
theorem ggX7_fill_X7_bestFor : GoodIn wsX7_fill wsX7_bestFor := goodIn_r _ [19, 15, 20, 21, 22, 4, 23, 24, 25, 26, 27, 28, 29, 30, 31, 32, 33, 34, 35, 36, 37, 38, 39, 40, 41, 42, 43, 44, 45, 46, 47, 48, 49, 50, 51, 52, 53, 54, 55, 56, 57, 58, 59, 60, 61, 62, 63, 64, 65, 66, 67, 68, 69, 70, 71, 72, 73, 74, 75, 76, 77, 78, 79, 80, 81, 82, 83, 84, 85, 86, 87, 88, 89, 90, 91, 92, 93, 94, 95, 96, 97, 98, 99, 100, 101, 102, 103, 104, 105, 106, 107] (by decide +kernel) (by decide +kernel)
set_option maxRecDepth 20000 in
theorem gX7_fill_X7_bestFor : GoodIn wsX7_fill (wsV RX7 166 RX7 yX7_bestFor wsX7_bestFor) := goodIn_app (goodIn_of _ (by decide +kernel)) ggX7_fill_X7_bestFor
set_option maxRecDepth 20000 in
theorem ggX7_fill_X7_put : GoodIn wsX7_fill wsX7_put := goodIn_r _ [62, 15, 93, 94, 95, 96, 97, 98, 99, 100, 101, 102, 103, 104, 105, 106, 107] (by decide +kernel) (by decide +kernel)
set_option maxRecDepth 20000 in
theorem gX7_fill_X7_put : GoodIn wsX7_fill (wsV RX7 136 RX7 yX7_put wsX7_put) := goodIn_app (goodIn_of _ (by decide +kernel)) ggX7_fill_X7_put
theorem dX7_fill_0 : decode cX7_fill 0 = .ok (.aload_n 0, 1) := by decide +kernel
theorem dX7_fill_1 : decode cX7_fill 1 = .ok (.iload_n 1, 1) := by decide +kernel
theorem dX7_fill_2 : decode cX7_fill 2 = .ok (.invokestatic 146, 3) := by decide +kernel
theorem dX7_fill_5 : decode cX7_fill 5 = .ok (.ifCond .eq 7, 3) := by decide +kernel
theorem dX7_fill_8 : decode cX7_fill 8 = .ok (.iconst 0, 1) := by decide +kernel
theorem dX7_fill_9 : decode cX7_fill 9 = .ok (.goto 4, 3) := by decide +kernel
theorem dX7_fill_12 : decode cX7_fill 12 = .ok (.iconst 1, 1) := by decide +kernel
theorem dX7_fill_13 : decode cX7_fill 13 = .ok (.putfield 34, 3) := by decide +kernel
theorem dX7_fill_16 : decode cX7_fill 16 = .ok (.aload_n 0, 1) := by decide +kernel
theorem dX7_fill_17 : decode cX7_fill 17 = .ok (.getfield 34, 3) := by decide +kernel
theorem dX7_fill_20 : decode cX7_fill 20 = .ok (.ifCond .le 5, 3) := by decide +kernel
theorem dX7_fill_23 : decode cX7_fill 23 = .ok (.iconst 0, 1) := by decide +kernel
theorem dX7_fill_24 : decode cX7_fill 24 = .ok (.ireturn, 1) := by decide +kernel
theorem dX7_fill_25 : decode cX7_fill 25 = .ok (.aload_n 0, 1) := by decide +kernel
theorem dX7_fill_26 : decode cX7_fill 26 = .ok (.invokevirtual 107, 3) := by decide +kernel
theorem dX7_fill_29 : decode cX7_fill 29 = .ok (.iconst 0, 1) := by decide +kernel
theorem dX7_fill_30 : decode cX7_fill 30 = .ok (.istore_n 2, 1) := by decide +kernel
theorem dX7_fill_31 : decode cX7_fill 31 = .ok (.iconst 0, 1) := by decide +kernel
theorem dX7_fill_32 : decode cX7_fill 32 = .ok (.istore_n 3, 1) := by decide +kernel
theorem dX7_fill_33 : decode cX7_fill 33 = .ok (.iload_n 3, 1) := by decide +kernel
theorem dX7_fill_34 : decode cX7_fill 34 = .ok (.iconst 3, 1) := by decide +kernel
theorem dX7_fill_35 : decode cX7_fill 35 = .ok (.if_icmp .ge 34, 3) := by decide +kernel
theorem dX7_fill_38 : decode cX7_fill 38 = .ok (.aload_n 0, 1) := by decide +kernel
theorem dX7_fill_39 : decode cX7_fill 39 = .ok (.iload_n 1, 1) := by decide +kernel
theorem dX7_fill_40 : decode cX7_fill 40 = .ok (.iload_n 3, 1) := by decide +kernel
theorem dX7_fill_41 : decode cX7_fill 41 = .ok (.invokevirtual 166, 3) := by decide +kernel
theorem dX7_fill_44 : decode cX7_fill 44 = .ok (.istore 4, 2) := by decide +kernel
theorem dX7_fill_46 : decode cX7_fill 46 = .ok (.iload 4, 2) := by decide +kernel
theorem dX7_fill_48 : decode cX7_fill 48 = .ok (.iconst (-1), 1) := by decide +kernel
theorem dX7_fill_49 : decode cX7_fill 49 = .ok (.if_icmp .eq 14, 3) := by decide +kernel
theorem dX7_fill_52 : decode cX7_fill 52 = .ok (.aload_n 0, 1) := by decide +kernel
theorem dX7_fill_53 : decode cX7_fill 53 = .ok (.iload_n 1, 1) := by decide +kernel
theorem dX7_fill_54 : decode cX7_fill 54 = .ok (.iload_n 3, 1) := by decide +kernel
theorem dX7_fill_55 : decode cX7_fill 55 = .ok (.iload 4, 2) := by decide +kernel
theorem dX7_fill_57 : decode cX7_fill 57 = .ok (.invokevirtual 136, 3) := by decide +kernel
theorem dX7_fill_60 : decode cX7_fill 60 = .ok (.iinc 2 1, 3) := by decide +kernel
theorem dX7_fill_63 : decode cX7_fill 63 = .ok (.iinc 3 1, 3) := by decide +kernel
theorem dX7_fill_66 : decode cX7_fill 66 = .ok (.goto (-33), 3) := by decide +kernel
theorem dX7_fill_69 : decode cX7_fill 69 = .ok (.iload_n 2, 1) := by decide +kernel
theorem dX7_fill_70 : decode cX7_fill 70 = .ok (.ireturn, 1) := by decide +kernel
theorem dX7_dishesInPlan_0 : decode cX7_dishesInPlan 0 = .ok (.iconst 0, 1) := by decide +kernel
theorem dX7_dishesInPlan_1 : decode cX7_dishesInPlan 1 = .ok (.istore_n 1, 1) := by decide +kernel
theorem dX7_dishesInPlan_2 : decode cX7_dishesInPlan 2 = .ok (.iconst 0, 1) := by decide +kernel
theorem dX7_dishesInPlan_3 : decode cX7_dishesInPlan 3 = .ok (.istore_n 2, 1) := by decide +kernel
theorem dX7_dishesInPlan_4 : decode cX7_dishesInPlan 4 = .ok (.iload_n 2, 1) := by decide +kernel
theorem dX7_dishesInPlan_5 : decode cX7_dishesInPlan 5 = .ok (.bipush 84, 2) := by decide +kernel
theorem dX7_dishesInPlan_7 : decode cX7_dishesInPlan 7 = .ok (.if_icmp .ge 30, 3) := by decide +kernel
theorem dX7_dishesInPlan_10 : decode cX7_dishesInPlan 10 = .ok (.iload_n 1, 1) := by decide +kernel
theorem dX7_dishesInPlan_11 : decode cX7_dishesInPlan 11 = .ok (.aload_n 0, 1) := by decide +kernel
theorem dX7_dishesInPlan_12 : decode cX7_dishesInPlan 12 = .ok (.getfield 7, 3) := by decide +kernel
theorem dX7_dishesInPlan_15 : decode cX7_dishesInPlan 15 = .ok (.bipush 89, 2) := by decide +kernel
theorem dX7_dishesInPlan_17 : decode cX7_dishesInPlan 17 = .ok (.iload_n 2, 1) := by decide +kernel
theorem dX7_dishesInPlan_18 : decode cX7_dishesInPlan 18 = .ok (.iadd, 1) := by decide +kernel
theorem dX7_dishesInPlan_19 : decode cX7_dishesInPlan 19 = .ok (.iaload, 1) := by decide +kernel
theorem dX7_dishesInPlan_20 : decode cX7_dishesInPlan 20 = .ok (.iconst (-1), 1) := by decide +kernel
theorem dX7_dishesInPlan_21 : decode cX7_dishesInPlan 21 = .ok (.if_icmp .ne 7, 3) := by decide +kernel
theorem dX7_dishesInPlan_24 : decode cX7_dishesInPlan 24 = .ok (.iconst 0, 1) := by decide +kernel
theorem dX7_dishesInPlan_25 : decode cX7_dishesInPlan 25 = .ok (.goto 4, 3) := by decide +kernel
theorem dX7_dishesInPlan_28 : decode cX7_dishesInPlan 28 = .ok (.iconst 1, 1) := by decide +kernel
theorem dX7_dishesInPlan_29 : decode cX7_dishesInPlan 29 = .ok (.iadd, 1) := by decide +kernel
theorem dX7_dishesInPlan_30 : decode cX7_dishesInPlan 30 = .ok (.istore_n 1, 1) := by decide +kernel
theorem dX7_dishesInPlan_31 : decode cX7_dishesInPlan 31 = .ok (.iinc 2 1, 3) := by decide +kernel
theorem dX7_dishesInPlan_34 : decode cX7_dishesInPlan 34 = .ok (.goto (-30), 3) := by decide +kernel
theorem dX7_dishesInPlan_37 : decode cX7_dishesInPlan 37 = .ok (.iload_n 1, 1) := by decide +kernel
theorem dX7_dishesInPlan_38 : decode cX7_dishesInPlan 38 = .ok (.ireturn, 1) := by decide +kernel
set_option maxRecDepth 20000 in
theorem ggX7_clear_X7_save : GoodIn wsX7_clear wsX7_save := goodIn_r _ [7, 8, 9, 2, 14, 15, 16, 17, 18, 19, 20, 21, 22, 23, 24, 25, 26, 27, 28] (by decide +kernel) (by decide +kernel)
set_option maxRecDepth 20000 in
theorem gX7_clear_X7_save : GoodIn wsX7_clear (wsV RX7 107 RX7 yX7_save wsX7_save) := goodIn_app (goodIn_of _ (by decide +kernel)) ggX7_clear_X7_save
set_option maxRecDepth 20000 in
theorem ggX7_clear_X7_dishesInPlan : GoodIn wsX7_clear wsX7_dishesInPlan := goodIn_r _ [13, 2, 14, 15, 16, 17, 18, 19, 20, 21, 22, 23, 24, 25, 26, 27, 28] (by decide +kernel) (by decide +kernel)
set_option maxRecDepth 20000 in
theorem gX7_clear_X7_dishesInPlan : GoodIn wsX7_clear (wsV RX7 169 RX7 yX7_dishesInPlan wsX7_dishesInPlan) := goodIn_app (goodIn_of _ (by decide +kernel)) ggX7_clear_X7_dishesInPlan
theorem dX7_clear_0 : decode cX7_clear 0 = .ok (.aload_n 0, 1) := by decide +kernel
theorem dX7_clear_1 : decode cX7_clear 1 = .ok (.iconst 0, 1) := by decide +kernel
theorem dX7_clear_2 : decode cX7_clear 2 = .ok (.putfield 34, 3) := by decide +kernel
theorem dX7_clear_5 : decode cX7_clear 5 = .ok (.aload_n 0, 1) := by decide +kernel
theorem dX7_clear_6 : decode cX7_clear 6 = .ok (.invokevirtual 107, 3) := by decide +kernel
theorem dX7_clear_9 : decode cX7_clear 9 = .ok (.aload_n 0, 1) := by decide +kernel
theorem dX7_clear_10 : decode cX7_clear 10 = .ok (.invokevirtual 169, 3) := by decide +kernel
theorem dX7_clear_13 : decode cX7_clear 13 = .ok (.istore_n 1, 1) := by decide +kernel
theorem dX7_clear_14 : decode cX7_clear 14 = .ok (.iconst 0, 1) := by decide +kernel
theorem dX7_clear_15 : decode cX7_clear 15 = .ok (.istore_n 2, 1) := by decide +kernel
theorem dX7_clear_16 : decode cX7_clear 16 = .ok (.iload_n 2, 1) := by decide +kernel
theorem dX7_clear_17 : decode cX7_clear 17 = .ok (.bipush 84, 2) := by decide +kernel
theorem dX7_clear_19 : decode cX7_clear 19 = .ok (.if_icmp .ge 19, 3) := by decide +kernel
theorem dX7_clear_22 : decode cX7_clear 22 = .ok (.aload_n 0, 1) := by decide +kernel
theorem dX7_clear_23 : decode cX7_clear 23 = .ok (.getfield 7, 3) := by decide +kernel
theorem dX7_clear_26 : decode cX7_clear 26 = .ok (.bipush 89, 2) := by decide +kernel
theorem dX7_clear_28 : decode cX7_clear 28 = .ok (.iload_n 2, 1) := by decide +kernel
theorem dX7_clear_29 : decode cX7_clear 29 = .ok (.iadd, 1) := by decide +kernel
theorem dX7_clear_30 : decode cX7_clear 30 = .ok (.iconst (-1), 1) := by decide +kernel
theorem dX7_clear_31 : decode cX7_clear 31 = .ok (.iastore, 1) := by decide +kernel
theorem dX7_clear_32 : decode cX7_clear 32 = .ok (.iinc 2 1, 3) := by decide +kernel
theorem dX7_clear_35 : decode cX7_clear 35 = .ok (.goto (-19), 3) := by decide +kernel
theorem dX7_clear_38 : decode cX7_clear 38 = .ok (.iload_n 1, 1) := by decide +kernel
theorem dX7_clear_39 : decode cX7_clear 39 = .ok (.ireturn, 1) := by decide +kernel
set_option maxRecDepth 20000 in
theorem ggX7_append_X7_within : GoodIn wsX7_append wsX7_within := goodIn_r _ [7] (by decide +kernel) (by decide +kernel)
set_option maxRecDepth 20000 in
theorem gX7_append_X7_within : GoodIn wsX7_append (va_wsS RX7 41 yX7_within wsX7_within) := goodIn_app (goodIn_of _ (by decide +kernel)) ggX7_append_X7_within
theorem dX7_append_0 : decode cX7_append 0 = .ok (.aload_n 0, 1) := by decide +kernel
theorem dX7_append_1 : decode cX7_append 1 = .ok (.iload_n 1, 1) := by decide +kernel
theorem dX7_append_2 : decode cX7_append 2 = .ok (.bipush 33, 2) := by decide +kernel
theorem dX7_append_4 : decode cX7_append 4 = .ok (.bipush 126, 2) := by decide +kernel
theorem dX7_append_6 : decode cX7_append 6 = .ok (.invokestatic 41, 3) := by decide +kernel
theorem dX7_append_9 : decode cX7_append 9 = .ok (.ifCond .ne 7, 3) := by decide +kernel
theorem dX7_append_12 : decode cX7_append 12 = .ok (.iconst 1, 1) := by decide +kernel
theorem dX7_append_13 : decode cX7_append 13 = .ok (.goto 17, 3) := by decide +kernel
theorem dX7_append_16 : decode cX7_append 16 = .ok (.aload_n 0, 1) := by decide +kernel
theorem dX7_append_17 : decode cX7_append 17 = .ok (.getfield 172, 3) := by decide +kernel
theorem dX7_append_20 : decode cX7_append 20 = .ok (.bipush 60, 2) := by decide +kernel
theorem dX7_append_22 : decode cX7_append 22 = .ok (.if_icmp .ne 7, 3) := by decide +kernel
theorem dX7_append_25 : decode cX7_append 25 = .ok (.iconst 2, 1) := by decide +kernel
theorem dX7_append_26 : decode cX7_append 26 = .ok (.goto 4, 3) := by decide +kernel
theorem dX7_append_29 : decode cX7_append 29 = .ok (.iconst 0, 1) := by decide +kernel
theorem dX7_append_30 : decode cX7_append 30 = .ok (.putfield 34, 3) := by decide +kernel
theorem dX7_append_33 : decode cX7_append 33 = .ok (.aload_n 0, 1) := by decide +kernel
theorem dX7_append_34 : decode cX7_append 34 = .ok (.getfield 34, 3) := by decide +kernel
theorem dX7_append_37 : decode cX7_append 37 = .ok (.ifCond .le 5, 3) := by decide +kernel
theorem dX7_append_40 : decode cX7_append 40 = .ok (.iconst 0, 1) := by decide +kernel
theorem dX7_append_41 : decode cX7_append 41 = .ok (.ireturn, 1) := by decide +kernel
theorem dX7_append_42 : decode cX7_append 42 = .ok (.aload_n 0, 1) := by decide +kernel
theorem dX7_append_43 : decode cX7_append 43 = .ok (.getfield 22, 3) := by decide +kernel
theorem dX7_append_46 : decode cX7_append 46 = .ok (.aload_n 0, 1) := by decide +kernel
theorem dX7_append_47 : decode cX7_append 47 = .ok (.getfield 172, 3) := by decide +kernel
