theorem dX7_append_50 : decode cX7_append 50 = .ok (.iload_n 1, 1) := by decide +kernel
theorem dX7_append_51 : decode cX7_append 51 = .ok (.iastore, 1) := by decide +kernel
theorem dX7_append_52 : decode cX7_append 52 = .ok (.aload_n 0, 1) := by decide +kernel
theorem dX7_append_53 : decode cX7_append 53 = .ok (.dup, 1) := by decide +kernel
theorem dX7_append_54 : decode cX7_append 54 = .ok (.getfield 172, 3) := by decide +kernel
theorem dX7_append_57 : decode cX7_append 57 = .ok (.iconst 1, 1) := by decide +kernel
theorem dX7_append_58 : decode cX7_append 58 = .ok (.iadd, 1) := by decide +kernel
theorem dX7_append_59 : decode cX7_append 59 = .ok (.putfield 172, 3) := by decide +kernel
theorem dX7_append_62 : decode cX7_append 62 = .ok (.aload_n 0, 1) := by decide +kernel
theorem dX7_append_63 : decode cX7_append 63 = .ok (.getfield 172, 3) := by decide +kernel
theorem dX7_append_66 : decode cX7_append 66 = .ok (.ireturn, 1) := by decide +kernel
theorem dX7_clearBuffer_0 : decode cX7_clearBuffer 0 = .ok (.aload_n 0, 1) := by decide +kernel
theorem dX7_clearBuffer_1 : decode cX7_clearBuffer 1 = .ok (.iconst 0, 1) := by decide +kernel
theorem dX7_clearBuffer_2 : decode cX7_clearBuffer 2 = .ok (.putfield 34, 3) := by decide +kernel
theorem dX7_clearBuffer_5 : decode cX7_clearBuffer 5 = .ok (.aload_n 0, 1) := by decide +kernel
theorem dX7_clearBuffer_6 : decode cX7_clearBuffer 6 = .ok (.getfield 172, 3) := by decide +kernel
theorem dX7_clearBuffer_9 : decode cX7_clearBuffer 9 = .ok (.istore_n 1, 1) := by decide +kernel
theorem dX7_clearBuffer_10 : decode cX7_clearBuffer 10 = .ok (.aload_n 0, 1) := by decide +kernel
theorem dX7_clearBuffer_11 : decode cX7_clearBuffer 11 = .ok (.iconst 0, 1) := by decide +kernel
theorem dX7_clearBuffer_12 : decode cX7_clearBuffer 12 = .ok (.putfield 172, 3) := by decide +kernel
theorem dX7_clearBuffer_15 : decode cX7_clearBuffer 15 = .ok (.iload_n 1, 1) := by decide +kernel
theorem dX7_clearBuffer_16 : decode cX7_clearBuffer 16 = .ok (.ireturn, 1) := by decide +kernel
set_option maxRecDepth 20000 in
theorem ggX7_takesDigit_X7_within : GoodIn wsX7_takesDigit wsX7_within := goodIn_r _ [5] (by decide +kernel) (by decide +kernel)
set_option maxRecDepth 20000 in
theorem gX7_takesDigit_X7_within : GoodIn wsX7_takesDigit (va_wsS RX7 41 yX7_within wsX7_within) := goodIn_app (goodIn_of _ (by decide +kernel)) ggX7_takesDigit_X7_within
set_option maxRecDepth 20000 in
theorem ggX7_takesDigit_X7_isDay : GoodIn wsX7_takesDigit wsX7_isDay := goodIn_r _ [8, 2, 3, 4, 5] (by decide +kernel) (by decide +kernel)
set_option maxRecDepth 20000 in
theorem gX7_takesDigit_X7_isDay : GoodIn wsX7_takesDigit (va_wsS RX7 146 yX7_isDay wsX7_isDay) := goodIn_app (goodIn_of _ (by decide +kernel)) ggX7_takesDigit_X7_isDay
theorem dX7_takesDigit_0 : decode cX7_takesDigit 0 = .ok (.aload_n 0, 1) := by decide +kernel
theorem dX7_takesDigit_1 : decode cX7_takesDigit 1 = .ok (.getfield 175, 3) := by decide +kernel
theorem dX7_takesDigit_4 : decode cX7_takesDigit 4 = .ok (.iconst (-1), 1) := by decide +kernel
theorem dX7_takesDigit_5 : decode cX7_takesDigit 5 = .ok (.if_icmp .ne 7, 3) := by decide +kernel
theorem dX7_takesDigit_8 : decode cX7_takesDigit 8 = .ok (.iload_n 1, 1) := by decide +kernel
theorem dX7_takesDigit_9 : decode cX7_takesDigit 9 = .ok (.goto 12, 3) := by decide +kernel
theorem dX7_takesDigit_12 : decode cX7_takesDigit 12 = .ok (.bipush 10, 2) := by decide +kernel
theorem dX7_takesDigit_14 : decode cX7_takesDigit 14 = .ok (.aload_n 0, 1) := by decide +kernel
theorem dX7_takesDigit_15 : decode cX7_takesDigit 15 = .ok (.getfield 175, 3) := by decide +kernel
theorem dX7_takesDigit_18 : decode cX7_takesDigit 18 = .ok (.imul, 1) := by decide +kernel
theorem dX7_takesDigit_19 : decode cX7_takesDigit 19 = .ok (.iload_n 1, 1) := by decide +kernel
theorem dX7_takesDigit_20 : decode cX7_takesDigit 20 = .ok (.iadd, 1) := by decide +kernel
theorem dX7_takesDigit_21 : decode cX7_takesDigit 21 = .ok (.istore_n 2, 1) := by decide +kernel
theorem dX7_takesDigit_22 : decode cX7_takesDigit 22 = .ok (.iload_n 1, 1) := by decide +kernel
theorem dX7_takesDigit_23 : decode cX7_takesDigit 23 = .ok (.iconst 0, 1) := by decide +kernel
theorem dX7_takesDigit_24 : decode cX7_takesDigit 24 = .ok (.bipush 9, 2) := by decide +kernel
theorem dX7_takesDigit_26 : decode cX7_takesDigit 26 = .ok (.invokestatic 41, 3) := by decide +kernel
theorem dX7_takesDigit_29 : decode cX7_takesDigit 29 = .ok (.ifCond .eq 21, 3) := by decide +kernel
theorem dX7_takesDigit_32 : decode cX7_takesDigit 32 = .ok (.aload_n 0, 1) := by decide +kernel
theorem dX7_takesDigit_33 : decode cX7_takesDigit 33 = .ok (.getfield 175, 3) := by decide +kernel
theorem dX7_takesDigit_36 : decode cX7_takesDigit 36 = .ok (.ifCond .eq 14, 3) := by decide +kernel
theorem dX7_takesDigit_39 : decode cX7_takesDigit 39 = .ok (.iload_n 2, 1) := by decide +kernel
theorem dX7_takesDigit_40 : decode cX7_takesDigit 40 = .ok (.invokestatic 146, 3) := by decide +kernel
theorem dX7_takesDigit_43 : decode cX7_takesDigit 43 = .ok (.ifCond .eq 7, 3) := by decide +kernel
theorem dX7_takesDigit_46 : decode cX7_takesDigit 46 = .ok (.iconst 1, 1) := by decide +kernel
theorem dX7_takesDigit_47 : decode cX7_takesDigit 47 = .ok (.goto 4, 3) := by decide +kernel
theorem dX7_takesDigit_50 : decode cX7_takesDigit 50 = .ok (.iconst 0, 1) := by decide +kernel
theorem dX7_takesDigit_51 : decode cX7_takesDigit 51 = .ok (.istore_n 3, 1) := by decide +kernel
theorem dX7_takesDigit_52 : decode cX7_takesDigit 52 = .ok (.aload_n 0, 1) := by decide +kernel
theorem dX7_takesDigit_53 : decode cX7_takesDigit 53 = .ok (.iload_n 3, 1) := by decide +kernel
theorem dX7_takesDigit_54 : decode cX7_takesDigit 54 = .ok (.ifCond .eq 7, 3) := by decide +kernel
theorem dX7_takesDigit_57 : decode cX7_takesDigit 57 = .ok (.iload_n 2, 1) := by decide +kernel
theorem dX7_takesDigit_58 : decode cX7_takesDigit 58 = .ok (.goto 7, 3) := by decide +kernel
theorem dX7_takesDigit_61 : decode cX7_takesDigit 61 = .ok (.aload_n 0, 1) := by decide +kernel
theorem dX7_takesDigit_62 : decode cX7_takesDigit 62 = .ok (.getfield 175, 3) := by decide +kernel
theorem dX7_takesDigit_65 : decode cX7_takesDigit 65 = .ok (.putfield 175, 3) := by decide +kernel
theorem dX7_takesDigit_68 : decode cX7_takesDigit 68 = .ok (.iload_n 3, 1) := by decide +kernel
theorem dX7_takesDigit_69 : decode cX7_takesDigit 69 = .ok (.ireturn, 1) := by decide +kernel
set_option maxRecDepth 20000 in
theorem ggX7_takes_X7_within : GoodIn wsX7_takes wsX7_within := goodIn_r _ [8] (by decide +kernel) (by decide +kernel)
set_option maxRecDepth 20000 in
theorem gX7_takes_X7_within : GoodIn wsX7_takes (va_wsS RX7 41 yX7_within wsX7_within) := goodIn_app (goodIn_of _ (by decide +kernel)) ggX7_takes_X7_within
set_option maxRecDepth 20000 in
theorem ggX7_takes_X7_takesDigit : GoodIn wsX7_takes wsX7_takesDigit := goodIn_r _ [12, 2, 5, 6, 7, 8, 13, 14, 15, 16, 17, 18, 19, 20, 21, 22, 23, 24, 25, 26, 27, 28, 29, 30] (by decide +kernel) (by decide +kernel)
set_option maxRecDepth 20000 in
theorem gX7_takes_X7_takesDigit : GoodIn wsX7_takes (wsV RX7 184 RX7 yX7_takesDigit wsX7_takesDigit) := goodIn_app (goodIn_of _ (by decide +kernel)) ggX7_takes_X7_takesDigit
theorem dX7_takes_0 : decode cX7_takes 0 = .ok (.aload_n 0, 1) := by decide +kernel
theorem dX7_takes_1 : decode cX7_takes 1 = .ok (.getfield 178, 3) := by decide +kernel
theorem dX7_takes_4 : decode cX7_takes 4 = .ok (.tableswitch 112 0 3 #[32, 112, 54, 85], 32) := by decide +kernel
theorem dX7_takes_36 : decode cX7_takes 36 = .ok (.aload_n 0, 1) := by decide +kernel
theorem dX7_takes_37 : decode cX7_takes 37 = .ok (.iconst (-1), 1) := by decide +kernel
theorem dX7_takes_38 : decode cX7_takes 38 = .ok (.putfield 175, 3) := by decide +kernel
theorem dX7_takes_41 : decode cX7_takes 41 = .ok (.aload_n 0, 1) := by decide +kernel
theorem dX7_takes_42 : decode cX7_takes 42 = .ok (.iconst 1, 1) := by decide +kernel
theorem dX7_takes_43 : decode cX7_takes 43 = .ok (.putfield 178, 3) := by decide +kernel
theorem dX7_takes_46 : decode cX7_takes 46 = .ok (.iload_n 1, 1) := by decide +kernel
theorem dX7_takes_47 : decode cX7_takes 47 = .ok (.bipush 100, 2) := by decide +kernel
theorem dX7_takes_49 : decode cX7_takes 49 = .ok (.if_icmp .ne 7, 3) := by decide +kernel
theorem dX7_takes_52 : decode cX7_takes 52 = .ok (.iconst 1, 1) := by decide +kernel
theorem dX7_takes_53 : decode cX7_takes 53 = .ok (.goto 4, 3) := by decide +kernel
theorem dX7_takes_56 : decode cX7_takes 56 = .ok (.iconst 0, 1) := by decide +kernel
theorem dX7_takes_57 : decode cX7_takes 57 = .ok (.ireturn, 1) := by decide +kernel
theorem dX7_takes_58 : decode cX7_takes 58 = .ok (.aload_n 0, 1) := by decide +kernel
theorem dX7_takes_59 : decode cX7_takes 59 = .ok (.getfield 31, 3) := by decide +kernel
theorem dX7_takes_62 : decode cX7_takes 62 = .ok (.iconst 2, 1) := by decide +kernel
theorem dX7_takes_63 : decode cX7_takes 63 = .ok (.aload_n 0, 1) := by decide +kernel
theorem dX7_takes_64 : decode cX7_takes 64 = .ok (.getfield 181, 3) := by decide +kernel
theorem dX7_takes_67 : decode cX7_takes 67 = .ok (.imul, 1) := by decide +kernel
theorem dX7_takes_68 : decode cX7_takes 68 = .ok (.iconst 1, 1) := by decide +kernel
theorem dX7_takes_69 : decode cX7_takes 69 = .ok (.iadd, 1) := by decide +kernel
theorem dX7_takes_70 : decode cX7_takes 70 = .ok (.iload_n 1, 1) := by decide +kernel
theorem dX7_takes_71 : decode cX7_takes 71 = .ok (.bipush 97, 2) := by decide +kernel
theorem dX7_takes_73 : decode cX7_takes 73 = .ok (.isub, 1) := by decide +kernel
theorem dX7_takes_74 : decode cX7_takes 74 = .ok (.iastore, 1) := by decide +kernel
theorem dX7_takes_75 : decode cX7_takes 75 = .ok (.aload_n 0, 1) := by decide +kernel
theorem dX7_takes_76 : decode cX7_takes 76 = .ok (.iconst 3, 1) := by decide +kernel
theorem dX7_takes_77 : decode cX7_takes 77 = .ok (.putfield 178, 3) := by decide +kernel
theorem dX7_takes_80 : decode cX7_takes 80 = .ok (.iload_n 1, 1) := by decide +kernel
theorem dX7_takes_81 : decode cX7_takes 81 = .ok (.bipush 97, 2) := by decide +kernel
theorem dX7_takes_83 : decode cX7_takes 83 = .ok (.bipush 108, 2) := by decide +kernel
theorem dX7_takes_85 : decode cX7_takes 85 = .ok (.invokestatic 41, 3) := by decide +kernel
theorem dX7_takes_88 : decode cX7_takes 88 = .ok (.ireturn, 1) := by decide +kernel
theorem dX7_takes_89 : decode cX7_takes 89 = .ok (.aload_n 0, 1) := by decide +kernel
theorem dX7_takes_90 : decode cX7_takes 90 = .ok (.dup, 1) := by decide +kernel
theorem dX7_takes_91 : decode cX7_takes 91 = .ok (.getfield 181, 3) := by decide +kernel
theorem dX7_takes_94 : decode cX7_takes 94 = .ok (.iconst 1, 1) := by decide +kernel
theorem dX7_takes_95 : decode cX7_takes 95 = .ok (.iadd, 1) := by decide +kernel
theorem dX7_takes_96 : decode cX7_takes 96 = .ok (.putfield 181, 3) := by decide +kernel
theorem dX7_takes_99 : decode cX7_takes 99 = .ok (.aload_n 0, 1) := by decide +kernel
theorem dX7_takes_100 : decode cX7_takes 100 = .ok (.iconst 0, 1) := by decide +kernel
theorem dX7_takes_101 : decode cX7_takes 101 = .ok (.putfield 178, 3) := by decide +kernel
theorem dX7_takes_104 : decode cX7_takes 104 = .ok (.iload_n 1, 1) := by decide +kernel
theorem dX7_takes_105 : decode cX7_takes 105 = .ok (.bipush 59, 2) := by decide +kernel
theorem dX7_takes_107 : decode cX7_takes 107 = .ok (.if_icmp .ne 7, 3) := by decide +kernel
theorem dX7_takes_110 : decode cX7_takes 110 = .ok (.iconst 1, 1) := by decide +kernel
theorem dX7_takes_111 : decode cX7_takes 111 = .ok (.goto 4, 3) := by decide +kernel
theorem dX7_takes_114 : decode cX7_takes 114 = .ok (.iconst 0, 1) := by decide +kernel
theorem dX7_takes_115 : decode cX7_takes 115 = .ok (.ireturn, 1) := by decide +kernel
theorem dX7_takes_116 : decode cX7_takes 116 = .ok (.iload_n 1, 1) := by decide +kernel
theorem dX7_takes_117 : decode cX7_takes 117 = .ok (.bipush 61, 2) := by decide +kernel
theorem dX7_takes_119 : decode cX7_takes 119 = .ok (.if_icmp .ne 33, 3) := by decide +kernel
theorem dX7_takes_122 : decode cX7_takes 122 = .ok (.aload_n 0, 1) := by decide +kernel
theorem dX7_takes_123 : decode cX7_takes 123 = .ok (.getfield 175, 3) := by decide +kernel
theorem dX7_takes_126 : decode cX7_takes 126 = .ok (.iconst (-1), 1) := by decide +kernel
theorem dX7_takes_127 : decode cX7_takes 127 = .ok (.if_icmp .eq 25, 3) := by decide +kernel
theorem dX7_takes_130 : decode cX7_takes 130 = .ok (.aload_n 0, 1) := by decide +kernel
theorem dX7_takes_131 : decode cX7_takes 131 = .ok (.getfield 31, 3) := by decide +kernel
theorem dX7_takes_134 : decode cX7_takes 134 = .ok (.iconst 2, 1) := by decide +kernel
theorem dX7_takes_135 : decode cX7_takes 135 = .ok (.aload_n 0, 1) := by decide +kernel
theorem dX7_takes_136 : decode cX7_takes 136 = .ok (.getfield 181, 3) := by decide +kernel
theorem dX7_takes_139 : decode cX7_takes 139 = .ok (.imul, 1) := by decide +kernel
theorem dX7_takes_140 : decode cX7_takes 140 = .ok (.aload_n 0, 1) := by decide +kernel
theorem dX7_takes_141 : decode cX7_takes 141 = .ok (.getfield 175, 3) := by decide +kernel
theorem dX7_takes_144 : decode cX7_takes 144 = .ok (.iastore, 1) := by decide +kernel
theorem dX7_takes_145 : decode cX7_takes 145 = .ok (.aload_n 0, 1) := by decide +kernel
theorem dX7_takes_146 : decode cX7_takes 146 = .ok (.iconst 2, 1) := by decide +kernel
theorem dX7_takes_147 : decode cX7_takes 147 = .ok (.putfield 178, 3) := by decide +kernel
theorem dX7_takes_150 : decode cX7_takes 150 = .ok (.iconst 1, 1) := by decide +kernel
theorem dX7_takes_151 : decode cX7_takes 151 = .ok (.ireturn, 1) := by decide +kernel
theorem dX7_takes_152 : decode cX7_takes 152 = .ok (.aload_n 0, 1) := by decide +kernel
theorem dX7_takes_153 : decode cX7_takes 153 = .ok (.iload_n 1, 1) := by decide +kernel
theorem dX7_takes_154 : decode cX7_takes 154 = .ok (.bipush 48, 2) := by decide +kernel
theorem dX7_takes_156 : decode cX7_takes 156 = .ok (.isub, 1) := by decide +kernel
theorem dX7_takes_157 : decode cX7_takes 157 = .ok (.invokevirtual 184, 3) := by decide +kernel
theorem dX7_takes_160 : decode cX7_takes 160 = .ok (.ireturn, 1) := by decide +kernel
set_option maxRecDepth 20000 in
theorem ggX7_rightUpTo_X7_takes : GoodIn wsX7_rightUpTo wsX7_takes := goodIn_r _ [9, 2, 10, 11, 1, 12, 13, 8, 14, 15, 16, 17, 18, 19, 20, 21, 22, 23, 24, 25, 26, 27, 28, 29, 30, 31, 32, 33, 34, 35, 36] (by decide +kernel) (by decide +kernel)
set_option maxRecDepth 20000 in
theorem gX7_rightUpTo_X7_takes : GoodIn wsX7_rightUpTo (wsV RX7 187 RX7 yX7_takes wsX7_takes) := goodIn_app (goodIn_of _ (by decide +kernel)) ggX7_rightUpTo_X7_takes
theorem dX7_rightUpTo_0 : decode cX7_rightUpTo 0 = .ok (.aload_n 0, 1) := by decide +kernel
theorem dX7_rightUpTo_1 : decode cX7_rightUpTo 1 = .ok (.iconst 0, 1) := by decide +kernel
theorem dX7_rightUpTo_2 : decode cX7_rightUpTo 2 = .ok (.putfield 181, 3) := by decide +kernel
theorem dX7_rightUpTo_5 : decode cX7_rightUpTo 5 = .ok (.aload_n 0, 1) := by decide +kernel
theorem dX7_rightUpTo_6 : decode cX7_rightUpTo 6 = .ok (.iconst 0, 1) := by decide +kernel
theorem dX7_rightUpTo_7 : decode cX7_rightUpTo 7 = .ok (.putfield 178, 3) := by decide +kernel
theorem dX7_rightUpTo_10 : decode cX7_rightUpTo 10 = .ok (.iconst 0, 1) := by decide +kernel
theorem dX7_rightUpTo_11 : decode cX7_rightUpTo 11 = .ok (.istore_n 1, 1) := by decide +kernel
theorem dX7_rightUpTo_12 : decode cX7_rightUpTo 12 = .ok (.iload_n 1, 1) := by decide +kernel
theorem dX7_rightUpTo_13 : decode cX7_rightUpTo 13 = .ok (.aload_n 0, 1) := by decide +kernel
theorem dX7_rightUpTo_14 : decode cX7_rightUpTo 14 = .ok (.getfield 172, 3) := by decide +kernel
theorem dX7_rightUpTo_17 : decode cX7_rightUpTo 17 = .ok (.if_icmp .ge 22, 3) := by decide +kernel
theorem dX7_rightUpTo_20 : decode cX7_rightUpTo 20 = .ok (.aload_n 0, 1) := by decide +kernel
theorem dX7_rightUpTo_21 : decode cX7_rightUpTo 21 = .ok (.aload_n 0, 1) := by decide +kernel
theorem dX7_rightUpTo_22 : decode cX7_rightUpTo 22 = .ok (.getfield 22, 3) := by decide +kernel
theorem dX7_rightUpTo_25 : decode cX7_rightUpTo 25 = .ok (.iload_n 1, 1) := by decide +kernel
theorem dX7_rightUpTo_26 : decode cX7_rightUpTo 26 = .ok (.iaload, 1) := by decide +kernel
theorem dX7_rightUpTo_27 : decode cX7_rightUpTo 27 = .ok (.invokevirtual 187, 3) := by decide +kernel
theorem dX7_rightUpTo_30 : decode cX7_rightUpTo 30 = .ok (.ifCond .eq 9, 3) := by decide +kernel
theorem dX7_rightUpTo_33 : decode cX7_rightUpTo 33 = .ok (.iinc 1 1, 3) := by decide +kernel
theorem dX7_rightUpTo_36 : decode cX7_rightUpTo 36 = .ok (.goto (-24), 3) := by decide +kernel
theorem dX7_rightUpTo_39 : decode cX7_rightUpTo 39 = .ok (.iload_n 1, 1) := by decide +kernel
theorem dX7_rightUpTo_40 : decode cX7_rightUpTo 40 = .ok (.ireturn, 1) := by decide +kernel
set_option maxRecDepth 20000 in
theorem ggX7_firstError_X7_rightUpTo : GoodIn wsX7_firstError wsX7_rightUpTo := goodIn_r _ [6, 7, 8, 9, 10, 11, 12, 13, 5, 14, 15, 16, 17, 18, 19, 20, 21, 22, 23, 24, 25, 26, 27, 28, 29, 30, 31, 32, 33, 34, 35, 36, 37, 38, 39, 40, 41] (by decide +kernel) (by decide +kernel)
set_option maxRecDepth 20000 in
theorem gX7_firstError_X7_rightUpTo : GoodIn wsX7_firstError (wsV RX7 190 RX7 yX7_rightUpTo wsX7_rightUpTo) := goodIn_app (goodIn_of _ (by decide +kernel)) ggX7_firstError_X7_rightUpTo
theorem dX7_firstError_0 : decode cX7_firstError 0 = .ok (.aload_n 0, 1) := by decide +kernel
theorem dX7_firstError_1 : decode cX7_firstError 1 = .ok (.iconst 0, 1) := by decide +kernel
theorem dX7_firstError_2 : decode cX7_firstError 2 = .ok (.putfield 34, 3) := by decide +kernel
theorem dX7_firstError_5 : decode cX7_firstError 5 = .ok (.aload_n 0, 1) := by decide +kernel
theorem dX7_firstError_6 : decode cX7_firstError 6 = .ok (.invokevirtual 190, 3) := by decide +kernel
theorem dX7_firstError_9 : decode cX7_firstError 9 = .ok (.ireturn, 1) := by decide +kernel
set_option maxRecDepth 20000 in
theorem ggX7_puts_X7_isDish : GoodIn wsX7_puts wsX7_isDish := goodIn_r _ [6, 7, 8, 9, 5, 10, 84, 85, 86, 87, 88, 89, 90, 91, 92, 93, 94, 95, 96, 97, 98] (by decide +kernel) (by decide +kernel)
set_option maxRecDepth 20000 in
theorem gX7_puts_X7_isDish : GoodIn wsX7_puts (wsV RX7 114 RX7 yX7_isDish wsX7_isDish) := goodIn_app (goodIn_of _ (by decide +kernel)) ggX7_puts_X7_isDish
set_option maxRecDepth 20000 in
theorem ggX7_puts_X7_canServe : GoodIn wsX7_puts wsX7_canServe := goodIn_r _ [14, 15, 16, 17, 5, 18, 7, 19, 20, 21, 22, 23, 24, 25, 26, 27, 28, 29, 30, 31, 32, 33, 34, 35, 36, 37, 38, 39, 40, 41, 42, 43, 44, 45, 46, 47, 48, 49, 50, 51, 52, 53, 54, 55, 56, 57, 58, 59, 60, 61, 62, 63, 64, 65, 66, 67, 68, 69, 70, 71, 72, 73, 74, 75, 76, 77, 78, 79, 80, 81, 82, 83, 84, 85, 86, 87, 88, 89, 90, 91, 92, 93, 94, 95, 96, 97, 98] (by decide +kernel) (by decide +kernel)
set_option maxRecDepth 20000 in
theorem gX7_puts_X7_canServe : GoodIn wsX7_puts (wsV RX7 149 RX7 yX7_canServe wsX7_canServe) := goodIn_app (goodIn_of _ (by decide +kernel)) ggX7_puts_X7_canServe
set_option maxRecDepth 20000 in
theorem ggX7_puts_X7_of : GoodIn wsX7_puts wsX7_of := goodIn_r _ [18, 7, 84, 85, 86, 87, 88, 89, 90, 91, 92, 93, 94, 95, 96, 97, 98] (by decide +kernel) (by decide +kernel)
set_option maxRecDepth 20000 in
theorem gX7_puts_X7_of : GoodIn wsX7_puts (wsV RX7 45 RX7 yX7_of wsX7_of) := goodIn_app (goodIn_of _ (by decide +kernel)) ggX7_puts_X7_of
set_option maxRecDepth 20000 in
theorem ggX7_puts_X7_put : GoodIn wsX7_puts wsX7_put := goodIn_r _ [57, 7, 84, 85, 86, 87, 88, 89, 90, 91, 92, 93, 94, 95, 96, 97, 98] (by decide +kernel) (by decide +kernel)
set_option maxRecDepth 20000 in
theorem gX7_puts_X7_put : GoodIn wsX7_puts (wsV RX7 136 RX7 yX7_put wsX7_put) := goodIn_app (goodIn_of _ (by decide +kernel)) ggX7_puts_X7_put
theorem dX7_puts_0 : decode cX7_puts 0 = .ok (.aload_n 0, 1) := by decide +kernel
theorem dX7_puts_1 : decode cX7_puts 1 = .ok (.getfield 31, 3) := by decide +kernel
theorem dX7_puts_4 : decode cX7_puts 4 = .ok (.iconst 2, 1) := by decide +kernel
theorem dX7_puts_5 : decode cX7_puts 5 = .ok (.iload_n 1, 1) := by decide +kernel
theorem dX7_puts_6 : decode cX7_puts 6 = .ok (.imul, 1) := by decide +kernel
theorem dX7_puts_7 : decode cX7_puts 7 = .ok (.iaload, 1) := by decide +kernel
theorem dX7_puts_8 : decode cX7_puts 8 = .ok (.istore_n 2, 1) := by decide +kernel
theorem dX7_puts_9 : decode cX7_puts 9 = .ok (.aload_n 0, 1) := by decide +kernel
theorem dX7_puts_10 : decode cX7_puts 10 = .ok (.getfield 31, 3) := by decide +kernel
theorem dX7_puts_13 : decode cX7_puts 13 = .ok (.iconst 2, 1) := by decide +kernel
theorem dX7_puts_14 : decode cX7_puts 14 = .ok (.iload_n 1, 1) := by decide +kernel
theorem dX7_puts_15 : decode cX7_puts 15 = .ok (.imul, 1) := by decide +kernel
theorem dX7_puts_16 : decode cX7_puts 16 = .ok (.iconst 1, 1) := by decide +kernel
theorem dX7_puts_17 : decode cX7_puts 17 = .ok (.iadd, 1) := by decide +kernel
theorem dX7_puts_18 : decode cX7_puts 18 = .ok (.iaload, 1) := by decide +kernel
theorem dX7_puts_19 : decode cX7_puts 19 = .ok (.istore_n 3, 1) := by decide +kernel
theorem dX7_puts_20 : decode cX7_puts 20 = .ok (.aload_n 0, 1) := by decide +kernel
theorem dX7_puts_21 : decode cX7_puts 21 = .ok (.iload_n 3, 1) := by decide +kernel
theorem dX7_puts_22 : decode cX7_puts 22 = .ok (.invokevirtual 114, 3) := by decide +kernel
theorem dX7_puts_25 : decode cX7_puts 25 = .ok (.ifCond .eq 16, 3) := by decide +kernel
theorem dX7_puts_28 : decode cX7_puts 28 = .ok (.aload_n 0, 1) := by decide +kernel
theorem dX7_puts_29 : decode cX7_puts 29 = .ok (.iload_n 2, 1) := by decide +kernel
theorem dX7_puts_30 : decode cX7_puts 30 = .ok (.iload_n 3, 1) := by decide +kernel
theorem dX7_puts_31 : decode cX7_puts 31 = .ok (.invokevirtual 149, 3) := by decide +kernel
theorem dX7_puts_34 : decode cX7_puts 34 = .ok (.ifCond .eq 7, 3) := by decide +kernel
theorem dX7_puts_37 : decode cX7_puts 37 = .ok (.iconst 1, 1) := by decide +kernel
theorem dX7_puts_38 : decode cX7_puts 38 = .ok (.goto 4, 3) := by decide +kernel
theorem dX7_puts_41 : decode cX7_puts 41 = .ok (.iconst 0, 1) := by decide +kernel
theorem dX7_puts_42 : decode cX7_puts 42 = .ok (.istore 4, 2) := by decide +kernel
theorem dX7_puts_44 : decode cX7_puts 44 = .ok (.iload 4, 2) := by decide +kernel
theorem dX7_puts_46 : decode cX7_puts 46 = .ok (.ifCond .eq 15, 3) := by decide +kernel
theorem dX7_puts_49 : decode cX7_puts 49 = .ok (.aload_n 0, 1) := by decide +kernel
theorem dX7_puts_50 : decode cX7_puts 50 = .ok (.iload_n 2, 1) := by decide +kernel
theorem dX7_puts_51 : decode cX7_puts 51 = .ok (.aload_n 0, 1) := by decide +kernel
theorem dX7_puts_52 : decode cX7_puts 52 = .ok (.iload_n 3, 1) := by decide +kernel
theorem dX7_puts_53 : decode cX7_puts 53 = .ok (.iconst 0, 1) := by decide +kernel
theorem dX7_puts_54 : decode cX7_puts 54 = .ok (.invokevirtual 45, 3) := by decide +kernel
theorem dX7_puts_57 : decode cX7_puts 57 = .ok (.iload_n 3, 1) := by decide +kernel
theorem dX7_puts_58 : decode cX7_puts 58 = .ok (.invokevirtual 136, 3) := by decide +kernel
theorem dX7_puts_61 : decode cX7_puts 61 = .ok (.iload 4, 2) := by decide +kernel
theorem dX7_puts_63 : decode cX7_puts 63 = .ok (.ireturn, 1) := by decide +kernel
set_option maxRecDepth 20000 in
theorem ggX7_read_X7_rightUpTo : GoodIn wsX7_read wsX7_rightUpTo := goodIn_r _ [9, 4, 2, 1, 10, 11, 12, 13, 8, 14, 15, 16, 17, 18, 19, 20, 21, 22, 23, 24, 25, 26, 115, 116, 117, 118, 119, 120, 121, 122, 123, 124, 125, 126, 127, 128, 129] (by decide +kernel) (by decide +kernel)
set_option maxRecDepth 20000 in
theorem gX7_read_X7_rightUpTo : GoodIn wsX7_read (wsV RX7 190 RX7 yX7_rightUpTo wsX7_rightUpTo) := goodIn_app (goodIn_of _ (by decide +kernel)) ggX7_read_X7_rightUpTo
set_option maxRecDepth 20000 in
theorem ggX7_read_X7_save : GoodIn wsX7_read wsX7_save := goodIn_r _ [30, 31, 32, 33, 115, 116, 117, 118, 119, 120, 121, 122, 123, 124, 125, 126, 127, 128, 129] (by decide +kernel) (by decide +kernel)
set_option maxRecDepth 20000 in
theorem gX7_read_X7_save : GoodIn wsX7_read (wsV RX7 107 RX7 yX7_save wsX7_save) := goodIn_app (goodIn_of _ (by decide +kernel)) ggX7_read_X7_save
set_option maxRecDepth 20000 in
theorem ggX7_read_X7_puts : GoodIn wsX7_read wsX7_puts := goodIn_r _ [37, 16, 38, 39, 40, 8, 41, 33, 17, 18, 19, 42, 43, 44, 45, 46, 47, 48, 49, 50, 51, 52, 53, 54, 55, 56, 57, 58, 59, 60, 61, 62, 63, 64, 65, 66, 67, 68, 69, 70, 71, 72, 73, 74, 75, 76, 77, 78, 79, 80, 81, 82, 83, 84, 85, 86, 87, 88, 89, 90, 91, 92, 93, 94, 95, 96, 97, 98, 99, 100, 101, 102, 103, 104, 105, 106, 107, 108, 109, 110, 111, 112, 113, 114, 115, 116, 117, 118, 119, 120, 121, 122, 123, 124, 125, 126, 127, 128, 129] (by decide +kernel) (by decide +kernel)
set_option maxRecDepth 20000 in
theorem gX7_read_X7_puts : GoodIn wsX7_read (wsV RX7 193 RX7 yX7_puts wsX7_puts) := goodIn_app (goodIn_of _ (by decide +kernel)) ggX7_read_X7_puts
theorem dX7_read_0 : decode cX7_read 0 = .ok (.aload_n 0, 1) := by decide +kernel
theorem dX7_read_1 : decode cX7_read 1 = .ok (.invokevirtual 190, 3) := by decide +kernel
theorem dX7_read_4 : decode cX7_read 4 = .ok (.aload_n 0, 1) := by decide +kernel
theorem dX7_read_5 : decode cX7_read 5 = .ok (.getfield 172, 3) := by decide +kernel
theorem dX7_read_8 : decode cX7_read 8 = .ok (.if_icmp .ne 15, 3) := by decide +kernel
theorem dX7_read_11 : decode cX7_read 11 = .ok (.aload_n 0, 1) := by decide +kernel
theorem dX7_read_12 : decode cX7_read 12 = .ok (.getfield 178, 3) := by decide +kernel
theorem dX7_read_15 : decode cX7_read 15 = .ok (.iconst 3, 1) := by decide +kernel
theorem dX7_read_16 : decode cX7_read 16 = .ok (.if_icmp .ne 7, 3) := by decide +kernel
theorem dX7_read_19 : decode cX7_read 19 = .ok (.iconst 1, 1) := by decide +kernel
theorem dX7_read_20 : decode cX7_read 20 = .ok (.goto 4, 3) := by decide +kernel
theorem dX7_read_23 : decode cX7_read 23 = .ok (.iconst 0, 1) := by decide +kernel
theorem dX7_read_24 : decode cX7_read 24 = .ok (.istore_n 1, 1) := by decide +kernel
theorem dX7_read_25 : decode cX7_read 25 = .ok (.aload_n 0, 1) := by decide +kernel
theorem dX7_read_26 : decode cX7_read 26 = .ok (.iload_n 1, 1) := by decide +kernel
theorem dX7_read_27 : decode cX7_read 27 = .ok (.ifCond .eq 7, 3) := by decide +kernel
theorem dX7_read_30 : decode cX7_read 30 = .ok (.iconst 0, 1) := by decide +kernel
theorem dX7_read_31 : decode cX7_read 31 = .ok (.goto 4, 3) := by decide +kernel
theorem dX7_read_34 : decode cX7_read 34 = .ok (.iconst 1, 1) := by decide +kernel
theorem dX7_read_35 : decode cX7_read 35 = .ok (.putfield 34, 3) := by decide +kernel
theorem dX7_read_38 : decode cX7_read 38 = .ok (.aload_n 0, 1) := by decide +kernel
theorem dX7_read_39 : decode cX7_read 39 = .ok (.getfield 34, 3) := by decide +kernel
theorem dX7_read_42 : decode cX7_read 42 = .ok (.ifCond .le 5, 3) := by decide +kernel
theorem dX7_read_45 : decode cX7_read 45 = .ok (.iconst 0, 1) := by decide +kernel
theorem dX7_read_46 : decode cX7_read 46 = .ok (.ireturn, 1) := by decide +kernel
theorem dX7_read_47 : decode cX7_read 47 = .ok (.aload_n 0, 1) := by decide +kernel
theorem dX7_read_48 : decode cX7_read 48 = .ok (.invokevirtual 107, 3) := by decide +kernel
theorem dX7_read_51 : decode cX7_read 51 = .ok (.aload_n 0, 1) := by decide +kernel
theorem dX7_read_52 : decode cX7_read 52 = .ok (.iconst 0, 1) := by decide +kernel
theorem dX7_read_53 : decode cX7_read 53 = .ok (.putfield 172, 3) := by decide +kernel
theorem dX7_read_56 : decode cX7_read 56 = .ok (.iconst 0, 1) := by decide +kernel
theorem dX7_read_57 : decode cX7_read 57 = .ok (.istore_n 2, 1) := by decide +kernel
theorem dX7_read_58 : decode cX7_read 58 = .ok (.iload_n 2, 1) := by decide +kernel
theorem dX7_read_59 : decode cX7_read 59 = .ok (.aload_n 0, 1) := by decide +kernel
theorem dX7_read_60 : decode cX7_read 60 = .ok (.getfield 181, 3) := by decide +kernel
theorem dX7_read_63 : decode cX7_read 63 = .ok (.if_icmp .gt 17, 3) := by decide +kernel
theorem dX7_read_66 : decode cX7_read 66 = .ok (.aload_n 0, 1) := by decide +kernel
theorem dX7_read_67 : decode cX7_read 67 = .ok (.iload_n 2, 1) := by decide +kernel
theorem dX7_read_68 : decode cX7_read 68 = .ok (.invokevirtual 193, 3) := by decide +kernel
theorem dX7_read_71 : decode cX7_read 71 = .ok (.ifCond .eq 9, 3) := by decide +kernel
theorem dX7_read_74 : decode cX7_read 74 = .ok (.iinc 2 1, 3) := by decide +kernel
theorem dX7_read_77 : decode cX7_read 77 = .ok (.goto (-19), 3) := by decide +kernel
theorem dX7_read_80 : decode cX7_read 80 = .ok (.iload_n 2, 1) := by decide +kernel
theorem dX7_read_81 : decode cX7_read 81 = .ok (.ireturn, 1) := by decide +kernel
set_option maxRecDepth 20000 in
theorem ggX7_isSnapshot_X7_within : GoodIn wsX7_isSnapshot wsX7_within := goodIn_r _ [4] (by decide +kernel) (by decide +kernel)
set_option maxRecDepth 20000 in
theorem gX7_isSnapshot_X7_within : GoodIn wsX7_isSnapshot (va_wsS RX7 41 yX7_within wsX7_within) := goodIn_app (goodIn_of _ (by decide +kernel)) ggX7_isSnapshot_X7_within
theorem dX7_isSnapshot_0 : decode cX7_isSnapshot 0 = .ok (.iload_n 0, 1) := by decide +kernel
theorem dX7_isSnapshot_1 : decode cX7_isSnapshot 1 = .ok (.iconst 0, 1) := by decide +kernel
theorem dX7_isSnapshot_2 : decode cX7_isSnapshot 2 = .ok (.iconst 1, 1) := by decide +kernel
theorem dX7_isSnapshot_3 : decode cX7_isSnapshot 3 = .ok (.invokestatic 41, 3) := by decide +kernel
theorem dX7_isSnapshot_6 : decode cX7_isSnapshot 6 = .ok (.ireturn, 1) := by decide +kernel
set_option maxRecDepth 20000 in
theorem ggX7_take_X7_isSnapshot : GoodIn wsX7_take wsX7_isSnapshot := goodIn_r _ [8, 9, 10, 7, 11] (by decide +kernel) (by decide +kernel)
set_option maxRecDepth 20000 in
theorem gX7_take_X7_isSnapshot : GoodIn wsX7_take (va_wsS RX7 196 yX7_isSnapshot wsX7_isSnapshot) := goodIn_app (goodIn_of _ (by decide +kernel)) ggX7_take_X7_isSnapshot
set_option maxRecDepth 20000 in
theorem ggX7_take_X7_dishesInPlan : GoodIn wsX7_take wsX7_dishesInPlan := goodIn_r _ [15, 4, 16, 17, 18, 19, 20, 21, 22, 23, 24, 25, 26, 27, 28, 29, 30] (by decide +kernel) (by decide +kernel)
set_option maxRecDepth 20000 in
theorem gX7_take_X7_dishesInPlan : GoodIn wsX7_take (wsV RX7 169 RX7 yX7_dishesInPlan wsX7_dishesInPlan) := goodIn_app (goodIn_of _ (by decide +kernel)) ggX7_take_X7_dishesInPlan
theorem dX7_take_0 : decode cX7_take 0 = .ok (.aload_n 0, 1) := by decide +kernel
theorem dX7_take_1 : decode cX7_take 1 = .ok (.iload_n 1, 1) := by decide +kernel
theorem dX7_take_2 : decode cX7_take 2 = .ok (.invokestatic 196, 3) := by decide +kernel
theorem dX7_take_5 : decode cX7_take 5 = .ok (.ifCond .eq 7, 3) := by decide +kernel
theorem dX7_take_8 : decode cX7_take 8 = .ok (.iconst 0, 1) := by decide +kernel
theorem dX7_take_9 : decode cX7_take 9 = .ok (.goto 4, 3) := by decide +kernel
theorem dX7_take_12 : decode cX7_take 12 = .ok (.iconst 1, 1) := by decide +kernel
theorem dX7_take_13 : decode cX7_take 13 = .ok (.putfield 34, 3) := by decide +kernel
theorem dX7_take_16 : decode cX7_take 16 = .ok (.aload_n 0, 1) := by decide +kernel
theorem dX7_take_17 : decode cX7_take 17 = .ok (.getfield 34, 3) := by decide +kernel
theorem dX7_take_20 : decode cX7_take 20 = .ok (.ifCond .le 5, 3) := by decide +kernel
theorem dX7_take_23 : decode cX7_take 23 = .ok (.iconst 0, 1) := by decide +kernel
theorem dX7_take_24 : decode cX7_take 24 = .ok (.ireturn, 1) := by decide +kernel
theorem dX7_take_25 : decode cX7_take 25 = .ok (.aload_n 0, 1) := by decide +kernel
theorem dX7_take_26 : decode cX7_take 26 = .ok (.getfield 19, 3) := by decide +kernel
theorem dX7_take_29 : decode cX7_take 29 = .ok (.iload_n 1, 1) := by decide +kernel
theorem dX7_take_30 : decode cX7_take 30 = .ok (.iconst 1, 1) := by decide +kernel
theorem dX7_take_31 : decode cX7_take 31 = .ok (.iastore, 1) := by decide +kernel
theorem dX7_take_32 : decode cX7_take 32 = .ok (.iconst 0, 1) := by decide +kernel
theorem dX7_take_33 : decode cX7_take 33 = .ok (.istore_n 2, 1) := by decide +kernel
theorem dX7_take_34 : decode cX7_take 34 = .ok (.iload_n 2, 1) := by decide +kernel
theorem dX7_take_35 : decode cX7_take 35 = .ok (.bipush 84, 2) := by decide +kernel
theorem dX7_take_37 : decode cX7_take 37 = .ok (.if_icmp .ge 29, 3) := by decide +kernel
theorem dX7_take_40 : decode cX7_take 40 = .ok (.aload_n 0, 1) := by decide +kernel
theorem dX7_take_41 : decode cX7_take 41 = .ok (.getfield 16, 3) := by decide +kernel
theorem dX7_take_44 : decode cX7_take 44 = .ok (.bipush 84, 2) := by decide +kernel
theorem dX7_take_46 : decode cX7_take 46 = .ok (.iload_n 1, 1) := by decide +kernel
theorem dX7_take_47 : decode cX7_take 47 = .ok (.imul, 1) := by decide +kernel
theorem dX7_take_48 : decode cX7_take 48 = .ok (.iload_n 2, 1) := by decide +kernel
theorem dX7_take_49 : decode cX7_take 49 = .ok (.iadd, 1) := by decide +kernel
theorem dX7_take_50 : decode cX7_take 50 = .ok (.aload_n 0, 1) := by decide +kernel
theorem dX7_take_51 : decode cX7_take 51 = .ok (.getfield 7, 3) := by decide +kernel
theorem dX7_take_54 : decode cX7_take 54 = .ok (.bipush 89, 2) := by decide +kernel
theorem dX7_take_56 : decode cX7_take 56 = .ok (.iload_n 2, 1) := by decide +kernel
theorem dX7_take_57 : decode cX7_take 57 = .ok (.iadd, 1) := by decide +kernel
theorem dX7_take_58 : decode cX7_take 58 = .ok (.iaload, 1) := by decide +kernel
theorem dX7_take_59 : decode cX7_take 59 = .ok (.iastore, 1) := by decide +kernel
theorem dX7_take_60 : decode cX7_take 60 = .ok (.iinc 2 1, 3) := by decide +kernel
theorem dX7_take_63 : decode cX7_take 63 = .ok (.goto (-29), 3) := by decide +kernel
theorem dX7_take_66 : decode cX7_take 66 = .ok (.aload_n 0, 1) := by decide +kernel
theorem dX7_take_67 : decode cX7_take 67 = .ok (.invokevirtual 169, 3) := by decide +kernel
theorem dX7_take_70 : decode cX7_take 70 = .ok (.ireturn, 1) := by decide +kernel
theorem dX7_trade_0 : decode cX7_trade 0 = .ok (.iconst 0, 1) := by decide +kernel
theorem dX7_trade_1 : decode cX7_trade 1 = .ok (.istore_n 2, 1) := by decide +kernel
theorem dX7_trade_2 : decode cX7_trade 2 = .ok (.iload_n 2, 1) := by decide +kernel
theorem dX7_trade_3 : decode cX7_trade 3 = .ok (.bipush 84, 2) := by decide +kernel
theorem dX7_trade_5 : decode cX7_trade 5 = .ok (.if_icmp .ge 51, 3) := by decide +kernel
theorem dX7_trade_8 : decode cX7_trade 8 = .ok (.aload_n 0, 1) := by decide +kernel
theorem dX7_trade_9 : decode cX7_trade 9 = .ok (.getfield 7, 3) := by decide +kernel
theorem dX7_trade_12 : decode cX7_trade 12 = .ok (.bipush 89, 2) := by decide +kernel
theorem dX7_trade_14 : decode cX7_trade 14 = .ok (.iload_n 2, 1) := by decide +kernel
theorem dX7_trade_15 : decode cX7_trade 15 = .ok (.iadd, 1) := by decide +kernel
theorem dX7_trade_16 : decode cX7_trade 16 = .ok (.iaload, 1) := by decide +kernel
theorem dX7_trade_17 : decode cX7_trade 17 = .ok (.istore_n 3, 1) := by decide +kernel
theorem dX7_trade_18 : decode cX7_trade 18 = .ok (.aload_n 0, 1) := by decide +kernel
theorem dX7_trade_19 : decode cX7_trade 19 = .ok (.getfield 7, 3) := by decide +kernel
theorem dX7_trade_22 : decode cX7_trade 22 = .ok (.bipush 89, 2) := by decide +kernel
theorem dX7_trade_24 : decode cX7_trade 24 = .ok (.iload_n 2, 1) := by decide +kernel
theorem dX7_trade_25 : decode cX7_trade 25 = .ok (.iadd, 1) := by decide +kernel
theorem dX7_trade_26 : decode cX7_trade 26 = .ok (.aload_n 0, 1) := by decide +kernel
theorem dX7_trade_27 : decode cX7_trade 27 = .ok (.getfield 16, 3) := by decide +kernel
theorem dX7_trade_30 : decode cX7_trade 30 = .ok (.bipush 84, 2) := by decide +kernel
theorem dX7_trade_32 : decode cX7_trade 32 = .ok (.iload_n 1, 1) := by decide +kernel
theorem dX7_trade_33 : decode cX7_trade 33 = .ok (.imul, 1) := by decide +kernel
theorem dX7_trade_34 : decode cX7_trade 34 = .ok (.iload_n 2, 1) := by decide +kernel
theorem dX7_trade_35 : decode cX7_trade 35 = .ok (.iadd, 1) := by decide +kernel
theorem dX7_trade_36 : decode cX7_trade 36 = .ok (.iaload, 1) := by decide +kernel
theorem dX7_trade_37 : decode cX7_trade 37 = .ok (.iastore, 1) := by decide +kernel
theorem dX7_trade_38 : decode cX7_trade 38 = .ok (.aload_n 0, 1) := by decide +kernel
theorem dX7_trade_39 : decode cX7_trade 39 = .ok (.getfield 16, 3) := by decide +kernel
theorem dX7_trade_42 : decode cX7_trade 42 = .ok (.bipush 84, 2) := by decide +kernel
theorem dX7_trade_44 : decode cX7_trade 44 = .ok (.iload_n 1, 1) := by decide +kernel
theorem dX7_trade_45 : decode cX7_trade 45 = .ok (.imul, 1) := by decide +kernel
theorem dX7_trade_46 : decode cX7_trade 46 = .ok (.iload_n 2, 1) := by decide +kernel
theorem dX7_trade_47 : decode cX7_trade 47 = .ok (.iadd, 1) := by decide +kernel
theorem dX7_trade_48 : decode cX7_trade 48 = .ok (.iload_n 3, 1) := by decide +kernel
theorem dX7_trade_49 : decode cX7_trade 49 = .ok (.iastore, 1) := by decide +kernel
theorem dX7_trade_50 : decode cX7_trade 50 = .ok (.iinc 2 1, 3) := by decide +kernel
theorem dX7_trade_53 : decode cX7_trade 53 = .ok (.goto (-51), 3) := by decide +kernel
theorem dX7_trade_56 : decode cX7_trade 56 = .ok (.return_, 1) := by decide +kernel
set_option maxRecDepth 20000 in
theorem ggX7_hasOwnParts_X7_isDish : GoodIn wsX7_hasOwnParts wsX7_isDish := goodIn_r _ [6, 7, 8, 9, 5, 10, 15, 16, 17, 18, 19, 20, 21, 22, 23, 24, 25, 26, 27, 28, 29] (by decide +kernel) (by decide +kernel)
set_option maxRecDepth 20000 in
theorem gX7_hasOwnParts_X7_isDish : GoodIn wsX7_hasOwnParts (wsV RX7 114 RX7 yX7_isDish wsX7_isDish) := goodIn_app (goodIn_of _ (by decide +kernel)) ggX7_hasOwnParts_X7_isDish
set_option maxRecDepth 20000 in
theorem ggX7_hasOwnParts_X7_of : GoodIn wsX7_hasOwnParts wsX7_of := goodIn_r _ [14, 7, 15, 16, 17, 18, 19, 20, 21, 22, 23, 24, 25, 26, 27, 28, 29] (by decide +kernel) (by decide +kernel)
set_option maxRecDepth 20000 in
theorem gX7_hasOwnParts_X7_of : GoodIn wsX7_hasOwnParts (wsV RX7 45 RX7 yX7_of wsX7_of) := goodIn_app (goodIn_of _ (by decide +kernel)) ggX7_hasOwnParts_X7_of
theorem dX7_hasOwnParts_0 : decode cX7_hasOwnParts 0 = .ok (.iconst 1, 1) := by decide +kernel
theorem dX7_hasOwnParts_1 : decode cX7_hasOwnParts 1 = .ok (.istore_n 2, 1) := by decide +kernel
theorem dX7_hasOwnParts_2 : decode cX7_hasOwnParts 2 = .ok (.iconst 0, 1) := by decide +kernel
theorem dX7_hasOwnParts_3 : decode cX7_hasOwnParts 3 = .ok (.istore_n 3, 1) := by decide +kernel
theorem dX7_hasOwnParts_4 : decode cX7_hasOwnParts 4 = .ok (.iload_n 3, 1) := by decide +kernel
theorem dX7_hasOwnParts_5 : decode cX7_hasOwnParts 5 = .ok (.bipush 84, 2) := by decide +kernel
theorem dX7_hasOwnParts_7 : decode cX7_hasOwnParts 7 = .ok (.if_icmp .ge 60, 3) := by decide +kernel
theorem dX7_hasOwnParts_10 : decode cX7_hasOwnParts 10 = .ok (.aload_n 0, 1) := by decide +kernel
theorem dX7_hasOwnParts_11 : decode cX7_hasOwnParts 11 = .ok (.getfield 16, 3) := by decide +kernel
theorem dX7_hasOwnParts_14 : decode cX7_hasOwnParts 14 = .ok (.bipush 84, 2) := by decide +kernel
theorem dX7_hasOwnParts_16 : decode cX7_hasOwnParts 16 = .ok (.iload_n 1, 1) := by decide +kernel
theorem dX7_hasOwnParts_17 : decode cX7_hasOwnParts 17 = .ok (.imul, 1) := by decide +kernel
theorem dX7_hasOwnParts_18 : decode cX7_hasOwnParts 18 = .ok (.iload_n 3, 1) := by decide +kernel
theorem dX7_hasOwnParts_19 : decode cX7_hasOwnParts 19 = .ok (.iadd, 1) := by decide +kernel
theorem dX7_hasOwnParts_20 : decode cX7_hasOwnParts 20 = .ok (.iaload, 1) := by decide +kernel
theorem dX7_hasOwnParts_21 : decode cX7_hasOwnParts 21 = .ok (.istore 4, 2) := by decide +kernel
theorem dX7_hasOwnParts_23 : decode cX7_hasOwnParts 23 = .ok (.iload_n 2, 1) := by decide +kernel
theorem dX7_hasOwnParts_24 : decode cX7_hasOwnParts 24 = .ok (.ifCond .eq 35, 3) := by decide +kernel
theorem dX7_hasOwnParts_27 : decode cX7_hasOwnParts 27 = .ok (.iload 4, 2) := by decide +kernel
theorem dX7_hasOwnParts_29 : decode cX7_hasOwnParts 29 = .ok (.iconst (-1), 1) := by decide +kernel
theorem dX7_hasOwnParts_30 : decode cX7_hasOwnParts 30 = .ok (.if_icmp .eq 25, 3) := by decide +kernel
theorem dX7_hasOwnParts_33 : decode cX7_hasOwnParts 33 = .ok (.aload_n 0, 1) := by decide +kernel
theorem dX7_hasOwnParts_34 : decode cX7_hasOwnParts 34 = .ok (.iload 4, 2) := by decide +kernel
theorem dX7_hasOwnParts_36 : decode cX7_hasOwnParts 36 = .ok (.invokevirtual 114, 3) := by decide +kernel
theorem dX7_hasOwnParts_39 : decode cX7_hasOwnParts 39 = .ok (.ifCond .eq 20, 3) := by decide +kernel
theorem dX7_hasOwnParts_42 : decode cX7_hasOwnParts 42 = .ok (.aload_n 0, 1) := by decide +kernel
theorem dX7_hasOwnParts_43 : decode cX7_hasOwnParts 43 = .ok (.iload 4, 2) := by decide +kernel
theorem dX7_hasOwnParts_45 : decode cX7_hasOwnParts 45 = .ok (.iconst 0, 1) := by decide +kernel
theorem dX7_hasOwnParts_46 : decode cX7_hasOwnParts 46 = .ok (.invokevirtual 45, 3) := by decide +kernel
theorem dX7_hasOwnParts_49 : decode cX7_hasOwnParts 49 = .ok (.iload_n 3, 1) := by decide +kernel
theorem dX7_hasOwnParts_50 : decode cX7_hasOwnParts 50 = .ok (.iconst 3, 1) := by decide +kernel
theorem dX7_hasOwnParts_51 : decode cX7_hasOwnParts 51 = .ok (.irem, 1) := by decide +kernel
theorem dX7_hasOwnParts_52 : decode cX7_hasOwnParts 52 = .ok (.if_icmp .ne 7, 3) := by decide +kernel
theorem dX7_hasOwnParts_55 : decode cX7_hasOwnParts 55 = .ok (.iconst 1, 1) := by decide +kernel
theorem dX7_hasOwnParts_56 : decode cX7_hasOwnParts 56 = .ok (.goto 4, 3) := by decide +kernel
theorem dX7_hasOwnParts_59 : decode cX7_hasOwnParts 59 = .ok (.iconst 0, 1) := by decide +kernel
theorem dX7_hasOwnParts_60 : decode cX7_hasOwnParts 60 = .ok (.istore_n 2, 1) := by decide +kernel
theorem dX7_hasOwnParts_61 : decode cX7_hasOwnParts 61 = .ok (.iinc 3 1, 3) := by decide +kernel
theorem dX7_hasOwnParts_64 : decode cX7_hasOwnParts 64 = .ok (.goto (-60), 3) := by decide +kernel
theorem dX7_hasOwnParts_67 : decode cX7_hasOwnParts 67 = .ok (.iload_n 2, 1) := by decide +kernel
theorem dX7_hasOwnParts_68 : decode cX7_hasOwnParts 68 = .ok (.ireturn, 1) := by decide +kernel
set_option maxRecDepth 20000 in
theorem ggX7_goodThen_X7_hasOwnParts : GoodIn wsX7_goodThen wsX7_hasOwnParts := goodIn_r _ [5, 6, 7, 8, 9, 4, 10, 11, 12, 13, 14, 15, 16, 17, 18, 88, 89, 90, 91, 92, 93, 94, 95, 96, 97, 98, 99, 100, 101, 102] (by decide +kernel) (by decide +kernel)
set_option maxRecDepth 20000 in
theorem gX7_goodThen_X7_hasOwnParts : GoodIn wsX7_goodThen (wsV RX7 199 RX7 yX7_hasOwnParts wsX7_hasOwnParts) := goodIn_app (goodIn_of _ (by decide +kernel)) ggX7_goodThen_X7_hasOwnParts
set_option maxRecDepth 20000 in
theorem ggX7_goodThen_X7_trade : GoodIn wsX7_goodThen wsX7_trade := goodIn_r _ [22, 11, 6, 88, 89, 90, 91, 92, 93, 94, 95, 96, 97, 98, 99, 100, 101, 102] (by decide +kernel) (by decide +kernel)
set_option maxRecDepth 20000 in
theorem gX7_goodThen_X7_trade : GoodIn wsX7_goodThen (wsV RX7 202 RX7 yX7_trade wsX7_trade) := goodIn_app (goodIn_of _ (by decide +kernel)) ggX7_goodThen_X7_trade
set_option maxRecDepth 20000 in
theorem ggX7_goodThen_X7_isGood : GoodIn wsX7_goodThen wsX7_isGood := goodIn_r _ [26, 11, 27, 28, 29, 4, 30, 31, 32, 33, 34, 35, 36, 37, 38, 39, 40, 41, 42, 43, 44, 45, 15, 16, 17, 18, 46, 47, 48, 49, 50, 51, 52, 53, 54, 55, 56, 57, 58, 59, 60, 61, 62, 63, 64, 65, 66, 67, 68, 69, 70, 71, 72, 73, 74, 75, 76, 77, 78, 79, 80, 81, 82, 83, 84, 85, 86, 87, 88, 89, 90, 91, 92, 93, 94, 95, 96, 97, 98, 99, 100, 101, 102] (by decide +kernel) (by decide +kernel)
set_option maxRecDepth 20000 in
theorem gX7_goodThen_X7_isGood : GoodIn wsX7_goodThen (wsV RX7 156 RX7 yX7_isGood wsX7_isGood) := goodIn_app (goodIn_of _ (by decide +kernel)) ggX7_goodThen_X7_isGood
theorem dX7_goodThen_0 : decode cX7_goodThen 0 = .ok (.aload_n 0, 1) := by decide +kernel
theorem dX7_goodThen_1 : decode cX7_goodThen 1 = .ok (.iload_n 1, 1) := by decide +kernel
theorem dX7_goodThen_2 : decode cX7_goodThen 2 = .ok (.invokevirtual 199, 3) := by decide +kernel
theorem dX7_goodThen_5 : decode cX7_goodThen 5 = .ok (.ifCond .ne 5, 3) := by decide +kernel
theorem dX7_goodThen_8 : decode cX7_goodThen 8 = .ok (.iconst 0, 1) := by decide +kernel
theorem dX7_goodThen_9 : decode cX7_goodThen 9 = .ok (.ireturn, 1) := by decide +kernel
theorem dX7_goodThen_10 : decode cX7_goodThen 10 = .ok (.aload_n 0, 1) := by decide +kernel
theorem dX7_goodThen_11 : decode cX7_goodThen 11 = .ok (.iload_n 1, 1) := by decide +kernel
theorem dX7_goodThen_12 : decode cX7_goodThen 12 = .ok (.invokevirtual 202, 3) := by decide +kernel
theorem dX7_goodThen_15 : decode cX7_goodThen 15 = .ok (.aload_n 0, 1) := by decide +kernel
theorem dX7_goodThen_16 : decode cX7_goodThen 16 = .ok (.invokevirtual 156, 3) := by decide +kernel
theorem dX7_goodThen_19 : decode cX7_goodThen 19 = .ok (.istore_n 2, 1) := by decide +kernel
theorem dX7_goodThen_20 : decode cX7_goodThen 20 = .ok (.aload_n 0, 1) := by decide +kernel
theorem dX7_goodThen_21 : decode cX7_goodThen 21 = .ok (.iload_n 1, 1) := by decide +kernel
theorem dX7_goodThen_22 : decode cX7_goodThen 22 = .ok (.invokevirtual 202, 3) := by decide +kernel
theorem dX7_goodThen_25 : decode cX7_goodThen 25 = .ok (.iload_n 2, 1) := by decide +kernel
theorem dX7_goodThen_26 : decode cX7_goodThen 26 = .ok (.ireturn, 1) := by decide +kernel
set_option maxRecDepth 20000 in
theorem ggX7_restore_X7_isSnapshot : GoodIn wsX7_restore wsX7_isSnapshot := goodIn_r _ [8, 9, 10, 7, 11] (by decide +kernel) (by decide +kernel)
set_option maxRecDepth 20000 in
theorem gX7_restore_X7_isSnapshot : GoodIn wsX7_restore (va_wsS RX7 196 yX7_isSnapshot wsX7_isSnapshot) := goodIn_app (goodIn_of _ (by decide +kernel)) ggX7_restore_X7_isSnapshot
set_option maxRecDepth 20000 in
theorem ggX7_restore_X7_goodThen : GoodIn wsX7_restore wsX7_goodThen := goodIn_r _ [15, 16, 17, 18, 7, 19, 4, 20, 21, 22, 23, 3, 9, 10, 11, 24, 25, 26, 27, 28, 29, 30, 31, 32, 33, 34, 35, 36, 37, 38, 39, 40, 41, 42, 43, 44, 45, 46, 47, 48, 49, 50, 51, 52, 53, 54, 55, 56, 57, 58, 59, 60, 61, 62, 63, 64, 65, 66, 67, 68, 69, 70, 71, 72, 73, 74, 75, 76, 77, 78, 79, 80, 81, 82, 83, 84, 85, 86, 87, 88, 89, 90, 91, 92, 93, 94, 95, 96, 107, 108, 109, 110, 111, 112, 113, 114, 115, 116, 117, 118, 119, 120, 121] (by decide +kernel) (by decide +kernel)
set_option maxRecDepth 20000 in
theorem gX7_restore_X7_goodThen : GoodIn wsX7_restore (wsV RX7 206 RX7 yX7_goodThen wsX7_goodThen) := goodIn_app (goodIn_of _ (by decide +kernel)) ggX7_restore_X7_goodThen
set_option maxRecDepth 20000 in
theorem ggX7_restore_X7_save : GoodIn wsX7_restore wsX7_save := goodIn_r _ [100, 101, 102, 3, 107, 108, 109, 110, 111, 112, 113, 114, 115, 116, 117, 118, 119, 120, 121] (by decide +kernel) (by decide +kernel)
set_option maxRecDepth 20000 in
theorem gX7_restore_X7_save : GoodIn wsX7_restore (wsV RX7 107 RX7 yX7_save wsX7_save) := goodIn_app (goodIn_of _ (by decide +kernel)) ggX7_restore_X7_save
set_option maxRecDepth 20000 in
theorem ggX7_restore_X7_dishesInPlan : GoodIn wsX7_restore wsX7_dishesInPlan := goodIn_r _ [106, 3, 107, 108, 109, 110, 111, 112, 113, 114, 115, 116, 117, 118, 119, 120, 121] (by decide +kernel) (by decide +kernel)
set_option maxRecDepth 20000 in
theorem gX7_restore_X7_dishesInPlan : GoodIn wsX7_restore (wsV RX7 169 RX7 yX7_dishesInPlan wsX7_dishesInPlan) := goodIn_app (goodIn_of _ (by decide +kernel)) ggX7_restore_X7_dishesInPlan
theorem dX7_restore_0 : decode cX7_restore 0 = .ok (.aload_n 0, 1) := by decide +kernel
theorem dX7_restore_1 : decode cX7_restore 1 = .ok (.iload_n 1, 1) := by decide +kernel
theorem dX7_restore_2 : decode cX7_restore 2 = .ok (.invokestatic 196, 3) := by decide +kernel
theorem dX7_restore_5 : decode cX7_restore 5 = .ok (.ifCond .eq 7, 3) := by decide +kernel
theorem dX7_restore_8 : decode cX7_restore 8 = .ok (.iconst 0, 1) := by decide +kernel
theorem dX7_restore_9 : decode cX7_restore 9 = .ok (.goto 4, 3) := by decide +kernel
theorem dX7_restore_12 : decode cX7_restore 12 = .ok (.iconst 1, 1) := by decide +kernel
theorem dX7_restore_13 : decode cX7_restore 13 = .ok (.putfield 34, 3) := by decide +kernel
theorem dX7_restore_16 : decode cX7_restore 16 = .ok (.aload_n 0, 1) := by decide +kernel
theorem dX7_restore_17 : decode cX7_restore 17 = .ok (.getfield 34, 3) := by decide +kernel
theorem dX7_restore_20 : decode cX7_restore 20 = .ok (.ifCond .ne 30, 3) := by decide +kernel
theorem dX7_restore_23 : decode cX7_restore 23 = .ok (.aload_n 0, 1) := by decide +kernel
theorem dX7_restore_24 : decode cX7_restore 24 = .ok (.aload_n 0, 1) := by decide +kernel
theorem dX7_restore_25 : decode cX7_restore 25 = .ok (.getfield 19, 3) := by decide +kernel
theorem dX7_restore_28 : decode cX7_restore 28 = .ok (.iload_n 1, 1) := by decide +kernel
theorem dX7_restore_29 : decode cX7_restore 29 = .ok (.iaload, 1) := by decide +kernel
theorem dX7_restore_30 : decode cX7_restore 30 = .ok (.iconst 1, 1) := by decide +kernel
theorem dX7_restore_31 : decode cX7_restore 31 = .ok (.if_icmp .ne 15, 3) := by decide +kernel
theorem dX7_restore_34 : decode cX7_restore 34 = .ok (.aload_n 0, 1) := by decide +kernel
theorem dX7_restore_35 : decode cX7_restore 35 = .ok (.iload_n 1, 1) := by decide +kernel
theorem dX7_restore_36 : decode cX7_restore 36 = .ok (.invokevirtual 206, 3) := by decide +kernel
theorem dX7_restore_39 : decode cX7_restore 39 = .ok (.ifCond .eq 7, 3) := by decide +kernel
theorem dX7_restore_42 : decode cX7_restore 42 = .ok (.iconst 0, 1) := by decide +kernel
theorem dX7_restore_43 : decode cX7_restore 43 = .ok (.goto 4, 3) := by decide +kernel
theorem dX7_restore_46 : decode cX7_restore 46 = .ok (.iconst 2, 1) := by decide +kernel
theorem dX7_restore_47 : decode cX7_restore 47 = .ok (.putfield 34, 3) := by decide +kernel
theorem dX7_restore_50 : decode cX7_restore 50 = .ok (.aload_n 0, 1) := by decide +kernel
theorem dX7_restore_51 : decode cX7_restore 51 = .ok (.getfield 34, 3) := by decide +kernel
theorem dX7_restore_54 : decode cX7_restore 54 = .ok (.ifCond .le 5, 3) := by decide +kernel
theorem dX7_restore_57 : decode cX7_restore 57 = .ok (.iconst 0, 1) := by decide +kernel
theorem dX7_restore_58 : decode cX7_restore 58 = .ok (.ireturn, 1) := by decide +kernel
theorem dX7_restore_59 : decode cX7_restore 59 = .ok (.aload_n 0, 1) := by decide +kernel
theorem dX7_restore_60 : decode cX7_restore 60 = .ok (.invokevirtual 107, 3) := by decide +kernel
theorem dX7_restore_63 : decode cX7_restore 63 = .ok (.iconst 0, 1) := by decide +kernel
theorem dX7_restore_64 : decode cX7_restore 64 = .ok (.istore_n 2, 1) := by decide +kernel
theorem dX7_restore_65 : decode cX7_restore 65 = .ok (.iload_n 2, 1) := by decide +kernel
theorem dX7_restore_66 : decode cX7_restore 66 = .ok (.bipush 84, 2) := by decide +kernel
theorem dX7_restore_68 : decode cX7_restore 68 = .ok (.if_icmp .ge 29, 3) := by decide +kernel
theorem dX7_restore_71 : decode cX7_restore 71 = .ok (.aload_n 0, 1) := by decide +kernel
theorem dX7_restore_72 : decode cX7_restore 72 = .ok (.getfield 7, 3) := by decide +kernel
theorem dX7_restore_75 : decode cX7_restore 75 = .ok (.bipush 89, 2) := by decide +kernel
theorem dX7_restore_77 : decode cX7_restore 77 = .ok (.iload_n 2, 1) := by decide +kernel
theorem dX7_restore_78 : decode cX7_restore 78 = .ok (.iadd, 1) := by decide +kernel
theorem dX7_restore_79 : decode cX7_restore 79 = .ok (.aload_n 0, 1) := by decide +kernel
theorem dX7_restore_80 : decode cX7_restore 80 = .ok (.getfield 16, 3) := by decide +kernel
theorem dX7_restore_83 : decode cX7_restore 83 = .ok (.bipush 84, 2) := by decide +kernel
theorem dX7_restore_85 : decode cX7_restore 85 = .ok (.iload_n 1, 1) := by decide +kernel
theorem dX7_restore_86 : decode cX7_restore 86 = .ok (.imul, 1) := by decide +kernel
theorem dX7_restore_87 : decode cX7_restore 87 = .ok (.iload_n 2, 1) := by decide +kernel
theorem dX7_restore_88 : decode cX7_restore 88 = .ok (.iadd, 1) := by decide +kernel
theorem dX7_restore_89 : decode cX7_restore 89 = .ok (.iaload, 1) := by decide +kernel
theorem dX7_restore_90 : decode cX7_restore 90 = .ok (.iastore, 1) := by decide +kernel
theorem dX7_restore_91 : decode cX7_restore 91 = .ok (.iinc 2 1, 3) := by decide +kernel
theorem dX7_restore_94 : decode cX7_restore 94 = .ok (.goto (-29), 3) := by decide +kernel
theorem dX7_restore_97 : decode cX7_restore 97 = .ok (.aload_n 0, 1) := by decide +kernel
theorem dX7_restore_98 : decode cX7_restore 98 = .ok (.invokevirtual 169, 3) := by decide +kernel
theorem dX7_restore_101 : decode cX7_restore 101 = .ok (.ireturn, 1) := by decide +kernel
theorem dX7_undo_0 : decode cX7_undo 0 = .ok (.aload_n 0, 1) := by decide +kernel
theorem dX7_undo_1 : decode cX7_undo 1 = .ok (.aload_n 0, 1) := by decide +kernel
theorem dX7_undo_2 : decode cX7_undo 2 = .ok (.getfield 38, 3) := by decide +kernel
theorem dX7_undo_5 : decode cX7_undo 5 = .ok (.ifCond .le 7, 3) := by decide +kernel
theorem dX7_undo_8 : decode cX7_undo 8 = .ok (.iconst 0, 1) := by decide +kernel
theorem dX7_undo_9 : decode cX7_undo 9 = .ok (.goto 4, 3) := by decide +kernel
theorem dX7_undo_12 : decode cX7_undo 12 = .ok (.iconst 1, 1) := by decide +kernel
theorem dX7_undo_13 : decode cX7_undo 13 = .ok (.putfield 34, 3) := by decide +kernel
theorem dX7_undo_16 : decode cX7_undo 16 = .ok (.aload_n 0, 1) := by decide +kernel
theorem dX7_undo_17 : decode cX7_undo 17 = .ok (.getfield 34, 3) := by decide +kernel
theorem dX7_undo_20 : decode cX7_undo 20 = .ok (.ifCond .le 5, 3) := by decide +kernel
theorem dX7_undo_23 : decode cX7_undo 23 = .ok (.iconst 0, 1) := by decide +kernel
theorem dX7_undo_24 : decode cX7_undo 24 = .ok (.ireturn, 1) := by decide +kernel
theorem dX7_undo_25 : decode cX7_undo 25 = .ok (.aload_n 0, 1) := by decide +kernel
theorem dX7_undo_26 : decode cX7_undo 26 = .ok (.dup, 1) := by decide +kernel
theorem dX7_undo_27 : decode cX7_undo 27 = .ok (.getfield 38, 3) := by decide +kernel
theorem dX7_undo_30 : decode cX7_undo 30 = .ok (.iconst 1, 1) := by decide +kernel
theorem dX7_undo_31 : decode cX7_undo 31 = .ok (.isub, 1) := by decide +kernel
theorem dX7_undo_32 : decode cX7_undo 32 = .ok (.putfield 38, 3) := by decide +kernel
theorem dX7_undo_35 : decode cX7_undo 35 = .ok (.iconst 0, 1) := by decide +kernel
theorem dX7_undo_36 : decode cX7_undo 36 = .ok (.istore_n 1, 1) := by decide +kernel
theorem dX7_undo_37 : decode cX7_undo 37 = .ok (.iload_n 1, 1) := by decide +kernel
theorem dX7_undo_38 : decode cX7_undo 38 = .ok (.sipush 173, 3) := by decide +kernel
theorem dX7_undo_41 : decode cX7_undo 41 = .ok (.if_icmp .ge 30, 3) := by decide +kernel
theorem dX7_undo_44 : decode cX7_undo 44 = .ok (.aload_n 0, 1) := by decide +kernel
theorem dX7_undo_45 : decode cX7_undo 45 = .ok (.getfield 7, 3) := by decide +kernel
theorem dX7_undo_48 : decode cX7_undo 48 = .ok (.iload_n 1, 1) := by decide +kernel
theorem dX7_undo_49 : decode cX7_undo 49 = .ok (.aload_n 0, 1) := by decide +kernel
theorem dX7_undo_50 : decode cX7_undo 50 = .ok (.getfield 13, 3) := by decide +kernel
theorem dX7_undo_53 : decode cX7_undo 53 = .ok (.sipush 173, 3) := by decide +kernel
theorem dX7_undo_56 : decode cX7_undo 56 = .ok (.aload_n 0, 1) := by decide +kernel
theorem dX7_undo_57 : decode cX7_undo 57 = .ok (.getfield 38, 3) := by decide +kernel
theorem dX7_undo_60 : decode cX7_undo 60 = .ok (.imul, 1) := by decide +kernel
theorem dX7_undo_61 : decode cX7_undo 61 = .ok (.iload_n 1, 1) := by decide +kernel
theorem dX7_undo_62 : decode cX7_undo 62 = .ok (.iadd, 1) := by decide +kernel
theorem dX7_undo_63 : decode cX7_undo 63 = .ok (.iaload, 1) := by decide +kernel
theorem dX7_undo_64 : decode cX7_undo 64 = .ok (.iastore, 1) := by decide +kernel
theorem dX7_undo_65 : decode cX7_undo 65 = .ok (.iinc 1 1, 3) := by decide +kernel
theorem dX7_undo_68 : decode cX7_undo 68 = .ok (.goto (-31), 3) := by decide +kernel
theorem dX7_undo_71 : decode cX7_undo 71 = .ok (.aload_n 0, 1) := by decide +kernel
theorem dX7_undo_72 : decode cX7_undo 72 = .ok (.getfield 38, 3) := by decide +kernel
theorem dX7_undo_75 : decode cX7_undo 75 = .ok (.ireturn, 1) := by decide +kernel
set_option maxRecDepth 20000 in
theorem ggX7_planned_X7_isDay : GoodIn wsX7_planned wsX7_isDay := goodIn_r _ [5, 6, 7, 4, 8] (by decide +kernel) (by decide +kernel)
set_option maxRecDepth 20000 in
theorem gX7_planned_X7_isDay : GoodIn wsX7_planned (va_wsS RX7 146 yX7_isDay wsX7_isDay) := goodIn_app (goodIn_of _ (by decide +kernel)) ggX7_planned_X7_isDay
set_option maxRecDepth 20000 in
theorem ggX7_planned_X7_isPart : GoodIn wsX7_planned wsX7_isPart := goodIn_r _ [11, 6, 7, 4, 8] (by decide +kernel) (by decide +kernel)
set_option maxRecDepth 20000 in
theorem gX7_planned_X7_isPart : GoodIn wsX7_planned (va_wsS RX7 104 yX7_isPart wsX7_isPart) := goodIn_app (goodIn_of _ (by decide +kernel)) ggX7_planned_X7_isPart
set_option maxRecDepth 20000 in
theorem ggX7_planned_X7_at : GoodIn wsX7_planned wsX7_at := goodIn_r _ [15, 16, 17, 18, 19, 20, 21, 22, 23, 24, 25, 26, 27, 28, 29, 30, 31] (by decide +kernel) (by decide +kernel)
set_option maxRecDepth 20000 in
theorem gX7_planned_X7_at : GoodIn wsX7_planned (wsV RX7 79 RX7 yX7_at wsX7_at) := goodIn_app (goodIn_of _ (by decide +kernel)) ggX7_planned_X7_at
theorem dX7_planned_0 : decode cX7_planned 0 = .ok (.aload_n 0, 1) := by decide +kernel
theorem dX7_planned_1 : decode cX7_planned 1 = .ok (.iload_n 1, 1) := by decide +kernel
theorem dX7_planned_2 : decode cX7_planned 2 = .ok (.invokestatic 146, 3) := by decide +kernel
theorem dX7_planned_5 : decode cX7_planned 5 = .ok (.ifCond .eq 14, 3) := by decide +kernel
theorem dX7_planned_8 : decode cX7_planned 8 = .ok (.iload_n 2, 1) := by decide +kernel
theorem dX7_planned_9 : decode cX7_planned 9 = .ok (.invokestatic 104, 3) := by decide +kernel
theorem dX7_planned_12 : decode cX7_planned 12 = .ok (.ifCond .eq 7, 3) := by decide +kernel
theorem dX7_planned_15 : decode cX7_planned 15 = .ok (.iconst 0, 1) := by decide +kernel
theorem dX7_planned_16 : decode cX7_planned 16 = .ok (.goto 4, 3) := by decide +kernel
theorem dX7_planned_19 : decode cX7_planned 19 = .ok (.iconst 1, 1) := by decide +kernel
theorem dX7_planned_20 : decode cX7_planned 20 = .ok (.putfield 34, 3) := by decide +kernel
theorem dX7_planned_23 : decode cX7_planned 23 = .ok (.aload_n 0, 1) := by decide +kernel
theorem dX7_planned_24 : decode cX7_planned 24 = .ok (.getfield 34, 3) := by decide +kernel
theorem dX7_planned_27 : decode cX7_planned 27 = .ok (.ifCond .le 7, 3) := by decide +kernel
theorem dX7_planned_30 : decode cX7_planned 30 = .ok (.iconst 0, 1) := by decide +kernel
theorem dX7_planned_31 : decode cX7_planned 31 = .ok (.goto 9, 3) := by decide +kernel
theorem dX7_planned_34 : decode cX7_planned 34 = .ok (.aload_n 0, 1) := by decide +kernel
theorem dX7_planned_35 : decode cX7_planned 35 = .ok (.iload_n 1, 1) := by decide +kernel
theorem dX7_planned_36 : decode cX7_planned 36 = .ok (.iload_n 2, 1) := by decide +kernel
theorem dX7_planned_37 : decode cX7_planned 37 = .ok (.invokevirtual 79, 3) := by decide +kernel
theorem dX7_planned_40 : decode cX7_planned 40 = .ok (.ireturn, 1) := by decide +kernel
set_option maxRecDepth 20000 in
theorem ggX7_servings_X7_match : GoodIn wsX7_servings wsX7_match := goodIn_r _ [7, 8, 2, 1, 9, 10, 11, 6, 12, 13, 14, 15, 16, 17, 18, 19, 20, 21, 22, 23, 24, 25, 26, 27, 28, 29, 30, 31, 32, 33, 34, 35, 36, 37, 38, 39, 40, 41, 42, 43, 44, 45, 46, 47] (by decide +kernel) (by decide +kernel)
set_option maxRecDepth 20000 in
theorem gX7_servings_X7_match : GoodIn wsX7_servings (wsV RX7 95 RX7 yX7_match wsX7_match) := goodIn_app (goodIn_of _ (by decide +kernel)) ggX7_servings_X7_match
set_option maxRecDepth 20000 in
theorem ggX7_servings_X7_isSource : GoodIn wsX7_servings wsX7_isSource := goodIn_r _ [28, 1, 13, 14, 15, 6, 16, 33, 34, 35, 36, 37, 38, 39, 40, 41, 42, 43, 44, 45, 46, 47] (by decide +kernel) (by decide +kernel)
set_option maxRecDepth 20000 in
theorem gX7_servings_X7_isSource : GoodIn wsX7_servings (wsV RX7 49 RX7 yX7_isSource wsX7_isSource) := goodIn_app (goodIn_of _ (by decide +kernel)) ggX7_servings_X7_isSource
theorem dX7_servings_0 : decode cX7_servings 0 = .ok (.aload_n 0, 1) := by decide +kernel
theorem dX7_servings_1 : decode cX7_servings 1 = .ok (.invokevirtual 95, 3) := by decide +kernel
theorem dX7_servings_4 : decode cX7_servings 4 = .ok (.istore_n 3, 1) := by decide +kernel
theorem dX7_servings_5 : decode cX7_servings 5 = .ok (.iconst 0, 1) := by decide +kernel
theorem dX7_servings_6 : decode cX7_servings 6 = .ok (.istore 4, 2) := by decide +kernel
theorem dX7_servings_8 : decode cX7_servings 8 = .ok (.iconst 0, 1) := by decide +kernel
theorem dX7_servings_9 : decode cX7_servings 9 = .ok (.istore 5, 2) := by decide +kernel
theorem dX7_servings_11 : decode cX7_servings 11 = .ok (.iload 5, 2) := by decide +kernel
theorem dX7_servings_13 : decode cX7_servings 13 = .ok (.bipush 84, 2) := by decide +kernel
theorem dX7_servings_15 : decode cX7_servings 15 = .ok (.if_icmp .ge 68, 3) := by decide +kernel
theorem dX7_servings_18 : decode cX7_servings 18 = .ok (.aload_n 0, 1) := by decide +kernel
theorem dX7_servings_19 : decode cX7_servings 19 = .ok (.getfield 7, 3) := by decide +kernel
theorem dX7_servings_22 : decode cX7_servings 22 = .ok (.bipush 89, 2) := by decide +kernel
theorem dX7_servings_24 : decode cX7_servings 24 = .ok (.iload 5, 2) := by decide +kernel
theorem dX7_servings_26 : decode cX7_servings 26 = .ok (.iadd, 1) := by decide +kernel
theorem dX7_servings_27 : decode cX7_servings 27 = .ok (.iaload, 1) := by decide +kernel
theorem dX7_servings_28 : decode cX7_servings 28 = .ok (.iload_n 1, 1) := by decide +kernel
theorem dX7_servings_29 : decode cX7_servings 29 = .ok (.if_icmp .ne 30, 3) := by decide +kernel
theorem dX7_servings_32 : decode cX7_servings 32 = .ok (.iload_n 2, 1) := by decide +kernel
theorem dX7_servings_33 : decode cX7_servings 33 = .ok (.ifCond .eq 22, 3) := by decide +kernel
theorem dX7_servings_36 : decode cX7_servings 36 = .ok (.aload_n 0, 1) := by decide +kernel
theorem dX7_servings_37 : decode cX7_servings 37 = .ok (.iload 5, 2) := by decide +kernel
theorem dX7_servings_39 : decode cX7_servings 39 = .ok (.invokevirtual 49, 3) := by decide +kernel
theorem dX7_servings_42 : decode cX7_servings 42 = .ok (.ifCond .eq 17, 3) := by decide +kernel
theorem dX7_servings_45 : decode cX7_servings 45 = .ok (.aload_n 0, 1) := by decide +kernel
theorem dX7_servings_46 : decode cX7_servings 46 = .ok (.getfield 28, 3) := by decide +kernel
theorem dX7_servings_49 : decode cX7_servings 49 = .ok (.iload 5, 2) := by decide +kernel
theorem dX7_servings_51 : decode cX7_servings 51 = .ok (.iaload, 1) := by decide +kernel
theorem dX7_servings_52 : decode cX7_servings 52 = .ok (.ifCond .ne 7, 3) := by decide +kernel
theorem dX7_servings_55 : decode cX7_servings 55 = .ok (.iconst 1, 1) := by decide +kernel
theorem dX7_servings_56 : decode cX7_servings 56 = .ok (.goto 4, 3) := by decide +kernel
theorem dX7_servings_59 : decode cX7_servings 59 = .ok (.iconst 0, 1) := by decide +kernel
theorem dX7_servings_60 : decode cX7_servings 60 = .ok (.istore 6, 2) := by decide +kernel
theorem dX7_servings_62 : decode cX7_servings 62 = .ok (.iload 4, 2) := by decide +kernel
theorem dX7_servings_64 : decode cX7_servings 64 = .ok (.iload 6, 2) := by decide +kernel
theorem dX7_servings_66 : decode cX7_servings 66 = .ok (.ifCond .eq 7, 3) := by decide +kernel
theorem dX7_servings_69 : decode cX7_servings 69 = .ok (.iconst 1, 1) := by decide +kernel
theorem dX7_servings_70 : decode cX7_servings 70 = .ok (.goto 4, 3) := by decide +kernel
theorem dX7_servings_73 : decode cX7_servings 73 = .ok (.iconst 0, 1) := by decide +kernel
theorem dX7_servings_74 : decode cX7_servings 74 = .ok (.iadd, 1) := by decide +kernel
theorem dX7_servings_75 : decode cX7_servings 75 = .ok (.istore 4, 2) := by decide +kernel
theorem dX7_servings_77 : decode cX7_servings 77 = .ok (.iinc 5 1, 3) := by decide +kernel
theorem dX7_servings_80 : decode cX7_servings 80 = .ok (.goto (-69), 3) := by decide +kernel
theorem dX7_servings_83 : decode cX7_servings 83 = .ok (.iload 4, 2) := by decide +kernel
theorem dX7_servings_85 : decode cX7_servings 85 = .ok (.ireturn, 1) := by decide +kernel
set_option maxRecDepth 20000 in
theorem ggX7_dishNow_X7_isLeftover : GoodIn wsX7_dishNow wsX7_isLeftover := goodIn_r _ [5, 6, 7, 8, 9, 4, 10, 37, 38, 39, 40, 41, 42, 43, 44, 45, 46, 47, 48, 49, 50, 51] (by decide +kernel) (by decide +kernel)
set_option maxRecDepth 20000 in
theorem gX7_dishNow_X7_isLeftover : GoodIn wsX7_dishNow (wsV RX7 60 RX7 yX7_isLeftover wsX7_isLeftover) := goodIn_app (goodIn_of _ (by decide +kernel)) ggX7_dishNow_X7_isLeftover
set_option maxRecDepth 20000 in
theorem ggX7_dishNow_X7_servings : GoodIn wsX7_dishNow wsX7_servings := goodIn_r _ [14, 6, 15, 16, 17, 18, 4, 19, 20, 1, 2, 3, 5, 7, 8, 9, 10, 21, 22, 23, 24, 25, 26, 27, 28, 29, 30, 31, 32, 33, 34, 35, 36, 37, 38, 39, 40, 41, 42, 43, 44, 45, 46, 47, 48, 49, 50, 51] (by decide +kernel) (by decide +kernel)
set_option maxRecDepth 20000 in
theorem gX7_dishNow_X7_servings : GoodIn wsX7_dishNow (wsV RX7 209 RX7 yX7_servings wsX7_servings) := goodIn_app (goodIn_of _ (by decide +kernel)) ggX7_dishNow_X7_servings
set_option maxRecDepth 20000 in
theorem ggX7_dishNow_X7_of : GoodIn wsX7_dishNow wsX7_of := goodIn_r _ [10, 6, 37, 38, 39, 40, 41, 42, 43, 44, 45, 46, 47, 48, 49, 50, 51] (by decide +kernel) (by decide +kernel)
set_option maxRecDepth 20000 in
theorem gX7_dishNow_X7_of : GoodIn wsX7_dishNow (wsV RX7 45 RX7 yX7_of wsX7_of) := goodIn_app (goodIn_of _ (by decide +kernel)) ggX7_dishNow_X7_of
theorem dX7_dishNow_0 : decode cX7_dishNow 0 = .ok (.iload_n 2, 1) := by decide +kernel
theorem dX7_dishNow_1 : decode cX7_dishNow 1 = .ok (.tableswitch 55 6 8 #[27, 41, 48], 27) := by decide +kernel
theorem dX7_dishNow_28 : decode cX7_dishNow 28 = .ok (.aload_n 0, 1) := by decide +kernel
theorem dX7_dishNow_29 : decode cX7_dishNow 29 = .ok (.iload_n 1, 1) := by decide +kernel
theorem dX7_dishNow_30 : decode cX7_dishNow 30 = .ok (.invokevirtual 60, 3) := by decide +kernel
theorem dX7_dishNow_33 : decode cX7_dishNow 33 = .ok (.ifCond .eq 7, 3) := by decide +kernel
theorem dX7_dishNow_36 : decode cX7_dishNow 36 = .ok (.iconst 1, 1) := by decide +kernel
theorem dX7_dishNow_37 : decode cX7_dishNow 37 = .ok (.goto 4, 3) := by decide +kernel
theorem dX7_dishNow_40 : decode cX7_dishNow 40 = .ok (.iconst 0, 1) := by decide +kernel
theorem dX7_dishNow_41 : decode cX7_dishNow 41 = .ok (.ireturn, 1) := by decide +kernel
theorem dX7_dishNow_42 : decode cX7_dishNow 42 = .ok (.aload_n 0, 1) := by decide +kernel
theorem dX7_dishNow_43 : decode cX7_dishNow 43 = .ok (.iload_n 1, 1) := by decide +kernel
theorem dX7_dishNow_44 : decode cX7_dishNow 44 = .ok (.iconst 0, 1) := by decide +kernel
theorem dX7_dishNow_45 : decode cX7_dishNow 45 = .ok (.invokevirtual 209, 3) := by decide +kernel
theorem dX7_dishNow_48 : decode cX7_dishNow 48 = .ok (.ireturn, 1) := by decide +kernel
theorem dX7_dishNow_49 : decode cX7_dishNow 49 = .ok (.aload_n 0, 1) := by decide +kernel
theorem dX7_dishNow_50 : decode cX7_dishNow 50 = .ok (.iload_n 1, 1) := by decide +kernel
theorem dX7_dishNow_51 : decode cX7_dishNow 51 = .ok (.iconst 1, 1) := by decide +kernel
theorem dX7_dishNow_52 : decode cX7_dishNow 52 = .ok (.invokevirtual 209, 3) := by decide +kernel
theorem dX7_dishNow_55 : decode cX7_dishNow 55 = .ok (.ireturn, 1) := by decide +kernel
theorem dX7_dishNow_56 : decode cX7_dishNow 56 = .ok (.aload_n 0, 1) := by decide +kernel
theorem dX7_dishNow_57 : decode cX7_dishNow 57 = .ok (.iload_n 1, 1) := by decide +kernel
theorem dX7_dishNow_58 : decode cX7_dishNow 58 = .ok (.iload_n 2, 1) := by decide +kernel
theorem dX7_dishNow_59 : decode cX7_dishNow 59 = .ok (.invokevirtual 45, 3) := by decide +kernel
theorem dX7_dishNow_62 : decode cX7_dishNow 62 = .ok (.ireturn, 1) := by decide +kernel
set_option maxRecDepth 20000 in
theorem ggX7_dish_X7_isDish : GoodIn wsX7_dish wsX7_isDish := goodIn_r _ [6, 7, 8, 9, 5, 10, 49, 50, 51, 52, 53, 54, 55, 56, 57, 58, 59, 60, 61, 62, 63] (by decide +kernel) (by decide +kernel)
set_option maxRecDepth 20000 in
theorem gX7_dish_X7_isDish : GoodIn wsX7_dish (wsV RX7 114 RX7 yX7_isDish wsX7_isDish) := goodIn_app (goodIn_of _ (by decide +kernel)) ggX7_dish_X7_isDish
set_option maxRecDepth 20000 in
theorem ggX7_dish_X7_within : GoodIn wsX7_dish wsX7_within := goodIn_r _ [10] (by decide +kernel) (by decide +kernel)
set_option maxRecDepth 20000 in
theorem gX7_dish_X7_within : GoodIn wsX7_dish (va_wsS RX7 41 yX7_within wsX7_within) := goodIn_app (goodIn_of _ (by decide +kernel)) ggX7_dish_X7_within
set_option maxRecDepth 20000 in
theorem ggX7_dish_X7_dishNow : GoodIn wsX7_dish wsX7_dishNow := goodIn_r _ [14, 15, 16, 17, 5, 18, 7, 19, 20, 21, 22, 23, 24, 25, 26, 27, 28, 29, 30, 31, 32, 33, 34, 35, 36, 37, 38, 39, 40, 41, 42, 43, 44, 45, 46, 47, 48, 49, 50, 51, 52, 53, 54, 55, 56, 57, 58, 59, 60, 61, 62, 63] (by decide +kernel) (by decide +kernel)
set_option maxRecDepth 20000 in
theorem gX7_dish_X7_dishNow : GoodIn wsX7_dish (wsV RX7 213 RX7 yX7_dishNow wsX7_dishNow) := goodIn_app (goodIn_of _ (by decide +kernel)) ggX7_dish_X7_dishNow
theorem dX7_dish_0 : decode cX7_dish 0 = .ok (.aload_n 0, 1) := by decide +kernel
theorem dX7_dish_1 : decode cX7_dish 1 = .ok (.aload_n 0, 1) := by decide +kernel
theorem dX7_dish_2 : decode cX7_dish 2 = .ok (.iload_n 1, 1) := by decide +kernel
theorem dX7_dish_3 : decode cX7_dish 3 = .ok (.invokevirtual 114, 3) := by decide +kernel
theorem dX7_dish_6 : decode cX7_dish 6 = .ok (.ifCond .ne 7, 3) := by decide +kernel
theorem dX7_dish_9 : decode cX7_dish 9 = .ok (.iconst 1, 1) := by decide +kernel
theorem dX7_dish_10 : decode cX7_dish 10 = .ok (.goto 18, 3) := by decide +kernel
theorem dX7_dish_13 : decode cX7_dish 13 = .ok (.iload_n 2, 1) := by decide +kernel
theorem dX7_dish_14 : decode cX7_dish 14 = .ok (.iconst 0, 1) := by decide +kernel
theorem dX7_dish_15 : decode cX7_dish 15 = .ok (.bipush 8, 2) := by decide +kernel
theorem dX7_dish_17 : decode cX7_dish 17 = .ok (.invokestatic 41, 3) := by decide +kernel
theorem dX7_dish_20 : decode cX7_dish 20 = .ok (.ifCond .eq 7, 3) := by decide +kernel
theorem dX7_dish_23 : decode cX7_dish 23 = .ok (.iconst 0, 1) := by decide +kernel
theorem dX7_dish_24 : decode cX7_dish 24 = .ok (.goto 4, 3) := by decide +kernel
theorem dX7_dish_27 : decode cX7_dish 27 = .ok (.iconst 2, 1) := by decide +kernel
theorem dX7_dish_28 : decode cX7_dish 28 = .ok (.putfield 34, 3) := by decide +kernel
theorem dX7_dish_31 : decode cX7_dish 31 = .ok (.aload_n 0, 1) := by decide +kernel
theorem dX7_dish_32 : decode cX7_dish 32 = .ok (.getfield 34, 3) := by decide +kernel
theorem dX7_dish_35 : decode cX7_dish 35 = .ok (.ifCond .le 7, 3) := by decide +kernel
theorem dX7_dish_38 : decode cX7_dish 38 = .ok (.iconst 0, 1) := by decide +kernel
theorem dX7_dish_39 : decode cX7_dish 39 = .ok (.goto 9, 3) := by decide +kernel
theorem dX7_dish_42 : decode cX7_dish 42 = .ok (.aload_n 0, 1) := by decide +kernel
theorem dX7_dish_43 : decode cX7_dish 43 = .ok (.iload_n 1, 1) := by decide +kernel
theorem dX7_dish_44 : decode cX7_dish 44 = .ok (.iload_n 2, 1) := by decide +kernel
theorem dX7_dish_45 : decode cX7_dish 45 = .ok (.invokevirtual 213, 3) := by decide +kernel
theorem dX7_dish_48 : decode cX7_dish 48 = .ok (.ireturn, 1) := by decide +kernel
theorem dX7_many_0 : decode cX7_many 0 = .ok (.iload_n 0, 1) := by decide +kernel
theorem dX7_many_1 : decode cX7_many 1 = .ok (.iconst (-1), 1) := by decide +kernel
theorem dX7_many_2 : decode cX7_many 2 = .ok (.if_icmp .ne 7, 3) := by decide +kernel
theorem dX7_many_5 : decode cX7_many 5 = .ok (.iconst 0, 1) := by decide +kernel
theorem dX7_many_6 : decode cX7_many 6 = .ok (.goto 4, 3) := by decide +kernel
theorem dX7_many_9 : decode cX7_many 9 = .ok (.iconst 1, 1) := by decide +kernel
theorem dX7_many_10 : decode cX7_many 10 = .ok (.ireturn, 1) := by decide +kernel
set_option maxRecDepth 20000 in
theorem ggX7_dishesOf_X7_at : GoodIn wsX7_dishesOf wsX7_at := goodIn_r _ [5, 6, 10, 11, 12, 13, 14, 15, 16, 17, 18, 19, 20, 21, 22, 23, 24] (by decide +kernel) (by decide +kernel)
set_option maxRecDepth 20000 in
theorem gX7_dishesOf_X7_at : GoodIn wsX7_dishesOf (wsV RX7 79 RX7 yX7_at wsX7_at) := goodIn_app (goodIn_of _ (by decide +kernel)) ggX7_dishesOf_X7_at
set_option maxRecDepth 20000 in
theorem ggX7_dishesOf_X7_many : GoodIn wsX7_dishesOf wsX7_many := goodIn_r _ [9] (by decide +kernel) (by decide +kernel)
set_option maxRecDepth 20000 in
theorem gX7_dishesOf_X7_many : GoodIn wsX7_dishesOf (va_wsS RX7 216 yX7_many wsX7_many) := goodIn_app (goodIn_of _ (by decide +kernel)) ggX7_dishesOf_X7_many
theorem dX7_dishesOf_0 : decode cX7_dishesOf 0 = .ok (.aload_n 0, 1) := by decide +kernel
theorem dX7_dishesOf_1 : decode cX7_dishesOf 1 = .ok (.iload_n 1, 1) := by decide +kernel
theorem dX7_dishesOf_2 : decode cX7_dishesOf 2 = .ok (.iconst 0, 1) := by decide +kernel
theorem dX7_dishesOf_3 : decode cX7_dishesOf 3 = .ok (.invokevirtual 79, 3) := by decide +kernel
theorem dX7_dishesOf_6 : decode cX7_dishesOf 6 = .ok (.invokestatic 216, 3) := by decide +kernel
theorem dX7_dishesOf_9 : decode cX7_dishesOf 9 = .ok (.aload_n 0, 1) := by decide +kernel
theorem dX7_dishesOf_10 : decode cX7_dishesOf 10 = .ok (.iload_n 1, 1) := by decide +kernel
theorem dX7_dishesOf_11 : decode cX7_dishesOf 11 = .ok (.iconst 1, 1) := by decide +kernel
theorem dX7_dishesOf_12 : decode cX7_dishesOf 12 = .ok (.invokevirtual 79, 3) := by decide +kernel
theorem dX7_dishesOf_15 : decode cX7_dishesOf 15 = .ok (.invokestatic 216, 3) := by decide +kernel
theorem dX7_dishesOf_18 : decode cX7_dishesOf 18 = .ok (.iadd, 1) := by decide +kernel
theorem dX7_dishesOf_19 : decode cX7_dishesOf 19 = .ok (.aload_n 0, 1) := by decide +kernel
theorem dX7_dishesOf_20 : decode cX7_dishesOf 20 = .ok (.iload_n 1, 1) := by decide +kernel
theorem dX7_dishesOf_21 : decode cX7_dishesOf 21 = .ok (.iconst 2, 1) := by decide +kernel
theorem dX7_dishesOf_22 : decode cX7_dishesOf 22 = .ok (.invokevirtual 79, 3) := by decide +kernel
theorem dX7_dishesOf_25 : decode cX7_dishesOf 25 = .ok (.invokestatic 216, 3) := by decide +kernel
theorem dX7_dishesOf_28 : decode cX7_dishesOf 28 = .ok (.iadd, 1) := by decide +kernel
theorem dX7_dishesOf_29 : decode cX7_dishesOf 29 = .ok (.ireturn, 1) := by decide +kernel
set_option maxRecDepth 20000 in
theorem ggX7_guestNow_X7_ofGuest : GoodIn wsX7_guestNow wsX7_ofGuest := goodIn_r _ [5, 6, 21, 22, 23, 24, 25, 26, 27, 28, 29, 30, 31, 32, 33, 34, 35] (by decide +kernel) (by decide +kernel)
set_option maxRecDepth 20000 in
theorem gX7_guestNow_X7_ofGuest : GoodIn wsX7_guestNow (wsV RX7 66 RX7 yX7_ofGuest wsX7_ofGuest) := goodIn_app (goodIn_of _ (by decide +kernel)) ggX7_guestNow_X7_ofGuest
set_option maxRecDepth 20000 in
theorem ggX7_guestNow_X7_has : GoodIn wsX7_guestNow wsX7_has := goodIn_r _ [9] (by decide +kernel) (by decide +kernel)
set_option maxRecDepth 20000 in
theorem gX7_guestNow_X7_has : GoodIn wsX7_guestNow (va_wsS RX7 69 yX7_has wsX7_has) := goodIn_app (goodIn_of _ (by decide +kernel)) ggX7_guestNow_X7_has
set_option maxRecDepth 20000 in
theorem ggX7_guestNow_X7_dishesOf : GoodIn wsX7_guestNow wsX7_dishesOf := goodIn_r _ [13, 14, 15, 16, 4, 17, 6, 18, 19, 20, 21, 22, 23, 24, 25, 26, 27, 28, 29, 30, 31, 32, 33, 34, 35] (by decide +kernel) (by decide +kernel)
set_option maxRecDepth 20000 in
theorem gX7_guestNow_X7_dishesOf : GoodIn wsX7_guestNow (wsV RX7 219 RX7 yX7_dishesOf wsX7_dishesOf) := goodIn_app (goodIn_of _ (by decide +kernel)) ggX7_guestNow_X7_dishesOf
theorem dX7_guestNow_0 : decode cX7_guestNow 0 = .ok (.iload_n 2, 1) := by decide +kernel
theorem dX7_guestNow_1 : decode cX7_guestNow 1 = .ok (.iconst 2, 1) := by decide +kernel
theorem dX7_guestNow_2 : decode cX7_guestNow 2 = .ok (.if_icmp .ge 10, 3) := by decide +kernel
theorem dX7_guestNow_5 : decode cX7_guestNow 5 = .ok (.aload_n 0, 1) := by decide +kernel
theorem dX7_guestNow_6 : decode cX7_guestNow 6 = .ok (.iload_n 1, 1) := by decide +kernel
theorem dX7_guestNow_7 : decode cX7_guestNow 7 = .ok (.iload_n 2, 1) := by decide +kernel
theorem dX7_guestNow_8 : decode cX7_guestNow 8 = .ok (.invokevirtual 66, 3) := by decide +kernel
theorem dX7_guestNow_11 : decode cX7_guestNow 11 = .ok (.ireturn, 1) := by decide +kernel
theorem dX7_guestNow_12 : decode cX7_guestNow 12 = .ok (.iconst 0, 1) := by decide +kernel
theorem dX7_guestNow_13 : decode cX7_guestNow 13 = .ok (.istore_n 3, 1) := by decide +kernel
theorem dX7_guestNow_14 : decode cX7_guestNow 14 = .ok (.iconst 0, 1) := by decide +kernel
theorem dX7_guestNow_15 : decode cX7_guestNow 15 = .ok (.istore 4, 2) := by decide +kernel
theorem dX7_guestNow_17 : decode cX7_guestNow 17 = .ok (.iload 4, 2) := by decide +kernel
theorem dX7_guestNow_19 : decode cX7_guestNow 19 = .ok (.bipush 28, 2) := by decide +kernel
theorem dX7_guestNow_21 : decode cX7_guestNow 21 = .ok (.if_icmp .ge 39, 3) := by decide +kernel
theorem dX7_guestNow_24 : decode cX7_guestNow 24 = .ok (.iload_n 3, 1) := by decide +kernel
theorem dX7_guestNow_25 : decode cX7_guestNow 25 = .ok (.aload_n 0, 1) := by decide +kernel
theorem dX7_guestNow_26 : decode cX7_guestNow 26 = .ok (.iload_n 1, 1) := by decide +kernel
theorem dX7_guestNow_27 : decode cX7_guestNow 27 = .ok (.iconst 0, 1) := by decide +kernel
theorem dX7_guestNow_28 : decode cX7_guestNow 28 = .ok (.invokevirtual 66, 3) := by decide +kernel
theorem dX7_guestNow_31 : decode cX7_guestNow 31 = .ok (.iload 4, 2) := by decide +kernel
theorem dX7_guestNow_33 : decode cX7_guestNow 33 = .ok (.bipush 7, 2) := by decide +kernel
theorem dX7_guestNow_35 : decode cX7_guestNow 35 = .ok (.irem, 1) := by decide +kernel
theorem dX7_guestNow_36 : decode cX7_guestNow 36 = .ok (.invokestatic 69, 3) := by decide +kernel
theorem dX7_guestNow_39 : decode cX7_guestNow 39 = .ok (.ifCond .eq 12, 3) := by decide +kernel
theorem dX7_guestNow_42 : decode cX7_guestNow 42 = .ok (.aload_n 0, 1) := by decide +kernel
theorem dX7_guestNow_43 : decode cX7_guestNow 43 = .ok (.iload 4, 2) := by decide +kernel
theorem dX7_guestNow_45 : decode cX7_guestNow 45 = .ok (.invokevirtual 219, 3) := by decide +kernel
theorem dX7_guestNow_48 : decode cX7_guestNow 48 = .ok (.goto 4, 3) := by decide +kernel
theorem dX7_guestNow_51 : decode cX7_guestNow 51 = .ok (.iconst 0, 1) := by decide +kernel
theorem dX7_guestNow_52 : decode cX7_guestNow 52 = .ok (.iadd, 1) := by decide +kernel
theorem dX7_guestNow_53 : decode cX7_guestNow 53 = .ok (.istore_n 3, 1) := by decide +kernel
theorem dX7_guestNow_54 : decode cX7_guestNow 54 = .ok (.iinc 4 1, 3) := by decide +kernel
theorem dX7_guestNow_57 : decode cX7_guestNow 57 = .ok (.goto (-40), 3) := by decide +kernel
theorem dX7_guestNow_60 : decode cX7_guestNow 60 = .ok (.iload_n 3, 1) := by decide +kernel
theorem dX7_guestNow_61 : decode cX7_guestNow 61 = .ok (.ireturn, 1) := by decide +kernel
set_option maxRecDepth 20000 in
theorem ggX7_guest_X7_isGuest : GoodIn wsX7_guest wsX7_isGuest := goodIn_r _ [6, 7, 8, 9, 5, 10, 33, 34, 35, 36, 37, 38, 39, 40, 41, 42, 43, 44, 45, 46, 47] (by decide +kernel) (by decide +kernel)
set_option maxRecDepth 20000 in
theorem gX7_guest_X7_isGuest : GoodIn wsX7_guest (wsV RX7 120 RX7 yX7_isGuest wsX7_isGuest) := goodIn_app (goodIn_of _ (by decide +kernel)) ggX7_guest_X7_isGuest
set_option maxRecDepth 20000 in
theorem ggX7_guest_X7_within : GoodIn wsX7_guest wsX7_within := goodIn_r _ [10] (by decide +kernel) (by decide +kernel)
set_option maxRecDepth 20000 in
theorem gX7_guest_X7_within : GoodIn wsX7_guest (va_wsS RX7 41 yX7_within wsX7_within) := goodIn_app (goodIn_of _ (by decide +kernel)) ggX7_guest_X7_within
set_option maxRecDepth 20000 in
theorem ggX7_guest_X7_guestNow : GoodIn wsX7_guest wsX7_guestNow := goodIn_r _ [14, 15, 16, 17, 5, 18, 7, 19, 20, 21, 22, 23, 24, 25, 26, 27, 28, 29, 30, 31, 32, 33, 34, 35, 36, 37, 38, 39, 40, 41, 42, 43, 44, 45, 46, 47] (by decide +kernel) (by decide +kernel)
set_option maxRecDepth 20000 in
theorem gX7_guest_X7_guestNow : GoodIn wsX7_guest (wsV RX7 222 RX7 yX7_guestNow wsX7_guestNow) := goodIn_app (goodIn_of _ (by decide +kernel)) ggX7_guest_X7_guestNow
theorem dX7_guest_0 : decode cX7_guest 0 = .ok (.aload_n 0, 1) := by decide +kernel
theorem dX7_guest_1 : decode cX7_guest 1 = .ok (.aload_n 0, 1) := by decide +kernel
theorem dX7_guest_2 : decode cX7_guest 2 = .ok (.iload_n 1, 1) := by decide +kernel
theorem dX7_guest_3 : decode cX7_guest 3 = .ok (.invokevirtual 120, 3) := by decide +kernel
theorem dX7_guest_6 : decode cX7_guest 6 = .ok (.ifCond .ne 7, 3) := by decide +kernel
theorem dX7_guest_9 : decode cX7_guest 9 = .ok (.iconst 1, 1) := by decide +kernel
theorem dX7_guest_10 : decode cX7_guest 10 = .ok (.goto 17, 3) := by decide +kernel
theorem dX7_guest_13 : decode cX7_guest 13 = .ok (.iload_n 2, 1) := by decide +kernel
theorem dX7_guest_14 : decode cX7_guest 14 = .ok (.iconst 0, 1) := by decide +kernel
theorem dX7_guest_15 : decode cX7_guest 15 = .ok (.iconst 2, 1) := by decide +kernel
theorem dX7_guest_16 : decode cX7_guest 16 = .ok (.invokestatic 41, 3) := by decide +kernel
theorem dX7_guest_19 : decode cX7_guest 19 = .ok (.ifCond .eq 7, 3) := by decide +kernel
theorem dX7_guest_22 : decode cX7_guest 22 = .ok (.iconst 0, 1) := by decide +kernel
theorem dX7_guest_23 : decode cX7_guest 23 = .ok (.goto 4, 3) := by decide +kernel
theorem dX7_guest_26 : decode cX7_guest 26 = .ok (.iconst 2, 1) := by decide +kernel
theorem dX7_guest_27 : decode cX7_guest 27 = .ok (.putfield 34, 3) := by decide +kernel
theorem dX7_guest_30 : decode cX7_guest 30 = .ok (.aload_n 0, 1) := by decide +kernel
theorem dX7_guest_31 : decode cX7_guest 31 = .ok (.getfield 34, 3) := by decide +kernel
theorem dX7_guest_34 : decode cX7_guest 34 = .ok (.ifCond .le 7, 3) := by decide +kernel
theorem dX7_guest_37 : decode cX7_guest 37 = .ok (.iconst 0, 1) := by decide +kernel
theorem dX7_guest_38 : decode cX7_guest 38 = .ok (.goto 9, 3) := by decide +kernel
theorem dX7_guest_41 : decode cX7_guest 41 = .ok (.aload_n 0, 1) := by decide +kernel
theorem dX7_guest_42 : decode cX7_guest 42 = .ok (.iload_n 1, 1) := by decide +kernel
theorem dX7_guest_43 : decode cX7_guest 43 = .ok (.iload_n 2, 1) := by decide +kernel
theorem dX7_guest_44 : decode cX7_guest 44 = .ok (.invokevirtual 222, 3) := by decide +kernel
theorem dX7_guest_47 : decode cX7_guest 47 = .ok (.ireturn, 1) := by decide +kernel
set_option maxRecDepth 20000 in
theorem ggX7_guestsOn_X7_ofGuest : GoodIn wsX7_guestsOn wsX7_ofGuest := goodIn_r _ [6, 1, 7, 8, 9, 10, 11, 12, 13, 14, 15, 16, 17, 18, 19, 20, 21] (by decide +kernel) (by decide +kernel)
set_option maxRecDepth 20000 in
theorem gX7_guestsOn_X7_ofGuest : GoodIn wsX7_guestsOn (wsV RX7 66 RX7 yX7_ofGuest wsX7_ofGuest) := goodIn_app (goodIn_of _ (by decide +kernel)) ggX7_guestsOn_X7_ofGuest
theorem dX7_guestsOn_0 : decode cX7_guestsOn 0 = .ok (.iconst 0, 1) := by decide +kernel
theorem dX7_guestsOn_1 : decode cX7_guestsOn 1 = .ok (.istore_n 2, 1) := by decide +kernel
theorem dX7_guestsOn_2 : decode cX7_guestsOn 2 = .ok (.iconst 0, 1) := by decide +kernel
theorem dX7_guestsOn_3 : decode cX7_guestsOn 3 = .ok (.istore_n 3, 1) := by decide +kernel
theorem dX7_guestsOn_4 : decode cX7_guestsOn 4 = .ok (.iload_n 3, 1) := by decide +kernel
theorem dX7_guestsOn_5 : decode cX7_guestsOn 5 = .ok (.aload_n 0, 1) := by decide +kernel
theorem dX7_guestsOn_6 : decode cX7_guestsOn 6 = .ok (.getfield 7, 3) := by decide +kernel
theorem dX7_guestsOn_9 : decode cX7_guestsOn 9 = .ok (.iconst 4, 1) := by decide +kernel
theorem dX7_guestsOn_10 : decode cX7_guestsOn 10 = .ok (.iaload, 1) := by decide +kernel
theorem dX7_guestsOn_11 : decode cX7_guestsOn 11 = .ok (.if_icmp .ge 25, 3) := by decide +kernel
theorem dX7_guestsOn_14 : decode cX7_guestsOn 14 = .ok (.iload_n 2, 1) := by decide +kernel
theorem dX7_guestsOn_15 : decode cX7_guestsOn 15 = .ok (.aload_n 0, 1) := by decide +kernel
theorem dX7_guestsOn_16 : decode cX7_guestsOn 16 = .ok (.iload_n 3, 1) := by decide +kernel
theorem dX7_guestsOn_17 : decode cX7_guestsOn 17 = .ok (.iconst 0, 1) := by decide +kernel
theorem dX7_guestsOn_18 : decode cX7_guestsOn 18 = .ok (.invokevirtual 66, 3) := by decide +kernel
theorem dX7_guestsOn_21 : decode cX7_guestsOn 21 = .ok (.iload_n 1, 1) := by decide +kernel
theorem dX7_guestsOn_22 : decode cX7_guestsOn 22 = .ok (.bipush 7, 2) := by decide +kernel
theorem dX7_guestsOn_24 : decode cX7_guestsOn 24 = .ok (.irem, 1) := by decide +kernel
theorem dX7_guestsOn_25 : decode cX7_guestsOn 25 = .ok (.ishr, 1) := by decide +kernel
theorem dX7_guestsOn_26 : decode cX7_guestsOn 26 = .ok (.iconst 1, 1) := by decide +kernel
theorem dX7_guestsOn_27 : decode cX7_guestsOn 27 = .ok (.iand, 1) := by decide +kernel
theorem dX7_guestsOn_28 : decode cX7_guestsOn 28 = .ok (.iadd, 1) := by decide +kernel
theorem dX7_guestsOn_29 : decode cX7_guestsOn 29 = .ok (.istore_n 2, 1) := by decide +kernel
theorem dX7_guestsOn_30 : decode cX7_guestsOn 30 = .ok (.iinc 3 1, 3) := by decide +kernel
theorem dX7_guestsOn_33 : decode cX7_guestsOn 33 = .ok (.goto (-29), 3) := by decide +kernel
theorem dX7_guestsOn_36 : decode cX7_guestsOn 36 = .ok (.iload_n 2, 1) := by decide +kernel
theorem dX7_guestsOn_37 : decode cX7_guestsOn 37 = .ok (.ireturn, 1) := by decide +kernel
set_option maxRecDepth 20000 in
theorem ggX7_dayNow_X7_dishesOf : GoodIn wsX7_dayNow wsX7_dishesOf := goodIn_r _ [5, 6, 7, 8, 4, 9, 10, 11, 12, 13, 45, 46, 47, 48, 49, 50, 51, 52, 53, 54, 55, 56, 57, 58, 59] (by decide +kernel) (by decide +kernel)
set_option maxRecDepth 20000 in
theorem gX7_dayNow_X7_dishesOf : GoodIn wsX7_dayNow (wsV RX7 219 RX7 yX7_dishesOf wsX7_dishesOf) := goodIn_app (goodIn_of _ (by decide +kernel)) ggX7_dayNow_X7_dishesOf
set_option maxRecDepth 20000 in
theorem ggX7_dayNow_X7_costOf : GoodIn wsX7_dayNow wsX7_costOf := goodIn_r _ [17, 6, 7, 8, 4, 9, 10, 18, 19, 20, 21, 45, 46, 47, 48, 49, 50, 51, 52, 53, 54, 55, 56, 57, 58, 59] (by decide +kernel) (by decide +kernel)
set_option maxRecDepth 20000 in
theorem gX7_dayNow_X7_costOf : GoodIn wsX7_dayNow (wsV RX7 82 RX7 yX7_costOf wsX7_costOf) := goodIn_app (goodIn_of _ (by decide +kernel)) ggX7_dayNow_X7_costOf
set_option maxRecDepth 20000 in
theorem ggX7_dayNow_X7_joyOf : GoodIn wsX7_dayNow wsX7_joyOf := goodIn_r _ [25, 6, 7, 8, 4, 9, 10, 26, 27, 28, 29, 18, 19, 20, 21, 45, 46, 47, 48, 49, 50, 51, 52, 53, 54, 55, 56, 57, 58, 59] (by decide +kernel) (by decide +kernel)
set_option maxRecDepth 20000 in
theorem gX7_dayNow_X7_joyOf : GoodIn wsX7_dayNow (wsV RX7 101 RX7 yX7_joyOf wsX7_joyOf) := goodIn_app (goodIn_of _ (by decide +kernel)) ggX7_dayNow_X7_joyOf
set_option maxRecDepth 20000 in
theorem ggX7_dayNow_X7_vetoed : GoodIn wsX7_dayNow wsX7_vetoed := goodIn_r _ [33, 10, 34, 35, 36, 4, 37, 38, 39, 40, 45, 46, 47, 48, 49, 50, 51, 52, 53, 54, 55, 56, 57, 58, 59] (by decide +kernel) (by decide +kernel)
set_option maxRecDepth 20000 in
theorem gX7_dayNow_X7_vetoed : GoodIn wsX7_dayNow (wsV RX7 73 RX7 yX7_vetoed wsX7_vetoed) := goodIn_app (goodIn_of _ (by decide +kernel)) ggX7_dayNow_X7_vetoed
set_option maxRecDepth 20000 in
theorem ggX7_dayNow_X7_guestsOn : GoodIn wsX7_dayNow wsX7_guestsOn := goodIn_r _ [44, 10, 34, 35, 36, 4, 37, 45, 46, 47, 48, 49, 50, 51, 52, 53, 54, 55, 56, 57, 58, 59] (by decide +kernel) (by decide +kernel)
set_option maxRecDepth 20000 in
theorem gX7_dayNow_X7_guestsOn : GoodIn wsX7_dayNow (wsV RX7 225 RX7 yX7_guestsOn wsX7_guestsOn) := goodIn_app (goodIn_of _ (by decide +kernel)) ggX7_dayNow_X7_guestsOn
theorem dX7_dayNow_0 : decode cX7_dayNow 0 = .ok (.iload_n 2, 1) := by decide +kernel
theorem dX7_dayNow_1 : decode cX7_dayNow 1 = .ok (.tableswitch 55 0 3 #[31, 37, 43, 49], 31) := by decide +kernel
theorem dX7_dayNow_32 : decode cX7_dayNow 32 = .ok (.aload_n 0, 1) := by decide +kernel
theorem dX7_dayNow_33 : decode cX7_dayNow 33 = .ok (.iload_n 1, 1) := by decide +kernel
theorem dX7_dayNow_34 : decode cX7_dayNow 34 = .ok (.invokevirtual 219, 3) := by decide +kernel
theorem dX7_dayNow_37 : decode cX7_dayNow 37 = .ok (.ireturn, 1) := by decide +kernel
theorem dX7_dayNow_38 : decode cX7_dayNow 38 = .ok (.aload_n 0, 1) := by decide +kernel
theorem dX7_dayNow_39 : decode cX7_dayNow 39 = .ok (.iload_n 1, 1) := by decide +kernel
theorem dX7_dayNow_40 : decode cX7_dayNow 40 = .ok (.invokevirtual 82, 3) := by decide +kernel
theorem dX7_dayNow_43 : decode cX7_dayNow 43 = .ok (.ireturn, 1) := by decide +kernel
theorem dX7_dayNow_44 : decode cX7_dayNow 44 = .ok (.aload_n 0, 1) := by decide +kernel
theorem dX7_dayNow_45 : decode cX7_dayNow 45 = .ok (.iload_n 1, 1) := by decide +kernel
theorem dX7_dayNow_46 : decode cX7_dayNow 46 = .ok (.invokevirtual 101, 3) := by decide +kernel
theorem dX7_dayNow_49 : decode cX7_dayNow 49 = .ok (.ireturn, 1) := by decide +kernel
theorem dX7_dayNow_50 : decode cX7_dayNow 50 = .ok (.aload_n 0, 1) := by decide +kernel
theorem dX7_dayNow_51 : decode cX7_dayNow 51 = .ok (.iload_n 1, 1) := by decide +kernel
theorem dX7_dayNow_52 : decode cX7_dayNow 52 = .ok (.invokevirtual 73, 3) := by decide +kernel
theorem dX7_dayNow_55 : decode cX7_dayNow 55 = .ok (.ireturn, 1) := by decide +kernel
theorem dX7_dayNow_56 : decode cX7_dayNow 56 = .ok (.aload_n 0, 1) := by decide +kernel
theorem dX7_dayNow_57 : decode cX7_dayNow 57 = .ok (.iload_n 1, 1) := by decide +kernel
theorem dX7_dayNow_58 : decode cX7_dayNow 58 = .ok (.invokevirtual 225, 3) := by decide +kernel
theorem dX7_dayNow_61 : decode cX7_dayNow 61 = .ok (.ireturn, 1) := by decide +kernel
set_option maxRecDepth 20000 in
theorem ggX7_day_X7_isDay : GoodIn wsX7_day wsX7_isDay := goodIn_r _ [5, 6, 7, 4, 8] (by decide +kernel) (by decide +kernel)
set_option maxRecDepth 20000 in
theorem gX7_day_X7_isDay : GoodIn wsX7_day (va_wsS RX7 146 yX7_isDay wsX7_isDay) := goodIn_app (goodIn_of _ (by decide +kernel)) ggX7_day_X7_isDay
set_option maxRecDepth 20000 in
theorem ggX7_day_X7_within : GoodIn wsX7_day wsX7_within := goodIn_r _ [8] (by decide +kernel) (by decide +kernel)
set_option maxRecDepth 20000 in
theorem gX7_day_X7_within : GoodIn wsX7_day (va_wsS RX7 41 yX7_within wsX7_within) := goodIn_app (goodIn_of _ (by decide +kernel)) ggX7_day_X7_within
set_option maxRecDepth 20000 in
theorem ggX7_day_X7_dayNow : GoodIn wsX7_day wsX7_dayNow := goodIn_r _ [12, 13, 14, 15, 4, 16, 17, 18, 19, 20, 21, 22, 23, 24, 25, 26, 27, 28, 29, 30, 31, 32, 33, 34, 35, 36, 37, 38, 39, 40, 41, 42, 43, 44, 45, 46, 47, 48, 49, 50, 51, 52, 53, 54, 55, 56, 57, 58, 59, 60, 61, 62, 63, 64, 65, 66, 67, 68, 69, 70] (by decide +kernel) (by decide +kernel)
set_option maxRecDepth 20000 in
theorem gX7_day_X7_dayNow : GoodIn wsX7_day (wsV RX7 228 RX7 yX7_dayNow wsX7_dayNow) := goodIn_app (goodIn_of _ (by decide +kernel)) ggX7_day_X7_dayNow
theorem dX7_day_0 : decode cX7_day 0 = .ok (.aload_n 0, 1) := by decide +kernel
theorem dX7_day_1 : decode cX7_day 1 = .ok (.iload_n 1, 1) := by decide +kernel
theorem dX7_day_2 : decode cX7_day 2 = .ok (.invokestatic 146, 3) := by decide +kernel
theorem dX7_day_5 : decode cX7_day 5 = .ok (.ifCond .ne 7, 3) := by decide +kernel
theorem dX7_day_8 : decode cX7_day 8 = .ok (.iconst 1, 1) := by decide +kernel
theorem dX7_day_9 : decode cX7_day 9 = .ok (.goto 17, 3) := by decide +kernel
theorem dX7_day_12 : decode cX7_day 12 = .ok (.iload_n 2, 1) := by decide +kernel
theorem dX7_day_13 : decode cX7_day 13 = .ok (.iconst 0, 1) := by decide +kernel
theorem dX7_day_14 : decode cX7_day 14 = .ok (.iconst 4, 1) := by decide +kernel
theorem dX7_day_15 : decode cX7_day 15 = .ok (.invokestatic 41, 3) := by decide +kernel
theorem dX7_day_18 : decode cX7_day 18 = .ok (.ifCond .eq 7, 3) := by decide +kernel
theorem dX7_day_21 : decode cX7_day 21 = .ok (.iconst 0, 1) := by decide +kernel
theorem dX7_day_22 : decode cX7_day 22 = .ok (.goto 4, 3) := by decide +kernel
theorem dX7_day_25 : decode cX7_day 25 = .ok (.iconst 2, 1) := by decide +kernel
theorem dX7_day_26 : decode cX7_day 26 = .ok (.putfield 34, 3) := by decide +kernel
theorem dX7_day_29 : decode cX7_day 29 = .ok (.aload_n 0, 1) := by decide +kernel
theorem dX7_day_30 : decode cX7_day 30 = .ok (.getfield 34, 3) := by decide +kernel
theorem dX7_day_33 : decode cX7_day 33 = .ok (.ifCond .le 7, 3) := by decide +kernel
theorem dX7_day_36 : decode cX7_day 36 = .ok (.iconst 0, 1) := by decide +kernel
theorem dX7_day_37 : decode cX7_day 37 = .ok (.goto 9, 3) := by decide +kernel
theorem dX7_day_40 : decode cX7_day 40 = .ok (.aload_n 0, 1) := by decide +kernel
theorem dX7_day_41 : decode cX7_day 41 = .ok (.iload_n 1, 1) := by decide +kernel
theorem dX7_day_42 : decode cX7_day 42 = .ok (.iload_n 2, 1) := by decide +kernel
theorem dX7_day_43 : decode cX7_day 43 = .ok (.invokevirtual 228, 3) := by decide +kernel
theorem dX7_day_46 : decode cX7_day 46 = .ok (.ireturn, 1) := by decide +kernel
set_option maxRecDepth 20000 in
theorem ggX7_sourceNow_X7_match : GoodIn wsX7_sourceNow wsX7_match := goodIn_r _ [6, 1, 7, 8, 9, 10, 11, 5, 12, 13, 14, 15, 16, 17, 18, 19, 20, 21, 22, 23, 24, 25, 26, 27, 28, 29, 30, 31, 32, 33, 34, 35, 36, 37, 38, 39, 40, 41, 42, 43, 44, 45, 46, 47] (by decide +kernel) (by decide +kernel)
set_option maxRecDepth 20000 in
theorem gX7_sourceNow_X7_match : GoodIn wsX7_sourceNow (wsV RX7 95 RX7 yX7_match wsX7_match) := goodIn_app (goodIn_of _ (by decide +kernel)) ggX7_sourceNow_X7_match
theorem dX7_sourceNow_0 : decode cX7_sourceNow 0 = .ok (.aload_n 0, 1) := by decide +kernel
theorem dX7_sourceNow_1 : decode cX7_sourceNow 1 = .ok (.invokevirtual 95, 3) := by decide +kernel
theorem dX7_sourceNow_4 : decode cX7_sourceNow 4 = .ok (.istore_n 3, 1) := by decide +kernel
theorem dX7_sourceNow_5 : decode cX7_sourceNow 5 = .ok (.aload_n 0, 1) := by decide +kernel
theorem dX7_sourceNow_6 : decode cX7_sourceNow 6 = .ok (.getfield 25, 3) := by decide +kernel
theorem dX7_sourceNow_9 : decode cX7_sourceNow 9 = .ok (.iconst 3, 1) := by decide +kernel
theorem dX7_sourceNow_10 : decode cX7_sourceNow 10 = .ok (.iload_n 1, 1) := by decide +kernel
theorem dX7_sourceNow_11 : decode cX7_sourceNow 11 = .ok (.imul, 1) := by decide +kernel
theorem dX7_sourceNow_12 : decode cX7_sourceNow 12 = .ok (.iload_n 2, 1) := by decide +kernel
theorem dX7_sourceNow_13 : decode cX7_sourceNow 13 = .ok (.iadd, 1) := by decide +kernel
theorem dX7_sourceNow_14 : decode cX7_sourceNow 14 = .ok (.iaload, 1) := by decide +kernel
theorem dX7_sourceNow_15 : decode cX7_sourceNow 15 = .ok (.istore 4, 2) := by decide +kernel
theorem dX7_sourceNow_17 : decode cX7_sourceNow 17 = .ok (.iload_n 3, 1) := by decide +kernel
theorem dX7_sourceNow_18 : decode cX7_sourceNow 18 = .ok (.ifCond .eq 16, 3) := by decide +kernel
theorem dX7_sourceNow_21 : decode cX7_sourceNow 21 = .ok (.iload 4, 2) := by decide +kernel
theorem dX7_sourceNow_23 : decode cX7_sourceNow 23 = .ok (.iconst (-1), 1) := by decide +kernel
theorem dX7_sourceNow_24 : decode cX7_sourceNow 24 = .ok (.if_icmp .eq 10, 3) := by decide +kernel
theorem dX7_sourceNow_27 : decode cX7_sourceNow 27 = .ok (.iload 4, 2) := by decide +kernel
theorem dX7_sourceNow_29 : decode cX7_sourceNow 29 = .ok (.iconst 3, 1) := by decide +kernel
theorem dX7_sourceNow_30 : decode cX7_sourceNow 30 = .ok (.idiv, 1) := by decide +kernel
theorem dX7_sourceNow_31 : decode cX7_sourceNow 31 = .ok (.goto 4, 3) := by decide +kernel
theorem dX7_sourceNow_34 : decode cX7_sourceNow 34 = .ok (.iconst (-1), 1) := by decide +kernel
theorem dX7_sourceNow_35 : decode cX7_sourceNow 35 = .ok (.ireturn, 1) := by decide +kernel
set_option maxRecDepth 20000 in
theorem ggX7_source_X7_isDay : GoodIn wsX7_source wsX7_isDay := goodIn_r _ [5, 6, 7, 4, 8] (by decide +kernel) (by decide +kernel)
set_option maxRecDepth 20000 in
theorem gX7_source_X7_isDay : GoodIn wsX7_source (va_wsS RX7 146 yX7_isDay wsX7_isDay) := goodIn_app (goodIn_of _ (by decide +kernel)) ggX7_source_X7_isDay
set_option maxRecDepth 20000 in
theorem ggX7_source_X7_isPart : GoodIn wsX7_source wsX7_isPart := goodIn_r _ [11, 6, 7, 4, 8] (by decide +kernel) (by decide +kernel)
set_option maxRecDepth 20000 in
theorem gX7_source_X7_isPart : GoodIn wsX7_source (va_wsS RX7 104 yX7_isPart wsX7_isPart) := goodIn_app (goodIn_of _ (by decide +kernel)) ggX7_source_X7_isPart
set_option maxRecDepth 20000 in
theorem ggX7_source_X7_sourceNow : GoodIn wsX7_source wsX7_sourceNow := goodIn_r _ [15, 16, 17, 18, 19, 4, 20, 21, 22, 23, 24, 25, 26, 27, 28, 29, 30, 31, 32, 33, 34, 35, 36, 37, 38, 39, 40, 41, 42, 43, 44, 45, 46, 47, 48, 49, 50, 51, 52, 53, 54, 55, 56, 57, 58, 59, 60, 61] (by decide +kernel) (by decide +kernel)
set_option maxRecDepth 20000 in
theorem gX7_source_X7_sourceNow : GoodIn wsX7_source (wsV RX7 231 RX7 yX7_sourceNow wsX7_sourceNow) := goodIn_app (goodIn_of _ (by decide +kernel)) ggX7_source_X7_sourceNow
theorem dX7_source_0 : decode cX7_source 0 = .ok (.aload_n 0, 1) := by decide +kernel
theorem dX7_source_1 : decode cX7_source 1 = .ok (.iload_n 1, 1) := by decide +kernel
theorem dX7_source_2 : decode cX7_source 2 = .ok (.invokestatic 146, 3) := by decide +kernel
theorem dX7_source_5 : decode cX7_source 5 = .ok (.ifCond .eq 14, 3) := by decide +kernel
theorem dX7_source_8 : decode cX7_source 8 = .ok (.iload_n 2, 1) := by decide +kernel
theorem dX7_source_9 : decode cX7_source 9 = .ok (.invokestatic 104, 3) := by decide +kernel
theorem dX7_source_12 : decode cX7_source 12 = .ok (.ifCond .eq 7, 3) := by decide +kernel
theorem dX7_source_15 : decode cX7_source 15 = .ok (.iconst 0, 1) := by decide +kernel
theorem dX7_source_16 : decode cX7_source 16 = .ok (.goto 4, 3) := by decide +kernel
theorem dX7_source_19 : decode cX7_source 19 = .ok (.iconst 1, 1) := by decide +kernel
theorem dX7_source_20 : decode cX7_source 20 = .ok (.putfield 34, 3) := by decide +kernel
theorem dX7_source_23 : decode cX7_source 23 = .ok (.aload_n 0, 1) := by decide +kernel
theorem dX7_source_24 : decode cX7_source 24 = .ok (.getfield 34, 3) := by decide +kernel
theorem dX7_source_27 : decode cX7_source 27 = .ok (.ifCond .le 7, 3) := by decide +kernel
theorem dX7_source_30 : decode cX7_source 30 = .ok (.iconst 0, 1) := by decide +kernel
theorem dX7_source_31 : decode cX7_source 31 = .ok (.goto 9, 3) := by decide +kernel
theorem dX7_source_34 : decode cX7_source 34 = .ok (.aload_n 0, 1) := by decide +kernel
theorem dX7_source_35 : decode cX7_source 35 = .ok (.iload_n 1, 1) := by decide +kernel
theorem dX7_source_36 : decode cX7_source 36 = .ok (.iload_n 2, 1) := by decide +kernel
theorem dX7_source_37 : decode cX7_source 37 = .ok (.invokevirtual 231, 3) := by decide +kernel
theorem dX7_source_40 : decode cX7_source 40 = .ok (.ireturn, 1) := by decide +kernel
set_option maxRecDepth 20000 in
theorem ggX7_sources_X7_match : GoodIn wsX7_sources wsX7_match := goodIn_r _ [6, 7, 1, 8, 9, 10, 11, 5, 12, 13, 14, 15, 16, 17, 18, 19, 20, 21, 22, 23, 24, 25, 26, 27, 28, 29, 30, 31, 32, 33, 34, 35, 36, 37, 38, 39, 40, 41, 42, 43, 44, 45, 46, 47] (by decide +kernel) (by decide +kernel)
set_option maxRecDepth 20000 in
theorem gX7_sources_X7_match : GoodIn wsX7_sources (wsV RX7 95 RX7 yX7_match wsX7_match) := goodIn_app (goodIn_of _ (by decide +kernel)) ggX7_sources_X7_match
set_option maxRecDepth 20000 in
theorem ggX7_sources_X7_isSource : GoodIn wsX7_sources wsX7_isSource := goodIn_r _ [28, 8, 13, 14, 15, 5, 16, 33, 34, 35, 36, 37, 38, 39, 40, 41, 42, 43, 44, 45, 46, 47] (by decide +kernel) (by decide +kernel)
set_option maxRecDepth 20000 in
theorem gX7_sources_X7_isSource : GoodIn wsX7_sources (wsV RX7 49 RX7 yX7_isSource wsX7_isSource) := goodIn_app (goodIn_of _ (by decide +kernel)) ggX7_sources_X7_isSource
theorem dX7_sources_0 : decode cX7_sources 0 = .ok (.iconst 0, 1) := by decide +kernel
theorem dX7_sources_1 : decode cX7_sources 1 = .ok (.istore_n 2, 1) := by decide +kernel
theorem dX7_sources_2 : decode cX7_sources 2 = .ok (.aload_n 0, 1) := by decide +kernel
theorem dX7_sources_3 : decode cX7_sources 3 = .ok (.invokevirtual 95, 3) := by decide +kernel
theorem dX7_sources_6 : decode cX7_sources 6 = .ok (.istore_n 3, 1) := by decide +kernel
theorem dX7_sources_7 : decode cX7_sources 7 = .ok (.iconst 0, 1) := by decide +kernel
theorem dX7_sources_8 : decode cX7_sources 8 = .ok (.istore 4, 2) := by decide +kernel
theorem dX7_sources_10 : decode cX7_sources 10 = .ok (.iload 4, 2) := by decide +kernel
theorem dX7_sources_12 : decode cX7_sources 12 = .ok (.bipush 84, 2) := by decide +kernel
theorem dX7_sources_14 : decode cX7_sources 14 = .ok (.if_icmp .ge 40, 3) := by decide +kernel
theorem dX7_sources_17 : decode cX7_sources 17 = .ok (.iload_n 2, 1) := by decide +kernel
theorem dX7_sources_18 : decode cX7_sources 18 = .ok (.aload_n 0, 1) := by decide +kernel
theorem dX7_sources_19 : decode cX7_sources 19 = .ok (.iload 4, 2) := by decide +kernel
theorem dX7_sources_21 : decode cX7_sources 21 = .ok (.invokevirtual 49, 3) := by decide +kernel
theorem dX7_sources_24 : decode cX7_sources 24 = .ok (.ifCond .eq 21, 3) := by decide +kernel
theorem dX7_sources_27 : decode cX7_sources 27 = .ok (.iload_n 1, 1) := by decide +kernel
theorem dX7_sources_28 : decode cX7_sources 28 = .ok (.ifCond .eq 13, 3) := by decide +kernel
theorem dX7_sources_31 : decode cX7_sources 31 = .ok (.aload_n 0, 1) := by decide +kernel
theorem dX7_sources_32 : decode cX7_sources 32 = .ok (.getfield 28, 3) := by decide +kernel
theorem dX7_sources_35 : decode cX7_sources 35 = .ok (.iload 4, 2) := by decide +kernel
theorem dX7_sources_37 : decode cX7_sources 37 = .ok (.iaload, 1) := by decide +kernel
theorem dX7_sources_38 : decode cX7_sources 38 = .ok (.ifCond .ne 7, 3) := by decide +kernel
theorem dX7_sources_41 : decode cX7_sources 41 = .ok (.iconst 1, 1) := by decide +kernel
theorem dX7_sources_42 : decode cX7_sources 42 = .ok (.goto 4, 3) := by decide +kernel
theorem dX7_sources_45 : decode cX7_sources 45 = .ok (.iconst 0, 1) := by decide +kernel
theorem dX7_sources_46 : decode cX7_sources 46 = .ok (.iadd, 1) := by decide +kernel
theorem dX7_sources_47 : decode cX7_sources 47 = .ok (.istore_n 2, 1) := by decide +kernel
theorem dX7_sources_48 : decode cX7_sources 48 = .ok (.iinc 4 1, 3) := by decide +kernel
theorem dX7_sources_51 : decode cX7_sources 51 = .ok (.goto (-41), 3) := by decide +kernel
theorem dX7_sources_54 : decode cX7_sources 54 = .ok (.iload_n 2, 1) := by decide +kernel
theorem dX7_sources_55 : decode cX7_sources 55 = .ok (.ireturn, 1) := by decide +kernel
set_option maxRecDepth 20000 in
theorem ggX7_wholeDays_X7_dishesOf : GoodIn wsX7_wholeDays wsX7_dishesOf := goodIn_r _ [5, 6, 7, 8, 4, 9, 10, 11, 12, 13, 14, 15, 16, 17, 18, 19, 20, 21, 22, 23, 24, 25, 26, 27, 28] (by decide +kernel) (by decide +kernel)
set_option maxRecDepth 20000 in
theorem gX7_wholeDays_X7_dishesOf : GoodIn wsX7_wholeDays (wsV RX7 219 RX7 yX7_dishesOf wsX7_dishesOf) := goodIn_app (goodIn_of _ (by decide +kernel)) ggX7_wholeDays_X7_dishesOf
theorem dX7_wholeDays_0 : decode cX7_wholeDays 0 = .ok (.iconst 0, 1) := by decide +kernel
theorem dX7_wholeDays_1 : decode cX7_wholeDays 1 = .ok (.istore_n 1, 1) := by decide +kernel
theorem dX7_wholeDays_2 : decode cX7_wholeDays 2 = .ok (.iconst 0, 1) := by decide +kernel
theorem dX7_wholeDays_3 : decode cX7_wholeDays 3 = .ok (.istore_n 2, 1) := by decide +kernel
theorem dX7_wholeDays_4 : decode cX7_wholeDays 4 = .ok (.iload_n 2, 1) := by decide +kernel
theorem dX7_wholeDays_5 : decode cX7_wholeDays 5 = .ok (.bipush 28, 2) := by decide +kernel
theorem dX7_wholeDays_7 : decode cX7_wholeDays 7 = .ok (.if_icmp .ge 26, 3) := by decide +kernel
theorem dX7_wholeDays_10 : decode cX7_wholeDays 10 = .ok (.iload_n 1, 1) := by decide +kernel
theorem dX7_wholeDays_11 : decode cX7_wholeDays 11 = .ok (.aload_n 0, 1) := by decide +kernel
theorem dX7_wholeDays_12 : decode cX7_wholeDays 12 = .ok (.iload_n 2, 1) := by decide +kernel
theorem dX7_wholeDays_13 : decode cX7_wholeDays 13 = .ok (.invokevirtual 219, 3) := by decide +kernel
theorem dX7_wholeDays_16 : decode cX7_wholeDays 16 = .ok (.iconst 3, 1) := by decide +kernel
theorem dX7_wholeDays_17 : decode cX7_wholeDays 17 = .ok (.if_icmp .ne 7, 3) := by decide +kernel
theorem dX7_wholeDays_20 : decode cX7_wholeDays 20 = .ok (.iconst 1, 1) := by decide +kernel
theorem dX7_wholeDays_21 : decode cX7_wholeDays 21 = .ok (.goto 4, 3) := by decide +kernel
theorem dX7_wholeDays_24 : decode cX7_wholeDays 24 = .ok (.iconst 0, 1) := by decide +kernel
theorem dX7_wholeDays_25 : decode cX7_wholeDays 25 = .ok (.iadd, 1) := by decide +kernel
theorem dX7_wholeDays_26 : decode cX7_wholeDays 26 = .ok (.istore_n 1, 1) := by decide +kernel
theorem dX7_wholeDays_27 : decode cX7_wholeDays 27 = .ok (.iinc 2 1, 3) := by decide +kernel
theorem dX7_wholeDays_30 : decode cX7_wholeDays 30 = .ok (.goto (-26), 3) := by decide +kernel
theorem dX7_wholeDays_33 : decode cX7_wholeDays 33 = .ok (.iload_n 1, 1) := by decide +kernel
theorem dX7_wholeDays_34 : decode cX7_wholeDays 34 = .ok (.ireturn, 1) := by decide +kernel
set_option maxRecDepth 20000 in
theorem ggX7_costOfAll_X7_weekCost : GoodIn wsX7_costOfAll wsX7_weekCost := goodIn_r _ [5, 6, 7, 8, 4, 9, 10, 11, 12, 13, 14, 15, 16, 17, 18, 19, 20, 21, 22, 23, 24, 25, 26, 27, 28, 29, 30, 31, 32, 33] (by decide +kernel) (by decide +kernel)
set_option maxRecDepth 20000 in
theorem gX7_costOfAll_X7_weekCost : GoodIn wsX7_costOfAll (wsV RX7 85 RX7 yX7_weekCost wsX7_weekCost) := goodIn_app (goodIn_of _ (by decide +kernel)) ggX7_costOfAll_X7_weekCost
theorem dX7_costOfAll_0 : decode cX7_costOfAll 0 = .ok (.aload_n 0, 1) := by decide +kernel
theorem dX7_costOfAll_1 : decode cX7_costOfAll 1 = .ok (.iconst 0, 1) := by decide +kernel
theorem dX7_costOfAll_2 : decode cX7_costOfAll 2 = .ok (.invokevirtual 85, 3) := by decide +kernel
theorem dX7_costOfAll_5 : decode cX7_costOfAll 5 = .ok (.aload_n 0, 1) := by decide +kernel
theorem dX7_costOfAll_6 : decode cX7_costOfAll 6 = .ok (.iconst 1, 1) := by decide +kernel
theorem dX7_costOfAll_7 : decode cX7_costOfAll 7 = .ok (.invokevirtual 85, 3) := by decide +kernel
theorem dX7_costOfAll_10 : decode cX7_costOfAll 10 = .ok (.iadd, 1) := by decide +kernel
theorem dX7_costOfAll_11 : decode cX7_costOfAll 11 = .ok (.aload_n 0, 1) := by decide +kernel
theorem dX7_costOfAll_12 : decode cX7_costOfAll 12 = .ok (.iconst 2, 1) := by decide +kernel
theorem dX7_costOfAll_13 : decode cX7_costOfAll 13 = .ok (.invokevirtual 85, 3) := by decide +kernel
theorem dX7_costOfAll_16 : decode cX7_costOfAll 16 = .ok (.iadd, 1) := by decide +kernel
theorem dX7_costOfAll_17 : decode cX7_costOfAll 17 = .ok (.aload_n 0, 1) := by decide +kernel
theorem dX7_costOfAll_18 : decode cX7_costOfAll 18 = .ok (.iconst 3, 1) := by decide +kernel
theorem dX7_costOfAll_19 : decode cX7_costOfAll 19 = .ok (.invokevirtual 85, 3) := by decide +kernel
theorem dX7_costOfAll_22 : decode cX7_costOfAll 22 = .ok (.iadd, 1) := by decide +kernel
theorem dX7_costOfAll_23 : decode cX7_costOfAll 23 = .ok (.ireturn, 1) := by decide +kernel
set_option maxRecDepth 20000 in
theorem ggX7_counted_X7_dishesInPlan : GoodIn wsX7_counted wsX7_dishesInPlan := goodIn_r _ [8, 1, 82, 83, 84, 85, 86, 87, 88, 89, 90, 91, 92, 93, 94, 95, 96] (by decide +kernel) (by decide +kernel)
set_option maxRecDepth 20000 in
theorem gX7_counted_X7_dishesInPlan : GoodIn wsX7_counted (wsV RX7 169 RX7 yX7_dishesInPlan wsX7_dishesInPlan) := goodIn_app (goodIn_of _ (by decide +kernel)) ggX7_counted_X7_dishesInPlan
set_option maxRecDepth 20000 in
theorem ggX7_counted_X7_joyOfAll : GoodIn wsX7_counted wsX7_joyOfAll := goodIn_r _ [12, 13, 14, 15, 7, 16, 17, 18, 19, 20, 1, 21, 22, 23, 24, 25, 26, 27, 28, 82, 83, 84, 85, 86, 87, 88, 89, 90, 91, 92, 93, 94, 95, 96] (by decide +kernel) (by decide +kernel)
set_option maxRecDepth 20000 in
theorem gX7_counted_X7_joyOfAll : GoodIn wsX7_counted (wsV RX7 162 RX7 yX7_joyOfAll wsX7_joyOfAll) := goodIn_app (goodIn_of _ (by decide +kernel)) ggX7_counted_X7_joyOfAll
set_option maxRecDepth 20000 in
theorem ggX7_counted_X7_costOfAll : GoodIn wsX7_counted wsX7_costOfAll := goodIn_r _ [32, 33, 34, 35, 7, 36, 37, 38, 39, 40, 17, 18, 19, 20, 1, 25, 26, 27, 28, 82, 83, 84, 85, 86, 87, 88, 89, 90, 91, 92, 93, 94, 95, 96] (by decide +kernel) (by decide +kernel)
set_option maxRecDepth 20000 in
theorem gX7_counted_X7_costOfAll : GoodIn wsX7_counted (wsV RX7 234 RX7 yX7_costOfAll wsX7_costOfAll) := goodIn_app (goodIn_of _ (by decide +kernel)) ggX7_counted_X7_costOfAll
set_option maxRecDepth 20000 in
theorem ggX7_counted_X7_sources : GoodIn wsX7_counted wsX7_sources := goodIn_r _ [44, 45, 46, 47, 48, 7, 49, 50, 1, 51, 52, 53, 54, 25, 26, 27, 28, 55, 56, 57, 58, 59, 60, 61, 62, 63, 64, 65, 66, 67, 68, 69, 70, 82, 83, 84, 85, 86, 87, 88, 89, 90, 91, 92, 93, 94, 95, 96] (by decide +kernel) (by decide +kernel)
set_option maxRecDepth 20000 in
theorem gX7_counted_X7_sources : GoodIn wsX7_counted (wsV RX7 237 RX7 yX7_sources wsX7_sources) := goodIn_app (goodIn_of _ (by decide +kernel)) ggX7_counted_X7_sources
set_option maxRecDepth 20000 in
theorem ggX7_counted_X7_wholeDays : GoodIn wsX7_counted wsX7_wholeDays := goodIn_r _ [74, 75, 76, 77, 7, 78, 17, 18, 19, 20, 1, 79, 80, 81, 82, 83, 84, 85, 86, 87, 88, 89, 90, 91, 92, 93, 94, 95, 96] (by decide +kernel) (by decide +kernel)
set_option maxRecDepth 20000 in
theorem gX7_counted_X7_wholeDays : GoodIn wsX7_counted (wsV RX7 241 RX7 yX7_wholeDays wsX7_wholeDays) := goodIn_app (goodIn_of _ (by decide +kernel)) ggX7_counted_X7_wholeDays
set_option maxRecDepth 20000 in
theorem ggX7_counted_X7_weekCost : GoodIn wsX7_counted wsX7_weekCost := goodIn_r _ [36, 37, 38, 39, 7, 40, 17, 18, 19, 20, 1, 25, 26, 27, 28, 82, 83, 84, 85, 86, 87, 88, 89, 90, 91, 92, 93, 94, 95, 96] (by decide +kernel) (by decide +kernel)
set_option maxRecDepth 20000 in
theorem gX7_counted_X7_weekCost : GoodIn wsX7_counted (wsV RX7 85 RX7 yX7_weekCost wsX7_weekCost) := goodIn_app (goodIn_of _ (by decide +kernel)) ggX7_counted_X7_weekCost
theorem dX7_counted_0 : decode cX7_counted 0 = .ok (.iload_n 1, 1) := by decide +kernel
theorem dX7_counted_1 : decode cX7_counted 1 = .ok (.tableswitch 136 0 13 #[71, 78, 85, 90, 95, 100, 106, 112, 136, 136, 136, 136, 117, 131], 71) := by decide +kernel
theorem dX7_counted_72 : decode cX7_counted 72 = .ok (.aload_n 0, 1) := by decide +kernel
theorem dX7_counted_73 : decode cX7_counted 73 = .ok (.getfield 7, 3) := by decide +kernel
theorem dX7_counted_76 : decode cX7_counted 76 = .ok (.iconst 3, 1) := by decide +kernel
theorem dX7_counted_77 : decode cX7_counted 77 = .ok (.iaload, 1) := by decide +kernel
theorem dX7_counted_78 : decode cX7_counted 78 = .ok (.ireturn, 1) := by decide +kernel
theorem dX7_counted_79 : decode cX7_counted 79 = .ok (.aload_n 0, 1) := by decide +kernel
theorem dX7_counted_80 : decode cX7_counted 80 = .ok (.getfield 7, 3) := by decide +kernel
theorem dX7_counted_83 : decode cX7_counted 83 = .ok (.iconst 4, 1) := by decide +kernel
theorem dX7_counted_84 : decode cX7_counted 84 = .ok (.iaload, 1) := by decide +kernel
theorem dX7_counted_85 : decode cX7_counted 85 = .ok (.ireturn, 1) := by decide +kernel
theorem dX7_counted_86 : decode cX7_counted 86 = .ok (.aload_n 0, 1) := by decide +kernel
theorem dX7_counted_87 : decode cX7_counted 87 = .ok (.invokevirtual 169, 3) := by decide +kernel
theorem dX7_counted_90 : decode cX7_counted 90 = .ok (.ireturn, 1) := by decide +kernel
theorem dX7_counted_91 : decode cX7_counted 91 = .ok (.aload_n 0, 1) := by decide +kernel
theorem dX7_counted_92 : decode cX7_counted 92 = .ok (.invokevirtual 162, 3) := by decide +kernel
theorem dX7_counted_95 : decode cX7_counted 95 = .ok (.ireturn, 1) := by decide +kernel
theorem dX7_counted_96 : decode cX7_counted 96 = .ok (.aload_n 0, 1) := by decide +kernel
theorem dX7_counted_97 : decode cX7_counted 97 = .ok (.invokevirtual 234, 3) := by decide +kernel
theorem dX7_counted_100 : decode cX7_counted 100 = .ok (.ireturn, 1) := by decide +kernel
theorem dX7_counted_101 : decode cX7_counted 101 = .ok (.aload_n 0, 1) := by decide +kernel
theorem dX7_counted_102 : decode cX7_counted 102 = .ok (.iconst 0, 1) := by decide +kernel
theorem dX7_counted_103 : decode cX7_counted 103 = .ok (.invokevirtual 237, 3) := by decide +kernel
theorem dX7_counted_106 : decode cX7_counted 106 = .ok (.ireturn, 1) := by decide +kernel
theorem dX7_counted_107 : decode cX7_counted 107 = .ok (.aload_n 0, 1) := by decide +kernel
theorem dX7_counted_108 : decode cX7_counted 108 = .ok (.iconst 1, 1) := by decide +kernel
theorem dX7_counted_109 : decode cX7_counted 109 = .ok (.invokevirtual 237, 3) := by decide +kernel
theorem dX7_counted_112 : decode cX7_counted 112 = .ok (.ireturn, 1) := by decide +kernel
theorem dX7_counted_113 : decode cX7_counted 113 = .ok (.aload_n 0, 1) := by decide +kernel
theorem dX7_counted_114 : decode cX7_counted 114 = .ok (.invokevirtual 241, 3) := by decide +kernel
theorem dX7_counted_117 : decode cX7_counted 117 = .ok (.ireturn, 1) := by decide +kernel
theorem dX7_counted_118 : decode cX7_counted 118 = .ok (.aload_n 0, 1) := by decide +kernel
theorem dX7_counted_119 : decode cX7_counted 119 = .ok (.getfield 19, 3) := by decide +kernel
theorem dX7_counted_122 : decode cX7_counted 122 = .ok (.iconst 0, 1) := by decide +kernel
theorem dX7_counted_123 : decode cX7_counted 123 = .ok (.iaload, 1) := by decide +kernel
theorem dX7_counted_124 : decode cX7_counted 124 = .ok (.aload_n 0, 1) := by decide +kernel
theorem dX7_counted_125 : decode cX7_counted 125 = .ok (.getfield 19, 3) := by decide +kernel
theorem dX7_counted_128 : decode cX7_counted 128 = .ok (.iconst 1, 1) := by decide +kernel
theorem dX7_counted_129 : decode cX7_counted 129 = .ok (.iaload, 1) := by decide +kernel
theorem dX7_counted_130 : decode cX7_counted 130 = .ok (.iadd, 1) := by decide +kernel
theorem dX7_counted_131 : decode cX7_counted 131 = .ok (.ireturn, 1) := by decide +kernel
theorem dX7_counted_132 : decode cX7_counted 132 = .ok (.aload_n 0, 1) := by decide +kernel
theorem dX7_counted_133 : decode cX7_counted 133 = .ok (.getfield 38, 3) := by decide +kernel
theorem dX7_counted_136 : decode cX7_counted 136 = .ok (.ireturn, 1) := by decide +kernel
theorem dX7_counted_137 : decode cX7_counted 137 = .ok (.aload_n 0, 1) := by decide +kernel
theorem dX7_counted_138 : decode cX7_counted 138 = .ok (.iload_n 1, 1) := by decide +kernel
theorem dX7_counted_139 : decode cX7_counted 139 = .ok (.bipush 8, 2) := by decide +kernel
theorem dX7_counted_141 : decode cX7_counted 141 = .ok (.isub, 1) := by decide +kernel
theorem dX7_counted_142 : decode cX7_counted 142 = .ok (.invokevirtual 85, 3) := by decide +kernel
theorem dX7_counted_145 : decode cX7_counted 145 = .ok (.ireturn, 1) := by decide +kernel
set_option maxRecDepth 20000 in
theorem ggX7_count_X7_within : GoodIn wsX7_count wsX7_within := goodIn_r _ [5] (by decide +kernel) (by decide +kernel)
set_option maxRecDepth 20000 in
theorem gX7_count_X7_within : GoodIn wsX7_count (va_wsS RX7 41 yX7_within wsX7_within) := goodIn_app (goodIn_of _ (by decide +kernel)) ggX7_count_X7_within
set_option maxRecDepth 20000 in
theorem ggX7_count_X7_counted : GoodIn wsX7_count wsX7_counted := goodIn_r _ [9, 10, 11, 12, 13, 14, 15, 4, 16, 17, 18, 19, 20, 21, 22, 23, 24, 25, 26, 27, 28, 29, 30, 31, 32, 33, 34, 35, 36, 37, 38, 39, 40, 41, 42, 43, 44, 45, 46, 47, 48, 49, 50, 51, 52, 53, 54, 55, 56, 57, 58, 59, 60, 61, 62, 63, 64, 65, 66, 67, 68, 69, 70, 71, 72, 73, 74, 75, 76, 77, 78, 79, 80, 81, 82, 83, 84, 85, 86, 87, 88, 89, 90, 91, 92, 93, 94, 95, 96, 97, 98, 99, 100, 101, 102, 103, 104] (by decide +kernel) (by decide +kernel)
set_option maxRecDepth 20000 in
theorem gX7_count_X7_counted : GoodIn wsX7_count (wsV RX7 244 RX7 yX7_counted wsX7_counted) := goodIn_app (goodIn_of _ (by decide +kernel)) ggX7_count_X7_counted
theorem dX7_count_0 : decode cX7_count 0 = .ok (.aload_n 0, 1) := by decide +kernel
theorem dX7_count_1 : decode cX7_count 1 = .ok (.iload_n 1, 1) := by decide +kernel
theorem dX7_count_2 : decode cX7_count 2 = .ok (.iconst 0, 1) := by decide +kernel
theorem dX7_count_3 : decode cX7_count 3 = .ok (.bipush 13, 2) := by decide +kernel
theorem dX7_count_5 : decode cX7_count 5 = .ok (.invokestatic 41, 3) := by decide +kernel
theorem dX7_count_8 : decode cX7_count 8 = .ok (.ifCond .eq 7, 3) := by decide +kernel
theorem dX7_count_11 : decode cX7_count 11 = .ok (.iconst 0, 1) := by decide +kernel
theorem dX7_count_12 : decode cX7_count 12 = .ok (.goto 4, 3) := by decide +kernel
theorem dX7_count_15 : decode cX7_count 15 = .ok (.iconst 1, 1) := by decide +kernel
theorem dX7_count_16 : decode cX7_count 16 = .ok (.putfield 34, 3) := by decide +kernel
theorem dX7_count_19 : decode cX7_count 19 = .ok (.aload_n 0, 1) := by decide +kernel
theorem dX7_count_20 : decode cX7_count 20 = .ok (.getfield 34, 3) := by decide +kernel
theorem dX7_count_23 : decode cX7_count 23 = .ok (.ifCond .le 7, 3) := by decide +kernel
theorem dX7_count_26 : decode cX7_count 26 = .ok (.iconst 0, 1) := by decide +kernel
theorem dX7_count_27 : decode cX7_count 27 = .ok (.goto 8, 3) := by decide +kernel
theorem dX7_count_30 : decode cX7_count 30 = .ok (.aload_n 0, 1) := by decide +kernel
theorem dX7_count_31 : decode cX7_count 31 = .ok (.iload_n 1, 1) := by decide +kernel
theorem dX7_count_32 : decode cX7_count 32 = .ok (.invokevirtual 244, 3) := by decide +kernel
theorem dX7_count_35 : decode cX7_count 35 = .ok (.ireturn, 1) := by decide +kernel
set_option maxRecDepth 20000 in
theorem ggX7_setting_X7_isSetting : GoodIn wsX7_setting wsX7_isSetting := goodIn_r _ [6, 7, 8, 5, 9] (by decide +kernel) (by decide +kernel)
set_option maxRecDepth 20000 in
theorem gX7_setting_X7_isSetting : GoodIn wsX7_setting (va_wsS RX7 130 yX7_isSetting wsX7_isSetting) := goodIn_app (goodIn_of _ (by decide +kernel)) ggX7_setting_X7_isSetting
theorem dX7_setting_0 : decode cX7_setting 0 = .ok (.aload_n 0, 1) := by decide +kernel
theorem dX7_setting_1 : decode cX7_setting 1 = .ok (.iload_n 1, 1) := by decide +kernel
theorem dX7_setting_2 : decode cX7_setting 2 = .ok (.invokestatic 130, 3) := by decide +kernel
theorem dX7_setting_5 : decode cX7_setting 5 = .ok (.ifCond .eq 7, 3) := by decide +kernel
theorem dX7_setting_8 : decode cX7_setting 8 = .ok (.iconst 0, 1) := by decide +kernel
theorem dX7_setting_9 : decode cX7_setting 9 = .ok (.goto 4, 3) := by decide +kernel
theorem dX7_setting_12 : decode cX7_setting 12 = .ok (.iconst 1, 1) := by decide +kernel
theorem dX7_setting_13 : decode cX7_setting 13 = .ok (.putfield 34, 3) := by decide +kernel
theorem dX7_setting_16 : decode cX7_setting 16 = .ok (.aload_n 0, 1) := by decide +kernel
theorem dX7_setting_17 : decode cX7_setting 17 = .ok (.getfield 34, 3) := by decide +kernel
theorem dX7_setting_20 : decode cX7_setting 20 = .ok (.ifCond .le 7, 3) := by decide +kernel
theorem dX7_setting_23 : decode cX7_setting 23 = .ok (.iconst 0, 1) := by decide +kernel
theorem dX7_setting_24 : decode cX7_setting 24 = .ok (.goto 9, 3) := by decide +kernel
theorem dX7_setting_27 : decode cX7_setting 27 = .ok (.aload_n 0, 1) := by decide +kernel
theorem dX7_setting_28 : decode cX7_setting 28 = .ok (.getfield 7, 3) := by decide +kernel
theorem dX7_setting_31 : decode cX7_setting 31 = .ok (.iload_n 1, 1) := by decide +kernel
theorem dX7_setting_32 : decode cX7_setting 32 = .ok (.iaload, 1) := by decide +kernel
theorem dX7_setting_33 : decode cX7_setting 33 = .ok (.ireturn, 1) := by decide +kernel
set_option maxRecDepth 20000 in
theorem ggX7_whyNot_X7_isDay : GoodIn wsX7_whyNot wsX7_isDay := goodIn_r _ [5, 6, 7, 4, 8] (by decide +kernel) (by decide +kernel)
set_option maxRecDepth 20000 in
theorem gX7_whyNot_X7_isDay : GoodIn wsX7_whyNot (va_wsS RX7 146 yX7_isDay wsX7_isDay) := goodIn_app (goodIn_of _ (by decide +kernel)) ggX7_whyNot_X7_isDay
set_option maxRecDepth 20000 in
theorem ggX7_whyNot_X7_isPart : GoodIn wsX7_whyNot wsX7_isPart := goodIn_r _ [11, 6, 7, 4, 8] (by decide +kernel) (by decide +kernel)
set_option maxRecDepth 20000 in
theorem gX7_whyNot_X7_isPart : GoodIn wsX7_whyNot (va_wsS RX7 104 yX7_isPart wsX7_isPart) := goodIn_app (goodIn_of _ (by decide +kernel)) ggX7_whyNot_X7_isPart
set_option maxRecDepth 20000 in
theorem ggX7_whyNot_X7_isDish : GoodIn wsX7_whyNot wsX7_isDish := goodIn_r _ [15, 16, 6, 7, 4, 8, 86, 87, 88, 89, 90, 91, 92, 93, 94, 95, 96, 97, 98, 99, 100] (by decide +kernel) (by decide +kernel)
set_option maxRecDepth 20000 in
theorem gX7_whyNot_X7_isDish : GoodIn wsX7_whyNot (wsV RX7 114 RX7 yX7_isDish wsX7_isDish) := goodIn_app (goodIn_of _ (by decide +kernel)) ggX7_whyNot_X7_isDish
set_option maxRecDepth 20000 in
theorem ggX7_whyNot_X7_reason : GoodIn wsX7_whyNot wsX7_reason := goodIn_r _ [20, 16, 21, 22, 23, 4, 24, 25, 26, 27, 28, 29, 30, 31, 32, 33, 34, 35, 36, 37, 38, 39, 40, 41, 42, 43, 44, 45, 46, 47, 48, 49, 50, 51, 52, 53, 54, 55, 56, 57, 58, 59, 60, 61, 62, 63, 64, 65, 66, 67, 68, 69, 70, 71, 72, 73, 74, 75, 76, 77, 78, 79, 80, 81, 82, 83, 84, 85, 86, 87, 88, 89, 90, 91, 92, 93, 94, 95, 96, 97, 98, 99, 100] (by decide +kernel) (by decide +kernel)
set_option maxRecDepth 20000 in
theorem gX7_whyNot_X7_reason : GoodIn wsX7_whyNot (wsV RX7 142 RX7 yX7_reason wsX7_reason) := goodIn_app (goodIn_of _ (by decide +kernel)) ggX7_whyNot_X7_reason
theorem dX7_whyNot_0 : decode cX7_whyNot 0 = .ok (.aload_n 0, 1) := by decide +kernel
theorem dX7_whyNot_1 : decode cX7_whyNot 1 = .ok (.iload_n 1, 1) := by decide +kernel
theorem dX7_whyNot_2 : decode cX7_whyNot 2 = .ok (.invokestatic 146, 3) := by decide +kernel
theorem dX7_whyNot_5 : decode cX7_whyNot 5 = .ok (.ifCond .eq 22, 3) := by decide +kernel
theorem dX7_whyNot_8 : decode cX7_whyNot 8 = .ok (.iload_n 2, 1) := by decide +kernel
theorem dX7_whyNot_9 : decode cX7_whyNot 9 = .ok (.invokestatic 104, 3) := by decide +kernel
theorem dX7_whyNot_12 : decode cX7_whyNot 12 = .ok (.ifCond .eq 15, 3) := by decide +kernel
theorem dX7_whyNot_15 : decode cX7_whyNot 15 = .ok (.aload_n 0, 1) := by decide +kernel
