set_option maxRecDepth 20000 in
theorem gX7_lastDay_X7_of : GoodIn wsX7_lastDay (wsV RX7 45 RX7 yX7_of wsX7_of) := goodIn_app (goodIn_of _ (by decide +kernel)) ggX7_lastDay_X7_of
theorem dX7_lastDay_0 : decode cX7_lastDay 0 = .ok (.iload_n 1, 1) := by decide +kernel
theorem dX7_lastDay_1 : decode cX7_lastDay 1 = .ok (.iconst 3, 1) := by decide +kernel
theorem dX7_lastDay_2 : decode cX7_lastDay 2 = .ok (.idiv, 1) := by decide +kernel
theorem dX7_lastDay_3 : decode cX7_lastDay 3 = .ok (.aload_n 0, 1) := by decide +kernel
theorem dX7_lastDay_4 : decode cX7_lastDay 4 = .ok (.aload_n 0, 1) := by decide +kernel
theorem dX7_lastDay_5 : decode cX7_lastDay 5 = .ok (.getfield 7, 3) := by decide +kernel
theorem dX7_lastDay_8 : decode cX7_lastDay 8 = .ok (.bipush 89, 2) := by decide +kernel
theorem dX7_lastDay_10 : decode cX7_lastDay 10 = .ok (.iload_n 1, 1) := by decide +kernel
theorem dX7_lastDay_11 : decode cX7_lastDay 11 = .ok (.iadd, 1) := by decide +kernel
theorem dX7_lastDay_12 : decode cX7_lastDay 12 = .ok (.iaload, 1) := by decide +kernel
theorem dX7_lastDay_13 : decode cX7_lastDay 13 = .ok (.iconst 5, 1) := by decide +kernel
theorem dX7_lastDay_14 : decode cX7_lastDay 14 = .ok (.invokevirtual 45, 3) := by decide +kernel
theorem dX7_lastDay_17 : decode cX7_lastDay 17 = .ok (.iadd, 1) := by decide +kernel
theorem dX7_lastDay_18 : decode cX7_lastDay 18 = .ok (.ireturn, 1) := by decide +kernel
set_option maxRecDepth 20000 in
theorem ggX7_isThere_X7_isSource : GoodIn wsX7_isThere wsX7_isSource := goodIn_r _ [7, 2, 8, 9, 10, 6, 11, 16, 17, 18, 19, 20, 21, 22, 23, 24, 25, 26, 27, 28, 29, 30] rfl (by decide +kernel)
set_option maxRecDepth 20000 in
theorem gX7_isThere_X7_isSource : GoodIn wsX7_isThere (wsV RX7 49 RX7 yX7_isSource wsX7_isSource) := goodIn_app (goodIn_of _ (by decide +kernel)) ggX7_isThere_X7_isSource
set_option maxRecDepth 20000 in
theorem ggX7_isThere_X7_of : GoodIn wsX7_isThere wsX7_of := goodIn_r _ [11, 2, 16, 17, 18, 19, 20, 21, 22, 23, 24, 25, 26, 27, 28, 29, 30] rfl (by decide +kernel)
set_option maxRecDepth 20000 in
theorem gX7_isThere_X7_of : GoodIn wsX7_isThere (wsV RX7 45 RX7 yX7_of wsX7_of) := goodIn_app (goodIn_of _ (by decide +kernel)) ggX7_isThere_X7_of
set_option maxRecDepth 20000 in
theorem ggX7_isThere_X7_lastDay : GoodIn wsX7_isThere wsX7_lastDay := goodIn_r _ [15, 2, 8, 9, 10, 6, 11, 16, 17, 18, 19, 20, 21, 22, 23, 24, 25, 26, 27, 28, 29, 30] rfl (by decide +kernel)
set_option maxRecDepth 20000 in
theorem gX7_isThere_X7_lastDay : GoodIn wsX7_isThere (wsV RX7 53 RX7 yX7_lastDay wsX7_lastDay) := goodIn_app (goodIn_of _ (by decide +kernel)) ggX7_isThere_X7_lastDay
theorem dX7_isThere_0 : decode cX7_isThere 0 = .ok (.aload_n 0, 1) := by decide +kernel
theorem dX7_isThere_1 : decode cX7_isThere 1 = .ok (.iload_n 1, 1) := by decide +kernel
theorem dX7_isThere_2 : decode cX7_isThere 2 = .ok (.invokevirtual 49, 3) := by decide +kernel
theorem dX7_isThere_5 : decode cX7_isThere 5 = .ok (.ifCond .eq 50, 3) := by decide +kernel
theorem dX7_isThere_8 : decode cX7_isThere 8 = .ok (.aload_n 0, 1) := by decide +kernel
theorem dX7_isThere_9 : decode cX7_isThere 9 = .ok (.getfield 28, 3) := by decide +kernel
theorem dX7_isThere_12 : decode cX7_isThere 12 = .ok (.iload_n 1, 1) := by decide +kernel
theorem dX7_isThere_13 : decode cX7_isThere 13 = .ok (.iaload, 1) := by decide +kernel
theorem dX7_isThere_14 : decode cX7_isThere 14 = .ok (.ifCond .ne 41, 3) := by decide +kernel
theorem dX7_isThere_17 : decode cX7_isThere 17 = .ok (.aload_n 0, 1) := by decide +kernel
theorem dX7_isThere_18 : decode cX7_isThere 18 = .ok (.aload_n 0, 1) := by decide +kernel
theorem dX7_isThere_19 : decode cX7_isThere 19 = .ok (.getfield 7, 3) := by decide +kernel
theorem dX7_isThere_22 : decode cX7_isThere 22 = .ok (.bipush 89, 2) := by decide +kernel
theorem dX7_isThere_24 : decode cX7_isThere 24 = .ok (.iload_n 1, 1) := by decide +kernel
theorem dX7_isThere_25 : decode cX7_isThere 25 = .ok (.iadd, 1) := by decide +kernel
theorem dX7_isThere_26 : decode cX7_isThere 26 = .ok (.iaload, 1) := by decide +kernel
theorem dX7_isThere_27 : decode cX7_isThere 27 = .ok (.iconst 4, 1) := by decide +kernel
theorem dX7_isThere_28 : decode cX7_isThere 28 = .ok (.invokevirtual 45, 3) := by decide +kernel
theorem dX7_isThere_31 : decode cX7_isThere 31 = .ok (.iload_n 2, 1) := by decide +kernel
theorem dX7_isThere_32 : decode cX7_isThere 32 = .ok (.if_icmp .ne 23, 3) := by decide +kernel
theorem dX7_isThere_35 : decode cX7_isThere 35 = .ok (.iload_n 1, 1) := by decide +kernel
theorem dX7_isThere_36 : decode cX7_isThere 36 = .ok (.iconst 3, 1) := by decide +kernel
theorem dX7_isThere_37 : decode cX7_isThere 37 = .ok (.idiv, 1) := by decide +kernel
theorem dX7_isThere_38 : decode cX7_isThere 38 = .ok (.iload_n 3, 1) := by decide +kernel
theorem dX7_isThere_39 : decode cX7_isThere 39 = .ok (.if_icmp .ge 16, 3) := by decide +kernel
theorem dX7_isThere_42 : decode cX7_isThere 42 = .ok (.aload_n 0, 1) := by decide +kernel
theorem dX7_isThere_43 : decode cX7_isThere 43 = .ok (.iload_n 1, 1) := by decide +kernel
theorem dX7_isThere_44 : decode cX7_isThere 44 = .ok (.invokevirtual 53, 3) := by decide +kernel
theorem dX7_isThere_47 : decode cX7_isThere 47 = .ok (.iload_n 3, 1) := by decide +kernel
theorem dX7_isThere_48 : decode cX7_isThere 48 = .ok (.if_icmp .lt 7, 3) := by decide +kernel
theorem dX7_isThere_51 : decode cX7_isThere 51 = .ok (.iconst 1, 1) := by decide +kernel
theorem dX7_isThere_52 : decode cX7_isThere 52 = .ok (.goto 4, 3) := by decide +kernel
theorem dX7_isThere_55 : decode cX7_isThere 55 = .ok (.iconst 0, 1) := by decide +kernel
theorem dX7_isThere_56 : decode cX7_isThere 56 = .ok (.ireturn, 1) := by decide +kernel
set_option maxRecDepth 20000 in
theorem ggX7_sourceFor_X7_isThere : GoodIn wsX7_sourceFor wsX7_isThere := goodIn_r _ [5, 6, 7, 8, 9, 10, 4, 11, 12, 13, 14, 15, 16, 17, 18, 19, 20, 21, 22, 23, 24, 25, 26, 27, 28, 29, 30, 31, 32, 33, 34] rfl (by decide +kernel)
set_option maxRecDepth 20000 in
theorem gX7_sourceFor_X7_isThere : GoodIn wsX7_sourceFor (wsV RX7 57 RX7 yX7_isThere wsX7_isThere) := goodIn_app (goodIn_of _ (by decide +kernel)) ggX7_sourceFor_X7_isThere
set_option maxRecDepth 20000 in
theorem ggX7_sourceFor_X7_lastDay : GoodIn wsX7_sourceFor wsX7_lastDay := goodIn_r _ [19, 7, 12, 13, 14, 4, 15, 20, 21, 22, 23, 24, 25, 26, 27, 28, 29, 30, 31, 32, 33, 34] rfl (by decide +kernel)
set_option maxRecDepth 20000 in
theorem gX7_sourceFor_X7_lastDay : GoodIn wsX7_sourceFor (wsV RX7 53 RX7 yX7_lastDay wsX7_lastDay) := goodIn_app (goodIn_of _ (by decide +kernel)) ggX7_sourceFor_X7_lastDay
theorem dX7_sourceFor_0 : decode cX7_sourceFor 0 = .ok (.iconst (-1), 1) := by decide +kernel
theorem dX7_sourceFor_1 : decode cX7_sourceFor 1 = .ok (.istore_n 3, 1) := by decide +kernel
theorem dX7_sourceFor_2 : decode cX7_sourceFor 2 = .ok (.iconst 0, 1) := by decide +kernel
theorem dX7_sourceFor_3 : decode cX7_sourceFor 3 = .ok (.istore 4, 2) := by decide +kernel
theorem dX7_sourceFor_5 : decode cX7_sourceFor 5 = .ok (.iload 4, 2) := by decide +kernel
theorem dX7_sourceFor_7 : decode cX7_sourceFor 7 = .ok (.iconst 3, 1) := by decide +kernel
theorem dX7_sourceFor_8 : decode cX7_sourceFor 8 = .ok (.iload_n 2, 1) := by decide +kernel
theorem dX7_sourceFor_9 : decode cX7_sourceFor 9 = .ok (.imul, 1) := by decide +kernel
theorem dX7_sourceFor_10 : decode cX7_sourceFor 10 = .ok (.if_icmp .ge 46, 3) := by decide +kernel
theorem dX7_sourceFor_13 : decode cX7_sourceFor 13 = .ok (.aload_n 0, 1) := by decide +kernel
theorem dX7_sourceFor_14 : decode cX7_sourceFor 14 = .ok (.iload 4, 2) := by decide +kernel
theorem dX7_sourceFor_16 : decode cX7_sourceFor 16 = .ok (.iload_n 1, 1) := by decide +kernel
theorem dX7_sourceFor_17 : decode cX7_sourceFor 17 = .ok (.iload_n 2, 1) := by decide +kernel
theorem dX7_sourceFor_18 : decode cX7_sourceFor 18 = .ok (.invokevirtual 57, 3) := by decide +kernel
theorem dX7_sourceFor_21 : decode cX7_sourceFor 21 = .ok (.ifCond .eq 27, 3) := by decide +kernel
theorem dX7_sourceFor_24 : decode cX7_sourceFor 24 = .ok (.iload_n 3, 1) := by decide +kernel
theorem dX7_sourceFor_25 : decode cX7_sourceFor 25 = .ok (.iconst (-1), 1) := by decide +kernel
theorem dX7_sourceFor_26 : decode cX7_sourceFor 26 = .ok (.if_icmp .eq 17, 3) := by decide +kernel
theorem dX7_sourceFor_29 : decode cX7_sourceFor 29 = .ok (.aload_n 0, 1) := by decide +kernel
theorem dX7_sourceFor_30 : decode cX7_sourceFor 30 = .ok (.iload 4, 2) := by decide +kernel
theorem dX7_sourceFor_32 : decode cX7_sourceFor 32 = .ok (.invokevirtual 53, 3) := by decide +kernel
theorem dX7_sourceFor_35 : decode cX7_sourceFor 35 = .ok (.aload_n 0, 1) := by decide +kernel
theorem dX7_sourceFor_36 : decode cX7_sourceFor 36 = .ok (.iload_n 3, 1) := by decide +kernel
theorem dX7_sourceFor_37 : decode cX7_sourceFor 37 = .ok (.invokevirtual 53, 3) := by decide +kernel
theorem dX7_sourceFor_40 : decode cX7_sourceFor 40 = .ok (.if_icmp .ge 8, 3) := by decide +kernel
theorem dX7_sourceFor_43 : decode cX7_sourceFor 43 = .ok (.iload 4, 2) := by decide +kernel
theorem dX7_sourceFor_45 : decode cX7_sourceFor 45 = .ok (.goto 4, 3) := by decide +kernel
theorem dX7_sourceFor_48 : decode cX7_sourceFor 48 = .ok (.iload_n 3, 1) := by decide +kernel
theorem dX7_sourceFor_49 : decode cX7_sourceFor 49 = .ok (.istore_n 3, 1) := by decide +kernel
theorem dX7_sourceFor_50 : decode cX7_sourceFor 50 = .ok (.iinc 4 1, 3) := by decide +kernel
theorem dX7_sourceFor_53 : decode cX7_sourceFor 53 = .ok (.goto (-48), 3) := by decide +kernel
theorem dX7_sourceFor_56 : decode cX7_sourceFor 56 = .ok (.iload_n 3, 1) := by decide +kernel
theorem dX7_sourceFor_57 : decode cX7_sourceFor 57 = .ok (.ireturn, 1) := by decide +kernel
set_option maxRecDepth 20000 in
theorem ggX7_match_X7_isLeftover : GoodIn wsX7_match wsX7_isLeftover := goodIn_r _ [8, 3, 9, 10, 11, 7, 12, 29, 30, 31, 32, 33, 34, 35, 36, 37, 38, 39, 40, 41, 42, 43] rfl (by decide +kernel)
set_option maxRecDepth 20000 in
theorem gX7_match_X7_isLeftover : GoodIn wsX7_match (wsV RX7 60 RX7 yX7_isLeftover wsX7_isLeftover) := goodIn_app (goodIn_of _ (by decide +kernel)) ggX7_match_X7_isLeftover
set_option maxRecDepth 20000 in
theorem ggX7_match_X7_sourceFor : GoodIn wsX7_match wsX7_sourceFor := goodIn_r _ [16, 17, 18, 19, 7, 20, 2, 3, 21, 22, 23, 24, 9, 10, 11, 12, 25, 26, 27, 28, 29, 30, 31, 32, 33, 34, 35, 36, 37, 38, 39, 40, 41, 42, 43] rfl (by decide +kernel)
set_option maxRecDepth 20000 in
theorem gX7_match_X7_sourceFor : GoodIn wsX7_match (wsV RX7 63 RX7 yX7_sourceFor wsX7_sourceFor) := goodIn_app (goodIn_of _ (by decide +kernel)) ggX7_match_X7_sourceFor
theorem dX7_match_0 : decode cX7_match 0 = .ok (.iconst 0, 1) := by decide +kernel
theorem dX7_match_1 : decode cX7_match 1 = .ok (.istore_n 1, 1) := by decide +kernel
theorem dX7_match_2 : decode cX7_match 2 = .ok (.iload_n 1, 1) := by decide +kernel
theorem dX7_match_3 : decode cX7_match 3 = .ok (.bipush 84, 2) := by decide +kernel
theorem dX7_match_5 : decode cX7_match 5 = .ok (.if_icmp .ge 23, 3) := by decide +kernel
theorem dX7_match_8 : decode cX7_match 8 = .ok (.aload_n 0, 1) := by decide +kernel
theorem dX7_match_9 : decode cX7_match 9 = .ok (.getfield 25, 3) := by decide +kernel
theorem dX7_match_12 : decode cX7_match 12 = .ok (.iload_n 1, 1) := by decide +kernel
theorem dX7_match_13 : decode cX7_match 13 = .ok (.iconst (-1), 1) := by decide +kernel
theorem dX7_match_14 : decode cX7_match 14 = .ok (.iastore, 1) := by decide +kernel
theorem dX7_match_15 : decode cX7_match 15 = .ok (.aload_n 0, 1) := by decide +kernel
theorem dX7_match_16 : decode cX7_match 16 = .ok (.getfield 28, 3) := by decide +kernel
theorem dX7_match_19 : decode cX7_match 19 = .ok (.iload_n 1, 1) := by decide +kernel
theorem dX7_match_20 : decode cX7_match 20 = .ok (.iconst 0, 1) := by decide +kernel
theorem dX7_match_21 : decode cX7_match 21 = .ok (.iastore, 1) := by decide +kernel
theorem dX7_match_22 : decode cX7_match 22 = .ok (.iinc 1 1, 3) := by decide +kernel
theorem dX7_match_25 : decode cX7_match 25 = .ok (.goto (-23), 3) := by decide +kernel
theorem dX7_match_28 : decode cX7_match 28 = .ok (.iconst 1, 1) := by decide +kernel
theorem dX7_match_29 : decode cX7_match 29 = .ok (.istore_n 1, 1) := by decide +kernel
theorem dX7_match_30 : decode cX7_match 30 = .ok (.iconst 0, 1) := by decide +kernel
theorem dX7_match_31 : decode cX7_match 31 = .ok (.istore_n 2, 1) := by decide +kernel
theorem dX7_match_32 : decode cX7_match 32 = .ok (.iload_n 2, 1) := by decide +kernel
theorem dX7_match_33 : decode cX7_match 33 = .ok (.bipush 84, 2) := by decide +kernel
theorem dX7_match_35 : decode cX7_match 35 = .ok (.if_icmp .ge 80, 3) := by decide +kernel
theorem dX7_match_38 : decode cX7_match 38 = .ok (.aload_n 0, 1) := by decide +kernel
theorem dX7_match_39 : decode cX7_match 39 = .ok (.getfield 7, 3) := by decide +kernel
theorem dX7_match_42 : decode cX7_match 42 = .ok (.bipush 89, 2) := by decide +kernel
theorem dX7_match_44 : decode cX7_match 44 = .ok (.iload_n 2, 1) := by decide +kernel
theorem dX7_match_45 : decode cX7_match 45 = .ok (.iadd, 1) := by decide +kernel
theorem dX7_match_46 : decode cX7_match 46 = .ok (.iaload, 1) := by decide +kernel
theorem dX7_match_47 : decode cX7_match 47 = .ok (.istore_n 3, 1) := by decide +kernel
theorem dX7_match_48 : decode cX7_match 48 = .ok (.iload_n 3, 1) := by decide +kernel
theorem dX7_match_49 : decode cX7_match 49 = .ok (.iconst (-1), 1) := by decide +kernel
theorem dX7_match_50 : decode cX7_match 50 = .ok (.if_icmp .eq 59, 3) := by decide +kernel
theorem dX7_match_53 : decode cX7_match 53 = .ok (.aload_n 0, 1) := by decide +kernel
theorem dX7_match_54 : decode cX7_match 54 = .ok (.iload_n 3, 1) := by decide +kernel
theorem dX7_match_55 : decode cX7_match 55 = .ok (.invokevirtual 60, 3) := by decide +kernel
theorem dX7_match_58 : decode cX7_match 58 = .ok (.ifCond .eq 51, 3) := by decide +kernel
theorem dX7_match_61 : decode cX7_match 61 = .ok (.aload_n 0, 1) := by decide +kernel
theorem dX7_match_62 : decode cX7_match 62 = .ok (.iload_n 3, 1) := by decide +kernel
theorem dX7_match_63 : decode cX7_match 63 = .ok (.iload_n 2, 1) := by decide +kernel
theorem dX7_match_64 : decode cX7_match 64 = .ok (.iconst 3, 1) := by decide +kernel
theorem dX7_match_65 : decode cX7_match 65 = .ok (.idiv, 1) := by decide +kernel
theorem dX7_match_66 : decode cX7_match 66 = .ok (.invokevirtual 63, 3) := by decide +kernel
theorem dX7_match_69 : decode cX7_match 69 = .ok (.istore 4, 2) := by decide +kernel
theorem dX7_match_71 : decode cX7_match 71 = .ok (.aload_n 0, 1) := by decide +kernel
theorem dX7_match_72 : decode cX7_match 72 = .ok (.getfield 25, 3) := by decide +kernel
theorem dX7_match_75 : decode cX7_match 75 = .ok (.iload_n 2, 1) := by decide +kernel
theorem dX7_match_76 : decode cX7_match 76 = .ok (.iload 4, 2) := by decide +kernel
theorem dX7_match_78 : decode cX7_match 78 = .ok (.iastore, 1) := by decide +kernel
theorem dX7_match_79 : decode cX7_match 79 = .ok (.iload_n 1, 1) := by decide +kernel
theorem dX7_match_80 : decode cX7_match 80 = .ok (.ifCond .eq 13, 3) := by decide +kernel
theorem dX7_match_83 : decode cX7_match 83 = .ok (.iload 4, 2) := by decide +kernel
theorem dX7_match_85 : decode cX7_match 85 = .ok (.iconst (-1), 1) := by decide +kernel
theorem dX7_match_86 : decode cX7_match 86 = .ok (.if_icmp .eq 7, 3) := by decide +kernel
theorem dX7_match_89 : decode cX7_match 89 = .ok (.iconst 1, 1) := by decide +kernel
theorem dX7_match_90 : decode cX7_match 90 = .ok (.goto 4, 3) := by decide +kernel
theorem dX7_match_93 : decode cX7_match 93 = .ok (.iconst 0, 1) := by decide +kernel
theorem dX7_match_94 : decode cX7_match 94 = .ok (.istore_n 1, 1) := by decide +kernel
theorem dX7_match_95 : decode cX7_match 95 = .ok (.iload 4, 2) := by decide +kernel
theorem dX7_match_97 : decode cX7_match 97 = .ok (.iconst (-1), 1) := by decide +kernel
theorem dX7_match_98 : decode cX7_match 98 = .ok (.if_icmp .eq 11, 3) := by decide +kernel
theorem dX7_match_101 : decode cX7_match 101 = .ok (.aload_n 0, 1) := by decide +kernel
theorem dX7_match_102 : decode cX7_match 102 = .ok (.getfield 28, 3) := by decide +kernel
theorem dX7_match_105 : decode cX7_match 105 = .ok (.iload 4, 2) := by decide +kernel
theorem dX7_match_107 : decode cX7_match 107 = .ok (.iconst 1, 1) := by decide +kernel
theorem dX7_match_108 : decode cX7_match 108 = .ok (.iastore, 1) := by decide +kernel
theorem dX7_match_109 : decode cX7_match 109 = .ok (.iinc 2 1, 3) := by decide +kernel
theorem dX7_match_112 : decode cX7_match 112 = .ok (.goto (-80), 3) := by decide +kernel
theorem dX7_match_115 : decode cX7_match 115 = .ok (.iload_n 1, 1) := by decide +kernel
theorem dX7_match_116 : decode cX7_match 116 = .ok (.ireturn, 1) := by decide +kernel
set_option maxRecDepth 20000 in
theorem ggX7_vetoed_X7_ofGuest : GoodIn wsX7_vetoed wsX7_ofGuest := goodIn_r _ [6, 1, 10, 11, 12, 13, 14, 15, 16, 17, 18, 19, 20, 21, 22, 23, 24] rfl (by decide +kernel)
set_option maxRecDepth 20000 in
theorem gX7_vetoed_X7_ofGuest : GoodIn wsX7_vetoed (wsV RX7 66 RX7 yX7_ofGuest wsX7_ofGuest) := goodIn_app (goodIn_of _ (by decide +kernel)) ggX7_vetoed_X7_ofGuest
set_option maxRecDepth 20000 in
theorem ggX7_vetoed_X7_has : GoodIn wsX7_vetoed wsX7_has := goodIn_r _ [9] rfl (by decide +kernel)
set_option maxRecDepth 20000 in
theorem gX7_vetoed_X7_has : GoodIn wsX7_vetoed (va_wsS RX7 69 yX7_has wsX7_has) := goodIn_app (goodIn_of _ (by decide +kernel)) ggX7_vetoed_X7_has
theorem dX7_vetoed_0 : decode cX7_vetoed 0 = .ok (.iconst 0, 1) := by decide +kernel
theorem dX7_vetoed_1 : decode cX7_vetoed 1 = .ok (.istore_n 2, 1) := by decide +kernel
theorem dX7_vetoed_2 : decode cX7_vetoed 2 = .ok (.iconst 0, 1) := by decide +kernel
theorem dX7_vetoed_3 : decode cX7_vetoed 3 = .ok (.istore_n 3, 1) := by decide +kernel
theorem dX7_vetoed_4 : decode cX7_vetoed 4 = .ok (.iload_n 3, 1) := by decide +kernel
theorem dX7_vetoed_5 : decode cX7_vetoed 5 = .ok (.aload_n 0, 1) := by decide +kernel
theorem dX7_vetoed_6 : decode cX7_vetoed 6 = .ok (.getfield 7, 3) := by decide +kernel
theorem dX7_vetoed_9 : decode cX7_vetoed 9 = .ok (.iconst 4, 1) := by decide +kernel
theorem dX7_vetoed_10 : decode cX7_vetoed 10 = .ok (.iaload, 1) := by decide +kernel
theorem dX7_vetoed_11 : decode cX7_vetoed 11 = .ok (.if_icmp .ge 38, 3) := by decide +kernel
theorem dX7_vetoed_14 : decode cX7_vetoed 14 = .ok (.iload_n 2, 1) := by decide +kernel
theorem dX7_vetoed_15 : decode cX7_vetoed 15 = .ok (.aload_n 0, 1) := by decide +kernel
theorem dX7_vetoed_16 : decode cX7_vetoed 16 = .ok (.iload_n 3, 1) := by decide +kernel
theorem dX7_vetoed_17 : decode cX7_vetoed 17 = .ok (.iconst 0, 1) := by decide +kernel
theorem dX7_vetoed_18 : decode cX7_vetoed 18 = .ok (.invokevirtual 66, 3) := by decide +kernel
theorem dX7_vetoed_21 : decode cX7_vetoed 21 = .ok (.iload_n 1, 1) := by decide +kernel
theorem dX7_vetoed_22 : decode cX7_vetoed 22 = .ok (.bipush 7, 2) := by decide +kernel
theorem dX7_vetoed_24 : decode cX7_vetoed 24 = .ok (.irem, 1) := by decide +kernel
theorem dX7_vetoed_25 : decode cX7_vetoed 25 = .ok (.invokestatic 69, 3) := by decide +kernel
theorem dX7_vetoed_28 : decode cX7_vetoed 28 = .ok (.ifCond .eq 12, 3) := by decide +kernel
theorem dX7_vetoed_31 : decode cX7_vetoed 31 = .ok (.aload_n 0, 1) := by decide +kernel
theorem dX7_vetoed_32 : decode cX7_vetoed 32 = .ok (.iload_n 3, 1) := by decide +kernel
theorem dX7_vetoed_33 : decode cX7_vetoed 33 = .ok (.iconst 1, 1) := by decide +kernel
theorem dX7_vetoed_34 : decode cX7_vetoed 34 = .ok (.invokevirtual 66, 3) := by decide +kernel
theorem dX7_vetoed_37 : decode cX7_vetoed 37 = .ok (.goto 4, 3) := by decide +kernel
theorem dX7_vetoed_40 : decode cX7_vetoed 40 = .ok (.iconst 0, 1) := by decide +kernel
theorem dX7_vetoed_41 : decode cX7_vetoed 41 = .ok (.ior, 1) := by decide +kernel
theorem dX7_vetoed_42 : decode cX7_vetoed 42 = .ok (.istore_n 2, 1) := by decide +kernel
theorem dX7_vetoed_43 : decode cX7_vetoed 43 = .ok (.iinc 3 1, 3) := by decide +kernel
theorem dX7_vetoed_46 : decode cX7_vetoed 46 = .ok (.goto (-42), 3) := by decide +kernel
theorem dX7_vetoed_49 : decode cX7_vetoed 49 = .ok (.iload_n 2, 1) := by decide +kernel
theorem dX7_vetoed_50 : decode cX7_vetoed 50 = .ok (.ireturn, 1) := by decide +kernel
set_option maxRecDepth 20000 in
theorem ggX7_isVetoed_X7_vetoed : GoodIn wsX7_isVetoed wsX7_vetoed := goodIn_r _ [5, 6, 7, 8, 9, 4, 10, 11, 12, 13, 18, 19, 20, 21, 22, 23, 24, 25, 26, 27, 28, 29, 30, 31, 32] rfl (by decide +kernel)
set_option maxRecDepth 20000 in
theorem gX7_isVetoed_X7_vetoed : GoodIn wsX7_isVetoed (wsV RX7 73 RX7 yX7_vetoed wsX7_vetoed) := goodIn_app (goodIn_of _ (by decide +kernel)) ggX7_isVetoed_X7_vetoed
set_option maxRecDepth 20000 in
theorem ggX7_isVetoed_X7_of : GoodIn wsX7_isVetoed wsX7_of := goodIn_r _ [17, 6, 18, 19, 20, 21, 22, 23, 24, 25, 26, 27, 28, 29, 30, 31, 32] rfl (by decide +kernel)
set_option maxRecDepth 20000 in
theorem gX7_isVetoed_X7_of : GoodIn wsX7_isVetoed (wsV RX7 45 RX7 yX7_of wsX7_of) := goodIn_app (goodIn_of _ (by decide +kernel)) ggX7_isVetoed_X7_of
set_option maxRecDepth 20000 in
theorem ggX7_isVetoed_X7_has : GoodIn wsX7_isVetoed wsX7_has := goodIn_r _ [13] rfl (by decide +kernel)
set_option maxRecDepth 20000 in
theorem gX7_isVetoed_X7_has : GoodIn wsX7_isVetoed (va_wsS RX7 69 yX7_has wsX7_has) := goodIn_app (goodIn_of _ (by decide +kernel)) ggX7_isVetoed_X7_has
theorem dX7_isVetoed_0 : decode cX7_isVetoed 0 = .ok (.aload_n 0, 1) := by decide +kernel
theorem dX7_isVetoed_1 : decode cX7_isVetoed 1 = .ok (.iload_n 1, 1) := by decide +kernel
theorem dX7_isVetoed_2 : decode cX7_isVetoed 2 = .ok (.invokevirtual 73, 3) := by decide +kernel
theorem dX7_isVetoed_5 : decode cX7_isVetoed 5 = .ok (.aload_n 0, 1) := by decide +kernel
theorem dX7_isVetoed_6 : decode cX7_isVetoed 6 = .ok (.iload_n 2, 1) := by decide +kernel
theorem dX7_isVetoed_7 : decode cX7_isVetoed 7 = .ok (.iconst 2, 1) := by decide +kernel
theorem dX7_isVetoed_8 : decode cX7_isVetoed 8 = .ok (.invokevirtual 45, 3) := by decide +kernel
theorem dX7_isVetoed_11 : decode cX7_isVetoed 11 = .ok (.invokestatic 69, 3) := by decide +kernel
theorem dX7_isVetoed_14 : decode cX7_isVetoed 14 = .ok (.ireturn, 1) := by decide +kernel
set_option maxRecDepth 20000 in
theorem ggX7_someVetoed_X7_isVetoed : GoodIn wsX7_someVetoed wsX7_isVetoed := goodIn_r _ [6, 7, 8, 9, 5, 10, 1, 11, 12, 13, 14, 15, 16, 17, 18, 19, 20, 21, 22, 23, 24, 25, 26, 27, 28, 29, 30, 31, 32, 33, 34, 35, 36] rfl (by decide +kernel)
set_option maxRecDepth 20000 in
theorem gX7_someVetoed_X7_isVetoed : GoodIn wsX7_someVetoed (wsV RX7 76 RX7 yX7_isVetoed wsX7_isVetoed) := goodIn_app (goodIn_of _ (by decide +kernel)) ggX7_someVetoed_X7_isVetoed
theorem dX7_someVetoed_0 : decode cX7_someVetoed 0 = .ok (.iconst 0, 1) := by decide +kernel
theorem dX7_someVetoed_1 : decode cX7_someVetoed 1 = .ok (.istore_n 1, 1) := by decide +kernel
theorem dX7_someVetoed_2 : decode cX7_someVetoed 2 = .ok (.iconst 0, 1) := by decide +kernel
theorem dX7_someVetoed_3 : decode cX7_someVetoed 3 = .ok (.istore_n 2, 1) := by decide +kernel
theorem dX7_someVetoed_4 : decode cX7_someVetoed 4 = .ok (.iload_n 2, 1) := by decide +kernel
theorem dX7_someVetoed_5 : decode cX7_someVetoed 5 = .ok (.bipush 84, 2) := by decide +kernel
theorem dX7_someVetoed_7 : decode cX7_someVetoed 7 = .ok (.if_icmp .ge 51, 3) := by decide +kernel
theorem dX7_someVetoed_10 : decode cX7_someVetoed 10 = .ok (.iload_n 1, 1) := by decide +kernel
theorem dX7_someVetoed_11 : decode cX7_someVetoed 11 = .ok (.ifCond .ne 35, 3) := by decide +kernel
theorem dX7_someVetoed_14 : decode cX7_someVetoed 14 = .ok (.aload_n 0, 1) := by decide +kernel
theorem dX7_someVetoed_15 : decode cX7_someVetoed 15 = .ok (.getfield 7, 3) := by decide +kernel
theorem dX7_someVetoed_18 : decode cX7_someVetoed 18 = .ok (.bipush 89, 2) := by decide +kernel
theorem dX7_someVetoed_20 : decode cX7_someVetoed 20 = .ok (.iload_n 2, 1) := by decide +kernel
theorem dX7_someVetoed_21 : decode cX7_someVetoed 21 = .ok (.iadd, 1) := by decide +kernel
theorem dX7_someVetoed_22 : decode cX7_someVetoed 22 = .ok (.iaload, 1) := by decide +kernel
theorem dX7_someVetoed_23 : decode cX7_someVetoed 23 = .ok (.iconst (-1), 1) := by decide +kernel
theorem dX7_someVetoed_24 : decode cX7_someVetoed 24 = .ok (.if_icmp .eq 26, 3) := by decide +kernel
theorem dX7_someVetoed_27 : decode cX7_someVetoed 27 = .ok (.aload_n 0, 1) := by decide +kernel
theorem dX7_someVetoed_28 : decode cX7_someVetoed 28 = .ok (.iload_n 2, 1) := by decide +kernel
theorem dX7_someVetoed_29 : decode cX7_someVetoed 29 = .ok (.iconst 3, 1) := by decide +kernel
theorem dX7_someVetoed_30 : decode cX7_someVetoed 30 = .ok (.idiv, 1) := by decide +kernel
theorem dX7_someVetoed_31 : decode cX7_someVetoed 31 = .ok (.aload_n 0, 1) := by decide +kernel
theorem dX7_someVetoed_32 : decode cX7_someVetoed 32 = .ok (.getfield 7, 3) := by decide +kernel
theorem dX7_someVetoed_35 : decode cX7_someVetoed 35 = .ok (.bipush 89, 2) := by decide +kernel
theorem dX7_someVetoed_37 : decode cX7_someVetoed 37 = .ok (.iload_n 2, 1) := by decide +kernel
theorem dX7_someVetoed_38 : decode cX7_someVetoed 38 = .ok (.iadd, 1) := by decide +kernel
theorem dX7_someVetoed_39 : decode cX7_someVetoed 39 = .ok (.iaload, 1) := by decide +kernel
theorem dX7_someVetoed_40 : decode cX7_someVetoed 40 = .ok (.invokevirtual 76, 3) := by decide +kernel
theorem dX7_someVetoed_43 : decode cX7_someVetoed 43 = .ok (.ifCond .eq 7, 3) := by decide +kernel
theorem dX7_someVetoed_46 : decode cX7_someVetoed 46 = .ok (.iconst 1, 1) := by decide +kernel
theorem dX7_someVetoed_47 : decode cX7_someVetoed 47 = .ok (.goto 4, 3) := by decide +kernel
theorem dX7_someVetoed_50 : decode cX7_someVetoed 50 = .ok (.iconst 0, 1) := by decide +kernel
theorem dX7_someVetoed_51 : decode cX7_someVetoed 51 = .ok (.istore_n 1, 1) := by decide +kernel
theorem dX7_someVetoed_52 : decode cX7_someVetoed 52 = .ok (.iinc 2 1, 3) := by decide +kernel
theorem dX7_someVetoed_55 : decode cX7_someVetoed 55 = .ok (.goto (-51), 3) := by decide +kernel
theorem dX7_someVetoed_58 : decode cX7_someVetoed 58 = .ok (.iload_n 1, 1) := by decide +kernel
theorem dX7_someVetoed_59 : decode cX7_someVetoed 59 = .ok (.ireturn, 1) := by decide +kernel
set_option maxRecDepth 20000 in
theorem ggX7_costOf_X7_at : GoodIn wsX7_costOf wsX7_at := goodIn_r _ [5, 6, 11, 12, 13, 14, 15, 16, 17, 18, 19, 20, 21, 22, 23, 24, 25] rfl (by decide +kernel)
set_option maxRecDepth 20000 in
theorem gX7_costOf_X7_at : GoodIn wsX7_costOf (wsV RX7 79 RX7 yX7_at wsX7_at) := goodIn_app (goodIn_of _ (by decide +kernel)) ggX7_costOf_X7_at
set_option maxRecDepth 20000 in
theorem ggX7_costOf_X7_of : GoodIn wsX7_costOf wsX7_of := goodIn_r _ [10, 6, 11, 12, 13, 14, 15, 16, 17, 18, 19, 20, 21, 22, 23, 24, 25] rfl (by decide +kernel)
set_option maxRecDepth 20000 in
theorem gX7_costOf_X7_of : GoodIn wsX7_costOf (wsV RX7 45 RX7 yX7_of wsX7_of) := goodIn_app (goodIn_of _ (by decide +kernel)) ggX7_costOf_X7_of
theorem dX7_costOf_0 : decode cX7_costOf 0 = .ok (.iconst 0, 1) := by decide +kernel
theorem dX7_costOf_1 : decode cX7_costOf 1 = .ok (.istore_n 2, 1) := by decide +kernel
theorem dX7_costOf_2 : decode cX7_costOf 2 = .ok (.iconst 0, 1) := by decide +kernel
theorem dX7_costOf_3 : decode cX7_costOf 3 = .ok (.istore_n 3, 1) := by decide +kernel
theorem dX7_costOf_4 : decode cX7_costOf 4 = .ok (.iload_n 3, 1) := by decide +kernel
theorem dX7_costOf_5 : decode cX7_costOf 5 = .ok (.iconst 3, 1) := by decide +kernel
theorem dX7_costOf_6 : decode cX7_costOf 6 = .ok (.if_icmp .ge 37, 3) := by decide +kernel
theorem dX7_costOf_9 : decode cX7_costOf 9 = .ok (.iload_n 2, 1) := by decide +kernel
theorem dX7_costOf_10 : decode cX7_costOf 10 = .ok (.aload_n 0, 1) := by decide +kernel
theorem dX7_costOf_11 : decode cX7_costOf 11 = .ok (.iload_n 1, 1) := by decide +kernel
theorem dX7_costOf_12 : decode cX7_costOf 12 = .ok (.iload_n 3, 1) := by decide +kernel
theorem dX7_costOf_13 : decode cX7_costOf 13 = .ok (.invokevirtual 79, 3) := by decide +kernel
theorem dX7_costOf_16 : decode cX7_costOf 16 = .ok (.iconst (-1), 1) := by decide +kernel
theorem dX7_costOf_17 : decode cX7_costOf 17 = .ok (.if_icmp .ne 7, 3) := by decide +kernel
theorem dX7_costOf_20 : decode cX7_costOf 20 = .ok (.iconst 0, 1) := by decide +kernel
theorem dX7_costOf_21 : decode cX7_costOf 21 = .ok (.goto 14, 3) := by decide +kernel
theorem dX7_costOf_24 : decode cX7_costOf 24 = .ok (.aload_n 0, 1) := by decide +kernel
theorem dX7_costOf_25 : decode cX7_costOf 25 = .ok (.aload_n 0, 1) := by decide +kernel
theorem dX7_costOf_26 : decode cX7_costOf 26 = .ok (.iload_n 1, 1) := by decide +kernel
theorem dX7_costOf_27 : decode cX7_costOf 27 = .ok (.iload_n 3, 1) := by decide +kernel
theorem dX7_costOf_28 : decode cX7_costOf 28 = .ok (.invokevirtual 79, 3) := by decide +kernel
theorem dX7_costOf_31 : decode cX7_costOf 31 = .ok (.iconst 1, 1) := by decide +kernel
theorem dX7_costOf_32 : decode cX7_costOf 32 = .ok (.invokevirtual 45, 3) := by decide +kernel
theorem dX7_costOf_35 : decode cX7_costOf 35 = .ok (.iadd, 1) := by decide +kernel
theorem dX7_costOf_36 : decode cX7_costOf 36 = .ok (.istore_n 2, 1) := by decide +kernel
theorem dX7_costOf_37 : decode cX7_costOf 37 = .ok (.iinc 3 1, 3) := by decide +kernel
theorem dX7_costOf_40 : decode cX7_costOf 40 = .ok (.goto (-36), 3) := by decide +kernel
theorem dX7_costOf_43 : decode cX7_costOf 43 = .ok (.iload_n 2, 1) := by decide +kernel
theorem dX7_costOf_44 : decode cX7_costOf 44 = .ok (.ireturn, 1) := by decide +kernel
set_option maxRecDepth 20000 in
theorem ggX7_weekCost_X7_costOf : GoodIn wsX7_weekCost wsX7_costOf := goodIn_r _ [5, 6, 7, 8, 4, 9, 10, 11, 12, 13, 14, 15, 16, 17, 18, 19, 20, 21, 22, 23, 24, 25, 26, 27, 28, 29] rfl (by decide +kernel)
set_option maxRecDepth 20000 in
theorem gX7_weekCost_X7_costOf : GoodIn wsX7_weekCost (wsV RX7 82 RX7 yX7_costOf wsX7_costOf) := goodIn_app (goodIn_of _ (by decide +kernel)) ggX7_weekCost_X7_costOf
theorem dX7_weekCost_0 : decode cX7_weekCost 0 = .ok (.iconst 0, 1) := by decide +kernel
theorem dX7_weekCost_1 : decode cX7_weekCost 1 = .ok (.istore_n 2, 1) := by decide +kernel
theorem dX7_weekCost_2 : decode cX7_weekCost 2 = .ok (.bipush 7, 2) := by decide +kernel
theorem dX7_weekCost_4 : decode cX7_weekCost 4 = .ok (.iload_n 1, 1) := by decide +kernel
theorem dX7_weekCost_5 : decode cX7_weekCost 5 = .ok (.imul, 1) := by decide +kernel
theorem dX7_weekCost_6 : decode cX7_weekCost 6 = .ok (.istore_n 3, 1) := by decide +kernel
theorem dX7_weekCost_7 : decode cX7_weekCost 7 = .ok (.iload_n 3, 1) := by decide +kernel
theorem dX7_weekCost_8 : decode cX7_weekCost 8 = .ok (.bipush 7, 2) := by decide +kernel
theorem dX7_weekCost_10 : decode cX7_weekCost 10 = .ok (.iload_n 1, 1) := by decide +kernel
theorem dX7_weekCost_11 : decode cX7_weekCost 11 = .ok (.imul, 1) := by decide +kernel
theorem dX7_weekCost_12 : decode cX7_weekCost 12 = .ok (.bipush 7, 2) := by decide +kernel
theorem dX7_weekCost_14 : decode cX7_weekCost 14 = .ok (.iadd, 1) := by decide +kernel
theorem dX7_weekCost_15 : decode cX7_weekCost 15 = .ok (.if_icmp .ge 17, 3) := by decide +kernel
theorem dX7_weekCost_18 : decode cX7_weekCost 18 = .ok (.iload_n 2, 1) := by decide +kernel
theorem dX7_weekCost_19 : decode cX7_weekCost 19 = .ok (.aload_n 0, 1) := by decide +kernel
theorem dX7_weekCost_20 : decode cX7_weekCost 20 = .ok (.iload_n 3, 1) := by decide +kernel
theorem dX7_weekCost_21 : decode cX7_weekCost 21 = .ok (.invokevirtual 82, 3) := by decide +kernel
theorem dX7_weekCost_24 : decode cX7_weekCost 24 = .ok (.iadd, 1) := by decide +kernel
theorem dX7_weekCost_25 : decode cX7_weekCost 25 = .ok (.istore_n 2, 1) := by decide +kernel
theorem dX7_weekCost_26 : decode cX7_weekCost 26 = .ok (.iinc 3 1, 3) := by decide +kernel
theorem dX7_weekCost_29 : decode cX7_weekCost 29 = .ok (.goto (-22), 3) := by decide +kernel
theorem dX7_weekCost_32 : decode cX7_weekCost 32 = .ok (.iload_n 2, 1) := by decide +kernel
theorem dX7_weekCost_33 : decode cX7_weekCost 33 = .ok (.ireturn, 1) := by decide +kernel
set_option maxRecDepth 20000 in
theorem ggX7_isDear_X7_weekCost : GoodIn wsX7_isDear wsX7_weekCost := goodIn_r _ [5, 6, 7, 8, 4, 9, 10, 11, 12, 13, 14, 15, 16, 17, 18, 19, 20, 21, 22, 23, 24, 25, 26, 27, 28, 29, 30, 31, 32, 33] rfl (by decide +kernel)
set_option maxRecDepth 20000 in
theorem gX7_isDear_X7_weekCost : GoodIn wsX7_isDear (wsV RX7 85 RX7 yX7_weekCost wsX7_weekCost) := goodIn_app (goodIn_of _ (by decide +kernel)) ggX7_isDear_X7_weekCost
theorem dX7_isDear_0 : decode cX7_isDear 0 = .ok (.iconst 0, 1) := by decide +kernel
theorem dX7_isDear_1 : decode cX7_isDear 1 = .ok (.istore_n 2, 1) := by decide +kernel
theorem dX7_isDear_2 : decode cX7_isDear 2 = .ok (.iconst 0, 1) := by decide +kernel
theorem dX7_isDear_3 : decode cX7_isDear 3 = .ok (.istore_n 3, 1) := by decide +kernel
theorem dX7_isDear_4 : decode cX7_isDear 4 = .ok (.iload_n 3, 1) := by decide +kernel
theorem dX7_isDear_5 : decode cX7_isDear 5 = .ok (.iconst 4, 1) := by decide +kernel
theorem dX7_isDear_6 : decode cX7_isDear 6 = .ok (.if_icmp .ge 28, 3) := by decide +kernel
theorem dX7_isDear_9 : decode cX7_isDear 9 = .ok (.iload_n 2, 1) := by decide +kernel
theorem dX7_isDear_10 : decode cX7_isDear 10 = .ok (.ifCond .ne 12, 3) := by decide +kernel
theorem dX7_isDear_13 : decode cX7_isDear 13 = .ok (.aload_n 0, 1) := by decide +kernel
theorem dX7_isDear_14 : decode cX7_isDear 14 = .ok (.iload_n 3, 1) := by decide +kernel
theorem dX7_isDear_15 : decode cX7_isDear 15 = .ok (.invokevirtual 85, 3) := by decide +kernel
theorem dX7_isDear_18 : decode cX7_isDear 18 = .ok (.iload_n 1, 1) := by decide +kernel
theorem dX7_isDear_19 : decode cX7_isDear 19 = .ok (.if_icmp .le 7, 3) := by decide +kernel
theorem dX7_isDear_22 : decode cX7_isDear 22 = .ok (.iconst 1, 1) := by decide +kernel
theorem dX7_isDear_23 : decode cX7_isDear 23 = .ok (.goto 4, 3) := by decide +kernel
theorem dX7_isDear_26 : decode cX7_isDear 26 = .ok (.iconst 0, 1) := by decide +kernel
theorem dX7_isDear_27 : decode cX7_isDear 27 = .ok (.istore_n 2, 1) := by decide +kernel
theorem dX7_isDear_28 : decode cX7_isDear 28 = .ok (.iinc 3 1, 3) := by decide +kernel
theorem dX7_isDear_31 : decode cX7_isDear 31 = .ok (.goto (-27), 3) := by decide +kernel
theorem dX7_isDear_34 : decode cX7_isDear 34 = .ok (.iload_n 2, 1) := by decide +kernel
theorem dX7_isDear_35 : decode cX7_isDear 35 = .ok (.ireturn, 1) := by decide +kernel
set_option maxRecDepth 20000 in
theorem ggX7_isGood_X7_someVetoed : GoodIn wsX7_isGood wsX7_someVetoed := goodIn_r _ [6, 1, 7, 8, 9, 5, 10, 11, 12, 13, 14, 15, 16, 17, 18, 19, 20, 21, 22, 23, 24, 25, 68, 69, 70, 71, 72, 73, 74, 75, 76, 77, 78, 79, 80, 81, 82] rfl (by decide +kernel)
set_option maxRecDepth 20000 in
theorem gX7_isGood_X7_someVetoed : GoodIn wsX7_isGood (wsV RX7 88 RX7 yX7_someVetoed wsX7_someVetoed) := goodIn_app (goodIn_of _ (by decide +kernel)) ggX7_isGood_X7_someVetoed
set_option maxRecDepth 20000 in
theorem ggX7_isGood_X7_isDear : GoodIn wsX7_isGood wsX7_isDear := goodIn_r _ [29, 30, 31, 32, 5, 33, 34, 35, 36, 37, 38, 39, 40, 41, 1, 22, 23, 24, 25, 68, 69, 70, 71, 72, 73, 74, 75, 76, 77, 78, 79, 80, 81, 82] rfl (by decide +kernel)
set_option maxRecDepth 20000 in
theorem gX7_isGood_X7_isDear : GoodIn wsX7_isGood (wsV RX7 92 RX7 yX7_isDear wsX7_isDear) := goodIn_app (goodIn_of _ (by decide +kernel)) ggX7_isGood_X7_isDear
set_option maxRecDepth 20000 in
theorem ggX7_isGood_X7_match : GoodIn wsX7_isGood wsX7_match := goodIn_r _ [45, 46, 47, 1, 48, 49, 50, 5, 51, 22, 23, 24, 25, 52, 53, 54, 55, 56, 57, 58, 59, 60, 61, 62, 63, 64, 65, 66, 67, 68, 69, 70, 71, 72, 73, 74, 75, 76, 77, 78, 79, 80, 81, 82] rfl (by decide +kernel)
set_option maxRecDepth 20000 in
theorem gX7_isGood_X7_match : GoodIn wsX7_isGood (wsV RX7 95 RX7 yX7_match wsX7_match) := goodIn_app (goodIn_of _ (by decide +kernel)) ggX7_isGood_X7_match
theorem dX7_isGood_0 : decode cX7_isGood 0 = .ok (.aload_n 0, 1) := by decide +kernel
theorem dX7_isGood_1 : decode cX7_isGood 1 = .ok (.invokevirtual 88, 3) := by decide +kernel
theorem dX7_isGood_4 : decode cX7_isGood 4 = .ok (.ifCond .ne 27, 3) := by decide +kernel
theorem dX7_isGood_7 : decode cX7_isGood 7 = .ok (.aload_n 0, 1) := by decide +kernel
theorem dX7_isGood_8 : decode cX7_isGood 8 = .ok (.aload_n 0, 1) := by decide +kernel
theorem dX7_isGood_9 : decode cX7_isGood 9 = .ok (.getfield 7, 3) := by decide +kernel
theorem dX7_isGood_12 : decode cX7_isGood 12 = .ok (.iconst 2, 1) := by decide +kernel
theorem dX7_isGood_13 : decode cX7_isGood 13 = .ok (.iaload, 1) := by decide +kernel
theorem dX7_isGood_14 : decode cX7_isGood 14 = .ok (.invokevirtual 92, 3) := by decide +kernel
theorem dX7_isGood_17 : decode cX7_isGood 17 = .ok (.ifCond .ne 14, 3) := by decide +kernel
theorem dX7_isGood_20 : decode cX7_isGood 20 = .ok (.aload_n 0, 1) := by decide +kernel
theorem dX7_isGood_21 : decode cX7_isGood 21 = .ok (.invokevirtual 95, 3) := by decide +kernel
theorem dX7_isGood_24 : decode cX7_isGood 24 = .ok (.ifCond .eq 7, 3) := by decide +kernel
theorem dX7_isGood_27 : decode cX7_isGood 27 = .ok (.iconst 1, 1) := by decide +kernel
theorem dX7_isGood_28 : decode cX7_isGood 28 = .ok (.goto 4, 3) := by decide +kernel
theorem dX7_isGood_31 : decode cX7_isGood 31 = .ok (.iconst 0, 1) := by decide +kernel
theorem dX7_isGood_32 : decode cX7_isGood 32 = .ok (.ireturn, 1) := by decide +kernel
set_option maxRecDepth 20000 in
theorem ggX7_joyNow_X7_of : GoodIn wsX7_joyNow wsX7_of := goodIn_r _ [6, 1, 7, 8, 9, 10, 11, 12, 13, 14, 15, 16, 17, 18, 19, 20, 21] rfl (by decide +kernel)
set_option maxRecDepth 20000 in
theorem gX7_joyNow_X7_of : GoodIn wsX7_joyNow (wsV RX7 45 RX7 yX7_of wsX7_of) := goodIn_app (goodIn_of _ (by decide +kernel)) ggX7_joyNow_X7_of
theorem dX7_joyNow_0 : decode cX7_joyNow 0 = .ok (.iconst 3, 1) := by decide +kernel
theorem dX7_joyNow_1 : decode cX7_joyNow 1 = .ok (.iload_n 1, 1) := by decide +kernel
theorem dX7_joyNow_2 : decode cX7_joyNow 2 = .ok (.aload_n 0, 1) := by decide +kernel
theorem dX7_joyNow_3 : decode cX7_joyNow 3 = .ok (.getfield 7, 3) := by decide +kernel
theorem dX7_joyNow_6 : decode cX7_joyNow 6 = .ok (.iconst 1, 1) := by decide +kernel
theorem dX7_joyNow_7 : decode cX7_joyNow 7 = .ok (.iaload, 1) := by decide +kernel
theorem dX7_joyNow_8 : decode cX7_joyNow 8 = .ok (.isub, 1) := by decide +kernel
theorem dX7_joyNow_9 : decode cX7_joyNow 9 = .ok (.imul, 1) := by decide +kernel
theorem dX7_joyNow_10 : decode cX7_joyNow 10 = .ok (.istore_n 3, 1) := by decide +kernel
theorem dX7_joyNow_11 : decode cX7_joyNow 11 = .ok (.iconst 0, 1) := by decide +kernel
theorem dX7_joyNow_12 : decode cX7_joyNow 12 = .ok (.istore 4, 2) := by decide +kernel
theorem dX7_joyNow_14 : decode cX7_joyNow 14 = .ok (.iload_n 3, 1) := by decide +kernel
theorem dX7_joyNow_15 : decode cX7_joyNow 15 = .ok (.ifCond .ge 7, 3) := by decide +kernel
theorem dX7_joyNow_18 : decode cX7_joyNow 18 = .ok (.iconst 0, 1) := by decide +kernel
theorem dX7_joyNow_19 : decode cX7_joyNow 19 = .ok (.goto 4, 3) := by decide +kernel
theorem dX7_joyNow_22 : decode cX7_joyNow 22 = .ok (.iload_n 3, 1) := by decide +kernel
theorem dX7_joyNow_23 : decode cX7_joyNow 23 = .ok (.istore 5, 2) := by decide +kernel
theorem dX7_joyNow_25 : decode cX7_joyNow 25 = .ok (.iload 5, 2) := by decide +kernel
theorem dX7_joyNow_27 : decode cX7_joyNow 27 = .ok (.iconst 3, 1) := by decide +kernel
theorem dX7_joyNow_28 : decode cX7_joyNow 28 = .ok (.iload_n 1, 1) := by decide +kernel
theorem dX7_joyNow_29 : decode cX7_joyNow 29 = .ok (.imul, 1) := by decide +kernel
theorem dX7_joyNow_30 : decode cX7_joyNow 30 = .ok (.if_icmp .ge 57, 3) := by decide +kernel
theorem dX7_joyNow_33 : decode cX7_joyNow 33 = .ok (.iload 4, 2) := by decide +kernel
theorem dX7_joyNow_35 : decode cX7_joyNow 35 = .ok (.aload_n 0, 1) := by decide +kernel
theorem dX7_joyNow_36 : decode cX7_joyNow 36 = .ok (.getfield 7, 3) := by decide +kernel
theorem dX7_joyNow_39 : decode cX7_joyNow 39 = .ok (.bipush 89, 2) := by decide +kernel
theorem dX7_joyNow_41 : decode cX7_joyNow 41 = .ok (.iload 5, 2) := by decide +kernel
theorem dX7_joyNow_43 : decode cX7_joyNow 43 = .ok (.iadd, 1) := by decide +kernel
theorem dX7_joyNow_44 : decode cX7_joyNow 44 = .ok (.iaload, 1) := by decide +kernel
theorem dX7_joyNow_45 : decode cX7_joyNow 45 = .ok (.iconst (-1), 1) := by decide +kernel
theorem dX7_joyNow_46 : decode cX7_joyNow 46 = .ok (.if_icmp .eq 31, 3) := by decide +kernel
theorem dX7_joyNow_49 : decode cX7_joyNow 49 = .ok (.aload_n 0, 1) := by decide +kernel
theorem dX7_joyNow_50 : decode cX7_joyNow 50 = .ok (.aload_n 0, 1) := by decide +kernel
theorem dX7_joyNow_51 : decode cX7_joyNow 51 = .ok (.getfield 7, 3) := by decide +kernel
theorem dX7_joyNow_54 : decode cX7_joyNow 54 = .ok (.bipush 89, 2) := by decide +kernel
theorem dX7_joyNow_56 : decode cX7_joyNow 56 = .ok (.iload 5, 2) := by decide +kernel
theorem dX7_joyNow_58 : decode cX7_joyNow 58 = .ok (.iadd, 1) := by decide +kernel
theorem dX7_joyNow_59 : decode cX7_joyNow 59 = .ok (.iaload, 1) := by decide +kernel
theorem dX7_joyNow_60 : decode cX7_joyNow 60 = .ok (.iconst 2, 1) := by decide +kernel
theorem dX7_joyNow_61 : decode cX7_joyNow 61 = .ok (.invokevirtual 45, 3) := by decide +kernel
theorem dX7_joyNow_64 : decode cX7_joyNow 64 = .ok (.aload_n 0, 1) := by decide +kernel
theorem dX7_joyNow_65 : decode cX7_joyNow 65 = .ok (.iload_n 2, 1) := by decide +kernel
theorem dX7_joyNow_66 : decode cX7_joyNow 66 = .ok (.iconst 2, 1) := by decide +kernel
theorem dX7_joyNow_67 : decode cX7_joyNow 67 = .ok (.invokevirtual 45, 3) := by decide +kernel
theorem dX7_joyNow_70 : decode cX7_joyNow 70 = .ok (.if_icmp .ne 7, 3) := by decide +kernel
theorem dX7_joyNow_73 : decode cX7_joyNow 73 = .ok (.iconst 1, 1) := by decide +kernel
theorem dX7_joyNow_74 : decode cX7_joyNow 74 = .ok (.goto 4, 3) := by decide +kernel
theorem dX7_joyNow_77 : decode cX7_joyNow 77 = .ok (.iconst 0, 1) := by decide +kernel
theorem dX7_joyNow_78 : decode cX7_joyNow 78 = .ok (.iadd, 1) := by decide +kernel
theorem dX7_joyNow_79 : decode cX7_joyNow 79 = .ok (.istore 4, 2) := by decide +kernel
theorem dX7_joyNow_81 : decode cX7_joyNow 81 = .ok (.iinc 5 1, 3) := by decide +kernel
theorem dX7_joyNow_84 : decode cX7_joyNow 84 = .ok (.goto (-59), 3) := by decide +kernel
theorem dX7_joyNow_87 : decode cX7_joyNow 87 = .ok (.aload_n 0, 1) := by decide +kernel
theorem dX7_joyNow_88 : decode cX7_joyNow 88 = .ok (.iload_n 2, 1) := by decide +kernel
theorem dX7_joyNow_89 : decode cX7_joyNow 89 = .ok (.iconst 3, 1) := by decide +kernel
theorem dX7_joyNow_90 : decode cX7_joyNow 90 = .ok (.invokevirtual 45, 3) := by decide +kernel
theorem dX7_joyNow_93 : decode cX7_joyNow 93 = .ok (.aload_n 0, 1) := by decide +kernel
theorem dX7_joyNow_94 : decode cX7_joyNow 94 = .ok (.getfield 7, 3) := by decide +kernel
theorem dX7_joyNow_97 : decode cX7_joyNow 97 = .ok (.iconst 0, 1) := by decide +kernel
theorem dX7_joyNow_98 : decode cX7_joyNow 98 = .ok (.iaload, 1) := by decide +kernel
theorem dX7_joyNow_99 : decode cX7_joyNow 99 = .ok (.iload 4, 2) := by decide +kernel
theorem dX7_joyNow_101 : decode cX7_joyNow 101 = .ok (.imul, 1) := by decide +kernel
theorem dX7_joyNow_102 : decode cX7_joyNow 102 = .ok (.isub, 1) := by decide +kernel
theorem dX7_joyNow_103 : decode cX7_joyNow 103 = .ok (.istore 5, 2) := by decide +kernel
theorem dX7_joyNow_105 : decode cX7_joyNow 105 = .ok (.iload 5, 2) := by decide +kernel
theorem dX7_joyNow_107 : decode cX7_joyNow 107 = .ok (.ifCond .ge 7, 3) := by decide +kernel
theorem dX7_joyNow_110 : decode cX7_joyNow 110 = .ok (.iconst 0, 1) := by decide +kernel
theorem dX7_joyNow_111 : decode cX7_joyNow 111 = .ok (.goto 5, 3) := by decide +kernel
theorem dX7_joyNow_114 : decode cX7_joyNow 114 = .ok (.iload 5, 2) := by decide +kernel
theorem dX7_joyNow_116 : decode cX7_joyNow 116 = .ok (.ireturn, 1) := by decide +kernel
set_option maxRecDepth 20000 in
theorem ggX7_joyOf_X7_at : GoodIn wsX7_joyOf wsX7_at := goodIn_r _ [5, 6, 15, 16, 17, 18, 19, 20, 21, 22, 23, 24, 25, 26, 27, 28, 29] rfl (by decide +kernel)
set_option maxRecDepth 20000 in
theorem gX7_joyOf_X7_at : GoodIn wsX7_joyOf (wsV RX7 79 RX7 yX7_at wsX7_at) := goodIn_app (goodIn_of _ (by decide +kernel)) ggX7_joyOf_X7_at
set_option maxRecDepth 20000 in
theorem ggX7_joyOf_X7_joyNow : GoodIn wsX7_joyOf wsX7_joyNow := goodIn_r _ [10, 6, 11, 12, 13, 4, 14, 15, 16, 17, 18, 19, 20, 21, 22, 23, 24, 25, 26, 27, 28, 29] rfl (by decide +kernel)
set_option maxRecDepth 20000 in
theorem gX7_joyOf_X7_joyNow : GoodIn wsX7_joyOf (wsV RX7 98 RX7 yX7_joyNow wsX7_joyNow) := goodIn_app (goodIn_of _ (by decide +kernel)) ggX7_joyOf_X7_joyNow
theorem dX7_joyOf_0 : decode cX7_joyOf 0 = .ok (.iconst 0, 1) := by decide +kernel
theorem dX7_joyOf_1 : decode cX7_joyOf 1 = .ok (.istore_n 2, 1) := by decide +kernel
theorem dX7_joyOf_2 : decode cX7_joyOf 2 = .ok (.iconst 0, 1) := by decide +kernel
theorem dX7_joyOf_3 : decode cX7_joyOf 3 = .ok (.istore_n 3, 1) := by decide +kernel
theorem dX7_joyOf_4 : decode cX7_joyOf 4 = .ok (.iload_n 3, 1) := by decide +kernel
theorem dX7_joyOf_5 : decode cX7_joyOf 5 = .ok (.iconst 3, 1) := by decide +kernel
theorem dX7_joyOf_6 : decode cX7_joyOf 6 = .ok (.if_icmp .ge 37, 3) := by decide +kernel
theorem dX7_joyOf_9 : decode cX7_joyOf 9 = .ok (.iload_n 2, 1) := by decide +kernel
theorem dX7_joyOf_10 : decode cX7_joyOf 10 = .ok (.aload_n 0, 1) := by decide +kernel
theorem dX7_joyOf_11 : decode cX7_joyOf 11 = .ok (.iload_n 1, 1) := by decide +kernel
theorem dX7_joyOf_12 : decode cX7_joyOf 12 = .ok (.iload_n 3, 1) := by decide +kernel
theorem dX7_joyOf_13 : decode cX7_joyOf 13 = .ok (.invokevirtual 79, 3) := by decide +kernel
theorem dX7_joyOf_16 : decode cX7_joyOf 16 = .ok (.iconst (-1), 1) := by decide +kernel
theorem dX7_joyOf_17 : decode cX7_joyOf 17 = .ok (.if_icmp .ne 7, 3) := by decide +kernel
theorem dX7_joyOf_20 : decode cX7_joyOf 20 = .ok (.iconst 0, 1) := by decide +kernel
theorem dX7_joyOf_21 : decode cX7_joyOf 21 = .ok (.goto 14, 3) := by decide +kernel
theorem dX7_joyOf_24 : decode cX7_joyOf 24 = .ok (.aload_n 0, 1) := by decide +kernel
theorem dX7_joyOf_25 : decode cX7_joyOf 25 = .ok (.iload_n 1, 1) := by decide +kernel
theorem dX7_joyOf_26 : decode cX7_joyOf 26 = .ok (.aload_n 0, 1) := by decide +kernel
theorem dX7_joyOf_27 : decode cX7_joyOf 27 = .ok (.iload_n 1, 1) := by decide +kernel
theorem dX7_joyOf_28 : decode cX7_joyOf 28 = .ok (.iload_n 3, 1) := by decide +kernel
theorem dX7_joyOf_29 : decode cX7_joyOf 29 = .ok (.invokevirtual 79, 3) := by decide +kernel
theorem dX7_joyOf_32 : decode cX7_joyOf 32 = .ok (.invokevirtual 98, 3) := by decide +kernel
theorem dX7_joyOf_35 : decode cX7_joyOf 35 = .ok (.iadd, 1) := by decide +kernel
theorem dX7_joyOf_36 : decode cX7_joyOf 36 = .ok (.istore_n 2, 1) := by decide +kernel
theorem dX7_joyOf_37 : decode cX7_joyOf 37 = .ok (.iinc 3 1, 3) := by decide +kernel
theorem dX7_joyOf_40 : decode cX7_joyOf 40 = .ok (.goto (-36), 3) := by decide +kernel
theorem dX7_joyOf_43 : decode cX7_joyOf 43 = .ok (.iload_n 2, 1) := by decide +kernel
theorem dX7_joyOf_44 : decode cX7_joyOf 44 = .ok (.ireturn, 1) := by decide +kernel
set_option maxRecDepth 20000 in
theorem ggX7_joyOfAll_X7_joyOf : GoodIn wsX7_joyOfAll wsX7_joyOf := goodIn_r _ [5, 6, 7, 8, 4, 9, 10, 11, 12, 13, 14, 15, 16, 17, 18, 19, 20, 21, 22, 23, 24, 25, 26, 27, 28, 29, 30, 31, 32, 33] rfl (by decide +kernel)
set_option maxRecDepth 20000 in
theorem gX7_joyOfAll_X7_joyOf : GoodIn wsX7_joyOfAll (wsV RX7 101 RX7 yX7_joyOf wsX7_joyOf) := goodIn_app (goodIn_of _ (by decide +kernel)) ggX7_joyOfAll_X7_joyOf
theorem dX7_joyOfAll_0 : decode cX7_joyOfAll 0 = .ok (.iconst 0, 1) := by decide +kernel
theorem dX7_joyOfAll_1 : decode cX7_joyOfAll 1 = .ok (.istore_n 1, 1) := by decide +kernel
theorem dX7_joyOfAll_2 : decode cX7_joyOfAll 2 = .ok (.iconst 0, 1) := by decide +kernel
theorem dX7_joyOfAll_3 : decode cX7_joyOfAll 3 = .ok (.istore_n 2, 1) := by decide +kernel
theorem dX7_joyOfAll_4 : decode cX7_joyOfAll 4 = .ok (.iload_n 2, 1) := by decide +kernel
theorem dX7_joyOfAll_5 : decode cX7_joyOfAll 5 = .ok (.bipush 28, 2) := by decide +kernel
theorem dX7_joyOfAll_7 : decode cX7_joyOfAll 7 = .ok (.if_icmp .ge 17, 3) := by decide +kernel
theorem dX7_joyOfAll_10 : decode cX7_joyOfAll 10 = .ok (.iload_n 1, 1) := by decide +kernel
theorem dX7_joyOfAll_11 : decode cX7_joyOfAll 11 = .ok (.aload_n 0, 1) := by decide +kernel
theorem dX7_joyOfAll_12 : decode cX7_joyOfAll 12 = .ok (.iload_n 2, 1) := by decide +kernel
theorem dX7_joyOfAll_13 : decode cX7_joyOfAll 13 = .ok (.invokevirtual 101, 3) := by decide +kernel
theorem dX7_joyOfAll_16 : decode cX7_joyOfAll 16 = .ok (.iadd, 1) := by decide +kernel
theorem dX7_joyOfAll_17 : decode cX7_joyOfAll 17 = .ok (.istore_n 1, 1) := by decide +kernel
theorem dX7_joyOfAll_18 : decode cX7_joyOfAll 18 = .ok (.iinc 2 1, 3) := by decide +kernel
theorem dX7_joyOfAll_21 : decode cX7_joyOfAll 21 = .ok (.goto (-17), 3) := by decide +kernel
theorem dX7_joyOfAll_24 : decode cX7_joyOfAll 24 = .ok (.iload_n 1, 1) := by decide +kernel
theorem dX7_joyOfAll_25 : decode cX7_joyOfAll 25 = .ok (.ireturn, 1) := by decide +kernel
set_option maxRecDepth 20000 in
theorem ggX7_addDish_X7_isPart : GoodIn wsX7_addDish wsX7_isPart := goodIn_r _ [6, 7, 8, 5, 9] rfl (by decide +kernel)
set_option maxRecDepth 20000 in
theorem gX7_addDish_X7_isPart : GoodIn wsX7_addDish (va_wsS RX7 104 yX7_isPart wsX7_isPart) := goodIn_app (goodIn_of _ (by decide +kernel)) ggX7_addDish_X7_isPart
set_option maxRecDepth 20000 in
theorem ggX7_addDish_X7_within : GoodIn wsX7_addDish wsX7_within := goodIn_r _ [9] rfl (by decide +kernel)
set_option maxRecDepth 20000 in
theorem gX7_addDish_X7_within : GoodIn wsX7_addDish (va_wsS RX7 41 yX7_within wsX7_within) := goodIn_app (goodIn_of _ (by decide +kernel)) ggX7_addDish_X7_within
set_option maxRecDepth 20000 in
theorem ggX7_addDish_X7_save : GoodIn wsX7_addDish wsX7_save := goodIn_r _ [13, 14, 15, 1, 16, 17, 18, 19, 20, 21, 22, 23, 24, 25, 26, 27, 28, 29, 30] rfl (by decide +kernel)
set_option maxRecDepth 20000 in
theorem gX7_addDish_X7_save : GoodIn wsX7_addDish (wsV RX7 107 RX7 yX7_save wsX7_save) := goodIn_app (goodIn_of _ (by decide +kernel)) ggX7_addDish_X7_save
theorem dX7_addDish_0 : decode cX7_addDish 0 = .ok (.iload_n 1, 1) := by decide +kernel
theorem dX7_addDish_1 : decode cX7_addDish 1 = .ok (.invokestatic 104, 3) := by decide +kernel
theorem dX7_addDish_4 : decode cX7_addDish 4 = .ok (.ifCond .eq 37, 3) := by decide +kernel
theorem dX7_addDish_7 : decode cX7_addDish 7 = .ok (.iload_n 2, 1) := by decide +kernel
theorem dX7_addDish_8 : decode cX7_addDish 8 = .ok (.iconst 0, 1) := by decide +kernel
theorem dX7_addDish_9 : decode cX7_addDish 9 = .ok (.bipush 30, 2) := by decide +kernel
theorem dX7_addDish_11 : decode cX7_addDish 11 = .ok (.invokestatic 41, 3) := by decide +kernel
theorem dX7_addDish_14 : decode cX7_addDish 14 = .ok (.ifCond .eq 27, 3) := by decide +kernel
theorem dX7_addDish_17 : decode cX7_addDish 17 = .ok (.iload_n 3, 1) := by decide +kernel
theorem dX7_addDish_18 : decode cX7_addDish 18 = .ok (.iconst 0, 1) := by decide +kernel
theorem dX7_addDish_19 : decode cX7_addDish 19 = .ok (.iconst 5, 1) := by decide +kernel
theorem dX7_addDish_20 : decode cX7_addDish 20 = .ok (.invokestatic 41, 3) := by decide +kernel
theorem dX7_addDish_23 : decode cX7_addDish 23 = .ok (.ifCond .eq 18, 3) := by decide +kernel
theorem dX7_addDish_26 : decode cX7_addDish 26 = .ok (.iload 4, 2) := by decide +kernel
theorem dX7_addDish_28 : decode cX7_addDish 28 = .ok (.iconst 1, 1) := by decide +kernel
theorem dX7_addDish_29 : decode cX7_addDish 29 = .ok (.bipush 9, 2) := by decide +kernel
theorem dX7_addDish_31 : decode cX7_addDish 31 = .ok (.invokestatic 41, 3) := by decide +kernel
theorem dX7_addDish_34 : decode cX7_addDish 34 = .ok (.ifCond .eq 7, 3) := by decide +kernel
theorem dX7_addDish_37 : decode cX7_addDish 37 = .ok (.iconst 1, 1) := by decide +kernel
theorem dX7_addDish_38 : decode cX7_addDish 38 = .ok (.goto 4, 3) := by decide +kernel
theorem dX7_addDish_41 : decode cX7_addDish 41 = .ok (.iconst 0, 1) := by decide +kernel
theorem dX7_addDish_42 : decode cX7_addDish 42 = .ok (.istore 5, 2) := by decide +kernel
theorem dX7_addDish_44 : decode cX7_addDish 44 = .ok (.aload_n 0, 1) := by decide +kernel
theorem dX7_addDish_45 : decode cX7_addDish 45 = .ok (.iload 5, 2) := by decide +kernel
theorem dX7_addDish_47 : decode cX7_addDish 47 = .ok (.ifCond .ne 7, 3) := by decide +kernel
theorem dX7_addDish_50 : decode cX7_addDish 50 = .ok (.iconst 1, 1) := by decide +kernel
theorem dX7_addDish_51 : decode cX7_addDish 51 = .ok (.goto 19, 3) := by decide +kernel
theorem dX7_addDish_54 : decode cX7_addDish 54 = .ok (.aload_n 0, 1) := by decide +kernel
theorem dX7_addDish_55 : decode cX7_addDish 55 = .ok (.getfield 7, 3) := by decide +kernel
theorem dX7_addDish_58 : decode cX7_addDish 58 = .ok (.iconst 3, 1) := by decide +kernel
theorem dX7_addDish_59 : decode cX7_addDish 59 = .ok (.iaload, 1) := by decide +kernel
theorem dX7_addDish_60 : decode cX7_addDish 60 = .ok (.bipush 12, 2) := by decide +kernel
theorem dX7_addDish_62 : decode cX7_addDish 62 = .ok (.if_icmp .ne 7, 3) := by decide +kernel
theorem dX7_addDish_65 : decode cX7_addDish 65 = .ok (.iconst 2, 1) := by decide +kernel
theorem dX7_addDish_66 : decode cX7_addDish 66 = .ok (.goto 4, 3) := by decide +kernel
theorem dX7_addDish_69 : decode cX7_addDish 69 = .ok (.iconst 0, 1) := by decide +kernel
theorem dX7_addDish_70 : decode cX7_addDish 70 = .ok (.putfield 34, 3) := by decide +kernel
theorem dX7_addDish_73 : decode cX7_addDish 73 = .ok (.aload_n 0, 1) := by decide +kernel
theorem dX7_addDish_74 : decode cX7_addDish 74 = .ok (.getfield 34, 3) := by decide +kernel
theorem dX7_addDish_77 : decode cX7_addDish 77 = .ok (.ifCond .le 5, 3) := by decide +kernel
theorem dX7_addDish_80 : decode cX7_addDish 80 = .ok (.iconst 0, 1) := by decide +kernel
theorem dX7_addDish_81 : decode cX7_addDish 81 = .ok (.ireturn, 1) := by decide +kernel
theorem dX7_addDish_82 : decode cX7_addDish 82 = .ok (.aload_n 0, 1) := by decide +kernel
theorem dX7_addDish_83 : decode cX7_addDish 83 = .ok (.invokevirtual 107, 3) := by decide +kernel
theorem dX7_addDish_86 : decode cX7_addDish 86 = .ok (.iconst 5, 1) := by decide +kernel
theorem dX7_addDish_87 : decode cX7_addDish 87 = .ok (.bipush 6, 2) := by decide +kernel
theorem dX7_addDish_89 : decode cX7_addDish 89 = .ok (.aload_n 0, 1) := by decide +kernel
theorem dX7_addDish_90 : decode cX7_addDish 90 = .ok (.getfield 7, 3) := by decide +kernel
theorem dX7_addDish_93 : decode cX7_addDish 93 = .ok (.iconst 3, 1) := by decide +kernel
theorem dX7_addDish_94 : decode cX7_addDish 94 = .ok (.iaload, 1) := by decide +kernel
theorem dX7_addDish_95 : decode cX7_addDish 95 = .ok (.imul, 1) := by decide +kernel
theorem dX7_addDish_96 : decode cX7_addDish 96 = .ok (.iadd, 1) := by decide +kernel
theorem dX7_addDish_97 : decode cX7_addDish 97 = .ok (.istore 6, 2) := by decide +kernel
theorem dX7_addDish_99 : decode cX7_addDish 99 = .ok (.aload_n 0, 1) := by decide +kernel
theorem dX7_addDish_100 : decode cX7_addDish 100 = .ok (.getfield 7, 3) := by decide +kernel
theorem dX7_addDish_103 : decode cX7_addDish 103 = .ok (.iload 6, 2) := by decide +kernel
theorem dX7_addDish_105 : decode cX7_addDish 105 = .ok (.iconst 0, 1) := by decide +kernel
theorem dX7_addDish_106 : decode cX7_addDish 106 = .ok (.iadd, 1) := by decide +kernel
theorem dX7_addDish_107 : decode cX7_addDish 107 = .ok (.iload_n 1, 1) := by decide +kernel
theorem dX7_addDish_108 : decode cX7_addDish 108 = .ok (.iastore, 1) := by decide +kernel
theorem dX7_addDish_109 : decode cX7_addDish 109 = .ok (.aload_n 0, 1) := by decide +kernel
theorem dX7_addDish_110 : decode cX7_addDish 110 = .ok (.getfield 7, 3) := by decide +kernel
theorem dX7_addDish_113 : decode cX7_addDish 113 = .ok (.iload 6, 2) := by decide +kernel
theorem dX7_addDish_115 : decode cX7_addDish 115 = .ok (.iconst 1, 1) := by decide +kernel
theorem dX7_addDish_116 : decode cX7_addDish 116 = .ok (.iadd, 1) := by decide +kernel
theorem dX7_addDish_117 : decode cX7_addDish 117 = .ok (.iload_n 2, 1) := by decide +kernel
theorem dX7_addDish_118 : decode cX7_addDish 118 = .ok (.iastore, 1) := by decide +kernel
theorem dX7_addDish_119 : decode cX7_addDish 119 = .ok (.aload_n 0, 1) := by decide +kernel
theorem dX7_addDish_120 : decode cX7_addDish 120 = .ok (.getfield 7, 3) := by decide +kernel
theorem dX7_addDish_123 : decode cX7_addDish 123 = .ok (.iload 6, 2) := by decide +kernel
theorem dX7_addDish_125 : decode cX7_addDish 125 = .ok (.iconst 2, 1) := by decide +kernel
theorem dX7_addDish_126 : decode cX7_addDish 126 = .ok (.iadd, 1) := by decide +kernel
theorem dX7_addDish_127 : decode cX7_addDish 127 = .ok (.iload_n 3, 1) := by decide +kernel
theorem dX7_addDish_128 : decode cX7_addDish 128 = .ok (.iastore, 1) := by decide +kernel
theorem dX7_addDish_129 : decode cX7_addDish 129 = .ok (.aload_n 0, 1) := by decide +kernel
theorem dX7_addDish_130 : decode cX7_addDish 130 = .ok (.getfield 7, 3) := by decide +kernel
theorem dX7_addDish_133 : decode cX7_addDish 133 = .ok (.iload 6, 2) := by decide +kernel
theorem dX7_addDish_135 : decode cX7_addDish 135 = .ok (.iconst 3, 1) := by decide +kernel
theorem dX7_addDish_136 : decode cX7_addDish 136 = .ok (.iadd, 1) := by decide +kernel
theorem dX7_addDish_137 : decode cX7_addDish 137 = .ok (.iload 4, 2) := by decide +kernel
theorem dX7_addDish_139 : decode cX7_addDish 139 = .ok (.iastore, 1) := by decide +kernel
theorem dX7_addDish_140 : decode cX7_addDish 140 = .ok (.aload_n 0, 1) := by decide +kernel
theorem dX7_addDish_141 : decode cX7_addDish 141 = .ok (.getfield 7, 3) := by decide +kernel
theorem dX7_addDish_144 : decode cX7_addDish 144 = .ok (.iload 6, 2) := by decide +kernel
theorem dX7_addDish_146 : decode cX7_addDish 146 = .ok (.iconst 4, 1) := by decide +kernel
theorem dX7_addDish_147 : decode cX7_addDish 147 = .ok (.iadd, 1) := by decide +kernel
theorem dX7_addDish_148 : decode cX7_addDish 148 = .ok (.iconst (-1), 1) := by decide +kernel
theorem dX7_addDish_149 : decode cX7_addDish 149 = .ok (.iastore, 1) := by decide +kernel
theorem dX7_addDish_150 : decode cX7_addDish 150 = .ok (.aload_n 0, 1) := by decide +kernel
theorem dX7_addDish_151 : decode cX7_addDish 151 = .ok (.getfield 7, 3) := by decide +kernel
theorem dX7_addDish_154 : decode cX7_addDish 154 = .ok (.iload 6, 2) := by decide +kernel
theorem dX7_addDish_156 : decode cX7_addDish 156 = .ok (.iconst 5, 1) := by decide +kernel
theorem dX7_addDish_157 : decode cX7_addDish 157 = .ok (.iadd, 1) := by decide +kernel
theorem dX7_addDish_158 : decode cX7_addDish 158 = .ok (.iconst 0, 1) := by decide +kernel
theorem dX7_addDish_159 : decode cX7_addDish 159 = .ok (.iastore, 1) := by decide +kernel
theorem dX7_addDish_160 : decode cX7_addDish 160 = .ok (.aload_n 0, 1) := by decide +kernel
theorem dX7_addDish_161 : decode cX7_addDish 161 = .ok (.getfield 7, 3) := by decide +kernel
theorem dX7_addDish_164 : decode cX7_addDish 164 = .ok (.iconst 3, 1) := by decide +kernel
theorem dX7_addDish_165 : decode cX7_addDish 165 = .ok (.dup2, 1) := by decide +kernel
theorem dX7_addDish_166 : decode cX7_addDish 166 = .ok (.iaload, 1) := by decide +kernel
theorem dX7_addDish_167 : decode cX7_addDish 167 = .ok (.iconst 1, 1) := by decide +kernel
theorem dX7_addDish_168 : decode cX7_addDish 168 = .ok (.iadd, 1) := by decide +kernel
theorem dX7_addDish_169 : decode cX7_addDish 169 = .ok (.iastore, 1) := by decide +kernel
theorem dX7_addDish_170 : decode cX7_addDish 170 = .ok (.aload_n 0, 1) := by decide +kernel
theorem dX7_addDish_171 : decode cX7_addDish 171 = .ok (.getfield 7, 3) := by decide +kernel
theorem dX7_addDish_174 : decode cX7_addDish 174 = .ok (.iconst 3, 1) := by decide +kernel
theorem dX7_addDish_175 : decode cX7_addDish 175 = .ok (.iaload, 1) := by decide +kernel
theorem dX7_addDish_176 : decode cX7_addDish 176 = .ok (.iconst 1, 1) := by decide +kernel
theorem dX7_addDish_177 : decode cX7_addDish 177 = .ok (.isub, 1) := by decide +kernel
theorem dX7_addDish_178 : decode cX7_addDish 178 = .ok (.ireturn, 1) := by decide +kernel
theorem dX7_setLeft_0 : decode cX7_setLeft 0 = .ok (.aload_n 0, 1) := by decide +kernel
theorem dX7_setLeft_1 : decode cX7_setLeft 1 = .ok (.getfield 7, 3) := by decide +kernel
theorem dX7_setLeft_4 : decode cX7_setLeft 4 = .ok (.iconst 5, 1) := by decide +kernel
theorem dX7_setLeft_5 : decode cX7_setLeft 5 = .ok (.bipush 6, 2) := by decide +kernel
theorem dX7_setLeft_7 : decode cX7_setLeft 7 = .ok (.iload_n 1, 1) := by decide +kernel
theorem dX7_setLeft_8 : decode cX7_setLeft 8 = .ok (.imul, 1) := by decide +kernel
theorem dX7_setLeft_9 : decode cX7_setLeft 9 = .ok (.iadd, 1) := by decide +kernel
theorem dX7_setLeft_10 : decode cX7_setLeft 10 = .ok (.iconst 4, 1) := by decide +kernel
theorem dX7_setLeft_11 : decode cX7_setLeft 11 = .ok (.iadd, 1) := by decide +kernel
theorem dX7_setLeft_12 : decode cX7_setLeft 12 = .ok (.iload_n 2, 1) := by decide +kernel
theorem dX7_setLeft_13 : decode cX7_setLeft 13 = .ok (.iastore, 1) := by decide +kernel
theorem dX7_setLeft_14 : decode cX7_setLeft 14 = .ok (.aload_n 0, 1) := by decide +kernel
theorem dX7_setLeft_15 : decode cX7_setLeft 15 = .ok (.getfield 7, 3) := by decide +kernel
theorem dX7_setLeft_18 : decode cX7_setLeft 18 = .ok (.iconst 5, 1) := by decide +kernel
theorem dX7_setLeft_19 : decode cX7_setLeft 19 = .ok (.bipush 6, 2) := by decide +kernel
theorem dX7_setLeft_21 : decode cX7_setLeft 21 = .ok (.iload_n 1, 1) := by decide +kernel
theorem dX7_setLeft_22 : decode cX7_setLeft 22 = .ok (.imul, 1) := by decide +kernel
theorem dX7_setLeft_23 : decode cX7_setLeft 23 = .ok (.iadd, 1) := by decide +kernel
theorem dX7_setLeft_24 : decode cX7_setLeft 24 = .ok (.iconst 5, 1) := by decide +kernel
theorem dX7_setLeft_25 : decode cX7_setLeft 25 = .ok (.iadd, 1) := by decide +kernel
theorem dX7_setLeft_26 : decode cX7_setLeft 26 = .ok (.iload_n 2, 1) := by decide +kernel
theorem dX7_setLeft_27 : decode cX7_setLeft 27 = .ok (.iconst (-1), 1) := by decide +kernel
theorem dX7_setLeft_28 : decode cX7_setLeft 28 = .ok (.if_icmp .ne 7, 3) := by decide +kernel
theorem dX7_setLeft_31 : decode cX7_setLeft 31 = .ok (.iconst 0, 1) := by decide +kernel
theorem dX7_setLeft_32 : decode cX7_setLeft 32 = .ok (.goto 4, 3) := by decide +kernel
theorem dX7_setLeft_35 : decode cX7_setLeft 35 = .ok (.iload_n 3, 1) := by decide +kernel
theorem dX7_setLeft_36 : decode cX7_setLeft 36 = .ok (.iastore, 1) := by decide +kernel
theorem dX7_setLeft_37 : decode cX7_setLeft 37 = .ok (.return_, 1) := by decide +kernel
set_option maxRecDepth 20000 in
theorem ggX7_soundThen_X7_of : GoodIn wsX7_soundThen wsX7_of := goodIn_r _ [5, 6, 37, 38, 39, 40, 41, 42, 43, 44, 45, 46, 47, 48, 49, 50, 51] rfl (by decide +kernel)
set_option maxRecDepth 20000 in
theorem gX7_soundThen_X7_of : GoodIn wsX7_soundThen (wsV RX7 45 RX7 yX7_of wsX7_of) := goodIn_app (goodIn_of _ (by decide +kernel)) ggX7_soundThen_X7_of
set_option maxRecDepth 20000 in
theorem ggX7_soundThen_X7_setLeft : GoodIn wsX7_soundThen wsX7_setLeft := goodIn_r _ [10, 6, 37, 38, 39, 40, 41, 42, 43, 44, 45, 46, 47, 48, 49, 50, 51] rfl (by decide +kernel)
set_option maxRecDepth 20000 in
theorem gX7_soundThen_X7_setLeft : GoodIn wsX7_soundThen (wsV RX7 110 RX7 yX7_setLeft wsX7_setLeft) := goodIn_app (goodIn_of _ (by decide +kernel)) ggX7_soundThen_X7_setLeft
set_option maxRecDepth 20000 in
theorem ggX7_soundThen_X7_match : GoodIn wsX7_soundThen wsX7_match := goodIn_r _ [14, 15, 16, 6, 17, 18, 19, 4, 20, 1, 2, 3, 5, 21, 22, 23, 24, 25, 26, 27, 28, 29, 30, 31, 32, 33, 34, 35, 36, 37, 38, 39, 40, 41, 42, 43, 44, 45, 46, 47, 48, 49, 50, 51] rfl (by decide +kernel)
set_option maxRecDepth 20000 in
theorem gX7_soundThen_X7_match : GoodIn wsX7_soundThen (wsV RX7 95 RX7 yX7_match wsX7_match) := goodIn_app (goodIn_of _ (by decide +kernel)) ggX7_soundThen_X7_match
theorem dX7_soundThen_0 : decode cX7_soundThen 0 = .ok (.aload_n 0, 1) := by decide +kernel
theorem dX7_soundThen_1 : decode cX7_soundThen 1 = .ok (.iload_n 1, 1) := by decide +kernel
theorem dX7_soundThen_2 : decode cX7_soundThen 2 = .ok (.iconst 4, 1) := by decide +kernel
theorem dX7_soundThen_3 : decode cX7_soundThen 3 = .ok (.invokevirtual 45, 3) := by decide +kernel
theorem dX7_soundThen_6 : decode cX7_soundThen 6 = .ok (.istore 4, 2) := by decide +kernel
theorem dX7_soundThen_8 : decode cX7_soundThen 8 = .ok (.aload_n 0, 1) := by decide +kernel
theorem dX7_soundThen_9 : decode cX7_soundThen 9 = .ok (.iload_n 1, 1) := by decide +kernel
theorem dX7_soundThen_10 : decode cX7_soundThen 10 = .ok (.iconst 5, 1) := by decide +kernel
theorem dX7_soundThen_11 : decode cX7_soundThen 11 = .ok (.invokevirtual 45, 3) := by decide +kernel
theorem dX7_soundThen_14 : decode cX7_soundThen 14 = .ok (.istore 5, 2) := by decide +kernel
theorem dX7_soundThen_16 : decode cX7_soundThen 16 = .ok (.aload_n 0, 1) := by decide +kernel
theorem dX7_soundThen_17 : decode cX7_soundThen 17 = .ok (.iload_n 1, 1) := by decide +kernel
theorem dX7_soundThen_18 : decode cX7_soundThen 18 = .ok (.iload_n 2, 1) := by decide +kernel
theorem dX7_soundThen_19 : decode cX7_soundThen 19 = .ok (.iload_n 3, 1) := by decide +kernel
theorem dX7_soundThen_20 : decode cX7_soundThen 20 = .ok (.invokevirtual 110, 3) := by decide +kernel
theorem dX7_soundThen_23 : decode cX7_soundThen 23 = .ok (.aload_n 0, 1) := by decide +kernel
theorem dX7_soundThen_24 : decode cX7_soundThen 24 = .ok (.invokevirtual 95, 3) := by decide +kernel
theorem dX7_soundThen_27 : decode cX7_soundThen 27 = .ok (.istore 6, 2) := by decide +kernel
theorem dX7_soundThen_29 : decode cX7_soundThen 29 = .ok (.aload_n 0, 1) := by decide +kernel
theorem dX7_soundThen_30 : decode cX7_soundThen 30 = .ok (.iload_n 1, 1) := by decide +kernel
theorem dX7_soundThen_31 : decode cX7_soundThen 31 = .ok (.iload 4, 2) := by decide +kernel
theorem dX7_soundThen_33 : decode cX7_soundThen 33 = .ok (.iload 5, 2) := by decide +kernel
theorem dX7_soundThen_35 : decode cX7_soundThen 35 = .ok (.invokevirtual 110, 3) := by decide +kernel
theorem dX7_soundThen_38 : decode cX7_soundThen 38 = .ok (.iload 6, 2) := by decide +kernel
theorem dX7_soundThen_40 : decode cX7_soundThen 40 = .ok (.ireturn, 1) := by decide +kernel
set_option maxRecDepth 20000 in
theorem ggX7_leave_X7_isDish : GoodIn wsX7_leave wsX7_isDish := goodIn_r _ [6, 7, 8, 9, 5, 10, 55, 56, 57, 58, 59, 60, 61, 62, 63, 64, 65, 66, 67, 68, 69] rfl (by decide +kernel)
set_option maxRecDepth 20000 in
theorem gX7_leave_X7_isDish : GoodIn wsX7_leave (wsV RX7 114 RX7 yX7_isDish wsX7_isDish) := goodIn_app (goodIn_of _ (by decide +kernel)) ggX7_leave_X7_isDish
set_option maxRecDepth 20000 in
theorem ggX7_leave_X7_within : GoodIn wsX7_leave wsX7_within := goodIn_r _ [10] rfl (by decide +kernel)
set_option maxRecDepth 20000 in
theorem gX7_leave_X7_within : GoodIn wsX7_leave (va_wsS RX7 41 yX7_within wsX7_within) := goodIn_app (goodIn_of _ (by decide +kernel)) ggX7_leave_X7_within
set_option maxRecDepth 20000 in
theorem ggX7_leave_X7_soundThen : GoodIn wsX7_leave wsX7_soundThen := goodIn_r _ [14, 15, 16, 17, 5, 18, 7, 19, 20, 21, 22, 23, 24, 25, 26, 27, 28, 29, 30, 31, 32, 33, 34, 35, 36, 37, 38, 39, 40, 41, 42, 43, 44, 45, 46, 47, 48, 55, 56, 57, 58, 59, 60, 61, 62, 63, 64, 65, 66, 67, 68, 69] rfl (by decide +kernel)
set_option maxRecDepth 20000 in
theorem gX7_leave_X7_soundThen : GoodIn wsX7_leave (wsV RX7 117 RX7 yX7_soundThen wsX7_soundThen) := goodIn_app (goodIn_of _ (by decide +kernel)) ggX7_leave_X7_soundThen
set_option maxRecDepth 20000 in
theorem ggX7_leave_X7_save : GoodIn wsX7_leave wsX7_save := goodIn_r _ [52, 53, 54, 7, 55, 56, 57, 58, 59, 60, 61, 62, 63, 64, 65, 66, 67, 68, 69] rfl (by decide +kernel)
set_option maxRecDepth 20000 in
theorem gX7_leave_X7_save : GoodIn wsX7_leave (wsV RX7 107 RX7 yX7_save wsX7_save) := goodIn_app (goodIn_of _ (by decide +kernel)) ggX7_leave_X7_save
set_option maxRecDepth 20000 in
theorem ggX7_leave_X7_of : GoodIn wsX7_leave wsX7_of := goodIn_r _ [18, 7, 55, 56, 57, 58, 59, 60, 61, 62, 63, 64, 65, 66, 67, 68, 69] rfl (by decide +kernel)
set_option maxRecDepth 20000 in
theorem gX7_leave_X7_of : GoodIn wsX7_leave (wsV RX7 45 RX7 yX7_of wsX7_of) := goodIn_app (goodIn_of _ (by decide +kernel)) ggX7_leave_X7_of
set_option maxRecDepth 20000 in
theorem ggX7_leave_X7_setLeft : GoodIn wsX7_leave wsX7_setLeft := goodIn_r _ [22, 7, 55, 56, 57, 58, 59, 60, 61, 62, 63, 64, 65, 66, 67, 68, 69] rfl (by decide +kernel)
set_option maxRecDepth 20000 in
theorem gX7_leave_X7_setLeft : GoodIn wsX7_leave (wsV RX7 110 RX7 yX7_setLeft wsX7_setLeft) := goodIn_app (goodIn_of _ (by decide +kernel)) ggX7_leave_X7_setLeft
theorem dX7_leave_0 : decode cX7_leave 0 = .ok (.aload_n 0, 1) := by decide +kernel
theorem dX7_leave_1 : decode cX7_leave 1 = .ok (.iload_n 1, 1) := by decide +kernel
theorem dX7_leave_2 : decode cX7_leave 2 = .ok (.invokevirtual 114, 3) := by decide +kernel
theorem dX7_leave_5 : decode cX7_leave 5 = .ok (.ifCond .eq 20, 3) := by decide +kernel
theorem dX7_leave_8 : decode cX7_leave 8 = .ok (.iload_n 2, 1) := by decide +kernel
theorem dX7_leave_9 : decode cX7_leave 9 = .ok (.iconst (-1), 1) := by decide +kernel
theorem dX7_leave_10 : decode cX7_leave 10 = .ok (.if_icmp .eq 11, 3) := by decide +kernel
theorem dX7_leave_13 : decode cX7_leave 13 = .ok (.aload_n 0, 1) := by decide +kernel
theorem dX7_leave_14 : decode cX7_leave 14 = .ok (.iload_n 2, 1) := by decide +kernel
theorem dX7_leave_15 : decode cX7_leave 15 = .ok (.invokevirtual 114, 3) := by decide +kernel
theorem dX7_leave_18 : decode cX7_leave 18 = .ok (.ifCond .eq 7, 3) := by decide +kernel
theorem dX7_leave_21 : decode cX7_leave 21 = .ok (.iconst 1, 1) := by decide +kernel
theorem dX7_leave_22 : decode cX7_leave 22 = .ok (.goto 4, 3) := by decide +kernel
theorem dX7_leave_25 : decode cX7_leave 25 = .ok (.iconst 0, 1) := by decide +kernel
theorem dX7_leave_26 : decode cX7_leave 26 = .ok (.istore 4, 2) := by decide +kernel
theorem dX7_leave_28 : decode cX7_leave 28 = .ok (.iload_n 2, 1) := by decide +kernel
theorem dX7_leave_29 : decode cX7_leave 29 = .ok (.iconst (-1), 1) := by decide +kernel
theorem dX7_leave_30 : decode cX7_leave 30 = .ok (.if_icmp .eq 18, 3) := by decide +kernel
theorem dX7_leave_33 : decode cX7_leave 33 = .ok (.iload_n 3, 1) := by decide +kernel
theorem dX7_leave_34 : decode cX7_leave 34 = .ok (.iconst 1, 1) := by decide +kernel
theorem dX7_leave_35 : decode cX7_leave 35 = .ok (.bipush 6, 2) := by decide +kernel
theorem dX7_leave_37 : decode cX7_leave 37 = .ok (.invokestatic 41, 3) := by decide +kernel
theorem dX7_leave_40 : decode cX7_leave 40 = .ok (.ifCond .eq 12, 3) := by decide +kernel
theorem dX7_leave_43 : decode cX7_leave 43 = .ok (.iload_n 1, 1) := by decide +kernel
theorem dX7_leave_44 : decode cX7_leave 44 = .ok (.iload_n 2, 1) := by decide +kernel
theorem dX7_leave_45 : decode cX7_leave 45 = .ok (.if_icmp .eq 7, 3) := by decide +kernel
theorem dX7_leave_48 : decode cX7_leave 48 = .ok (.iconst 1, 1) := by decide +kernel
theorem dX7_leave_49 : decode cX7_leave 49 = .ok (.goto 4, 3) := by decide +kernel
theorem dX7_leave_52 : decode cX7_leave 52 = .ok (.iconst 0, 1) := by decide +kernel
theorem dX7_leave_53 : decode cX7_leave 53 = .ok (.istore 5, 2) := by decide +kernel
theorem dX7_leave_55 : decode cX7_leave 55 = .ok (.aload_n 0, 1) := by decide +kernel
theorem dX7_leave_56 : decode cX7_leave 56 = .ok (.iload 4, 2) := by decide +kernel
theorem dX7_leave_58 : decode cX7_leave 58 = .ok (.ifCond .ne 7, 3) := by decide +kernel
theorem dX7_leave_61 : decode cX7_leave 61 = .ok (.iconst 1, 1) := by decide +kernel
theorem dX7_leave_62 : decode cX7_leave 62 = .ok (.goto 13, 3) := by decide +kernel
theorem dX7_leave_65 : decode cX7_leave 65 = .ok (.iload 5, 2) := by decide +kernel
theorem dX7_leave_67 : decode cX7_leave 67 = .ok (.ifCond .ne 7, 3) := by decide +kernel
theorem dX7_leave_70 : decode cX7_leave 70 = .ok (.iconst 2, 1) := by decide +kernel
theorem dX7_leave_71 : decode cX7_leave 71 = .ok (.goto 4, 3) := by decide +kernel
theorem dX7_leave_74 : decode cX7_leave 74 = .ok (.iconst 0, 1) := by decide +kernel
theorem dX7_leave_75 : decode cX7_leave 75 = .ok (.putfield 34, 3) := by decide +kernel
theorem dX7_leave_78 : decode cX7_leave 78 = .ok (.aload_n 0, 1) := by decide +kernel
theorem dX7_leave_79 : decode cX7_leave 79 = .ok (.getfield 34, 3) := by decide +kernel
theorem dX7_leave_82 : decode cX7_leave 82 = .ok (.ifCond .ne 22, 3) := by decide +kernel
theorem dX7_leave_85 : decode cX7_leave 85 = .ok (.aload_n 0, 1) := by decide +kernel
theorem dX7_leave_86 : decode cX7_leave 86 = .ok (.aload_n 0, 1) := by decide +kernel
theorem dX7_leave_87 : decode cX7_leave 87 = .ok (.iload_n 1, 1) := by decide +kernel
theorem dX7_leave_88 : decode cX7_leave 88 = .ok (.iload_n 2, 1) := by decide +kernel
theorem dX7_leave_89 : decode cX7_leave 89 = .ok (.iload_n 3, 1) := by decide +kernel
theorem dX7_leave_90 : decode cX7_leave 90 = .ok (.invokevirtual 117, 3) := by decide +kernel
theorem dX7_leave_93 : decode cX7_leave 93 = .ok (.ifCond .eq 7, 3) := by decide +kernel
theorem dX7_leave_96 : decode cX7_leave 96 = .ok (.iconst 0, 1) := by decide +kernel
theorem dX7_leave_97 : decode cX7_leave 97 = .ok (.goto 4, 3) := by decide +kernel
theorem dX7_leave_100 : decode cX7_leave 100 = .ok (.iconst 3, 1) := by decide +kernel
theorem dX7_leave_101 : decode cX7_leave 101 = .ok (.putfield 34, 3) := by decide +kernel
theorem dX7_leave_104 : decode cX7_leave 104 = .ok (.aload_n 0, 1) := by decide +kernel
theorem dX7_leave_105 : decode cX7_leave 105 = .ok (.getfield 34, 3) := by decide +kernel
theorem dX7_leave_108 : decode cX7_leave 108 = .ok (.ifCond .le 5, 3) := by decide +kernel
theorem dX7_leave_111 : decode cX7_leave 111 = .ok (.iconst 0, 1) := by decide +kernel
theorem dX7_leave_112 : decode cX7_leave 112 = .ok (.ireturn, 1) := by decide +kernel
theorem dX7_leave_113 : decode cX7_leave 113 = .ok (.aload_n 0, 1) := by decide +kernel
theorem dX7_leave_114 : decode cX7_leave 114 = .ok (.invokevirtual 107, 3) := by decide +kernel
theorem dX7_leave_117 : decode cX7_leave 117 = .ok (.aload_n 0, 1) := by decide +kernel
theorem dX7_leave_118 : decode cX7_leave 118 = .ok (.iload_n 1, 1) := by decide +kernel
theorem dX7_leave_119 : decode cX7_leave 119 = .ok (.iconst 4, 1) := by decide +kernel
theorem dX7_leave_120 : decode cX7_leave 120 = .ok (.invokevirtual 45, 3) := by decide +kernel
theorem dX7_leave_123 : decode cX7_leave 123 = .ok (.istore 6, 2) := by decide +kernel
theorem dX7_leave_125 : decode cX7_leave 125 = .ok (.aload_n 0, 1) := by decide +kernel
theorem dX7_leave_126 : decode cX7_leave 126 = .ok (.iload_n 1, 1) := by decide +kernel
theorem dX7_leave_127 : decode cX7_leave 127 = .ok (.iload_n 2, 1) := by decide +kernel
theorem dX7_leave_128 : decode cX7_leave 128 = .ok (.iload_n 3, 1) := by decide +kernel
theorem dX7_leave_129 : decode cX7_leave 129 = .ok (.invokevirtual 110, 3) := by decide +kernel
theorem dX7_leave_132 : decode cX7_leave 132 = .ok (.iload 6, 2) := by decide +kernel
theorem dX7_leave_134 : decode cX7_leave 134 = .ok (.ireturn, 1) := by decide +kernel
set_option maxRecDepth 20000 in
theorem ggX7_addGuest_X7_save : GoodIn wsX7_addGuest wsX7_save := goodIn_r _ [7, 8, 9, 1, 10, 11, 12, 13, 14, 15, 16, 17, 18, 19, 20, 21, 22, 23, 24] rfl (by decide +kernel)
set_option maxRecDepth 20000 in
theorem gX7_addGuest_X7_save : GoodIn wsX7_addGuest (wsV RX7 107 RX7 yX7_save wsX7_save) := goodIn_app (goodIn_of _ (by decide +kernel)) ggX7_addGuest_X7_save
theorem dX7_addGuest_0 : decode cX7_addGuest 0 = .ok (.aload_n 0, 1) := by decide +kernel
theorem dX7_addGuest_1 : decode cX7_addGuest 1 = .ok (.aload_n 0, 1) := by decide +kernel
theorem dX7_addGuest_2 : decode cX7_addGuest 2 = .ok (.getfield 7, 3) := by decide +kernel
theorem dX7_addGuest_5 : decode cX7_addGuest 5 = .ok (.iconst 4, 1) := by decide +kernel
theorem dX7_addGuest_6 : decode cX7_addGuest 6 = .ok (.iaload, 1) := by decide +kernel
theorem dX7_addGuest_7 : decode cX7_addGuest 7 = .ok (.bipush 6, 2) := by decide +kernel
theorem dX7_addGuest_9 : decode cX7_addGuest 9 = .ok (.if_icmp .ne 7, 3) := by decide +kernel
theorem dX7_addGuest_12 : decode cX7_addGuest 12 = .ok (.iconst 1, 1) := by decide +kernel
theorem dX7_addGuest_13 : decode cX7_addGuest 13 = .ok (.goto 4, 3) := by decide +kernel
theorem dX7_addGuest_16 : decode cX7_addGuest 16 = .ok (.iconst 0, 1) := by decide +kernel
theorem dX7_addGuest_17 : decode cX7_addGuest 17 = .ok (.putfield 34, 3) := by decide +kernel
theorem dX7_addGuest_20 : decode cX7_addGuest 20 = .ok (.aload_n 0, 1) := by decide +kernel
theorem dX7_addGuest_21 : decode cX7_addGuest 21 = .ok (.getfield 34, 3) := by decide +kernel
theorem dX7_addGuest_24 : decode cX7_addGuest 24 = .ok (.ifCond .le 5, 3) := by decide +kernel
theorem dX7_addGuest_27 : decode cX7_addGuest 27 = .ok (.iconst 0, 1) := by decide +kernel
theorem dX7_addGuest_28 : decode cX7_addGuest 28 = .ok (.ireturn, 1) := by decide +kernel
theorem dX7_addGuest_29 : decode cX7_addGuest 29 = .ok (.aload_n 0, 1) := by decide +kernel
theorem dX7_addGuest_30 : decode cX7_addGuest 30 = .ok (.invokevirtual 107, 3) := by decide +kernel
theorem dX7_addGuest_33 : decode cX7_addGuest 33 = .ok (.aload_n 0, 1) := by decide +kernel
theorem dX7_addGuest_34 : decode cX7_addGuest 34 = .ok (.getfield 7, 3) := by decide +kernel
theorem dX7_addGuest_37 : decode cX7_addGuest 37 = .ok (.bipush 77, 2) := by decide +kernel
theorem dX7_addGuest_39 : decode cX7_addGuest 39 = .ok (.iconst 2, 1) := by decide +kernel
theorem dX7_addGuest_40 : decode cX7_addGuest 40 = .ok (.aload_n 0, 1) := by decide +kernel
theorem dX7_addGuest_41 : decode cX7_addGuest 41 = .ok (.getfield 7, 3) := by decide +kernel
theorem dX7_addGuest_44 : decode cX7_addGuest 44 = .ok (.iconst 4, 1) := by decide +kernel
theorem dX7_addGuest_45 : decode cX7_addGuest 45 = .ok (.iaload, 1) := by decide +kernel
theorem dX7_addGuest_46 : decode cX7_addGuest 46 = .ok (.imul, 1) := by decide +kernel
theorem dX7_addGuest_47 : decode cX7_addGuest 47 = .ok (.iadd, 1) := by decide +kernel
theorem dX7_addGuest_48 : decode cX7_addGuest 48 = .ok (.iconst 0, 1) := by decide +kernel
theorem dX7_addGuest_49 : decode cX7_addGuest 49 = .ok (.iadd, 1) := by decide +kernel
theorem dX7_addGuest_50 : decode cX7_addGuest 50 = .ok (.bipush 127, 2) := by decide +kernel
theorem dX7_addGuest_52 : decode cX7_addGuest 52 = .ok (.iastore, 1) := by decide +kernel
theorem dX7_addGuest_53 : decode cX7_addGuest 53 = .ok (.aload_n 0, 1) := by decide +kernel
theorem dX7_addGuest_54 : decode cX7_addGuest 54 = .ok (.getfield 7, 3) := by decide +kernel
theorem dX7_addGuest_57 : decode cX7_addGuest 57 = .ok (.bipush 77, 2) := by decide +kernel
theorem dX7_addGuest_59 : decode cX7_addGuest 59 = .ok (.iconst 2, 1) := by decide +kernel
theorem dX7_addGuest_60 : decode cX7_addGuest 60 = .ok (.aload_n 0, 1) := by decide +kernel
theorem dX7_addGuest_61 : decode cX7_addGuest 61 = .ok (.getfield 7, 3) := by decide +kernel
theorem dX7_addGuest_64 : decode cX7_addGuest 64 = .ok (.iconst 4, 1) := by decide +kernel
theorem dX7_addGuest_65 : decode cX7_addGuest 65 = .ok (.iaload, 1) := by decide +kernel
theorem dX7_addGuest_66 : decode cX7_addGuest 66 = .ok (.imul, 1) := by decide +kernel
theorem dX7_addGuest_67 : decode cX7_addGuest 67 = .ok (.iadd, 1) := by decide +kernel
theorem dX7_addGuest_68 : decode cX7_addGuest 68 = .ok (.iconst 1, 1) := by decide +kernel
theorem dX7_addGuest_69 : decode cX7_addGuest 69 = .ok (.iadd, 1) := by decide +kernel
theorem dX7_addGuest_70 : decode cX7_addGuest 70 = .ok (.iconst 0, 1) := by decide +kernel
theorem dX7_addGuest_71 : decode cX7_addGuest 71 = .ok (.iastore, 1) := by decide +kernel
theorem dX7_addGuest_72 : decode cX7_addGuest 72 = .ok (.aload_n 0, 1) := by decide +kernel
theorem dX7_addGuest_73 : decode cX7_addGuest 73 = .ok (.getfield 7, 3) := by decide +kernel
theorem dX7_addGuest_76 : decode cX7_addGuest 76 = .ok (.iconst 4, 1) := by decide +kernel
theorem dX7_addGuest_77 : decode cX7_addGuest 77 = .ok (.dup2, 1) := by decide +kernel
theorem dX7_addGuest_78 : decode cX7_addGuest 78 = .ok (.iaload, 1) := by decide +kernel
theorem dX7_addGuest_79 : decode cX7_addGuest 79 = .ok (.iconst 1, 1) := by decide +kernel
theorem dX7_addGuest_80 : decode cX7_addGuest 80 = .ok (.iadd, 1) := by decide +kernel
theorem dX7_addGuest_81 : decode cX7_addGuest 81 = .ok (.iastore, 1) := by decide +kernel
theorem dX7_addGuest_82 : decode cX7_addGuest 82 = .ok (.aload_n 0, 1) := by decide +kernel
theorem dX7_addGuest_83 : decode cX7_addGuest 83 = .ok (.getfield 7, 3) := by decide +kernel
theorem dX7_addGuest_86 : decode cX7_addGuest 86 = .ok (.iconst 4, 1) := by decide +kernel
theorem dX7_addGuest_87 : decode cX7_addGuest 87 = .ok (.iaload, 1) := by decide +kernel
theorem dX7_addGuest_88 : decode cX7_addGuest 88 = .ok (.iconst 1, 1) := by decide +kernel
theorem dX7_addGuest_89 : decode cX7_addGuest 89 = .ok (.isub, 1) := by decide +kernel
theorem dX7_addGuest_90 : decode cX7_addGuest 90 = .ok (.ireturn, 1) := by decide +kernel
set_option maxRecDepth 20000 in
theorem ggX7_vetoedThen_X7_ofGuest : GoodIn wsX7_vetoedThen wsX7_ofGuest := goodIn_r _ [6, 1, 26, 27, 28, 29, 30, 31, 32, 33, 34, 35, 36, 37, 38, 39, 40] rfl (by decide +kernel)
set_option maxRecDepth 20000 in
theorem gX7_vetoedThen_X7_ofGuest : GoodIn wsX7_vetoedThen (wsV RX7 66 RX7 yX7_ofGuest wsX7_ofGuest) := goodIn_app (goodIn_of _ (by decide +kernel)) ggX7_vetoedThen_X7_ofGuest
set_option maxRecDepth 20000 in
theorem ggX7_vetoedThen_X7_someVetoed : GoodIn wsX7_vetoedThen wsX7_someVetoed := goodIn_r _ [10, 1, 11, 12, 13, 5, 14, 15, 16, 17, 18, 2, 3, 4, 6, 19, 20, 21, 22, 23, 24, 25, 26, 27, 28, 29, 30, 31, 32, 33, 34, 35, 36, 37, 38, 39, 40] rfl (by decide +kernel)
set_option maxRecDepth 20000 in
theorem gX7_vetoedThen_X7_someVetoed : GoodIn wsX7_vetoedThen (wsV RX7 88 RX7 yX7_someVetoed wsX7_someVetoed) := goodIn_app (goodIn_of _ (by decide +kernel)) ggX7_vetoedThen_X7_someVetoed
theorem dX7_vetoedThen_0 : decode cX7_vetoedThen 0 = .ok (.aload_n 0, 1) := by decide +kernel
theorem dX7_vetoedThen_1 : decode cX7_vetoedThen 1 = .ok (.iload_n 1, 1) := by decide +kernel
theorem dX7_vetoedThen_2 : decode cX7_vetoedThen 2 = .ok (.iload_n 2, 1) := by decide +kernel
theorem dX7_vetoedThen_3 : decode cX7_vetoedThen 3 = .ok (.invokevirtual 66, 3) := by decide +kernel
theorem dX7_vetoedThen_6 : decode cX7_vetoedThen 6 = .ok (.istore 4, 2) := by decide +kernel
theorem dX7_vetoedThen_8 : decode cX7_vetoedThen 8 = .ok (.aload_n 0, 1) := by decide +kernel
theorem dX7_vetoedThen_9 : decode cX7_vetoedThen 9 = .ok (.getfield 7, 3) := by decide +kernel
theorem dX7_vetoedThen_12 : decode cX7_vetoedThen 12 = .ok (.bipush 77, 2) := by decide +kernel
theorem dX7_vetoedThen_14 : decode cX7_vetoedThen 14 = .ok (.iconst 2, 1) := by decide +kernel
theorem dX7_vetoedThen_15 : decode cX7_vetoedThen 15 = .ok (.iload_n 1, 1) := by decide +kernel
theorem dX7_vetoedThen_16 : decode cX7_vetoedThen 16 = .ok (.imul, 1) := by decide +kernel
theorem dX7_vetoedThen_17 : decode cX7_vetoedThen 17 = .ok (.iadd, 1) := by decide +kernel
theorem dX7_vetoedThen_18 : decode cX7_vetoedThen 18 = .ok (.iload_n 2, 1) := by decide +kernel
theorem dX7_vetoedThen_19 : decode cX7_vetoedThen 19 = .ok (.iadd, 1) := by decide +kernel
theorem dX7_vetoedThen_20 : decode cX7_vetoedThen 20 = .ok (.iload_n 3, 1) := by decide +kernel
theorem dX7_vetoedThen_21 : decode cX7_vetoedThen 21 = .ok (.iastore, 1) := by decide +kernel
theorem dX7_vetoedThen_22 : decode cX7_vetoedThen 22 = .ok (.aload_n 0, 1) := by decide +kernel
theorem dX7_vetoedThen_23 : decode cX7_vetoedThen 23 = .ok (.invokevirtual 88, 3) := by decide +kernel
theorem dX7_vetoedThen_26 : decode cX7_vetoedThen 26 = .ok (.istore 5, 2) := by decide +kernel
theorem dX7_vetoedThen_28 : decode cX7_vetoedThen 28 = .ok (.aload_n 0, 1) := by decide +kernel
theorem dX7_vetoedThen_29 : decode cX7_vetoedThen 29 = .ok (.getfield 7, 3) := by decide +kernel
theorem dX7_vetoedThen_32 : decode cX7_vetoedThen 32 = .ok (.bipush 77, 2) := by decide +kernel
theorem dX7_vetoedThen_34 : decode cX7_vetoedThen 34 = .ok (.iconst 2, 1) := by decide +kernel
theorem dX7_vetoedThen_35 : decode cX7_vetoedThen 35 = .ok (.iload_n 1, 1) := by decide +kernel
theorem dX7_vetoedThen_36 : decode cX7_vetoedThen 36 = .ok (.imul, 1) := by decide +kernel
theorem dX7_vetoedThen_37 : decode cX7_vetoedThen 37 = .ok (.iadd, 1) := by decide +kernel
theorem dX7_vetoedThen_38 : decode cX7_vetoedThen 38 = .ok (.iload_n 2, 1) := by decide +kernel
theorem dX7_vetoedThen_39 : decode cX7_vetoedThen 39 = .ok (.iadd, 1) := by decide +kernel
theorem dX7_vetoedThen_40 : decode cX7_vetoedThen 40 = .ok (.iload 4, 2) := by decide +kernel
theorem dX7_vetoedThen_42 : decode cX7_vetoedThen 42 = .ok (.iastore, 1) := by decide +kernel
theorem dX7_vetoedThen_43 : decode cX7_vetoedThen 43 = .ok (.iload 5, 2) := by decide +kernel
theorem dX7_vetoedThen_45 : decode cX7_vetoedThen 45 = .ok (.ireturn, 1) := by decide +kernel
set_option maxRecDepth 20000 in
theorem ggX7_changesGuest_X7_isGuest : GoodIn wsX7_changesGuest wsX7_isGuest := goodIn_r _ [7, 2, 8, 9, 6, 10, 44, 45, 46, 47, 48, 49, 50, 51, 52, 53, 54, 55, 56, 57, 58] rfl (by decide +kernel)
set_option maxRecDepth 20000 in
theorem gX7_changesGuest_X7_isGuest : GoodIn wsX7_changesGuest (wsV RX7 120 RX7 yX7_isGuest wsX7_isGuest) := goodIn_app (goodIn_of _ (by decide +kernel)) ggX7_changesGuest_X7_isGuest
set_option maxRecDepth 20000 in
theorem ggX7_changesGuest_X7_within : GoodIn wsX7_changesGuest wsX7_within := goodIn_r _ [10] rfl (by decide +kernel)
set_option maxRecDepth 20000 in
theorem gX7_changesGuest_X7_within : GoodIn wsX7_changesGuest (va_wsS RX7 41 yX7_within wsX7_within) := goodIn_app (goodIn_of _ (by decide +kernel)) ggX7_changesGuest_X7_within
set_option maxRecDepth 20000 in
theorem ggX7_changesGuest_X7_vetoedThen : GoodIn wsX7_changesGuest wsX7_vetoedThen := goodIn_r _ [14, 2, 15, 16, 17, 6, 18, 19, 20, 21, 22, 23, 24, 25, 26, 27, 28, 29, 30, 31, 32, 33, 34, 35, 36, 37, 44, 45, 46, 47, 48, 49, 50, 51, 52, 53, 54, 55, 56, 57, 58] rfl (by decide +kernel)
set_option maxRecDepth 20000 in
theorem gX7_changesGuest_X7_vetoedThen : GoodIn wsX7_changesGuest (wsV RX7 123 RX7 yX7_vetoedThen wsX7_vetoedThen) := goodIn_app (goodIn_of _ (by decide +kernel)) ggX7_changesGuest_X7_vetoedThen
set_option maxRecDepth 20000 in
theorem ggX7_changesGuest_X7_save : GoodIn wsX7_changesGuest wsX7_save := goodIn_r _ [41, 42, 43, 2, 44, 45, 46, 47, 48, 49, 50, 51, 52, 53, 54, 55, 56, 57, 58] rfl (by decide +kernel)
set_option maxRecDepth 20000 in
theorem gX7_changesGuest_X7_save : GoodIn wsX7_changesGuest (wsV RX7 107 RX7 yX7_save wsX7_save) := goodIn_app (goodIn_of _ (by decide +kernel)) ggX7_changesGuest_X7_save
set_option maxRecDepth 20000 in
theorem ggX7_changesGuest_X7_ofGuest : GoodIn wsX7_changesGuest wsX7_ofGuest := goodIn_r _ [18, 2, 44, 45, 46, 47, 48, 49, 50, 51, 52, 53, 54, 55, 56, 57, 58] rfl (by decide +kernel)
set_option maxRecDepth 20000 in
theorem gX7_changesGuest_X7_ofGuest : GoodIn wsX7_changesGuest (wsV RX7 66 RX7 yX7_ofGuest wsX7_ofGuest) := goodIn_app (goodIn_of _ (by decide +kernel)) ggX7_changesGuest_X7_ofGuest
theorem dX7_changesGuest_0 : decode cX7_changesGuest 0 = .ok (.aload_n 0, 1) := by decide +kernel
theorem dX7_changesGuest_1 : decode cX7_changesGuest 1 = .ok (.aload_n 0, 1) := by decide +kernel
theorem dX7_changesGuest_2 : decode cX7_changesGuest 2 = .ok (.iload_n 1, 1) := by decide +kernel
theorem dX7_changesGuest_3 : decode cX7_changesGuest 3 = .ok (.invokevirtual 120, 3) := by decide +kernel
theorem dX7_changesGuest_6 : decode cX7_changesGuest 6 = .ok (.ifCond .ne 7, 3) := by decide +kernel
theorem dX7_changesGuest_9 : decode cX7_changesGuest 9 = .ok (.iconst 1, 1) := by decide +kernel
theorem dX7_changesGuest_10 : decode cX7_changesGuest 10 = .ok (.goto 18, 3) := by decide +kernel
theorem dX7_changesGuest_13 : decode cX7_changesGuest 13 = .ok (.iload_n 3, 1) := by decide +kernel
theorem dX7_changesGuest_14 : decode cX7_changesGuest 14 = .ok (.iconst 0, 1) := by decide +kernel
theorem dX7_changesGuest_15 : decode cX7_changesGuest 15 = .ok (.iload 4, 2) := by decide +kernel
theorem dX7_changesGuest_17 : decode cX7_changesGuest 17 = .ok (.invokestatic 41, 3) := by decide +kernel
theorem dX7_changesGuest_20 : decode cX7_changesGuest 20 = .ok (.ifCond .ne 7, 3) := by decide +kernel
theorem dX7_changesGuest_23 : decode cX7_changesGuest 23 = .ok (.iconst 2, 1) := by decide +kernel
theorem dX7_changesGuest_24 : decode cX7_changesGuest 24 = .ok (.goto 4, 3) := by decide +kernel
theorem dX7_changesGuest_27 : decode cX7_changesGuest 27 = .ok (.iconst 0, 1) := by decide +kernel
theorem dX7_changesGuest_28 : decode cX7_changesGuest 28 = .ok (.putfield 34, 3) := by decide +kernel
theorem dX7_changesGuest_31 : decode cX7_changesGuest 31 = .ok (.aload_n 0, 1) := by decide +kernel
theorem dX7_changesGuest_32 : decode cX7_changesGuest 32 = .ok (.getfield 34, 3) := by decide +kernel
theorem dX7_changesGuest_35 : decode cX7_changesGuest 35 = .ok (.ifCond .ne 22, 3) := by decide +kernel
theorem dX7_changesGuest_38 : decode cX7_changesGuest 38 = .ok (.aload_n 0, 1) := by decide +kernel
theorem dX7_changesGuest_39 : decode cX7_changesGuest 39 = .ok (.aload_n 0, 1) := by decide +kernel
theorem dX7_changesGuest_40 : decode cX7_changesGuest 40 = .ok (.iload_n 1, 1) := by decide +kernel
theorem dX7_changesGuest_41 : decode cX7_changesGuest 41 = .ok (.iload_n 2, 1) := by decide +kernel
theorem dX7_changesGuest_42 : decode cX7_changesGuest 42 = .ok (.iload_n 3, 1) := by decide +kernel
theorem dX7_changesGuest_43 : decode cX7_changesGuest 43 = .ok (.invokevirtual 123, 3) := by decide +kernel
theorem dX7_changesGuest_46 : decode cX7_changesGuest 46 = .ok (.ifCond .eq 7, 3) := by decide +kernel
theorem dX7_changesGuest_49 : decode cX7_changesGuest 49 = .ok (.iconst 3, 1) := by decide +kernel
theorem dX7_changesGuest_50 : decode cX7_changesGuest 50 = .ok (.goto 4, 3) := by decide +kernel
theorem dX7_changesGuest_53 : decode cX7_changesGuest 53 = .ok (.iconst 0, 1) := by decide +kernel
theorem dX7_changesGuest_54 : decode cX7_changesGuest 54 = .ok (.putfield 34, 3) := by decide +kernel
theorem dX7_changesGuest_57 : decode cX7_changesGuest 57 = .ok (.aload_n 0, 1) := by decide +kernel
theorem dX7_changesGuest_58 : decode cX7_changesGuest 58 = .ok (.getfield 34, 3) := by decide +kernel
theorem dX7_changesGuest_61 : decode cX7_changesGuest 61 = .ok (.ifCond .le 5, 3) := by decide +kernel
theorem dX7_changesGuest_64 : decode cX7_changesGuest 64 = .ok (.iconst 0, 1) := by decide +kernel
theorem dX7_changesGuest_65 : decode cX7_changesGuest 65 = .ok (.ireturn, 1) := by decide +kernel
theorem dX7_changesGuest_66 : decode cX7_changesGuest 66 = .ok (.aload_n 0, 1) := by decide +kernel
theorem dX7_changesGuest_67 : decode cX7_changesGuest 67 = .ok (.invokevirtual 107, 3) := by decide +kernel
theorem dX7_changesGuest_70 : decode cX7_changesGuest 70 = .ok (.aload_n 0, 1) := by decide +kernel
theorem dX7_changesGuest_71 : decode cX7_changesGuest 71 = .ok (.iload_n 1, 1) := by decide +kernel
theorem dX7_changesGuest_72 : decode cX7_changesGuest 72 = .ok (.iload_n 2, 1) := by decide +kernel
theorem dX7_changesGuest_73 : decode cX7_changesGuest 73 = .ok (.invokevirtual 66, 3) := by decide +kernel
theorem dX7_changesGuest_76 : decode cX7_changesGuest 76 = .ok (.istore 5, 2) := by decide +kernel
theorem dX7_changesGuest_78 : decode cX7_changesGuest 78 = .ok (.aload_n 0, 1) := by decide +kernel
theorem dX7_changesGuest_79 : decode cX7_changesGuest 79 = .ok (.getfield 7, 3) := by decide +kernel
theorem dX7_changesGuest_82 : decode cX7_changesGuest 82 = .ok (.bipush 77, 2) := by decide +kernel
theorem dX7_changesGuest_84 : decode cX7_changesGuest 84 = .ok (.iconst 2, 1) := by decide +kernel
theorem dX7_changesGuest_85 : decode cX7_changesGuest 85 = .ok (.iload_n 1, 1) := by decide +kernel
theorem dX7_changesGuest_86 : decode cX7_changesGuest 86 = .ok (.imul, 1) := by decide +kernel
theorem dX7_changesGuest_87 : decode cX7_changesGuest 87 = .ok (.iadd, 1) := by decide +kernel
theorem dX7_changesGuest_88 : decode cX7_changesGuest 88 = .ok (.iload_n 2, 1) := by decide +kernel
theorem dX7_changesGuest_89 : decode cX7_changesGuest 89 = .ok (.iadd, 1) := by decide +kernel
theorem dX7_changesGuest_90 : decode cX7_changesGuest 90 = .ok (.iload_n 3, 1) := by decide +kernel
theorem dX7_changesGuest_91 : decode cX7_changesGuest 91 = .ok (.iastore, 1) := by decide +kernel
theorem dX7_changesGuest_92 : decode cX7_changesGuest 92 = .ok (.iload 5, 2) := by decide +kernel
theorem dX7_changesGuest_94 : decode cX7_changesGuest 94 = .ok (.ireturn, 1) := by decide +kernel
set_option maxRecDepth 20000 in
theorem ggX7_come_X7_changesGuest : GoodIn wsX7_come wsX7_changesGuest := goodIn_r _ [5, 6, 7, 8, 9, 10, 4, 11, 12, 13, 14, 15, 16, 17, 18, 19, 20, 21, 22, 23, 24, 25, 26, 27, 28, 29, 30, 31, 32, 33, 34, 35, 36, 37, 38, 39, 40, 41, 42, 43, 44, 45, 46, 47, 48, 49, 50, 51, 52, 53, 54, 55, 56, 57, 58, 59, 60, 61, 62] rfl (by decide +kernel)
set_option maxRecDepth 20000 in
theorem gX7_come_X7_changesGuest : GoodIn wsX7_come (wsV RX7 126 RX7 yX7_changesGuest wsX7_changesGuest) := goodIn_app (goodIn_of _ (by decide +kernel)) ggX7_come_X7_changesGuest
theorem dX7_come_0 : decode cX7_come 0 = .ok (.aload_n 0, 1) := by decide +kernel
theorem dX7_come_1 : decode cX7_come 1 = .ok (.iload_n 1, 1) := by decide +kernel
theorem dX7_come_2 : decode cX7_come 2 = .ok (.iconst 0, 1) := by decide +kernel
theorem dX7_come_3 : decode cX7_come 3 = .ok (.iload_n 2, 1) := by decide +kernel
theorem dX7_come_4 : decode cX7_come 4 = .ok (.bipush 127, 2) := by decide +kernel
theorem dX7_come_6 : decode cX7_come 6 = .ok (.invokevirtual 126, 3) := by decide +kernel
theorem dX7_come_9 : decode cX7_come 9 = .ok (.ireturn, 1) := by decide +kernel
set_option maxRecDepth 20000 in
theorem ggX7_veto_X7_changesGuest : GoodIn wsX7_veto wsX7_changesGuest := goodIn_r _ [5, 6, 7, 8, 9, 10, 4, 11, 12, 13, 14, 15, 16, 17, 18, 19, 20, 21, 22, 23, 24, 25, 26, 27, 28, 29, 30, 31, 32, 33, 34, 35, 36, 37, 38, 39, 40, 41, 42, 43, 44, 45, 46, 47, 48, 49, 50, 51, 52, 53, 54, 55, 56, 57, 58, 59, 60, 61, 62] rfl (by decide +kernel)
set_option maxRecDepth 20000 in
theorem gX7_veto_X7_changesGuest : GoodIn wsX7_veto (wsV RX7 126 RX7 yX7_changesGuest wsX7_changesGuest) := goodIn_app (goodIn_of _ (by decide +kernel)) ggX7_veto_X7_changesGuest
theorem dX7_veto_0 : decode cX7_veto 0 = .ok (.aload_n 0, 1) := by decide +kernel
theorem dX7_veto_1 : decode cX7_veto 1 = .ok (.iload_n 1, 1) := by decide +kernel
theorem dX7_veto_2 : decode cX7_veto 2 = .ok (.iconst 1, 1) := by decide +kernel
theorem dX7_veto_3 : decode cX7_veto 3 = .ok (.iload_n 2, 1) := by decide +kernel
theorem dX7_veto_4 : decode cX7_veto 4 = .ok (.bipush 63, 2) := by decide +kernel
theorem dX7_veto_6 : decode cX7_veto 6 = .ok (.invokevirtual 126, 3) := by decide +kernel
theorem dX7_veto_9 : decode cX7_veto 9 = .ok (.ireturn, 1) := by decide +kernel
set_option maxRecDepth 20000 in
theorem ggX7_isSetting_X7_within : GoodIn wsX7_isSetting wsX7_within := goodIn_r _ [4] rfl (by decide +kernel)
set_option maxRecDepth 20000 in
theorem gX7_isSetting_X7_within : GoodIn wsX7_isSetting (va_wsS RX7 41 yX7_within wsX7_within) := goodIn_app (goodIn_of _ (by decide +kernel)) ggX7_isSetting_X7_within
theorem dX7_isSetting_0 : decode cX7_isSetting 0 = .ok (.iload_n 0, 1) := by decide +kernel
theorem dX7_isSetting_1 : decode cX7_isSetting 1 = .ok (.iconst 0, 1) := by decide +kernel
theorem dX7_isSetting_2 : decode cX7_isSetting 2 = .ok (.iconst 2, 1) := by decide +kernel
theorem dX7_isSetting_3 : decode cX7_isSetting 3 = .ok (.invokestatic 41, 3) := by decide +kernel
theorem dX7_isSetting_6 : decode cX7_isSetting 6 = .ok (.ireturn, 1) := by decide +kernel
set_option maxRecDepth 20000 in
theorem ggX7_isValue_X7_within : GoodIn wsX7_isValue wsX7_within := goodIn_r _ [4] rfl (by decide +kernel)
set_option maxRecDepth 20000 in
theorem gX7_isValue_X7_within : GoodIn wsX7_isValue (va_wsS RX7 41 yX7_within wsX7_within) := goodIn_app (goodIn_of _ (by decide +kernel)) ggX7_isValue_X7_within
theorem dX7_isValue_0 : decode cX7_isValue 0 = .ok (.iload_n 0, 1) := by decide +kernel
theorem dX7_isValue_1 : decode cX7_isValue 1 = .ok (.ifCond .ne 13, 3) := by decide +kernel
theorem dX7_isValue_4 : decode cX7_isValue 4 = .ok (.iload_n 1, 1) := by decide +kernel
theorem dX7_isValue_5 : decode cX7_isValue 5 = .ok (.iconst 0, 1) := by decide +kernel
theorem dX7_isValue_6 : decode cX7_isValue 6 = .ok (.bipush 9, 2) := by decide +kernel
theorem dX7_isValue_8 : decode cX7_isValue 8 = .ok (.invokestatic 41, 3) := by decide +kernel
theorem dX7_isValue_11 : decode cX7_isValue 11 = .ok (.goto 26, 3) := by decide +kernel
theorem dX7_isValue_14 : decode cX7_isValue 14 = .ok (.iload_n 0, 1) := by decide +kernel
theorem dX7_isValue_15 : decode cX7_isValue 15 = .ok (.iconst 1, 1) := by decide +kernel
theorem dX7_isValue_16 : decode cX7_isValue 16 = .ok (.if_icmp .ne 13, 3) := by decide +kernel
theorem dX7_isValue_19 : decode cX7_isValue 19 = .ok (.iload_n 1, 1) := by decide +kernel
theorem dX7_isValue_20 : decode cX7_isValue 20 = .ok (.iconst 1, 1) := by decide +kernel
theorem dX7_isValue_21 : decode cX7_isValue 21 = .ok (.bipush 10, 2) := by decide +kernel
theorem dX7_isValue_23 : decode cX7_isValue 23 = .ok (.invokestatic 41, 3) := by decide +kernel
theorem dX7_isValue_26 : decode cX7_isValue 26 = .ok (.goto 11, 3) := by decide +kernel
theorem dX7_isValue_29 : decode cX7_isValue 29 = .ok (.iload_n 1, 1) := by decide +kernel
theorem dX7_isValue_30 : decode cX7_isValue 30 = .ok (.iconst 0, 1) := by decide +kernel
theorem dX7_isValue_31 : decode cX7_isValue 31 = .ok (.sipush 999, 3) := by decide +kernel
theorem dX7_isValue_34 : decode cX7_isValue 34 = .ok (.invokestatic 41, 3) := by decide +kernel
theorem dX7_isValue_37 : decode cX7_isValue 37 = .ok (.ireturn, 1) := by decide +kernel
set_option maxRecDepth 20000 in
theorem ggX7_set_X7_isSetting : GoodIn wsX7_set wsX7_isSetting := goodIn_r _ [6, 7, 8, 5, 9] rfl (by decide +kernel)
set_option maxRecDepth 20000 in
theorem gX7_set_X7_isSetting : GoodIn wsX7_set (va_wsS RX7 130 yX7_isSetting wsX7_isSetting) := goodIn_app (goodIn_of _ (by decide +kernel)) ggX7_set_X7_isSetting
set_option maxRecDepth 20000 in
theorem ggX7_set_X7_isValue : GoodIn wsX7_set wsX7_isValue := goodIn_r _ [12, 7, 8, 5, 9] rfl (by decide +kernel)
set_option maxRecDepth 20000 in
theorem gX7_set_X7_isValue : GoodIn wsX7_set (va_wsS RX7 133 yX7_isValue wsX7_isValue) := goodIn_app (goodIn_of _ (by decide +kernel)) ggX7_set_X7_isValue
set_option maxRecDepth 20000 in
theorem ggX7_set_X7_isDear : GoodIn wsX7_set wsX7_isDear := goodIn_r _ [16, 17, 18, 19, 5, 20, 21, 22, 23, 24, 25, 26, 27, 28, 2, 29, 30, 31, 32, 39, 40, 41, 42, 43, 44, 45, 46, 47, 48, 49, 50, 51, 52, 53] rfl (by decide +kernel)
set_option maxRecDepth 20000 in
theorem gX7_set_X7_isDear : GoodIn wsX7_set (wsV RX7 92 RX7 yX7_isDear wsX7_isDear) := goodIn_app (goodIn_of _ (by decide +kernel)) ggX7_set_X7_isDear
set_option maxRecDepth 20000 in
theorem ggX7_set_X7_save : GoodIn wsX7_set wsX7_save := goodIn_r _ [36, 37, 38, 2, 39, 40, 41, 42, 43, 44, 45, 46, 47, 48, 49, 50, 51, 52, 53] rfl (by decide +kernel)
set_option maxRecDepth 20000 in
theorem gX7_set_X7_save : GoodIn wsX7_set (wsV RX7 107 RX7 yX7_save wsX7_save) := goodIn_app (goodIn_of _ (by decide +kernel)) ggX7_set_X7_save
theorem dX7_set_0 : decode cX7_set 0 = .ok (.aload_n 0, 1) := by decide +kernel
theorem dX7_set_1 : decode cX7_set 1 = .ok (.iload_n 1, 1) := by decide +kernel
theorem dX7_set_2 : decode cX7_set 2 = .ok (.invokestatic 130, 3) := by decide +kernel
theorem dX7_set_5 : decode cX7_set 5 = .ok (.ifCond .ne 7, 3) := by decide +kernel
theorem dX7_set_8 : decode cX7_set 8 = .ok (.iconst 1, 1) := by decide +kernel
theorem dX7_set_9 : decode cX7_set 9 = .ok (.goto 33, 3) := by decide +kernel
theorem dX7_set_12 : decode cX7_set 12 = .ok (.iload_n 1, 1) := by decide +kernel
theorem dX7_set_13 : decode cX7_set 13 = .ok (.iload_n 2, 1) := by decide +kernel
theorem dX7_set_14 : decode cX7_set 14 = .ok (.invokestatic 133, 3) := by decide +kernel
theorem dX7_set_17 : decode cX7_set 17 = .ok (.ifCond .ne 7, 3) := by decide +kernel
theorem dX7_set_20 : decode cX7_set 20 = .ok (.iconst 2, 1) := by decide +kernel
theorem dX7_set_21 : decode cX7_set 21 = .ok (.goto 21, 3) := by decide +kernel
theorem dX7_set_24 : decode cX7_set 24 = .ok (.iload_n 1, 1) := by decide +kernel
theorem dX7_set_25 : decode cX7_set 25 = .ok (.iconst 2, 1) := by decide +kernel
theorem dX7_set_26 : decode cX7_set 26 = .ok (.if_icmp .ne 15, 3) := by decide +kernel
theorem dX7_set_29 : decode cX7_set 29 = .ok (.aload_n 0, 1) := by decide +kernel
theorem dX7_set_30 : decode cX7_set 30 = .ok (.iload_n 2, 1) := by decide +kernel
theorem dX7_set_31 : decode cX7_set 31 = .ok (.invokevirtual 92, 3) := by decide +kernel
theorem dX7_set_34 : decode cX7_set 34 = .ok (.ifCond .eq 7, 3) := by decide +kernel
theorem dX7_set_37 : decode cX7_set 37 = .ok (.iconst 3, 1) := by decide +kernel
theorem dX7_set_38 : decode cX7_set 38 = .ok (.goto 4, 3) := by decide +kernel
theorem dX7_set_41 : decode cX7_set 41 = .ok (.iconst 0, 1) := by decide +kernel
theorem dX7_set_42 : decode cX7_set 42 = .ok (.putfield 34, 3) := by decide +kernel
theorem dX7_set_45 : decode cX7_set 45 = .ok (.aload_n 0, 1) := by decide +kernel
theorem dX7_set_46 : decode cX7_set 46 = .ok (.getfield 34, 3) := by decide +kernel
theorem dX7_set_49 : decode cX7_set 49 = .ok (.ifCond .le 5, 3) := by decide +kernel
theorem dX7_set_52 : decode cX7_set 52 = .ok (.iconst 0, 1) := by decide +kernel
theorem dX7_set_53 : decode cX7_set 53 = .ok (.ireturn, 1) := by decide +kernel
theorem dX7_set_54 : decode cX7_set 54 = .ok (.aload_n 0, 1) := by decide +kernel
theorem dX7_set_55 : decode cX7_set 55 = .ok (.invokevirtual 107, 3) := by decide +kernel
theorem dX7_set_58 : decode cX7_set 58 = .ok (.aload_n 0, 1) := by decide +kernel
theorem dX7_set_59 : decode cX7_set 59 = .ok (.getfield 7, 3) := by decide +kernel
theorem dX7_set_62 : decode cX7_set 62 = .ok (.iload_n 1, 1) := by decide +kernel
theorem dX7_set_63 : decode cX7_set 63 = .ok (.iaload, 1) := by decide +kernel
theorem dX7_set_64 : decode cX7_set 64 = .ok (.istore_n 3, 1) := by decide +kernel
theorem dX7_set_65 : decode cX7_set 65 = .ok (.aload_n 0, 1) := by decide +kernel
theorem dX7_set_66 : decode cX7_set 66 = .ok (.getfield 7, 3) := by decide +kernel
theorem dX7_set_69 : decode cX7_set 69 = .ok (.iload_n 1, 1) := by decide +kernel
theorem dX7_set_70 : decode cX7_set 70 = .ok (.iload_n 2, 1) := by decide +kernel
theorem dX7_set_71 : decode cX7_set 71 = .ok (.iastore, 1) := by decide +kernel
theorem dX7_set_72 : decode cX7_set 72 = .ok (.iload_n 3, 1) := by decide +kernel
theorem dX7_set_73 : decode cX7_set 73 = .ok (.ireturn, 1) := by decide +kernel
theorem dX7_put_0 : decode cX7_put 0 = .ok (.aload_n 0, 1) := by decide +kernel
theorem dX7_put_1 : decode cX7_put 1 = .ok (.getfield 7, 3) := by decide +kernel
theorem dX7_put_4 : decode cX7_put 4 = .ok (.bipush 89, 2) := by decide +kernel
theorem dX7_put_6 : decode cX7_put 6 = .ok (.iconst 3, 1) := by decide +kernel
theorem dX7_put_7 : decode cX7_put 7 = .ok (.iload_n 1, 1) := by decide +kernel
theorem dX7_put_8 : decode cX7_put 8 = .ok (.imul, 1) := by decide +kernel
theorem dX7_put_9 : decode cX7_put 9 = .ok (.iadd, 1) := by decide +kernel
theorem dX7_put_10 : decode cX7_put 10 = .ok (.iload_n 2, 1) := by decide +kernel
theorem dX7_put_11 : decode cX7_put 11 = .ok (.iadd, 1) := by decide +kernel
theorem dX7_put_12 : decode cX7_put 12 = .ok (.iload_n 3, 1) := by decide +kernel
theorem dX7_put_13 : decode cX7_put 13 = .ok (.iastore, 1) := by decide +kernel
theorem dX7_put_14 : decode cX7_put 14 = .ok (.return_, 1) := by decide +kernel
set_option maxRecDepth 20000 in
theorem ggX7_soundWith_X7_at : GoodIn wsX7_soundWith wsX7_at := goodIn_r _ [5, 6, 41, 42, 43, 44, 45, 46, 47, 48, 49, 50, 51, 52, 53, 54, 55] rfl (by decide +kernel)
set_option maxRecDepth 20000 in
theorem gX7_soundWith_X7_at : GoodIn wsX7_soundWith (wsV RX7 79 RX7 yX7_at wsX7_at) := goodIn_app (goodIn_of _ (by decide +kernel)) ggX7_soundWith_X7_at
set_option maxRecDepth 20000 in
theorem ggX7_soundWith_X7_put : GoodIn wsX7_soundWith wsX7_put := goodIn_r _ [10, 6, 41, 42, 43, 44, 45, 46, 47, 48, 49, 50, 51, 52, 53, 54, 55] rfl (by decide +kernel)
set_option maxRecDepth 20000 in
theorem gX7_soundWith_X7_put : GoodIn wsX7_soundWith (wsV RX7 136 RX7 yX7_put wsX7_put) := goodIn_app (goodIn_of _ (by decide +kernel)) ggX7_soundWith_X7_put
set_option maxRecDepth 20000 in
theorem ggX7_soundWith_X7_match : GoodIn wsX7_soundWith wsX7_match := goodIn_r _ [14, 15, 16, 6, 17, 18, 19, 4, 20, 21, 22, 23, 24, 25, 26, 27, 28, 29, 30, 31, 32, 33, 34, 35, 36, 37, 38, 39, 40, 41, 42, 43, 44, 45, 46, 47, 48, 49, 50, 51, 52, 53, 54, 55] rfl (by decide +kernel)
set_option maxRecDepth 20000 in
theorem gX7_soundWith_X7_match : GoodIn wsX7_soundWith (wsV RX7 95 RX7 yX7_match wsX7_match) := goodIn_app (goodIn_of _ (by decide +kernel)) ggX7_soundWith_X7_match
theorem dX7_soundWith_0 : decode cX7_soundWith 0 = .ok (.aload_n 0, 1) := by decide +kernel
theorem dX7_soundWith_1 : decode cX7_soundWith 1 = .ok (.iload_n 1, 1) := by decide +kernel
theorem dX7_soundWith_2 : decode cX7_soundWith 2 = .ok (.iload_n 2, 1) := by decide +kernel
theorem dX7_soundWith_3 : decode cX7_soundWith 3 = .ok (.invokevirtual 79, 3) := by decide +kernel
theorem dX7_soundWith_6 : decode cX7_soundWith 6 = .ok (.istore 4, 2) := by decide +kernel
theorem dX7_soundWith_8 : decode cX7_soundWith 8 = .ok (.aload_n 0, 1) := by decide +kernel
theorem dX7_soundWith_9 : decode cX7_soundWith 9 = .ok (.iload_n 1, 1) := by decide +kernel
theorem dX7_soundWith_10 : decode cX7_soundWith 10 = .ok (.iload_n 2, 1) := by decide +kernel
theorem dX7_soundWith_11 : decode cX7_soundWith 11 = .ok (.iload_n 3, 1) := by decide +kernel
theorem dX7_soundWith_12 : decode cX7_soundWith 12 = .ok (.invokevirtual 136, 3) := by decide +kernel
theorem dX7_soundWith_15 : decode cX7_soundWith 15 = .ok (.aload_n 0, 1) := by decide +kernel
theorem dX7_soundWith_16 : decode cX7_soundWith 16 = .ok (.invokevirtual 95, 3) := by decide +kernel
theorem dX7_soundWith_19 : decode cX7_soundWith 19 = .ok (.istore 5, 2) := by decide +kernel
theorem dX7_soundWith_21 : decode cX7_soundWith 21 = .ok (.aload_n 0, 1) := by decide +kernel
theorem dX7_soundWith_22 : decode cX7_soundWith 22 = .ok (.iload_n 1, 1) := by decide +kernel
theorem dX7_soundWith_23 : decode cX7_soundWith 23 = .ok (.iload_n 2, 1) := by decide +kernel
theorem dX7_soundWith_24 : decode cX7_soundWith 24 = .ok (.iload 4, 2) := by decide +kernel
theorem dX7_soundWith_26 : decode cX7_soundWith 26 = .ok (.invokevirtual 136, 3) := by decide +kernel
theorem dX7_soundWith_29 : decode cX7_soundWith 29 = .ok (.iload 5, 2) := by decide +kernel
theorem dX7_soundWith_31 : decode cX7_soundWith 31 = .ok (.ireturn, 1) := by decide +kernel
set_option maxRecDepth 20000 in
theorem ggX7_reason_X7_at : GoodIn wsX7_reason wsX7_at := goodIn_r _ [6, 1, 68, 69, 70, 71, 72, 73, 74, 75, 76, 77, 78, 79, 80, 81, 82] rfl (by decide +kernel)
set_option maxRecDepth 20000 in
theorem gX7_reason_X7_at : GoodIn wsX7_reason (wsV RX7 79 RX7 yX7_at wsX7_at) := goodIn_app (goodIn_of _ (by decide +kernel)) ggX7_reason_X7_at
set_option maxRecDepth 20000 in
theorem ggX7_reason_X7_of : GoodIn wsX7_reason wsX7_of := goodIn_r _ [10, 1, 68, 69, 70, 71, 72, 73, 74, 75, 76, 77, 78, 79, 80, 81, 82] rfl (by decide +kernel)
set_option maxRecDepth 20000 in
theorem gX7_reason_X7_of : GoodIn wsX7_reason (wsV RX7 45 RX7 yX7_of wsX7_of) := goodIn_app (goodIn_of _ (by decide +kernel)) ggX7_reason_X7_of
set_option maxRecDepth 20000 in
theorem ggX7_reason_X7_isVetoed : GoodIn wsX7_reason wsX7_isVetoed := goodIn_r _ [14, 15, 16, 17, 5, 18, 1, 19, 20, 21, 22, 23, 24, 25, 7, 8, 9, 10, 68, 69, 70, 71, 72, 73, 74, 75, 76, 77, 78, 79, 80, 81, 82] rfl (by decide +kernel)
set_option maxRecDepth 20000 in
theorem gX7_reason_X7_isVetoed : GoodIn wsX7_reason (wsV RX7 76 RX7 yX7_isVetoed wsX7_isVetoed) := goodIn_app (goodIn_of _ (by decide +kernel)) ggX7_reason_X7_isVetoed
