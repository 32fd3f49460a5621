theorem dX3_placeAfterFirstDigit_9 : decode cX3_placeAfterFirstDigit 9 = .ok (.bipush 50, 2) := by decide +kernel
theorem dX3_placeAfterFirstDigit_11 : decode cX3_placeAfterFirstDigit 11 = .ok (.if_icmp .ne 5, 3) := by decide +kernel
theorem dX3_placeAfterFirstDigit_14 : decode cX3_placeAfterFirstDigit 14 = .ok (.iconst 3, 1) := by decide +kernel
theorem dX3_placeAfterFirstDigit_15 : decode cX3_placeAfterFirstDigit 15 = .ok (.ireturn, 1) := by decide +kernel
theorem dX3_placeAfterFirstDigit_16 : decode cX3_placeAfterFirstDigit 16 = .ok (.iload_n 0, 1) := by decide +kernel
theorem dX3_placeAfterFirstDigit_17 : decode cX3_placeAfterFirstDigit 17 = .ok (.bipush 48, 2) := by decide +kernel
theorem dX3_placeAfterFirstDigit_19 : decode cX3_placeAfterFirstDigit 19 = .ok (.bipush 57, 2) := by decide +kernel
theorem dX3_placeAfterFirstDigit_21 : decode cX3_placeAfterFirstDigit 21 = .ok (.invokestatic 39, 3) := by decide +kernel
theorem dX3_placeAfterFirstDigit_24 : decode cX3_placeAfterFirstDigit 24 = .ok (.ifCond .eq 7, 3) := by decide +kernel
theorem dX3_placeAfterFirstDigit_27 : decode cX3_placeAfterFirstDigit 27 = .ok (.iconst 4, 1) := by decide +kernel
theorem dX3_placeAfterFirstDigit_28 : decode cX3_placeAfterFirstDigit 28 = .ok (.goto 4, 3) := by decide +kernel
theorem dX3_placeAfterFirstDigit_31 : decode cX3_placeAfterFirstDigit 31 = .ok (.iconst (-1), 1) := by decide +kernel
theorem dX3_placeAfterFirstDigit_32 : decode cX3_placeAfterFirstDigit 32 = .ok (.ireturn, 1) := by decide +kernel
theorem dX3_placeAfterDay_0 : decode cX3_placeAfterDay 0 = .ok (.iload_n 0, 1) := by decide +kernel
theorem dX3_placeAfterDay_1 : decode cX3_placeAfterDay 1 = .ok (.bipush 61, 2) := by decide +kernel
theorem dX3_placeAfterDay_3 : decode cX3_placeAfterDay 3 = .ok (.if_icmp .ne 7, 3) := by decide +kernel
theorem dX3_placeAfterDay_6 : decode cX3_placeAfterDay 6 = .ok (.iconst 5, 1) := by decide +kernel
theorem dX3_placeAfterDay_7 : decode cX3_placeAfterDay 7 = .ok (.goto 4, 3) := by decide +kernel
theorem dX3_placeAfterDay_10 : decode cX3_placeAfterDay 10 = .ok (.iconst (-1), 1) := by decide +kernel
theorem dX3_placeAfterDay_11 : decode cX3_placeAfterDay 11 = .ok (.ireturn, 1) := by decide +kernel
set_option maxRecDepth 20000 in
theorem ggX3_entryCount_X6_at : GoodIn wsX3_entryCount wsX6_at := goodIn_r _ [5] rfl (by decide +kernel)
set_option maxRecDepth 20000 in
theorem gX3_entryCount_X6_at_n23 : GoodIn wsX3_entryCount (wsX6_at) := ggX3_entryCount_X6_at
theorem dX3_entryCount_0 : decode cX3_entryCount 0 = .ok (.iconst 1, 1) := by decide +kernel
theorem dX3_entryCount_1 : decode cX3_entryCount 1 = .ok (.istore_n 1, 1) := by decide +kernel
theorem dX3_entryCount_2 : decode cX3_entryCount 2 = .ok (.iconst 0, 1) := by decide +kernel
theorem dX3_entryCount_3 : decode cX3_entryCount 3 = .ok (.istore_n 2, 1) := by decide +kernel
theorem dX3_entryCount_4 : decode cX3_entryCount 4 = .ok (.iload_n 2, 1) := by decide +kernel
theorem dX3_entryCount_5 : decode cX3_entryCount 5 = .ok (.aload_n 0, 1) := by decide +kernel
theorem dX3_entryCount_6 : decode cX3_entryCount 6 = .ok (.getfield 15, 3) := by decide +kernel
theorem dX3_entryCount_9 : decode cX3_entryCount 9 = .ok (.if_icmp .ge 25, 3) := by decide +kernel
theorem dX3_entryCount_12 : decode cX3_entryCount 12 = .ok (.aload_n 0, 1) := by decide +kernel
theorem dX3_entryCount_13 : decode cX3_entryCount 13 = .ok (.getfield 9, 3) := by decide +kernel
theorem dX3_entryCount_16 : decode cX3_entryCount 16 = .ok (.iload_n 2, 1) := by decide +kernel
theorem dX3_entryCount_17 : decode cX3_entryCount 17 = .ok (.invokestatic 23, 3) := by decide +kernel
theorem dX3_entryCount_20 : decode cX3_entryCount 20 = .ok (.bipush 59, 2) := by decide +kernel
theorem dX3_entryCount_22 : decode cX3_entryCount 22 = .ok (.if_icmp .ne 6, 3) := by decide +kernel
theorem dX3_entryCount_25 : decode cX3_entryCount 25 = .ok (.iinc 1 1, 3) := by decide +kernel
theorem dX3_entryCount_28 : decode cX3_entryCount 28 = .ok (.iinc 2 1, 3) := by decide +kernel
theorem dX3_entryCount_31 : decode cX3_entryCount 31 = .ok (.goto (-27), 3) := by decide +kernel
theorem dX3_entryCount_34 : decode cX3_entryCount 34 = .ok (.iload_n 1, 1) := by decide +kernel
theorem dX3_entryCount_35 : decode cX3_entryCount 35 = .ok (.ireturn, 1) := by decide +kernel
set_option maxRecDepth 20000 in
theorem ggX3_startOf_X6_at : GoodIn wsX3_startOf wsX6_at := goodIn_r _ [5] rfl (by decide +kernel)
set_option maxRecDepth 20000 in
theorem gX3_startOf_X6_at_n23 : GoodIn wsX3_startOf (wsX6_at) := ggX3_startOf_X6_at
theorem dX3_startOf_0 : decode cX3_startOf 0 = .ok (.iconst 0, 1) := by decide +kernel
theorem dX3_startOf_1 : decode cX3_startOf 1 = .ok (.istore_n 2, 1) := by decide +kernel
theorem dX3_startOf_2 : decode cX3_startOf 2 = .ok (.iconst 0, 1) := by decide +kernel
theorem dX3_startOf_3 : decode cX3_startOf 3 = .ok (.istore_n 3, 1) := by decide +kernel
theorem dX3_startOf_4 : decode cX3_startOf 4 = .ok (.iconst 0, 1) := by decide +kernel
theorem dX3_startOf_5 : decode cX3_startOf 5 = .ok (.istore 4, 2) := by decide +kernel
theorem dX3_startOf_7 : decode cX3_startOf 7 = .ok (.iload 4, 2) := by decide +kernel
theorem dX3_startOf_9 : decode cX3_startOf 9 = .ok (.aload_n 0, 1) := by decide +kernel
theorem dX3_startOf_10 : decode cX3_startOf 10 = .ok (.getfield 15, 3) := by decide +kernel
theorem dX3_startOf_13 : decode cX3_startOf 13 = .ok (.if_icmp .ge 36, 3) := by decide +kernel
theorem dX3_startOf_16 : decode cX3_startOf 16 = .ok (.iload_n 3, 1) := by decide +kernel
theorem dX3_startOf_17 : decode cX3_startOf 17 = .ok (.iload_n 1, 1) := by decide +kernel
theorem dX3_startOf_18 : decode cX3_startOf 18 = .ok (.if_icmp .ge 31, 3) := by decide +kernel
theorem dX3_startOf_21 : decode cX3_startOf 21 = .ok (.aload_n 0, 1) := by decide +kernel
theorem dX3_startOf_22 : decode cX3_startOf 22 = .ok (.getfield 9, 3) := by decide +kernel
theorem dX3_startOf_25 : decode cX3_startOf 25 = .ok (.iload 4, 2) := by decide +kernel
theorem dX3_startOf_27 : decode cX3_startOf 27 = .ok (.invokestatic 23, 3) := by decide +kernel
theorem dX3_startOf_30 : decode cX3_startOf 30 = .ok (.bipush 59, 2) := by decide +kernel
theorem dX3_startOf_32 : decode cX3_startOf 32 = .ok (.if_icmp .ne 11, 3) := by decide +kernel
theorem dX3_startOf_35 : decode cX3_startOf 35 = .ok (.iinc 3 1, 3) := by decide +kernel
theorem dX3_startOf_38 : decode cX3_startOf 38 = .ok (.iload 4, 2) := by decide +kernel
theorem dX3_startOf_40 : decode cX3_startOf 40 = .ok (.iconst 1, 1) := by decide +kernel
theorem dX3_startOf_41 : decode cX3_startOf 41 = .ok (.iadd, 1) := by decide +kernel
theorem dX3_startOf_42 : decode cX3_startOf 42 = .ok (.istore_n 2, 1) := by decide +kernel
theorem dX3_startOf_43 : decode cX3_startOf 43 = .ok (.iinc 4 1, 3) := by decide +kernel
theorem dX3_startOf_46 : decode cX3_startOf 46 = .ok (.goto (-39), 3) := by decide +kernel
theorem dX3_startOf_49 : decode cX3_startOf 49 = .ok (.iload_n 2, 1) := by decide +kernel
theorem dX3_startOf_50 : decode cX3_startOf 50 = .ok (.ireturn, 1) := by decide +kernel
set_option maxRecDepth 20000 in
theorem ggX3_dayFrom_X6_at : GoodIn wsX3_dayFrom wsX6_at := goodIn_r _ [5] rfl (by decide +kernel)
set_option maxRecDepth 20000 in
theorem gX3_dayFrom_X6_at_n23 : GoodIn wsX3_dayFrom (wsX6_at) := ggX3_dayFrom_X6_at
theorem dX3_dayFrom_0 : decode cX3_dayFrom 0 = .ok (.iconst 0, 1) := by decide +kernel
theorem dX3_dayFrom_1 : decode cX3_dayFrom 1 = .ok (.istore_n 2, 1) := by decide +kernel
theorem dX3_dayFrom_2 : decode cX3_dayFrom 2 = .ok (.iload_n 1, 1) := by decide +kernel
theorem dX3_dayFrom_3 : decode cX3_dayFrom 3 = .ok (.iconst 1, 1) := by decide +kernel
theorem dX3_dayFrom_4 : decode cX3_dayFrom 4 = .ok (.iadd, 1) := by decide +kernel
theorem dX3_dayFrom_5 : decode cX3_dayFrom 5 = .ok (.istore_n 3, 1) := by decide +kernel
theorem dX3_dayFrom_6 : decode cX3_dayFrom 6 = .ok (.iload_n 3, 1) := by decide +kernel
theorem dX3_dayFrom_7 : decode cX3_dayFrom 7 = .ok (.aload_n 0, 1) := by decide +kernel
theorem dX3_dayFrom_8 : decode cX3_dayFrom 8 = .ok (.getfield 15, 3) := by decide +kernel
theorem dX3_dayFrom_11 : decode cX3_dayFrom 11 = .ok (.if_icmp .ge 39, 3) := by decide +kernel
theorem dX3_dayFrom_14 : decode cX3_dayFrom 14 = .ok (.aload_n 0, 1) := by decide +kernel
theorem dX3_dayFrom_15 : decode cX3_dayFrom 15 = .ok (.getfield 9, 3) := by decide +kernel
theorem dX3_dayFrom_18 : decode cX3_dayFrom 18 = .ok (.iload_n 3, 1) := by decide +kernel
theorem dX3_dayFrom_19 : decode cX3_dayFrom 19 = .ok (.invokestatic 23, 3) := by decide +kernel
theorem dX3_dayFrom_22 : decode cX3_dayFrom 22 = .ok (.bipush 61, 2) := by decide +kernel
theorem dX3_dayFrom_24 : decode cX3_dayFrom 24 = .ok (.if_icmp .eq 26, 3) := by decide +kernel
theorem dX3_dayFrom_27 : decode cX3_dayFrom 27 = .ok (.iload_n 2, 1) := by decide +kernel
theorem dX3_dayFrom_28 : decode cX3_dayFrom 28 = .ok (.bipush 10, 2) := by decide +kernel
theorem dX3_dayFrom_30 : decode cX3_dayFrom 30 = .ok (.imul, 1) := by decide +kernel
theorem dX3_dayFrom_31 : decode cX3_dayFrom 31 = .ok (.aload_n 0, 1) := by decide +kernel
theorem dX3_dayFrom_32 : decode cX3_dayFrom 32 = .ok (.getfield 9, 3) := by decide +kernel
theorem dX3_dayFrom_35 : decode cX3_dayFrom 35 = .ok (.iload_n 3, 1) := by decide +kernel
theorem dX3_dayFrom_36 : decode cX3_dayFrom 36 = .ok (.invokestatic 23, 3) := by decide +kernel
theorem dX3_dayFrom_39 : decode cX3_dayFrom 39 = .ok (.iadd, 1) := by decide +kernel
theorem dX3_dayFrom_40 : decode cX3_dayFrom 40 = .ok (.bipush 48, 2) := by decide +kernel
theorem dX3_dayFrom_42 : decode cX3_dayFrom 42 = .ok (.isub, 1) := by decide +kernel
theorem dX3_dayFrom_43 : decode cX3_dayFrom 43 = .ok (.istore_n 2, 1) := by decide +kernel
theorem dX3_dayFrom_44 : decode cX3_dayFrom 44 = .ok (.iinc 3 1, 3) := by decide +kernel
theorem dX3_dayFrom_47 : decode cX3_dayFrom 47 = .ok (.goto (-41), 3) := by decide +kernel
theorem dX3_dayFrom_50 : decode cX3_dayFrom 50 = .ok (.iload_n 2, 1) := by decide +kernel
theorem dX3_dayFrom_51 : decode cX3_dayFrom 51 = .ok (.ireturn, 1) := by decide +kernel
set_option maxRecDepth 20000 in
theorem ggX3_dishFrom_X6_at : GoodIn wsX3_dishFrom wsX6_at := goodIn_r _ [5] rfl (by decide +kernel)
set_option maxRecDepth 20000 in
theorem gX3_dishFrom_X6_at_n23 : GoodIn wsX3_dishFrom (wsX6_at) := ggX3_dishFrom_X6_at
theorem dX3_dishFrom_0 : decode cX3_dishFrom 0 = .ok (.iload_n 1, 1) := by decide +kernel
theorem dX3_dishFrom_1 : decode cX3_dishFrom 1 = .ok (.istore_n 2, 1) := by decide +kernel
theorem dX3_dishFrom_2 : decode cX3_dishFrom 2 = .ok (.iload_n 2, 1) := by decide +kernel
theorem dX3_dishFrom_3 : decode cX3_dishFrom 3 = .ok (.aload_n 0, 1) := by decide +kernel
theorem dX3_dishFrom_4 : decode cX3_dishFrom 4 = .ok (.getfield 15, 3) := by decide +kernel
theorem dX3_dishFrom_7 : decode cX3_dishFrom 7 = .ok (.if_icmp .ge 36, 3) := by decide +kernel
theorem dX3_dishFrom_10 : decode cX3_dishFrom 10 = .ok (.aload_n 0, 1) := by decide +kernel
theorem dX3_dishFrom_11 : decode cX3_dishFrom 11 = .ok (.getfield 9, 3) := by decide +kernel
theorem dX3_dishFrom_14 : decode cX3_dishFrom 14 = .ok (.iload_n 2, 1) := by decide +kernel
theorem dX3_dishFrom_15 : decode cX3_dishFrom 15 = .ok (.invokestatic 23, 3) := by decide +kernel
theorem dX3_dishFrom_18 : decode cX3_dishFrom 18 = .ok (.bipush 61, 2) := by decide +kernel
theorem dX3_dishFrom_20 : decode cX3_dishFrom 20 = .ok (.if_icmp .ne 17, 3) := by decide +kernel
theorem dX3_dishFrom_23 : decode cX3_dishFrom 23 = .ok (.aload_n 0, 1) := by decide +kernel
theorem dX3_dishFrom_24 : decode cX3_dishFrom 24 = .ok (.getfield 9, 3) := by decide +kernel
theorem dX3_dishFrom_27 : decode cX3_dishFrom 27 = .ok (.iload_n 2, 1) := by decide +kernel
theorem dX3_dishFrom_28 : decode cX3_dishFrom 28 = .ok (.iconst 1, 1) := by decide +kernel
theorem dX3_dishFrom_29 : decode cX3_dishFrom 29 = .ok (.iadd, 1) := by decide +kernel
theorem dX3_dishFrom_30 : decode cX3_dishFrom 30 = .ok (.invokestatic 23, 3) := by decide +kernel
theorem dX3_dishFrom_33 : decode cX3_dishFrom 33 = .ok (.bipush 97, 2) := by decide +kernel
theorem dX3_dishFrom_35 : decode cX3_dishFrom 35 = .ok (.isub, 1) := by decide +kernel
theorem dX3_dishFrom_36 : decode cX3_dishFrom 36 = .ok (.ireturn, 1) := by decide +kernel
theorem dX3_dishFrom_37 : decode cX3_dishFrom 37 = .ok (.iinc 2 1, 3) := by decide +kernel
theorem dX3_dishFrom_40 : decode cX3_dishFrom 40 = .ok (.goto (-38), 3) := by decide +kernel
theorem dX3_dishFrom_43 : decode cX3_dishFrom 43 = .ok (.iconst (-1), 1) := by decide +kernel
theorem dX3_dishFrom_44 : decode cX3_dishFrom 44 = .ok (.ireturn, 1) := by decide +kernel
theorem dX4_init_0 : decode cX4_init 0 = .ok (.aload_n 0, 1) := by decide +kernel
theorem dX4_init_1 : decode cX4_init 1 = .ok (.invokespecial 3, 3) := by decide +kernel
theorem dX4_init_4 : decode cX4_init 4 = .ok (.aload_n 0, 1) := by decide +kernel
theorem dX4_init_5 : decode cX4_init 5 = .ok (.sipush 168, 3) := by decide +kernel
theorem dX4_init_8 : decode cX4_init 8 = .ok (.newarray .int, 2) := by decide +kernel
theorem dX4_init_10 : decode cX4_init 10 = .ok (.putfield 9, 3) := by decide +kernel
theorem dX4_init_13 : decode cX4_init 13 = .ok (.aload_n 0, 1) := by decide +kernel
theorem dX4_init_14 : decode cX4_init 14 = .ok (.iconst 2, 1) := by decide +kernel
theorem dX4_init_15 : decode cX4_init 15 = .ok (.newarray .boolean, 2) := by decide +kernel
theorem dX4_init_17 : decode cX4_init 17 = .ok (.putfield 15, 3) := by decide +kernel
theorem dX4_init_20 : decode cX4_init 20 = .ok (.return_, 1) := by decide +kernel
set_option maxRecDepth 20000 in
theorem ggX4_keep_X6_at : GoodIn wsX4_keep wsX6_at := goodIn_r _ [5] rfl (by decide +kernel)
set_option maxRecDepth 20000 in
theorem gX4_keep_X6_at_n19 : GoodIn wsX4_keep (wsX6_at) := ggX4_keep_X6_at
set_option maxRecDepth 20000 in
theorem ggX4_keep_X6_put : GoodIn wsX4_keep wsX6_put := goodIn_r _ [7] rfl (by decide +kernel)
set_option maxRecDepth 20000 in
theorem gX4_keep_X6_put_n23 : GoodIn wsX4_keep (wsX6_put) := ggX4_keep_X6_put
theorem dX4_keep_0 : decode cX4_keep 0 = .ok (.iconst 0, 1) := by decide +kernel
theorem dX4_keep_1 : decode cX4_keep 1 = .ok (.istore_n 3, 1) := by decide +kernel
theorem dX4_keep_2 : decode cX4_keep 2 = .ok (.iload_n 3, 1) := by decide +kernel
theorem dX4_keep_3 : decode cX4_keep 3 = .ok (.bipush 84, 2) := by decide +kernel
theorem dX4_keep_5 : decode cX4_keep 5 = .ok (.if_icmp .ge 27, 3) := by decide +kernel
theorem dX4_keep_8 : decode cX4_keep 8 = .ok (.aload_n 0, 1) := by decide +kernel
theorem dX4_keep_9 : decode cX4_keep 9 = .ok (.getfield 9, 3) := by decide +kernel
theorem dX4_keep_12 : decode cX4_keep 12 = .ok (.iload_n 1, 1) := by decide +kernel
theorem dX4_keep_13 : decode cX4_keep 13 = .ok (.bipush 84, 2) := by decide +kernel
theorem dX4_keep_15 : decode cX4_keep 15 = .ok (.imul, 1) := by decide +kernel
theorem dX4_keep_16 : decode cX4_keep 16 = .ok (.iload_n 3, 1) := by decide +kernel
theorem dX4_keep_17 : decode cX4_keep 17 = .ok (.iadd, 1) := by decide +kernel
theorem dX4_keep_18 : decode cX4_keep 18 = .ok (.aload_n 2, 1) := by decide +kernel
theorem dX4_keep_19 : decode cX4_keep 19 = .ok (.iload_n 3, 1) := by decide +kernel
theorem dX4_keep_20 : decode cX4_keep 20 = .ok (.invokestatic 19, 3) := by decide +kernel
theorem dX4_keep_23 : decode cX4_keep 23 = .ok (.invokestatic 23, 3) := by decide +kernel
theorem dX4_keep_26 : decode cX4_keep 26 = .ok (.iinc 3 1, 3) := by decide +kernel
theorem dX4_keep_29 : decode cX4_keep 29 = .ok (.goto (-27), 3) := by decide +kernel
theorem dX4_keep_32 : decode cX4_keep 32 = .ok (.iload_n 1, 1) := by decide +kernel
theorem dX4_keep_33 : decode cX4_keep 33 = .ok (.ifCond .lt 19, 3) := by decide +kernel
theorem dX4_keep_36 : decode cX4_keep 36 = .ok (.iload_n 1, 1) := by decide +kernel
theorem dX4_keep_37 : decode cX4_keep 37 = .ok (.aload_n 0, 1) := by decide +kernel
theorem dX4_keep_38 : decode cX4_keep 38 = .ok (.getfield 15, 3) := by decide +kernel
theorem dX4_keep_41 : decode cX4_keep 41 = .ok (.arraylength, 1) := by decide +kernel
theorem dX4_keep_42 : decode cX4_keep 42 = .ok (.if_icmp .ge 10, 3) := by decide +kernel
theorem dX4_keep_45 : decode cX4_keep 45 = .ok (.aload_n 0, 1) := by decide +kernel
theorem dX4_keep_46 : decode cX4_keep 46 = .ok (.getfield 15, 3) := by decide +kernel
theorem dX4_keep_49 : decode cX4_keep 49 = .ok (.iload_n 1, 1) := by decide +kernel
theorem dX4_keep_50 : decode cX4_keep 50 = .ok (.iconst 1, 1) := by decide +kernel
theorem dX4_keep_51 : decode cX4_keep 51 = .ok (.bastore, 1) := by decide +kernel
theorem dX4_keep_52 : decode cX4_keep 52 = .ok (.return_, 1) := by decide +kernel
set_option maxRecDepth 20000 in
theorem ggX4_copyTo_X6_at : GoodIn wsX4_copyTo wsX6_at := goodIn_r _ [4] rfl (by decide +kernel)
set_option maxRecDepth 20000 in
theorem gX4_copyTo_X6_at_n19 : GoodIn wsX4_copyTo (wsX6_at) := ggX4_copyTo_X6_at
set_option maxRecDepth 20000 in
theorem ggX4_copyTo_X6_put : GoodIn wsX4_copyTo wsX6_put := goodIn_r _ [6] rfl (by decide +kernel)
set_option maxRecDepth 20000 in
theorem gX4_copyTo_X6_put_n23 : GoodIn wsX4_copyTo (wsX6_put) := ggX4_copyTo_X6_put
theorem dX4_copyTo_0 : decode cX4_copyTo 0 = .ok (.iconst 0, 1) := by decide +kernel
theorem dX4_copyTo_1 : decode cX4_copyTo 1 = .ok (.istore_n 3, 1) := by decide +kernel
theorem dX4_copyTo_2 : decode cX4_copyTo 2 = .ok (.iload_n 3, 1) := by decide +kernel
theorem dX4_copyTo_3 : decode cX4_copyTo 3 = .ok (.bipush 84, 2) := by decide +kernel
theorem dX4_copyTo_5 : decode cX4_copyTo 5 = .ok (.if_icmp .ge 27, 3) := by decide +kernel
theorem dX4_copyTo_8 : decode cX4_copyTo 8 = .ok (.aload_n 2, 1) := by decide +kernel
theorem dX4_copyTo_9 : decode cX4_copyTo 9 = .ok (.iload_n 3, 1) := by decide +kernel
theorem dX4_copyTo_10 : decode cX4_copyTo 10 = .ok (.aload_n 0, 1) := by decide +kernel
theorem dX4_copyTo_11 : decode cX4_copyTo 11 = .ok (.getfield 9, 3) := by decide +kernel
theorem dX4_copyTo_14 : decode cX4_copyTo 14 = .ok (.iload_n 1, 1) := by decide +kernel
theorem dX4_copyTo_15 : decode cX4_copyTo 15 = .ok (.bipush 84, 2) := by decide +kernel
theorem dX4_copyTo_17 : decode cX4_copyTo 17 = .ok (.imul, 1) := by decide +kernel
theorem dX4_copyTo_18 : decode cX4_copyTo 18 = .ok (.iload_n 3, 1) := by decide +kernel
theorem dX4_copyTo_19 : decode cX4_copyTo 19 = .ok (.iadd, 1) := by decide +kernel
theorem dX4_copyTo_20 : decode cX4_copyTo 20 = .ok (.invokestatic 19, 3) := by decide +kernel
theorem dX4_copyTo_23 : decode cX4_copyTo 23 = .ok (.invokestatic 23, 3) := by decide +kernel
theorem dX4_copyTo_26 : decode cX4_copyTo 26 = .ok (.iinc 3 1, 3) := by decide +kernel
theorem dX4_copyTo_29 : decode cX4_copyTo 29 = .ok (.goto (-27), 3) := by decide +kernel
theorem dX4_copyTo_32 : decode cX4_copyTo 32 = .ok (.return_, 1) := by decide +kernel
theorem dX4_isTaken_0 : decode cX4_isTaken 0 = .ok (.iload_n 1, 1) := by decide +kernel
theorem dX4_isTaken_1 : decode cX4_isTaken 1 = .ok (.ifCond .lt 25, 3) := by decide +kernel
theorem dX4_isTaken_4 : decode cX4_isTaken 4 = .ok (.iload_n 1, 1) := by decide +kernel
theorem dX4_isTaken_5 : decode cX4_isTaken 5 = .ok (.aload_n 0, 1) := by decide +kernel
theorem dX4_isTaken_6 : decode cX4_isTaken 6 = .ok (.getfield 15, 3) := by decide +kernel
theorem dX4_isTaken_9 : decode cX4_isTaken 9 = .ok (.arraylength, 1) := by decide +kernel
theorem dX4_isTaken_10 : decode cX4_isTaken 10 = .ok (.if_icmp .ge 16, 3) := by decide +kernel
theorem dX4_isTaken_13 : decode cX4_isTaken 13 = .ok (.aload_n 0, 1) := by decide +kernel
theorem dX4_isTaken_14 : decode cX4_isTaken 14 = .ok (.getfield 15, 3) := by decide +kernel
theorem dX4_isTaken_17 : decode cX4_isTaken 17 = .ok (.iload_n 1, 1) := by decide +kernel
theorem dX4_isTaken_18 : decode cX4_isTaken 18 = .ok (.baload, 1) := by decide +kernel
theorem dX4_isTaken_19 : decode cX4_isTaken 19 = .ok (.ifCond .eq 7, 3) := by decide +kernel
theorem dX4_isTaken_22 : decode cX4_isTaken 22 = .ok (.iconst 1, 1) := by decide +kernel
theorem dX4_isTaken_23 : decode cX4_isTaken 23 = .ok (.goto 4, 3) := by decide +kernel
theorem dX4_isTaken_26 : decode cX4_isTaken 26 = .ok (.iconst 0, 1) := by decide +kernel
theorem dX4_isTaken_27 : decode cX4_isTaken 27 = .ok (.ireturn, 1) := by decide +kernel
set_option maxRecDepth 20000 in
theorem ggX4_takenCount_X4_isTaken : GoodIn wsX4_takenCount wsX4_isTaken := goodIn_r _ [5, 6, 7, 8] rfl (by decide +kernel)
set_option maxRecDepth 20000 in
theorem gX4_takenCount_X4_isTaken : GoodIn wsX4_takenCount (wsV RX4 27 RX4 yX4_isTaken wsX4_isTaken) := goodIn_app (goodIn_of _ (by decide +kernel)) ggX4_takenCount_X4_isTaken
theorem dX4_takenCount_0 : decode cX4_takenCount 0 = .ok (.iconst 0, 1) := by decide +kernel
theorem dX4_takenCount_1 : decode cX4_takenCount 1 = .ok (.istore_n 1, 1) := by decide +kernel
theorem dX4_takenCount_2 : decode cX4_takenCount 2 = .ok (.iconst 0, 1) := by decide +kernel
theorem dX4_takenCount_3 : decode cX4_takenCount 3 = .ok (.istore_n 2, 1) := by decide +kernel
theorem dX4_takenCount_4 : decode cX4_takenCount 4 = .ok (.iload_n 2, 1) := by decide +kernel
theorem dX4_takenCount_5 : decode cX4_takenCount 5 = .ok (.iconst 2, 1) := by decide +kernel
theorem dX4_takenCount_6 : decode cX4_takenCount 6 = .ok (.if_icmp .ge 20, 3) := by decide +kernel
theorem dX4_takenCount_9 : decode cX4_takenCount 9 = .ok (.aload_n 0, 1) := by decide +kernel
theorem dX4_takenCount_10 : decode cX4_takenCount 10 = .ok (.iload_n 2, 1) := by decide +kernel
theorem dX4_takenCount_11 : decode cX4_takenCount 11 = .ok (.invokevirtual 27, 3) := by decide +kernel
theorem dX4_takenCount_14 : decode cX4_takenCount 14 = .ok (.ifCond .eq 6, 3) := by decide +kernel
theorem dX4_takenCount_17 : decode cX4_takenCount 17 = .ok (.iinc 1 1, 3) := by decide +kernel
theorem dX4_takenCount_20 : decode cX4_takenCount 20 = .ok (.iinc 2 1, 3) := by decide +kernel
theorem dX4_takenCount_23 : decode cX4_takenCount 23 = .ok (.goto (-19), 3) := by decide +kernel
theorem dX4_takenCount_26 : decode cX4_takenCount 26 = .ok (.iload_n 1, 1) := by decide +kernel
theorem dX4_takenCount_27 : decode cX4_takenCount 27 = .ok (.ireturn, 1) := by decide +kernel
set_option maxRecDepth 20000 in
theorem ggX5_init_J7_fill_53178 : GoodIn wsX5_init wsJ7_fill_53178 := goodIn_r _ [20] rfl (by decide +kernel)
set_option maxRecDepth 20000 in
theorem gX5_init_J7_fill_53178 : GoodIn wsX5_init (va_wsS RX5 49 yJ7_fill_53178 wsJ7_fill_53178) := goodIn_app (goodIn_of _ (by decide +kernel)) ggX5_init_J7_fill_53178
set_option maxRecDepth 20000 in
theorem ggX5_init_X6_put : GoodIn wsX5_init wsX6_put := goodIn_r _ [23] rfl (by decide +kernel)
set_option maxRecDepth 20000 in
theorem gX5_init_X6_put_n55 : GoodIn wsX5_init (wsX6_put) := ggX5_init_X6_put
theorem dX5_init_0 : decode cX5_init 0 = .ok (.aload_n 0, 1) := by decide +kernel
theorem dX5_init_1 : decode cX5_init 1 = .ok (.invokespecial 3, 3) := by decide +kernel
theorem dX5_init_4 : decode cX5_init 4 = .ok (.aload_n 0, 1) := by decide +kernel
theorem dX5_init_5 : decode cX5_init 5 = .ok (.iconst 0, 1) := by decide +kernel
theorem dX5_init_6 : decode cX5_init 6 = .ok (.putfield 9, 3) := by decide +kernel
theorem dX5_init_9 : decode cX5_init 9 = .ok (.aload_n 0, 1) := by decide +kernel
theorem dX5_init_10 : decode cX5_init 10 = .ok (.bipush 12, 2) := by decide +kernel
theorem dX5_init_12 : decode cX5_init 12 = .ok (.newarray .int, 2) := by decide +kernel
theorem dX5_init_14 : decode cX5_init 14 = .ok (.putfield 15, 3) := by decide +kernel
theorem dX5_init_17 : decode cX5_init 17 = .ok (.aload_n 0, 1) := by decide +kernel
theorem dX5_init_18 : decode cX5_init 18 = .ok (.bipush 12, 2) := by decide +kernel
theorem dX5_init_20 : decode cX5_init 20 = .ok (.newarray .int, 2) := by decide +kernel
theorem dX5_init_22 : decode cX5_init 22 = .ok (.putfield 19, 3) := by decide +kernel
theorem dX5_init_25 : decode cX5_init 25 = .ok (.aload_n 0, 1) := by decide +kernel
theorem dX5_init_26 : decode cX5_init 26 = .ok (.bipush 12, 2) := by decide +kernel
theorem dX5_init_28 : decode cX5_init 28 = .ok (.newarray .int, 2) := by decide +kernel
theorem dX5_init_30 : decode cX5_init 30 = .ok (.putfield 22, 3) := by decide +kernel
theorem dX5_init_33 : decode cX5_init 33 = .ok (.aload_n 0, 1) := by decide +kernel
theorem dX5_init_34 : decode cX5_init 34 = .ok (.bipush 12, 2) := by decide +kernel
theorem dX5_init_36 : decode cX5_init 36 = .ok (.newarray .int, 2) := by decide +kernel
theorem dX5_init_38 : decode cX5_init 38 = .ok (.putfield 25, 3) := by decide +kernel
theorem dX5_init_41 : decode cX5_init 41 = .ok (.aload_n 0, 1) := by decide +kernel
theorem dX5_init_42 : decode cX5_init 42 = .ok (.bipush 12, 2) := by decide +kernel
theorem dX5_init_44 : decode cX5_init 44 = .ok (.newarray .int, 2) := by decide +kernel
theorem dX5_init_46 : decode cX5_init 46 = .ok (.putfield 28, 3) := by decide +kernel
theorem dX5_init_49 : decode cX5_init 49 = .ok (.aload_n 0, 1) := by decide +kernel
theorem dX5_init_50 : decode cX5_init 50 = .ok (.bipush 12, 2) := by decide +kernel
theorem dX5_init_52 : decode cX5_init 52 = .ok (.newarray .int, 2) := by decide +kernel
theorem dX5_init_54 : decode cX5_init 54 = .ok (.putfield 31, 3) := by decide +kernel
theorem dX5_init_57 : decode cX5_init 57 = .ok (.aload_n 0, 1) := by decide +kernel
theorem dX5_init_58 : decode cX5_init 58 = .ok (.iconst 0, 1) := by decide +kernel
theorem dX5_init_59 : decode cX5_init 59 = .ok (.putfield 34, 3) := by decide +kernel
theorem dX5_init_62 : decode cX5_init 62 = .ok (.aload_n 0, 1) := by decide +kernel
theorem dX5_init_63 : decode cX5_init 63 = .ok (.bipush 6, 2) := by decide +kernel
theorem dX5_init_65 : decode cX5_init 65 = .ok (.newarray .int, 2) := by decide +kernel
theorem dX5_init_67 : decode cX5_init 67 = .ok (.putfield 37, 3) := by decide +kernel
theorem dX5_init_70 : decode cX5_init 70 = .ok (.aload_n 0, 1) := by decide +kernel
theorem dX5_init_71 : decode cX5_init 71 = .ok (.bipush 6, 2) := by decide +kernel
theorem dX5_init_73 : decode cX5_init 73 = .ok (.newarray .int, 2) := by decide +kernel
theorem dX5_init_75 : decode cX5_init 75 = .ok (.putfield 40, 3) := by decide +kernel
theorem dX5_init_78 : decode cX5_init 78 = .ok (.aload_n 0, 1) := by decide +kernel
theorem dX5_init_79 : decode cX5_init 79 = .ok (.iconst 3, 1) := by decide +kernel
theorem dX5_init_80 : decode cX5_init 80 = .ok (.newarray .int, 2) := by decide +kernel
theorem dX5_init_82 : decode cX5_init 82 = .ok (.putfield 43, 3) := by decide +kernel
theorem dX5_init_85 : decode cX5_init 85 = .ok (.aload_n 0, 1) := by decide +kernel
theorem dX5_init_86 : decode cX5_init 86 = .ok (.bipush 84, 2) := by decide +kernel
theorem dX5_init_88 : decode cX5_init 88 = .ok (.newarray .int, 2) := by decide +kernel
theorem dX5_init_90 : decode cX5_init 90 = .ok (.putfield 46, 3) := by decide +kernel
theorem dX5_init_93 : decode cX5_init 93 = .ok (.aload_n 0, 1) := by decide +kernel
theorem dX5_init_94 : decode cX5_init 94 = .ok (.getfield 28, 3) := by decide +kernel
theorem dX5_init_97 : decode cX5_init 97 = .ok (.iconst (-1), 1) := by decide +kernel
theorem dX5_init_98 : decode cX5_init 98 = .ok (.invokestatic 49, 3) := by decide +kernel
theorem dX5_init_101 : decode cX5_init 101 = .ok (.aload_n 0, 1) := by decide +kernel
theorem dX5_init_102 : decode cX5_init 102 = .ok (.getfield 46, 3) := by decide +kernel
theorem dX5_init_105 : decode cX5_init 105 = .ok (.iconst (-1), 1) := by decide +kernel
theorem dX5_init_106 : decode cX5_init 106 = .ok (.invokestatic 49, 3) := by decide +kernel
theorem dX5_init_109 : decode cX5_init 109 = .ok (.aload_n 0, 1) := by decide +kernel
theorem dX5_init_110 : decode cX5_init 110 = .ok (.getfield 43, 3) := by decide +kernel
theorem dX5_init_113 : decode cX5_init 113 = .ok (.iconst 0, 1) := by decide +kernel
theorem dX5_init_114 : decode cX5_init 114 = .ok (.iconst 2, 1) := by decide +kernel
theorem dX5_init_115 : decode cX5_init 115 = .ok (.invokestatic 55, 3) := by decide +kernel
theorem dX5_init_118 : decode cX5_init 118 = .ok (.aload_n 0, 1) := by decide +kernel
theorem dX5_init_119 : decode cX5_init 119 = .ok (.getfield 43, 3) := by decide +kernel
theorem dX5_init_122 : decode cX5_init 122 = .ok (.iconst 1, 1) := by decide +kernel
theorem dX5_init_123 : decode cX5_init 123 = .ok (.iconst 3, 1) := by decide +kernel
theorem dX5_init_124 : decode cX5_init 124 = .ok (.invokestatic 55, 3) := by decide +kernel
theorem dX5_init_127 : decode cX5_init 127 = .ok (.aload_n 0, 1) := by decide +kernel
theorem dX5_init_128 : decode cX5_init 128 = .ok (.getfield 43, 3) := by decide +kernel
theorem dX5_init_131 : decode cX5_init 131 = .ok (.iconst 2, 1) := by decide +kernel
theorem dX5_init_132 : decode cX5_init 132 = .ok (.sipush 200, 3) := by decide +kernel
theorem dX5_init_135 : decode cX5_init 135 = .ok (.invokestatic 55, 3) := by decide +kernel
theorem dX5_init_138 : decode cX5_init 138 = .ok (.return_, 1) := by decide +kernel
set_option maxRecDepth 20000 in
theorem ggX5_copyFrom_X6_copyRow : GoodIn wsX5_copyFrom wsX6_copyRow := goodIn_r _ [15, 16, 17, 18, 19, 20, 21, 22, 23] rfl (by decide +kernel)
set_option maxRecDepth 20000 in
theorem gX5_copyFrom_X6_copyRow_n59 : GoodIn wsX5_copyFrom (wsX6_copyRow) := ggX5_copyFrom_X6_copyRow
theorem dX5_copyFrom_0 : decode cX5_copyFrom 0 = .ok (.aload_n 0, 1) := by decide +kernel
theorem dX5_copyFrom_1 : decode cX5_copyFrom 1 = .ok (.aload_n 1, 1) := by decide +kernel
theorem dX5_copyFrom_2 : decode cX5_copyFrom 2 = .ok (.getfield 9, 3) := by decide +kernel
theorem dX5_copyFrom_5 : decode cX5_copyFrom 5 = .ok (.putfield 9, 3) := by decide +kernel
theorem dX5_copyFrom_8 : decode cX5_copyFrom 8 = .ok (.aload_n 1, 1) := by decide +kernel
theorem dX5_copyFrom_9 : decode cX5_copyFrom 9 = .ok (.getfield 15, 3) := by decide +kernel
theorem dX5_copyFrom_12 : decode cX5_copyFrom 12 = .ok (.aload_n 0, 1) := by decide +kernel
theorem dX5_copyFrom_13 : decode cX5_copyFrom 13 = .ok (.getfield 15, 3) := by decide +kernel
theorem dX5_copyFrom_16 : decode cX5_copyFrom 16 = .ok (.invokestatic 59, 3) := by decide +kernel
theorem dX5_copyFrom_19 : decode cX5_copyFrom 19 = .ok (.aload_n 1, 1) := by decide +kernel
theorem dX5_copyFrom_20 : decode cX5_copyFrom 20 = .ok (.getfield 19, 3) := by decide +kernel
theorem dX5_copyFrom_23 : decode cX5_copyFrom 23 = .ok (.aload_n 0, 1) := by decide +kernel
theorem dX5_copyFrom_24 : decode cX5_copyFrom 24 = .ok (.getfield 19, 3) := by decide +kernel
theorem dX5_copyFrom_27 : decode cX5_copyFrom 27 = .ok (.invokestatic 59, 3) := by decide +kernel
theorem dX5_copyFrom_30 : decode cX5_copyFrom 30 = .ok (.aload_n 1, 1) := by decide +kernel
theorem dX5_copyFrom_31 : decode cX5_copyFrom 31 = .ok (.getfield 22, 3) := by decide +kernel
theorem dX5_copyFrom_34 : decode cX5_copyFrom 34 = .ok (.aload_n 0, 1) := by decide +kernel
theorem dX5_copyFrom_35 : decode cX5_copyFrom 35 = .ok (.getfield 22, 3) := by decide +kernel
theorem dX5_copyFrom_38 : decode cX5_copyFrom 38 = .ok (.invokestatic 59, 3) := by decide +kernel
theorem dX5_copyFrom_41 : decode cX5_copyFrom 41 = .ok (.aload_n 1, 1) := by decide +kernel
theorem dX5_copyFrom_42 : decode cX5_copyFrom 42 = .ok (.getfield 25, 3) := by decide +kernel
theorem dX5_copyFrom_45 : decode cX5_copyFrom 45 = .ok (.aload_n 0, 1) := by decide +kernel
theorem dX5_copyFrom_46 : decode cX5_copyFrom 46 = .ok (.getfield 25, 3) := by decide +kernel
theorem dX5_copyFrom_49 : decode cX5_copyFrom 49 = .ok (.invokestatic 59, 3) := by decide +kernel
theorem dX5_copyFrom_52 : decode cX5_copyFrom 52 = .ok (.aload_n 1, 1) := by decide +kernel
theorem dX5_copyFrom_53 : decode cX5_copyFrom 53 = .ok (.getfield 28, 3) := by decide +kernel
theorem dX5_copyFrom_56 : decode cX5_copyFrom 56 = .ok (.aload_n 0, 1) := by decide +kernel
theorem dX5_copyFrom_57 : decode cX5_copyFrom 57 = .ok (.getfield 28, 3) := by decide +kernel
theorem dX5_copyFrom_60 : decode cX5_copyFrom 60 = .ok (.invokestatic 59, 3) := by decide +kernel
theorem dX5_copyFrom_63 : decode cX5_copyFrom 63 = .ok (.aload_n 1, 1) := by decide +kernel
theorem dX5_copyFrom_64 : decode cX5_copyFrom 64 = .ok (.getfield 31, 3) := by decide +kernel
theorem dX5_copyFrom_67 : decode cX5_copyFrom 67 = .ok (.aload_n 0, 1) := by decide +kernel
theorem dX5_copyFrom_68 : decode cX5_copyFrom 68 = .ok (.getfield 31, 3) := by decide +kernel
theorem dX5_copyFrom_71 : decode cX5_copyFrom 71 = .ok (.invokestatic 59, 3) := by decide +kernel
theorem dX5_copyFrom_74 : decode cX5_copyFrom 74 = .ok (.aload_n 0, 1) := by decide +kernel
theorem dX5_copyFrom_75 : decode cX5_copyFrom 75 = .ok (.aload_n 1, 1) := by decide +kernel
theorem dX5_copyFrom_76 : decode cX5_copyFrom 76 = .ok (.getfield 34, 3) := by decide +kernel
theorem dX5_copyFrom_79 : decode cX5_copyFrom 79 = .ok (.putfield 34, 3) := by decide +kernel
theorem dX5_copyFrom_82 : decode cX5_copyFrom 82 = .ok (.aload_n 1, 1) := by decide +kernel
theorem dX5_copyFrom_83 : decode cX5_copyFrom 83 = .ok (.getfield 37, 3) := by decide +kernel
theorem dX5_copyFrom_86 : decode cX5_copyFrom 86 = .ok (.aload_n 0, 1) := by decide +kernel
theorem dX5_copyFrom_87 : decode cX5_copyFrom 87 = .ok (.getfield 37, 3) := by decide +kernel
theorem dX5_copyFrom_90 : decode cX5_copyFrom 90 = .ok (.invokestatic 59, 3) := by decide +kernel
theorem dX5_copyFrom_93 : decode cX5_copyFrom 93 = .ok (.aload_n 1, 1) := by decide +kernel
theorem dX5_copyFrom_94 : decode cX5_copyFrom 94 = .ok (.getfield 40, 3) := by decide +kernel
theorem dX5_copyFrom_97 : decode cX5_copyFrom 97 = .ok (.aload_n 0, 1) := by decide +kernel
theorem dX5_copyFrom_98 : decode cX5_copyFrom 98 = .ok (.getfield 40, 3) := by decide +kernel
theorem dX5_copyFrom_101 : decode cX5_copyFrom 101 = .ok (.invokestatic 59, 3) := by decide +kernel
theorem dX5_copyFrom_104 : decode cX5_copyFrom 104 = .ok (.aload_n 1, 1) := by decide +kernel
theorem dX5_copyFrom_105 : decode cX5_copyFrom 105 = .ok (.getfield 43, 3) := by decide +kernel
theorem dX5_copyFrom_108 : decode cX5_copyFrom 108 = .ok (.aload_n 0, 1) := by decide +kernel
theorem dX5_copyFrom_109 : decode cX5_copyFrom 109 = .ok (.getfield 43, 3) := by decide +kernel
theorem dX5_copyFrom_112 : decode cX5_copyFrom 112 = .ok (.invokestatic 59, 3) := by decide +kernel
theorem dX5_copyFrom_115 : decode cX5_copyFrom 115 = .ok (.aload_n 1, 1) := by decide +kernel
theorem dX5_copyFrom_116 : decode cX5_copyFrom 116 = .ok (.getfield 46, 3) := by decide +kernel
theorem dX5_copyFrom_119 : decode cX5_copyFrom 119 = .ok (.aload_n 0, 1) := by decide +kernel
theorem dX5_copyFrom_120 : decode cX5_copyFrom 120 = .ok (.getfield 46, 3) := by decide +kernel
theorem dX5_copyFrom_123 : decode cX5_copyFrom 123 = .ok (.invokestatic 59, 3) := by decide +kernel
theorem dX5_copyFrom_126 : decode cX5_copyFrom 126 = .ok (.return_, 1) := by decide +kernel
set_option maxRecDepth 20000 in
theorem ggX5_newDish_X6_put : GoodIn wsX5_newDish wsX6_put := goodIn_r _ [10] rfl (by decide +kernel)
set_option maxRecDepth 20000 in
theorem gX5_newDish_X6_put_n55 : GoodIn wsX5_newDish (wsX6_put) := ggX5_newDish_X6_put
theorem dX5_newDish_0 : decode cX5_newDish 0 = .ok (.aload_n 0, 1) := by decide +kernel
theorem dX5_newDish_1 : decode cX5_newDish 1 = .ok (.getfield 9, 3) := by decide +kernel
theorem dX5_newDish_4 : decode cX5_newDish 4 = .ok (.istore 5, 2) := by decide +kernel
theorem dX5_newDish_6 : decode cX5_newDish 6 = .ok (.aload_n 0, 1) := by decide +kernel
theorem dX5_newDish_7 : decode cX5_newDish 7 = .ok (.getfield 15, 3) := by decide +kernel
theorem dX5_newDish_10 : decode cX5_newDish 10 = .ok (.iload 5, 2) := by decide +kernel
theorem dX5_newDish_12 : decode cX5_newDish 12 = .ok (.iload_n 1, 1) := by decide +kernel
theorem dX5_newDish_13 : decode cX5_newDish 13 = .ok (.invokestatic 55, 3) := by decide +kernel
theorem dX5_newDish_16 : decode cX5_newDish 16 = .ok (.aload_n 0, 1) := by decide +kernel
theorem dX5_newDish_17 : decode cX5_newDish 17 = .ok (.getfield 19, 3) := by decide +kernel
theorem dX5_newDish_20 : decode cX5_newDish 20 = .ok (.iload 5, 2) := by decide +kernel
theorem dX5_newDish_22 : decode cX5_newDish 22 = .ok (.iload_n 2, 1) := by decide +kernel
theorem dX5_newDish_23 : decode cX5_newDish 23 = .ok (.invokestatic 55, 3) := by decide +kernel
theorem dX5_newDish_26 : decode cX5_newDish 26 = .ok (.aload_n 0, 1) := by decide +kernel
theorem dX5_newDish_27 : decode cX5_newDish 27 = .ok (.getfield 22, 3) := by decide +kernel
theorem dX5_newDish_30 : decode cX5_newDish 30 = .ok (.iload 5, 2) := by decide +kernel
theorem dX5_newDish_32 : decode cX5_newDish 32 = .ok (.iload_n 3, 1) := by decide +kernel
theorem dX5_newDish_33 : decode cX5_newDish 33 = .ok (.invokestatic 55, 3) := by decide +kernel
theorem dX5_newDish_36 : decode cX5_newDish 36 = .ok (.aload_n 0, 1) := by decide +kernel
theorem dX5_newDish_37 : decode cX5_newDish 37 = .ok (.getfield 25, 3) := by decide +kernel
theorem dX5_newDish_40 : decode cX5_newDish 40 = .ok (.iload 5, 2) := by decide +kernel
theorem dX5_newDish_42 : decode cX5_newDish 42 = .ok (.iload 4, 2) := by decide +kernel
theorem dX5_newDish_44 : decode cX5_newDish 44 = .ok (.invokestatic 55, 3) := by decide +kernel
theorem dX5_newDish_47 : decode cX5_newDish 47 = .ok (.aload_n 0, 1) := by decide +kernel
theorem dX5_newDish_48 : decode cX5_newDish 48 = .ok (.getfield 28, 3) := by decide +kernel
theorem dX5_newDish_51 : decode cX5_newDish 51 = .ok (.iload 5, 2) := by decide +kernel
theorem dX5_newDish_53 : decode cX5_newDish 53 = .ok (.iconst (-1), 1) := by decide +kernel
theorem dX5_newDish_54 : decode cX5_newDish 54 = .ok (.invokestatic 55, 3) := by decide +kernel
theorem dX5_newDish_57 : decode cX5_newDish 57 = .ok (.aload_n 0, 1) := by decide +kernel
theorem dX5_newDish_58 : decode cX5_newDish 58 = .ok (.getfield 31, 3) := by decide +kernel
theorem dX5_newDish_61 : decode cX5_newDish 61 = .ok (.iload 5, 2) := by decide +kernel
theorem dX5_newDish_63 : decode cX5_newDish 63 = .ok (.iconst 0, 1) := by decide +kernel
theorem dX5_newDish_64 : decode cX5_newDish 64 = .ok (.invokestatic 55, 3) := by decide +kernel
theorem dX5_newDish_67 : decode cX5_newDish 67 = .ok (.aload_n 0, 1) := by decide +kernel
theorem dX5_newDish_68 : decode cX5_newDish 68 = .ok (.dup, 1) := by decide +kernel
theorem dX5_newDish_69 : decode cX5_newDish 69 = .ok (.getfield 9, 3) := by decide +kernel
theorem dX5_newDish_72 : decode cX5_newDish 72 = .ok (.iconst 1, 1) := by decide +kernel
theorem dX5_newDish_73 : decode cX5_newDish 73 = .ok (.iadd, 1) := by decide +kernel
theorem dX5_newDish_74 : decode cX5_newDish 74 = .ok (.putfield 9, 3) := by decide +kernel
theorem dX5_newDish_77 : decode cX5_newDish 77 = .ok (.iload 5, 2) := by decide +kernel
theorem dX5_newDish_79 : decode cX5_newDish 79 = .ok (.ireturn, 1) := by decide +kernel
set_option maxRecDepth 20000 in
theorem ggX5_newGuest_X6_put : GoodIn wsX5_newGuest wsX6_put := goodIn_r _ [6] rfl (by decide +kernel)
set_option maxRecDepth 20000 in
theorem gX5_newGuest_X6_put_n55 : GoodIn wsX5_newGuest (wsX6_put) := ggX5_newGuest_X6_put
theorem dX5_newGuest_0 : decode cX5_newGuest 0 = .ok (.aload_n 0, 1) := by decide +kernel
theorem dX5_newGuest_1 : decode cX5_newGuest 1 = .ok (.getfield 34, 3) := by decide +kernel
theorem dX5_newGuest_4 : decode cX5_newGuest 4 = .ok (.istore_n 1, 1) := by decide +kernel
theorem dX5_newGuest_5 : decode cX5_newGuest 5 = .ok (.aload_n 0, 1) := by decide +kernel
theorem dX5_newGuest_6 : decode cX5_newGuest 6 = .ok (.getfield 37, 3) := by decide +kernel
theorem dX5_newGuest_9 : decode cX5_newGuest 9 = .ok (.iload_n 1, 1) := by decide +kernel
theorem dX5_newGuest_10 : decode cX5_newGuest 10 = .ok (.bipush 127, 2) := by decide +kernel
theorem dX5_newGuest_12 : decode cX5_newGuest 12 = .ok (.invokestatic 55, 3) := by decide +kernel
theorem dX5_newGuest_15 : decode cX5_newGuest 15 = .ok (.aload_n 0, 1) := by decide +kernel
theorem dX5_newGuest_16 : decode cX5_newGuest 16 = .ok (.getfield 40, 3) := by decide +kernel
theorem dX5_newGuest_19 : decode cX5_newGuest 19 = .ok (.iload_n 1, 1) := by decide +kernel
theorem dX5_newGuest_20 : decode cX5_newGuest 20 = .ok (.iconst 0, 1) := by decide +kernel
theorem dX5_newGuest_21 : decode cX5_newGuest 21 = .ok (.invokestatic 55, 3) := by decide +kernel
theorem dX5_newGuest_24 : decode cX5_newGuest 24 = .ok (.aload_n 0, 1) := by decide +kernel
theorem dX5_newGuest_25 : decode cX5_newGuest 25 = .ok (.dup, 1) := by decide +kernel
theorem dX5_newGuest_26 : decode cX5_newGuest 26 = .ok (.getfield 34, 3) := by decide +kernel
theorem dX5_newGuest_29 : decode cX5_newGuest 29 = .ok (.iconst 1, 1) := by decide +kernel
theorem dX5_newGuest_30 : decode cX5_newGuest 30 = .ok (.iadd, 1) := by decide +kernel
theorem dX5_newGuest_31 : decode cX5_newGuest 31 = .ok (.putfield 34, 3) := by decide +kernel
theorem dX5_newGuest_34 : decode cX5_newGuest 34 = .ok (.iload_n 1, 1) := by decide +kernel
theorem dX5_newGuest_35 : decode cX5_newGuest 35 = .ok (.ireturn, 1) := by decide +kernel
theorem dX5_hasDish_0 : decode cX5_hasDish 0 = .ok (.iload_n 1, 1) := by decide +kernel
theorem dX5_hasDish_1 : decode cX5_hasDish 1 = .ok (.ifCond .lt 15, 3) := by decide +kernel
theorem dX5_hasDish_4 : decode cX5_hasDish 4 = .ok (.iload_n 1, 1) := by decide +kernel
theorem dX5_hasDish_5 : decode cX5_hasDish 5 = .ok (.aload_n 0, 1) := by decide +kernel
theorem dX5_hasDish_6 : decode cX5_hasDish 6 = .ok (.getfield 9, 3) := by decide +kernel
theorem dX5_hasDish_9 : decode cX5_hasDish 9 = .ok (.if_icmp .ge 7, 3) := by decide +kernel
theorem dX5_hasDish_12 : decode cX5_hasDish 12 = .ok (.iconst 1, 1) := by decide +kernel
theorem dX5_hasDish_13 : decode cX5_hasDish 13 = .ok (.goto 4, 3) := by decide +kernel
theorem dX5_hasDish_16 : decode cX5_hasDish 16 = .ok (.iconst 0, 1) := by decide +kernel
theorem dX5_hasDish_17 : decode cX5_hasDish 17 = .ok (.ireturn, 1) := by decide +kernel
theorem dX5_hasGuest_0 : decode cX5_hasGuest 0 = .ok (.iload_n 1, 1) := by decide +kernel
theorem dX5_hasGuest_1 : decode cX5_hasGuest 1 = .ok (.ifCond .lt 15, 3) := by decide +kernel
theorem dX5_hasGuest_4 : decode cX5_hasGuest 4 = .ok (.iload_n 1, 1) := by decide +kernel
theorem dX5_hasGuest_5 : decode cX5_hasGuest 5 = .ok (.aload_n 0, 1) := by decide +kernel
theorem dX5_hasGuest_6 : decode cX5_hasGuest 6 = .ok (.getfield 34, 3) := by decide +kernel
theorem dX5_hasGuest_9 : decode cX5_hasGuest 9 = .ok (.if_icmp .ge 7, 3) := by decide +kernel
theorem dX5_hasGuest_12 : decode cX5_hasGuest 12 = .ok (.iconst 1, 1) := by decide +kernel
theorem dX5_hasGuest_13 : decode cX5_hasGuest 13 = .ok (.goto 4, 3) := by decide +kernel
theorem dX5_hasGuest_16 : decode cX5_hasGuest 16 = .ok (.iconst 0, 1) := by decide +kernel
theorem dX5_hasGuest_17 : decode cX5_hasGuest 17 = .ok (.ireturn, 1) := by decide +kernel
set_option maxRecDepth 20000 in
theorem ggX5_isLeftover_X6_at : GoodIn wsX5_isLeftover wsX6_at := goodIn_r _ [5] rfl (by decide +kernel)
set_option maxRecDepth 20000 in
theorem gX5_isLeftover_X6_at_n63 : GoodIn wsX5_isLeftover (wsX6_at) := ggX5_isLeftover_X6_at
theorem dX5_isLeftover_0 : decode cX5_isLeftover 0 = .ok (.iconst 0, 1) := by decide +kernel
theorem dX5_isLeftover_1 : decode cX5_isLeftover 1 = .ok (.istore_n 2, 1) := by decide +kernel
theorem dX5_isLeftover_2 : decode cX5_isLeftover 2 = .ok (.iload_n 2, 1) := by decide +kernel
theorem dX5_isLeftover_3 : decode cX5_isLeftover 3 = .ok (.aload_n 0, 1) := by decide +kernel
theorem dX5_isLeftover_4 : decode cX5_isLeftover 4 = .ok (.getfield 9, 3) := by decide +kernel
theorem dX5_isLeftover_7 : decode cX5_isLeftover 7 = .ok (.if_icmp .ge 23, 3) := by decide +kernel
theorem dX5_isLeftover_10 : decode cX5_isLeftover 10 = .ok (.aload_n 0, 1) := by decide +kernel
theorem dX5_isLeftover_11 : decode cX5_isLeftover 11 = .ok (.getfield 28, 3) := by decide +kernel
theorem dX5_isLeftover_14 : decode cX5_isLeftover 14 = .ok (.iload_n 2, 1) := by decide +kernel
theorem dX5_isLeftover_15 : decode cX5_isLeftover 15 = .ok (.invokestatic 63, 3) := by decide +kernel
theorem dX5_isLeftover_18 : decode cX5_isLeftover 18 = .ok (.iload_n 1, 1) := by decide +kernel
theorem dX5_isLeftover_19 : decode cX5_isLeftover 19 = .ok (.if_icmp .ne 5, 3) := by decide +kernel
theorem dX5_isLeftover_22 : decode cX5_isLeftover 22 = .ok (.iconst 1, 1) := by decide +kernel
theorem dX5_isLeftover_23 : decode cX5_isLeftover 23 = .ok (.ireturn, 1) := by decide +kernel
theorem dX5_isLeftover_24 : decode cX5_isLeftover 24 = .ok (.iinc 2 1, 3) := by decide +kernel
theorem dX5_isLeftover_27 : decode cX5_isLeftover 27 = .ok (.goto (-25), 3) := by decide +kernel
theorem dX5_isLeftover_30 : decode cX5_isLeftover 30 = .ok (.iconst 0, 1) := by decide +kernel
theorem dX5_isLeftover_31 : decode cX5_isLeftover 31 = .ok (.ireturn, 1) := by decide +kernel
set_option maxRecDepth 20000 in
theorem ggX5_timesPlanned_X6_at : GoodIn wsX5_timesPlanned wsX6_at := goodIn_r _ [4] rfl (by decide +kernel)
set_option maxRecDepth 20000 in
theorem gX5_timesPlanned_X6_at_n63 : GoodIn wsX5_timesPlanned (wsX6_at) := ggX5_timesPlanned_X6_at
theorem dX5_timesPlanned_0 : decode cX5_timesPlanned 0 = .ok (.iconst 0, 1) := by decide +kernel
theorem dX5_timesPlanned_1 : decode cX5_timesPlanned 1 = .ok (.istore_n 2, 1) := by decide +kernel
theorem dX5_timesPlanned_2 : decode cX5_timesPlanned 2 = .ok (.iconst 0, 1) := by decide +kernel
theorem dX5_timesPlanned_3 : decode cX5_timesPlanned 3 = .ok (.istore_n 3, 1) := by decide +kernel
theorem dX5_timesPlanned_4 : decode cX5_timesPlanned 4 = .ok (.iload_n 3, 1) := by decide +kernel
theorem dX5_timesPlanned_5 : decode cX5_timesPlanned 5 = .ok (.bipush 84, 2) := by decide +kernel
theorem dX5_timesPlanned_7 : decode cX5_timesPlanned 7 = .ok (.if_icmp .ge 24, 3) := by decide +kernel
theorem dX5_timesPlanned_10 : decode cX5_timesPlanned 10 = .ok (.aload_n 0, 1) := by decide +kernel
theorem dX5_timesPlanned_11 : decode cX5_timesPlanned 11 = .ok (.getfield 46, 3) := by decide +kernel
theorem dX5_timesPlanned_14 : decode cX5_timesPlanned 14 = .ok (.iload_n 3, 1) := by decide +kernel
theorem dX5_timesPlanned_15 : decode cX5_timesPlanned 15 = .ok (.invokestatic 63, 3) := by decide +kernel
theorem dX5_timesPlanned_18 : decode cX5_timesPlanned 18 = .ok (.iload_n 1, 1) := by decide +kernel
theorem dX5_timesPlanned_19 : decode cX5_timesPlanned 19 = .ok (.if_icmp .ne 6, 3) := by decide +kernel
theorem dX5_timesPlanned_22 : decode cX5_timesPlanned 22 = .ok (.iinc 2 1, 3) := by decide +kernel
theorem dX5_timesPlanned_25 : decode cX5_timesPlanned 25 = .ok (.iinc 3 1, 3) := by decide +kernel
theorem dX5_timesPlanned_28 : decode cX5_timesPlanned 28 = .ok (.goto (-24), 3) := by decide +kernel
theorem dX5_timesPlanned_31 : decode cX5_timesPlanned 31 = .ok (.iload_n 2, 1) := by decide +kernel
theorem dX5_timesPlanned_32 : decode cX5_timesPlanned 32 = .ok (.ireturn, 1) := by decide +kernel
set_option maxRecDepth 20000 in
theorem ggX5_planCount_X5_timesPlanned : GoodIn wsX5_planCount wsX5_timesPlanned := goodIn_r _ [5, 6, 7, 8, 9, 10, 11, 12, 13, 14, 15, 16, 17, 18, 19, 20, 21] rfl (by decide +kernel)
set_option maxRecDepth 20000 in
theorem gX5_planCount_X5_timesPlanned : GoodIn wsX5_planCount (wsV RX5 67 RX5 yX5_timesPlanned wsX5_timesPlanned) := goodIn_app (goodIn_of _ (by decide +kernel)) ggX5_planCount_X5_timesPlanned
theorem dX5_planCount_0 : decode cX5_planCount 0 = .ok (.bipush 84, 2) := by decide +kernel
theorem dX5_planCount_2 : decode cX5_planCount 2 = .ok (.aload_n 0, 1) := by decide +kernel
theorem dX5_planCount_3 : decode cX5_planCount 3 = .ok (.iconst (-1), 1) := by decide +kernel
theorem dX5_planCount_4 : decode cX5_planCount 4 = .ok (.invokevirtual 67, 3) := by decide +kernel
theorem dX5_planCount_7 : decode cX5_planCount 7 = .ok (.isub, 1) := by decide +kernel
theorem dX5_planCount_8 : decode cX5_planCount 8 = .ok (.ireturn, 1) := by decide +kernel
set_option maxRecDepth 20000 in
theorem ggX5_planCost_X5_weekCost : GoodIn wsX5_planCost wsX5_weekCost := goodIn_r _ [5, 6, 7, 8, 4, 9, 10, 11, 12, 13, 14, 15, 16, 17, 18, 19, 20, 21, 22, 23, 24, 25, 26, 27, 28] rfl (by decide +kernel)
set_option maxRecDepth 20000 in
theorem gX5_planCost_X5_weekCost : GoodIn wsX5_planCost (wsV RX5 71 RX5 yX5_weekCost wsX5_weekCost) := goodIn_app (goodIn_of _ (by decide +kernel)) ggX5_planCost_X5_weekCost
theorem dX5_planCost_0 : decode cX5_planCost 0 = .ok (.iconst 0, 1) := by decide +kernel
theorem dX5_planCost_1 : decode cX5_planCost 1 = .ok (.istore_n 1, 1) := by decide +kernel
theorem dX5_planCost_2 : decode cX5_planCost 2 = .ok (.iconst 0, 1) := by decide +kernel
theorem dX5_planCost_3 : decode cX5_planCost 3 = .ok (.istore_n 2, 1) := by decide +kernel
theorem dX5_planCost_4 : decode cX5_planCost 4 = .ok (.iload_n 2, 1) := by decide +kernel
theorem dX5_planCost_5 : decode cX5_planCost 5 = .ok (.iconst 4, 1) := by decide +kernel
theorem dX5_planCost_6 : decode cX5_planCost 6 = .ok (.if_icmp .ge 17, 3) := by decide +kernel
theorem dX5_planCost_9 : decode cX5_planCost 9 = .ok (.iload_n 1, 1) := by decide +kernel
theorem dX5_planCost_10 : decode cX5_planCost 10 = .ok (.aload_n 0, 1) := by decide +kernel
theorem dX5_planCost_11 : decode cX5_planCost 11 = .ok (.iload_n 2, 1) := by decide +kernel
theorem dX5_planCost_12 : decode cX5_planCost 12 = .ok (.invokevirtual 71, 3) := by decide +kernel
theorem dX5_planCost_15 : decode cX5_planCost 15 = .ok (.iadd, 1) := by decide +kernel
theorem dX5_planCost_16 : decode cX5_planCost 16 = .ok (.istore_n 1, 1) := by decide +kernel
theorem dX5_planCost_17 : decode cX5_planCost 17 = .ok (.iinc 2 1, 3) := by decide +kernel
theorem dX5_planCost_20 : decode cX5_planCost 20 = .ok (.goto (-16), 3) := by decide +kernel
theorem dX5_planCost_23 : decode cX5_planCost 23 = .ok (.iload_n 1, 1) := by decide +kernel
theorem dX5_planCost_24 : decode cX5_planCost 24 = .ok (.ireturn, 1) := by decide +kernel
set_option maxRecDepth 20000 in
theorem ggX5_weekCost_X5_mealCost : GoodIn wsX5_weekCost wsX5_mealCost := goodIn_r _ [5, 6, 7, 8, 9, 10, 11, 12, 13, 14, 15, 16, 17, 18, 19, 20, 21, 22, 23, 24] rfl (by decide +kernel)
set_option maxRecDepth 20000 in
theorem gX5_weekCost_X5_mealCost : GoodIn wsX5_weekCost (wsV RX5 74 RX5 yX5_mealCost wsX5_mealCost) := goodIn_app (goodIn_of _ (by decide +kernel)) ggX5_weekCost_X5_mealCost
theorem dX5_weekCost_0 : decode cX5_weekCost 0 = .ok (.iconst 0, 1) := by decide +kernel
theorem dX5_weekCost_1 : decode cX5_weekCost 1 = .ok (.istore_n 2, 1) := by decide +kernel
theorem dX5_weekCost_2 : decode cX5_weekCost 2 = .ok (.iload_n 1, 1) := by decide +kernel
theorem dX5_weekCost_3 : decode cX5_weekCost 3 = .ok (.bipush 7, 2) := by decide +kernel
theorem dX5_weekCost_5 : decode cX5_weekCost 5 = .ok (.imul, 1) := by decide +kernel
theorem dX5_weekCost_6 : decode cX5_weekCost 6 = .ok (.istore_n 3, 1) := by decide +kernel
theorem dX5_weekCost_7 : decode cX5_weekCost 7 = .ok (.iload_n 3, 1) := by decide +kernel
theorem dX5_weekCost_8 : decode cX5_weekCost 8 = .ok (.istore 4, 2) := by decide +kernel
theorem dX5_weekCost_10 : decode cX5_weekCost 10 = .ok (.iload 4, 2) := by decide +kernel
theorem dX5_weekCost_12 : decode cX5_weekCost 12 = .ok (.iload_n 3, 1) := by decide +kernel
theorem dX5_weekCost_13 : decode cX5_weekCost 13 = .ok (.bipush 7, 2) := by decide +kernel
theorem dX5_weekCost_15 : decode cX5_weekCost 15 = .ok (.iadd, 1) := by decide +kernel
theorem dX5_weekCost_16 : decode cX5_weekCost 16 = .ok (.if_icmp .ge 18, 3) := by decide +kernel
theorem dX5_weekCost_19 : decode cX5_weekCost 19 = .ok (.iload_n 2, 1) := by decide +kernel
theorem dX5_weekCost_20 : decode cX5_weekCost 20 = .ok (.aload_n 0, 1) := by decide +kernel
theorem dX5_weekCost_21 : decode cX5_weekCost 21 = .ok (.iload 4, 2) := by decide +kernel
theorem dX5_weekCost_23 : decode cX5_weekCost 23 = .ok (.invokevirtual 74, 3) := by decide +kernel
theorem dX5_weekCost_26 : decode cX5_weekCost 26 = .ok (.iadd, 1) := by decide +kernel
theorem dX5_weekCost_27 : decode cX5_weekCost 27 = .ok (.istore_n 2, 1) := by decide +kernel
theorem dX5_weekCost_28 : decode cX5_weekCost 28 = .ok (.iinc 4 1, 3) := by decide +kernel
theorem dX5_weekCost_31 : decode cX5_weekCost 31 = .ok (.goto (-21), 3) := by decide +kernel
theorem dX5_weekCost_34 : decode cX5_weekCost 34 = .ok (.iload_n 2, 1) := by decide +kernel
theorem dX5_weekCost_35 : decode cX5_weekCost 35 = .ok (.ireturn, 1) := by decide +kernel
set_option maxRecDepth 20000 in
theorem ggX5_isAboveBudget_X5_weekCost : GoodIn wsX5_isAboveBudget wsX5_weekCost := goodIn_r _ [6, 7, 8, 9, 5, 10, 11, 12, 13, 14, 15, 16, 17, 18, 19, 20, 21, 22, 23, 24, 25, 26, 27, 28, 29] rfl (by decide +kernel)
set_option maxRecDepth 20000 in
theorem gX5_isAboveBudget_X5_weekCost : GoodIn wsX5_isAboveBudget (wsV RX5 71 RX5 yX5_weekCost wsX5_weekCost) := goodIn_app (goodIn_of _ (by decide +kernel)) ggX5_isAboveBudget_X5_weekCost
set_option maxRecDepth 20000 in
theorem ggX5_isAboveBudget_X6_at : GoodIn wsX5_isAboveBudget wsX6_at := goodIn_r _ [17] rfl (by decide +kernel)
set_option maxRecDepth 20000 in
theorem gX5_isAboveBudget_X6_at_n63 : GoodIn wsX5_isAboveBudget (wsX6_at) := ggX5_isAboveBudget_X6_at
theorem dX5_isAboveBudget_0 : decode cX5_isAboveBudget 0 = .ok (.iconst 0, 1) := by decide +kernel
theorem dX5_isAboveBudget_1 : decode cX5_isAboveBudget 1 = .ok (.istore_n 1, 1) := by decide +kernel
theorem dX5_isAboveBudget_2 : decode cX5_isAboveBudget 2 = .ok (.iload_n 1, 1) := by decide +kernel
theorem dX5_isAboveBudget_3 : decode cX5_isAboveBudget 3 = .ok (.iconst 4, 1) := by decide +kernel
theorem dX5_isAboveBudget_4 : decode cX5_isAboveBudget 4 = .ok (.if_icmp .ge 27, 3) := by decide +kernel
theorem dX5_isAboveBudget_7 : decode cX5_isAboveBudget 7 = .ok (.aload_n 0, 1) := by decide +kernel
theorem dX5_isAboveBudget_8 : decode cX5_isAboveBudget 8 = .ok (.iload_n 1, 1) := by decide +kernel
theorem dX5_isAboveBudget_9 : decode cX5_isAboveBudget 9 = .ok (.invokevirtual 71, 3) := by decide +kernel
theorem dX5_isAboveBudget_12 : decode cX5_isAboveBudget 12 = .ok (.aload_n 0, 1) := by decide +kernel
theorem dX5_isAboveBudget_13 : decode cX5_isAboveBudget 13 = .ok (.getfield 43, 3) := by decide +kernel
theorem dX5_isAboveBudget_16 : decode cX5_isAboveBudget 16 = .ok (.iconst 2, 1) := by decide +kernel
theorem dX5_isAboveBudget_17 : decode cX5_isAboveBudget 17 = .ok (.invokestatic 63, 3) := by decide +kernel
theorem dX5_isAboveBudget_20 : decode cX5_isAboveBudget 20 = .ok (.if_icmp .le 5, 3) := by decide +kernel
theorem dX5_isAboveBudget_23 : decode cX5_isAboveBudget 23 = .ok (.iconst 1, 1) := by decide +kernel
theorem dX5_isAboveBudget_24 : decode cX5_isAboveBudget 24 = .ok (.ireturn, 1) := by decide +kernel
theorem dX5_isAboveBudget_25 : decode cX5_isAboveBudget 25 = .ok (.iinc 1 1, 3) := by decide +kernel
theorem dX5_isAboveBudget_28 : decode cX5_isAboveBudget 28 = .ok (.goto (-26), 3) := by decide +kernel
theorem dX5_isAboveBudget_31 : decode cX5_isAboveBudget 31 = .ok (.iconst 0, 1) := by decide +kernel
theorem dX5_isAboveBudget_32 : decode cX5_isAboveBudget 32 = .ok (.ireturn, 1) := by decide +kernel
set_option maxRecDepth 20000 in
theorem ggX5_mealCount_X6_cellOf : GoodIn wsX5_mealCount wsX6_cellOf := goodIn_r _ [4] rfl (by decide +kernel)
set_option maxRecDepth 20000 in
theorem gX5_mealCount_X6_cellOf_n77 : GoodIn wsX5_mealCount (wsX6_cellOf) := ggX5_mealCount_X6_cellOf
set_option maxRecDepth 20000 in
theorem ggX5_mealCount_X6_at : GoodIn wsX5_mealCount wsX6_at := goodIn_r _ [6] rfl (by decide +kernel)
set_option maxRecDepth 20000 in
theorem gX5_mealCount_X6_at_n63 : GoodIn wsX5_mealCount (wsX6_at) := ggX5_mealCount_X6_at
theorem dX5_mealCount_0 : decode cX5_mealCount 0 = .ok (.iconst 0, 1) := by decide +kernel
theorem dX5_mealCount_1 : decode cX5_mealCount 1 = .ok (.istore_n 2, 1) := by decide +kernel
theorem dX5_mealCount_2 : decode cX5_mealCount 2 = .ok (.iconst 0, 1) := by decide +kernel
theorem dX5_mealCount_3 : decode cX5_mealCount 3 = .ok (.istore_n 3, 1) := by decide +kernel
theorem dX5_mealCount_4 : decode cX5_mealCount 4 = .ok (.iload_n 3, 1) := by decide +kernel
theorem dX5_mealCount_5 : decode cX5_mealCount 5 = .ok (.iconst 3, 1) := by decide +kernel
theorem dX5_mealCount_6 : decode cX5_mealCount 6 = .ok (.if_icmp .ge 28, 3) := by decide +kernel
theorem dX5_mealCount_9 : decode cX5_mealCount 9 = .ok (.aload_n 0, 1) := by decide +kernel
theorem dX5_mealCount_10 : decode cX5_mealCount 10 = .ok (.getfield 46, 3) := by decide +kernel
theorem dX5_mealCount_13 : decode cX5_mealCount 13 = .ok (.iload_n 1, 1) := by decide +kernel
theorem dX5_mealCount_14 : decode cX5_mealCount 14 = .ok (.iload_n 3, 1) := by decide +kernel
theorem dX5_mealCount_15 : decode cX5_mealCount 15 = .ok (.invokestatic 77, 3) := by decide +kernel
theorem dX5_mealCount_18 : decode cX5_mealCount 18 = .ok (.invokestatic 63, 3) := by decide +kernel
theorem dX5_mealCount_21 : decode cX5_mealCount 21 = .ok (.iconst (-1), 1) := by decide +kernel
theorem dX5_mealCount_22 : decode cX5_mealCount 22 = .ok (.if_icmp .eq 6, 3) := by decide +kernel
theorem dX5_mealCount_25 : decode cX5_mealCount 25 = .ok (.iinc 2 1, 3) := by decide +kernel
theorem dX5_mealCount_28 : decode cX5_mealCount 28 = .ok (.iinc 3 1, 3) := by decide +kernel
theorem dX5_mealCount_31 : decode cX5_mealCount 31 = .ok (.goto (-27), 3) := by decide +kernel
theorem dX5_mealCount_34 : decode cX5_mealCount 34 = .ok (.iload_n 2, 1) := by decide +kernel
theorem dX5_mealCount_35 : decode cX5_mealCount 35 = .ok (.ireturn, 1) := by decide +kernel
set_option maxRecDepth 20000 in
theorem ggX5_mealCost_X6_cellOf : GoodIn wsX5_mealCost wsX6_cellOf := goodIn_r _ [5] rfl (by decide +kernel)
set_option maxRecDepth 20000 in
theorem gX5_mealCost_X6_cellOf_n77 : GoodIn wsX5_mealCost (wsX6_cellOf) := ggX5_mealCost_X6_cellOf
set_option maxRecDepth 20000 in
theorem ggX5_mealCost_X6_at : GoodIn wsX5_mealCost wsX6_at := goodIn_r _ [7] rfl (by decide +kernel)
set_option maxRecDepth 20000 in
theorem gX5_mealCost_X6_at_n63 : GoodIn wsX5_mealCost (wsX6_at) := ggX5_mealCost_X6_at
theorem dX5_mealCost_0 : decode cX5_mealCost 0 = .ok (.iconst 0, 1) := by decide +kernel
theorem dX5_mealCost_1 : decode cX5_mealCost 1 = .ok (.istore_n 2, 1) := by decide +kernel
theorem dX5_mealCost_2 : decode cX5_mealCost 2 = .ok (.iconst 0, 1) := by decide +kernel
theorem dX5_mealCost_3 : decode cX5_mealCost 3 = .ok (.istore_n 3, 1) := by decide +kernel
theorem dX5_mealCost_4 : decode cX5_mealCost 4 = .ok (.iload_n 3, 1) := by decide +kernel
theorem dX5_mealCost_5 : decode cX5_mealCost 5 = .ok (.iconst 3, 1) := by decide +kernel
theorem dX5_mealCost_6 : decode cX5_mealCost 6 = .ok (.if_icmp .ge 41, 3) := by decide +kernel
theorem dX5_mealCost_9 : decode cX5_mealCost 9 = .ok (.aload_n 0, 1) := by decide +kernel
theorem dX5_mealCost_10 : decode cX5_mealCost 10 = .ok (.getfield 46, 3) := by decide +kernel
theorem dX5_mealCost_13 : decode cX5_mealCost 13 = .ok (.iload_n 1, 1) := by decide +kernel
theorem dX5_mealCost_14 : decode cX5_mealCost 14 = .ok (.iload_n 3, 1) := by decide +kernel
theorem dX5_mealCost_15 : decode cX5_mealCost 15 = .ok (.invokestatic 77, 3) := by decide +kernel
theorem dX5_mealCost_18 : decode cX5_mealCost 18 = .ok (.invokestatic 63, 3) := by decide +kernel
theorem dX5_mealCost_21 : decode cX5_mealCost 21 = .ok (.istore 4, 2) := by decide +kernel
theorem dX5_mealCost_23 : decode cX5_mealCost 23 = .ok (.iload 4, 2) := by decide +kernel
theorem dX5_mealCost_25 : decode cX5_mealCost 25 = .ok (.iconst (-1), 1) := by decide +kernel
theorem dX5_mealCost_26 : decode cX5_mealCost 26 = .ok (.if_icmp .eq 15, 3) := by decide +kernel
theorem dX5_mealCost_29 : decode cX5_mealCost 29 = .ok (.iload_n 2, 1) := by decide +kernel
theorem dX5_mealCost_30 : decode cX5_mealCost 30 = .ok (.aload_n 0, 1) := by decide +kernel
theorem dX5_mealCost_31 : decode cX5_mealCost 31 = .ok (.getfield 19, 3) := by decide +kernel
theorem dX5_mealCost_34 : decode cX5_mealCost 34 = .ok (.iload 4, 2) := by decide +kernel
theorem dX5_mealCost_36 : decode cX5_mealCost 36 = .ok (.invokestatic 63, 3) := by decide +kernel
theorem dX5_mealCost_39 : decode cX5_mealCost 39 = .ok (.iadd, 1) := by decide +kernel
theorem dX5_mealCost_40 : decode cX5_mealCost 40 = .ok (.istore_n 2, 1) := by decide +kernel
theorem dX5_mealCost_41 : decode cX5_mealCost 41 = .ok (.iinc 3 1, 3) := by decide +kernel
theorem dX5_mealCost_44 : decode cX5_mealCost 44 = .ok (.goto (-40), 3) := by decide +kernel
theorem dX5_mealCost_47 : decode cX5_mealCost 47 = .ok (.iload_n 2, 1) := by decide +kernel
theorem dX5_mealCost_48 : decode cX5_mealCost 48 = .ok (.ireturn, 1) := by decide +kernel
set_option maxRecDepth 20000 in
theorem ggX5_wholeMeals_X5_mealCount : GoodIn wsX5_wholeMeals wsX5_mealCount := goodIn_r _ [5, 6, 7, 8, 9, 10, 11, 12, 13, 14, 15, 16, 17, 18, 19, 20, 21, 22, 23] rfl (by decide +kernel)
set_option maxRecDepth 20000 in
theorem gX5_wholeMeals_X5_mealCount : GoodIn wsX5_wholeMeals (wsV RX5 81 RX5 yX5_mealCount wsX5_mealCount) := goodIn_app (goodIn_of _ (by decide +kernel)) ggX5_wholeMeals_X5_mealCount
theorem dX5_wholeMeals_0 : decode cX5_wholeMeals 0 = .ok (.iconst 0, 1) := by decide +kernel
theorem dX5_wholeMeals_1 : decode cX5_wholeMeals 1 = .ok (.istore_n 1, 1) := by decide +kernel
theorem dX5_wholeMeals_2 : decode cX5_wholeMeals 2 = .ok (.iconst 0, 1) := by decide +kernel
theorem dX5_wholeMeals_3 : decode cX5_wholeMeals 3 = .ok (.istore_n 2, 1) := by decide +kernel
theorem dX5_wholeMeals_4 : decode cX5_wholeMeals 4 = .ok (.iload_n 2, 1) := by decide +kernel
theorem dX5_wholeMeals_5 : decode cX5_wholeMeals 5 = .ok (.bipush 28, 2) := by decide +kernel
theorem dX5_wholeMeals_7 : decode cX5_wholeMeals 7 = .ok (.if_icmp .ge 21, 3) := by decide +kernel
theorem dX5_wholeMeals_10 : decode cX5_wholeMeals 10 = .ok (.aload_n 0, 1) := by decide +kernel
theorem dX5_wholeMeals_11 : decode cX5_wholeMeals 11 = .ok (.iload_n 2, 1) := by decide +kernel
theorem dX5_wholeMeals_12 : decode cX5_wholeMeals 12 = .ok (.invokevirtual 81, 3) := by decide +kernel
theorem dX5_wholeMeals_15 : decode cX5_wholeMeals 15 = .ok (.iconst 3, 1) := by decide +kernel
theorem dX5_wholeMeals_16 : decode cX5_wholeMeals 16 = .ok (.if_icmp .ne 6, 3) := by decide +kernel
theorem dX5_wholeMeals_19 : decode cX5_wholeMeals 19 = .ok (.iinc 1 1, 3) := by decide +kernel
theorem dX5_wholeMeals_22 : decode cX5_wholeMeals 22 = .ok (.iinc 2 1, 3) := by decide +kernel
theorem dX5_wholeMeals_25 : decode cX5_wholeMeals 25 = .ok (.goto (-21), 3) := by decide +kernel
theorem dX5_wholeMeals_28 : decode cX5_wholeMeals 28 = .ok (.iload_n 1, 1) := by decide +kernel
theorem dX5_wholeMeals_29 : decode cX5_wholeMeals 29 = .ok (.ireturn, 1) := by decide +kernel
set_option maxRecDepth 20000 in
theorem ggX5_sourceCount_X6_at : GoodIn wsX5_sourceCount wsX6_at := goodIn_r _ [5] rfl (by decide +kernel)
set_option maxRecDepth 20000 in
theorem gX5_sourceCount_X6_at_n63 : GoodIn wsX5_sourceCount (wsX6_at) := ggX5_sourceCount_X6_at
theorem dX5_sourceCount_0 : decode cX5_sourceCount 0 = .ok (.iconst 0, 1) := by decide +kernel
theorem dX5_sourceCount_1 : decode cX5_sourceCount 1 = .ok (.istore_n 1, 1) := by decide +kernel
theorem dX5_sourceCount_2 : decode cX5_sourceCount 2 = .ok (.iconst 0, 1) := by decide +kernel
theorem dX5_sourceCount_3 : decode cX5_sourceCount 3 = .ok (.istore_n 2, 1) := by decide +kernel
theorem dX5_sourceCount_4 : decode cX5_sourceCount 4 = .ok (.iload_n 2, 1) := by decide +kernel
theorem dX5_sourceCount_5 : decode cX5_sourceCount 5 = .ok (.bipush 84, 2) := by decide +kernel
theorem dX5_sourceCount_7 : decode cX5_sourceCount 7 = .ok (.if_icmp .ge 31, 3) := by decide +kernel
theorem dX5_sourceCount_10 : decode cX5_sourceCount 10 = .ok (.aload_n 0, 1) := by decide +kernel
theorem dX5_sourceCount_11 : decode cX5_sourceCount 11 = .ok (.getfield 28, 3) := by decide +kernel
theorem dX5_sourceCount_14 : decode cX5_sourceCount 14 = .ok (.aload_n 0, 1) := by decide +kernel
theorem dX5_sourceCount_15 : decode cX5_sourceCount 15 = .ok (.getfield 46, 3) := by decide +kernel
theorem dX5_sourceCount_18 : decode cX5_sourceCount 18 = .ok (.iload_n 2, 1) := by decide +kernel
theorem dX5_sourceCount_19 : decode cX5_sourceCount 19 = .ok (.invokestatic 63, 3) := by decide +kernel
theorem dX5_sourceCount_22 : decode cX5_sourceCount 22 = .ok (.invokestatic 63, 3) := by decide +kernel
theorem dX5_sourceCount_25 : decode cX5_sourceCount 25 = .ok (.iconst (-1), 1) := by decide +kernel
theorem dX5_sourceCount_26 : decode cX5_sourceCount 26 = .ok (.if_icmp .eq 6, 3) := by decide +kernel
theorem dX5_sourceCount_29 : decode cX5_sourceCount 29 = .ok (.iinc 1 1, 3) := by decide +kernel
theorem dX5_sourceCount_32 : decode cX5_sourceCount 32 = .ok (.iinc 2 1, 3) := by decide +kernel
theorem dX5_sourceCount_35 : decode cX5_sourceCount 35 = .ok (.goto (-31), 3) := by decide +kernel
theorem dX5_sourceCount_38 : decode cX5_sourceCount 38 = .ok (.iload_n 1, 1) := by decide +kernel
theorem dX5_sourceCount_39 : decode cX5_sourceCount 39 = .ok (.ireturn, 1) := by decide +kernel
set_option maxRecDepth 20000 in
theorem ggX5_comesOn_X6_at : GoodIn wsX5_comesOn wsX6_at := goodIn_r _ [4] rfl (by decide +kernel)
set_option maxRecDepth 20000 in
theorem gX5_comesOn_X6_at_n63 : GoodIn wsX5_comesOn (wsX6_at) := ggX5_comesOn_X6_at
theorem dX5_comesOn_0 : decode cX5_comesOn 0 = .ok (.aload_n 0, 1) := by decide +kernel
theorem dX5_comesOn_1 : decode cX5_comesOn 1 = .ok (.getfield 37, 3) := by decide +kernel
theorem dX5_comesOn_4 : decode cX5_comesOn 4 = .ok (.iload_n 1, 1) := by decide +kernel
theorem dX5_comesOn_5 : decode cX5_comesOn 5 = .ok (.invokestatic 63, 3) := by decide +kernel
theorem dX5_comesOn_8 : decode cX5_comesOn 8 = .ok (.iload_n 2, 1) := by decide +kernel
theorem dX5_comesOn_9 : decode cX5_comesOn 9 = .ok (.bipush 7, 2) := by decide +kernel
theorem dX5_comesOn_11 : decode cX5_comesOn 11 = .ok (.irem, 1) := by decide +kernel
theorem dX5_comesOn_12 : decode cX5_comesOn 12 = .ok (.ishr, 1) := by decide +kernel
theorem dX5_comesOn_13 : decode cX5_comesOn 13 = .ok (.iconst 1, 1) := by decide +kernel
theorem dX5_comesOn_14 : decode cX5_comesOn 14 = .ok (.iand, 1) := by decide +kernel
theorem dX5_comesOn_15 : decode cX5_comesOn 15 = .ok (.iconst 1, 1) := by decide +kernel
theorem dX5_comesOn_16 : decode cX5_comesOn 16 = .ok (.if_icmp .ne 7, 3) := by decide +kernel
theorem dX5_comesOn_19 : decode cX5_comesOn 19 = .ok (.iconst 1, 1) := by decide +kernel
theorem dX5_comesOn_20 : decode cX5_comesOn 20 = .ok (.goto 4, 3) := by decide +kernel
theorem dX5_comesOn_23 : decode cX5_comesOn 23 = .ok (.iconst 0, 1) := by decide +kernel
theorem dX5_comesOn_24 : decode cX5_comesOn 24 = .ok (.ireturn, 1) := by decide +kernel
set_option maxRecDepth 20000 in
theorem ggX5_guestsOn_X5_comesOn : GoodIn wsX5_guestsOn wsX5_comesOn := goodIn_r _ [6, 7, 8, 9, 10, 11, 12, 13, 14, 15, 16, 17, 18, 19, 20, 21, 22] rfl (by decide +kernel)
set_option maxRecDepth 20000 in
theorem gX5_guestsOn_X5_comesOn : GoodIn wsX5_guestsOn (wsV RX5 84 RX5 yX5_comesOn wsX5_comesOn) := goodIn_app (goodIn_of _ (by decide +kernel)) ggX5_guestsOn_X5_comesOn
theorem dX5_guestsOn_0 : decode cX5_guestsOn 0 = .ok (.iconst 0, 1) := by decide +kernel
theorem dX5_guestsOn_1 : decode cX5_guestsOn 1 = .ok (.istore_n 2, 1) := by decide +kernel
theorem dX5_guestsOn_2 : decode cX5_guestsOn 2 = .ok (.iconst 0, 1) := by decide +kernel
theorem dX5_guestsOn_3 : decode cX5_guestsOn 3 = .ok (.istore_n 3, 1) := by decide +kernel
theorem dX5_guestsOn_4 : decode cX5_guestsOn 4 = .ok (.iload_n 3, 1) := by decide +kernel
theorem dX5_guestsOn_5 : decode cX5_guestsOn 5 = .ok (.aload_n 0, 1) := by decide +kernel
theorem dX5_guestsOn_6 : decode cX5_guestsOn 6 = .ok (.getfield 34, 3) := by decide +kernel
theorem dX5_guestsOn_9 : decode cX5_guestsOn 9 = .ok (.if_icmp .ge 21, 3) := by decide +kernel
theorem dX5_guestsOn_12 : decode cX5_guestsOn 12 = .ok (.aload_n 0, 1) := by decide +kernel
theorem dX5_guestsOn_13 : decode cX5_guestsOn 13 = .ok (.iload_n 3, 1) := by decide +kernel
theorem dX5_guestsOn_14 : decode cX5_guestsOn 14 = .ok (.iload_n 1, 1) := by decide +kernel
theorem dX5_guestsOn_15 : decode cX5_guestsOn 15 = .ok (.invokevirtual 84, 3) := by decide +kernel
theorem dX5_guestsOn_18 : decode cX5_guestsOn 18 = .ok (.ifCond .eq 6, 3) := by decide +kernel
theorem dX5_guestsOn_21 : decode cX5_guestsOn 21 = .ok (.iinc 2 1, 3) := by decide +kernel
theorem dX5_guestsOn_24 : decode cX5_guestsOn 24 = .ok (.iinc 3 1, 3) := by decide +kernel
theorem dX5_guestsOn_27 : decode cX5_guestsOn 27 = .ok (.goto (-23), 3) := by decide +kernel
theorem dX5_guestsOn_30 : decode cX5_guestsOn 30 = .ok (.iload_n 2, 1) := by decide +kernel
theorem dX5_guestsOn_31 : decode cX5_guestsOn 31 = .ok (.ireturn, 1) := by decide +kernel
set_option maxRecDepth 20000 in
theorem ggX5_dishesBefore_X5_comesOn : GoodIn wsX5_dishesBefore wsX5_comesOn := goodIn_r _ [5, 6, 7, 8, 9, 17, 18, 19, 20, 21, 22, 23, 24, 25, 26, 27, 28] rfl (by decide +kernel)
set_option maxRecDepth 20000 in
theorem gX5_dishesBefore_X5_comesOn : GoodIn wsX5_dishesBefore (wsV RX5 84 RX5 yX5_comesOn wsX5_comesOn) := goodIn_app (goodIn_of _ (by decide +kernel)) ggX5_dishesBefore_X5_comesOn
set_option maxRecDepth 20000 in
theorem ggX5_dishesBefore_X5_mealCount : GoodIn wsX5_dishesBefore wsX5_mealCount := goodIn_r _ [13, 14, 15, 8, 16, 7, 9, 17, 18, 19, 20, 21, 22, 23, 24, 25, 26, 27, 28] rfl (by decide +kernel)
set_option maxRecDepth 20000 in
theorem gX5_dishesBefore_X5_mealCount : GoodIn wsX5_dishesBefore (wsV RX5 81 RX5 yX5_mealCount wsX5_mealCount) := goodIn_app (goodIn_of _ (by decide +kernel)) ggX5_dishesBefore_X5_mealCount
theorem dX5_dishesBefore_0 : decode cX5_dishesBefore 0 = .ok (.iconst 0, 1) := by decide +kernel
theorem dX5_dishesBefore_1 : decode cX5_dishesBefore 1 = .ok (.istore_n 2, 1) := by decide +kernel
theorem dX5_dishesBefore_2 : decode cX5_dishesBefore 2 = .ok (.iconst 0, 1) := by decide +kernel
theorem dX5_dishesBefore_3 : decode cX5_dishesBefore 3 = .ok (.istore_n 3, 1) := by decide +kernel
theorem dX5_dishesBefore_4 : decode cX5_dishesBefore 4 = .ok (.iload_n 3, 1) := by decide +kernel
theorem dX5_dishesBefore_5 : decode cX5_dishesBefore 5 = .ok (.bipush 28, 2) := by decide +kernel
theorem dX5_dishesBefore_7 : decode cX5_dishesBefore 7 = .ok (.if_icmp .ge 26, 3) := by decide +kernel
theorem dX5_dishesBefore_10 : decode cX5_dishesBefore 10 = .ok (.aload_n 0, 1) := by decide +kernel
theorem dX5_dishesBefore_11 : decode cX5_dishesBefore 11 = .ok (.iload_n 1, 1) := by decide +kernel
theorem dX5_dishesBefore_12 : decode cX5_dishesBefore 12 = .ok (.iload_n 3, 1) := by decide +kernel
theorem dX5_dishesBefore_13 : decode cX5_dishesBefore 13 = .ok (.invokevirtual 84, 3) := by decide +kernel
theorem dX5_dishesBefore_16 : decode cX5_dishesBefore 16 = .ok (.ifCond .eq 11, 3) := by decide +kernel
theorem dX5_dishesBefore_19 : decode cX5_dishesBefore 19 = .ok (.iload_n 2, 1) := by decide +kernel
theorem dX5_dishesBefore_20 : decode cX5_dishesBefore 20 = .ok (.aload_n 0, 1) := by decide +kernel
theorem dX5_dishesBefore_21 : decode cX5_dishesBefore 21 = .ok (.iload_n 3, 1) := by decide +kernel
theorem dX5_dishesBefore_22 : decode cX5_dishesBefore 22 = .ok (.invokevirtual 81, 3) := by decide +kernel
theorem dX5_dishesBefore_25 : decode cX5_dishesBefore 25 = .ok (.iadd, 1) := by decide +kernel
theorem dX5_dishesBefore_26 : decode cX5_dishesBefore 26 = .ok (.istore_n 2, 1) := by decide +kernel
theorem dX5_dishesBefore_27 : decode cX5_dishesBefore 27 = .ok (.iinc 3 1, 3) := by decide +kernel
theorem dX5_dishesBefore_30 : decode cX5_dishesBefore 30 = .ok (.goto (-26), 3) := by decide +kernel
theorem dX5_dishesBefore_33 : decode cX5_dishesBefore 33 = .ok (.iload_n 2, 1) := by decide +kernel
theorem dX5_dishesBefore_34 : decode cX5_dishesBefore 34 = .ok (.ireturn, 1) := by decide +kernel
set_option maxRecDepth 20000 in
theorem ggX5_vetoedTastes_X5_comesOn : GoodIn wsX5_vetoedTastes wsX5_comesOn := goodIn_r _ [7, 8, 9, 10, 11, 12, 13, 14, 15, 16, 17, 18, 19, 20, 21, 22, 23] rfl (by decide +kernel)
set_option maxRecDepth 20000 in
theorem gX5_vetoedTastes_X5_comesOn : GoodIn wsX5_vetoedTastes (wsV RX5 84 RX5 yX5_comesOn wsX5_comesOn) := goodIn_app (goodIn_of _ (by decide +kernel)) ggX5_vetoedTastes_X5_comesOn
set_option maxRecDepth 20000 in
theorem ggX5_vetoedTastes_X6_at : GoodIn wsX5_vetoedTastes wsX6_at := goodIn_r _ [11] rfl (by decide +kernel)
set_option maxRecDepth 20000 in
theorem gX5_vetoedTastes_X6_at_n63 : GoodIn wsX5_vetoedTastes (wsX6_at) := ggX5_vetoedTastes_X6_at
theorem dX5_vetoedTastes_0 : decode cX5_vetoedTastes 0 = .ok (.iconst 0, 1) := by decide +kernel
theorem dX5_vetoedTastes_1 : decode cX5_vetoedTastes 1 = .ok (.istore_n 2, 1) := by decide +kernel
theorem dX5_vetoedTastes_2 : decode cX5_vetoedTastes 2 = .ok (.iconst 0, 1) := by decide +kernel
theorem dX5_vetoedTastes_3 : decode cX5_vetoedTastes 3 = .ok (.istore_n 3, 1) := by decide +kernel
theorem dX5_vetoedTastes_4 : decode cX5_vetoedTastes 4 = .ok (.iload_n 3, 1) := by decide +kernel
theorem dX5_vetoedTastes_5 : decode cX5_vetoedTastes 5 = .ok (.aload_n 0, 1) := by decide +kernel
theorem dX5_vetoedTastes_6 : decode cX5_vetoedTastes 6 = .ok (.getfield 34, 3) := by decide +kernel
theorem dX5_vetoedTastes_9 : decode cX5_vetoedTastes 9 = .ok (.if_icmp .ge 29, 3) := by decide +kernel
theorem dX5_vetoedTastes_12 : decode cX5_vetoedTastes 12 = .ok (.aload_n 0, 1) := by decide +kernel
theorem dX5_vetoedTastes_13 : decode cX5_vetoedTastes 13 = .ok (.iload_n 3, 1) := by decide +kernel
theorem dX5_vetoedTastes_14 : decode cX5_vetoedTastes 14 = .ok (.iload_n 1, 1) := by decide +kernel
theorem dX5_vetoedTastes_15 : decode cX5_vetoedTastes 15 = .ok (.invokevirtual 84, 3) := by decide +kernel
theorem dX5_vetoedTastes_18 : decode cX5_vetoedTastes 18 = .ok (.ifCond .eq 14, 3) := by decide +kernel
theorem dX5_vetoedTastes_21 : decode cX5_vetoedTastes 21 = .ok (.iload_n 2, 1) := by decide +kernel
theorem dX5_vetoedTastes_22 : decode cX5_vetoedTastes 22 = .ok (.aload_n 0, 1) := by decide +kernel
theorem dX5_vetoedTastes_23 : decode cX5_vetoedTastes 23 = .ok (.getfield 40, 3) := by decide +kernel
theorem dX5_vetoedTastes_26 : decode cX5_vetoedTastes 26 = .ok (.iload_n 3, 1) := by decide +kernel
theorem dX5_vetoedTastes_27 : decode cX5_vetoedTastes 27 = .ok (.invokestatic 63, 3) := by decide +kernel
theorem dX5_vetoedTastes_30 : decode cX5_vetoedTastes 30 = .ok (.ior, 1) := by decide +kernel
theorem dX5_vetoedTastes_31 : decode cX5_vetoedTastes 31 = .ok (.istore_n 2, 1) := by decide +kernel
theorem dX5_vetoedTastes_32 : decode cX5_vetoedTastes 32 = .ok (.iinc 3 1, 3) := by decide +kernel
theorem dX5_vetoedTastes_35 : decode cX5_vetoedTastes 35 = .ok (.goto (-31), 3) := by decide +kernel
theorem dX5_vetoedTastes_38 : decode cX5_vetoedTastes 38 = .ok (.iload_n 2, 1) := by decide +kernel
theorem dX5_vetoedTastes_39 : decode cX5_vetoedTastes 39 = .ok (.ireturn, 1) := by decide +kernel
set_option maxRecDepth 20000 in
theorem ggX5_isVetoed_X5_vetoedTastes : GoodIn wsX5_isVetoed wsX5_vetoedTastes := goodIn_r _ [6, 7, 8, 9, 10, 11, 5, 12, 13, 14, 15, 16, 17, 18, 19, 20, 21, 22, 23, 24, 25, 26, 27, 28] rfl (by decide +kernel)
set_option maxRecDepth 20000 in
theorem gX5_isVetoed_X5_vetoedTastes : GoodIn wsX5_isVetoed (wsV RX5 88 RX5 yX5_vetoedTastes wsX5_vetoedTastes) := goodIn_app (goodIn_of _ (by decide +kernel)) ggX5_isVetoed_X5_vetoedTastes
set_option maxRecDepth 20000 in
theorem ggX5_isVetoed_X6_at : GoodIn wsX5_isVetoed wsX6_at := goodIn_r _ [16] rfl (by decide +kernel)
set_option maxRecDepth 20000 in
theorem gX5_isVetoed_X6_at_n63 : GoodIn wsX5_isVetoed (wsX6_at) := ggX5_isVetoed_X6_at
theorem dX5_isVetoed_0 : decode cX5_isVetoed 0 = .ok (.aload_n 0, 1) := by decide +kernel
theorem dX5_isVetoed_1 : decode cX5_isVetoed 1 = .ok (.iload_n 1, 1) := by decide +kernel
theorem dX5_isVetoed_2 : decode cX5_isVetoed 2 = .ok (.invokevirtual 88, 3) := by decide +kernel
theorem dX5_isVetoed_5 : decode cX5_isVetoed 5 = .ok (.aload_n 0, 1) := by decide +kernel
theorem dX5_isVetoed_6 : decode cX5_isVetoed 6 = .ok (.getfield 22, 3) := by decide +kernel
theorem dX5_isVetoed_9 : decode cX5_isVetoed 9 = .ok (.iload_n 2, 1) := by decide +kernel
theorem dX5_isVetoed_10 : decode cX5_isVetoed 10 = .ok (.invokestatic 63, 3) := by decide +kernel
theorem dX5_isVetoed_13 : decode cX5_isVetoed 13 = .ok (.ishr, 1) := by decide +kernel
theorem dX5_isVetoed_14 : decode cX5_isVetoed 14 = .ok (.iconst 1, 1) := by decide +kernel
theorem dX5_isVetoed_15 : decode cX5_isVetoed 15 = .ok (.iand, 1) := by decide +kernel
theorem dX5_isVetoed_16 : decode cX5_isVetoed 16 = .ok (.iconst 1, 1) := by decide +kernel
theorem dX5_isVetoed_17 : decode cX5_isVetoed 17 = .ok (.if_icmp .ne 7, 3) := by decide +kernel
theorem dX5_isVetoed_20 : decode cX5_isVetoed 20 = .ok (.iconst 1, 1) := by decide +kernel
theorem dX5_isVetoed_21 : decode cX5_isVetoed 21 = .ok (.goto 4, 3) := by decide +kernel
theorem dX5_isVetoed_24 : decode cX5_isVetoed 24 = .ok (.iconst 0, 1) := by decide +kernel
theorem dX5_isVetoed_25 : decode cX5_isVetoed 25 = .ok (.ireturn, 1) := by decide +kernel
set_option maxRecDepth 20000 in
theorem ggX5_hasVetoedDish_X6_at : GoodIn wsX5_hasVetoedDish wsX6_at := goodIn_r _ [4] rfl (by decide +kernel)
set_option maxRecDepth 20000 in
theorem gX5_hasVetoedDish_X6_at_n63 : GoodIn wsX5_hasVetoedDish (wsX6_at) := ggX5_hasVetoedDish_X6_at
set_option maxRecDepth 20000 in
theorem ggX5_hasVetoedDish_X5_isVetoed : GoodIn wsX5_hasVetoedDish wsX5_isVetoed := goodIn_r _ [9, 10, 11, 12, 13, 8, 14, 15, 16, 17, 18, 19, 20, 21, 2, 3, 4, 22, 23, 24, 25, 26, 27, 28, 29, 30, 31, 32, 33] rfl (by decide +kernel)
set_option maxRecDepth 20000 in
theorem gX5_hasVetoedDish_X5_isVetoed : GoodIn wsX5_hasVetoedDish (wsV RX5 91 RX5 yX5_isVetoed wsX5_isVetoed) := goodIn_app (goodIn_of _ (by decide +kernel)) ggX5_hasVetoedDish_X5_isVetoed
theorem dX5_hasVetoedDish_0 : decode cX5_hasVetoedDish 0 = .ok (.iconst 0, 1) := by decide +kernel
theorem dX5_hasVetoedDish_1 : decode cX5_hasVetoedDish 1 = .ok (.istore_n 1, 1) := by decide +kernel
theorem dX5_hasVetoedDish_2 : decode cX5_hasVetoedDish 2 = .ok (.iload_n 1, 1) := by decide +kernel
theorem dX5_hasVetoedDish_3 : decode cX5_hasVetoedDish 3 = .ok (.bipush 84, 2) := by decide +kernel
theorem dX5_hasVetoedDish_5 : decode cX5_hasVetoedDish 5 = .ok (.if_icmp .ge 36, 3) := by decide +kernel
theorem dX5_hasVetoedDish_8 : decode cX5_hasVetoedDish 8 = .ok (.aload_n 0, 1) := by decide +kernel
theorem dX5_hasVetoedDish_9 : decode cX5_hasVetoedDish 9 = .ok (.getfield 46, 3) := by decide +kernel
theorem dX5_hasVetoedDish_12 : decode cX5_hasVetoedDish 12 = .ok (.iload_n 1, 1) := by decide +kernel
theorem dX5_hasVetoedDish_13 : decode cX5_hasVetoedDish 13 = .ok (.invokestatic 63, 3) := by decide +kernel
theorem dX5_hasVetoedDish_16 : decode cX5_hasVetoedDish 16 = .ok (.istore_n 2, 1) := by decide +kernel
theorem dX5_hasVetoedDish_17 : decode cX5_hasVetoedDish 17 = .ok (.iload_n 2, 1) := by decide +kernel
theorem dX5_hasVetoedDish_18 : decode cX5_hasVetoedDish 18 = .ok (.iconst (-1), 1) := by decide +kernel
theorem dX5_hasVetoedDish_19 : decode cX5_hasVetoedDish 19 = .ok (.if_icmp .eq 16, 3) := by decide +kernel
theorem dX5_hasVetoedDish_22 : decode cX5_hasVetoedDish 22 = .ok (.aload_n 0, 1) := by decide +kernel
theorem dX5_hasVetoedDish_23 : decode cX5_hasVetoedDish 23 = .ok (.iload_n 1, 1) := by decide +kernel
theorem dX5_hasVetoedDish_24 : decode cX5_hasVetoedDish 24 = .ok (.iconst 3, 1) := by decide +kernel
theorem dX5_hasVetoedDish_25 : decode cX5_hasVetoedDish 25 = .ok (.idiv, 1) := by decide +kernel
theorem dX5_hasVetoedDish_26 : decode cX5_hasVetoedDish 26 = .ok (.iload_n 2, 1) := by decide +kernel
theorem dX5_hasVetoedDish_27 : decode cX5_hasVetoedDish 27 = .ok (.invokevirtual 91, 3) := by decide +kernel
theorem dX5_hasVetoedDish_30 : decode cX5_hasVetoedDish 30 = .ok (.ifCond .eq 5, 3) := by decide +kernel
theorem dX5_hasVetoedDish_33 : decode cX5_hasVetoedDish 33 = .ok (.iconst 1, 1) := by decide +kernel
theorem dX5_hasVetoedDish_34 : decode cX5_hasVetoedDish 34 = .ok (.ireturn, 1) := by decide +kernel
theorem dX5_hasVetoedDish_35 : decode cX5_hasVetoedDish 35 = .ok (.iinc 1 1, 3) := by decide +kernel
theorem dX5_hasVetoedDish_38 : decode cX5_hasVetoedDish 38 = .ok (.goto (-36), 3) := by decide +kernel
theorem dX5_hasVetoedDish_41 : decode cX5_hasVetoedDish 41 = .ok (.iconst 0, 1) := by decide +kernel
theorem dX5_hasVetoedDish_42 : decode cX5_hasVetoedDish 42 = .ok (.ireturn, 1) := by decide +kernel
set_option maxRecDepth 20000 in
theorem ggX5_hasStrangeDish_X6_at : GoodIn wsX5_hasStrangeDish wsX6_at := goodIn_r _ [5] rfl (by decide +kernel)
set_option maxRecDepth 20000 in
theorem gX5_hasStrangeDish_X6_at_n63 : GoodIn wsX5_hasStrangeDish (wsX6_at) := ggX5_hasStrangeDish_X6_at
set_option maxRecDepth 20000 in
theorem ggX5_hasStrangeDish_X5_hasDish : GoodIn wsX5_hasStrangeDish wsX5_hasDish := goodIn_r _ [10, 11, 12, 13, 14, 15, 16, 17, 18, 19, 20, 21, 22, 23] rfl (by decide +kernel)
set_option maxRecDepth 20000 in
theorem gX5_hasStrangeDish_X5_hasDish : GoodIn wsX5_hasStrangeDish (wsV RX5 94 RX5 yX5_hasDish wsX5_hasDish) := goodIn_app (goodIn_of _ (by decide +kernel)) ggX5_hasStrangeDish_X5_hasDish
theorem dX5_hasStrangeDish_0 : decode cX5_hasStrangeDish 0 = .ok (.iconst 0, 1) := by decide +kernel
theorem dX5_hasStrangeDish_1 : decode cX5_hasStrangeDish 1 = .ok (.istore_n 1, 1) := by decide +kernel
theorem dX5_hasStrangeDish_2 : decode cX5_hasStrangeDish 2 = .ok (.iload_n 1, 1) := by decide +kernel
theorem dX5_hasStrangeDish_3 : decode cX5_hasStrangeDish 3 = .ok (.bipush 84, 2) := by decide +kernel
theorem dX5_hasStrangeDish_5 : decode cX5_hasStrangeDish 5 = .ok (.if_icmp .ge 47, 3) := by decide +kernel
theorem dX5_hasStrangeDish_8 : decode cX5_hasStrangeDish 8 = .ok (.aload_n 0, 1) := by decide +kernel
theorem dX5_hasStrangeDish_9 : decode cX5_hasStrangeDish 9 = .ok (.getfield 46, 3) := by decide +kernel
theorem dX5_hasStrangeDish_12 : decode cX5_hasStrangeDish 12 = .ok (.iload_n 1, 1) := by decide +kernel
theorem dX5_hasStrangeDish_13 : decode cX5_hasStrangeDish 13 = .ok (.invokestatic 63, 3) := by decide +kernel
theorem dX5_hasStrangeDish_16 : decode cX5_hasStrangeDish 16 = .ok (.istore_n 2, 1) := by decide +kernel
theorem dX5_hasStrangeDish_17 : decode cX5_hasStrangeDish 17 = .ok (.iload_n 2, 1) := by decide +kernel
theorem dX5_hasStrangeDish_18 : decode cX5_hasStrangeDish 18 = .ok (.iconst (-1), 1) := by decide +kernel
theorem dX5_hasStrangeDish_19 : decode cX5_hasStrangeDish 19 = .ok (.if_icmp .eq 27, 3) := by decide +kernel
theorem dX5_hasStrangeDish_22 : decode cX5_hasStrangeDish 22 = .ok (.aload_n 0, 1) := by decide +kernel
theorem dX5_hasStrangeDish_23 : decode cX5_hasStrangeDish 23 = .ok (.iload_n 2, 1) := by decide +kernel
theorem dX5_hasStrangeDish_24 : decode cX5_hasStrangeDish 24 = .ok (.invokevirtual 94, 3) := by decide +kernel
theorem dX5_hasStrangeDish_27 : decode cX5_hasStrangeDish 27 = .ok (.ifCond .eq 17, 3) := by decide +kernel
theorem dX5_hasStrangeDish_30 : decode cX5_hasStrangeDish 30 = .ok (.aload_n 0, 1) := by decide +kernel
theorem dX5_hasStrangeDish_31 : decode cX5_hasStrangeDish 31 = .ok (.getfield 15, 3) := by decide +kernel
theorem dX5_hasStrangeDish_34 : decode cX5_hasStrangeDish 34 = .ok (.iload_n 2, 1) := by decide +kernel
theorem dX5_hasStrangeDish_35 : decode cX5_hasStrangeDish 35 = .ok (.invokestatic 63, 3) := by decide +kernel
theorem dX5_hasStrangeDish_38 : decode cX5_hasStrangeDish 38 = .ok (.iload_n 1, 1) := by decide +kernel
theorem dX5_hasStrangeDish_39 : decode cX5_hasStrangeDish 39 = .ok (.iconst 3, 1) := by decide +kernel
theorem dX5_hasStrangeDish_40 : decode cX5_hasStrangeDish 40 = .ok (.irem, 1) := by decide +kernel
theorem dX5_hasStrangeDish_41 : decode cX5_hasStrangeDish 41 = .ok (.if_icmp .eq 5, 3) := by decide +kernel
theorem dX5_hasStrangeDish_44 : decode cX5_hasStrangeDish 44 = .ok (.iconst 1, 1) := by decide +kernel
theorem dX5_hasStrangeDish_45 : decode cX5_hasStrangeDish 45 = .ok (.ireturn, 1) := by decide +kernel
theorem dX5_hasStrangeDish_46 : decode cX5_hasStrangeDish 46 = .ok (.iinc 1 1, 3) := by decide +kernel
theorem dX5_hasStrangeDish_49 : decode cX5_hasStrangeDish 49 = .ok (.goto (-47), 3) := by decide +kernel
theorem dX5_hasStrangeDish_52 : decode cX5_hasStrangeDish 52 = .ok (.iconst 0, 1) := by decide +kernel
theorem dX5_hasStrangeDish_53 : decode cX5_hasStrangeDish 53 = .ok (.ireturn, 1) := by decide +kernel
set_option maxRecDepth 20000 in
theorem ggX5_exchangeMeals_X6_cellOf : GoodIn wsX5_exchangeMeals wsX6_cellOf := goodIn_r _ [4] rfl (by decide +kernel)
set_option maxRecDepth 20000 in
theorem gX5_exchangeMeals_X6_cellOf_n77 : GoodIn wsX5_exchangeMeals (wsX6_cellOf) := ggX5_exchangeMeals_X6_cellOf
set_option maxRecDepth 20000 in
theorem ggX5_exchangeMeals_X6_at : GoodIn wsX5_exchangeMeals wsX6_at := goodIn_r _ [6] rfl (by decide +kernel)
set_option maxRecDepth 20000 in
theorem gX5_exchangeMeals_X6_at_n63 : GoodIn wsX5_exchangeMeals (wsX6_at) := ggX5_exchangeMeals_X6_at
set_option maxRecDepth 20000 in
theorem ggX5_exchangeMeals_X6_put : GoodIn wsX5_exchangeMeals wsX6_put := goodIn_r _ [8] rfl (by decide +kernel)
set_option maxRecDepth 20000 in
theorem gX5_exchangeMeals_X6_put_n55 : GoodIn wsX5_exchangeMeals (wsX6_put) := ggX5_exchangeMeals_X6_put
theorem dX5_exchangeMeals_0 : decode cX5_exchangeMeals 0 = .ok (.iconst 0, 1) := by decide +kernel
theorem dX5_exchangeMeals_1 : decode cX5_exchangeMeals 1 = .ok (.istore_n 3, 1) := by decide +kernel
theorem dX5_exchangeMeals_2 : decode cX5_exchangeMeals 2 = .ok (.iload_n 3, 1) := by decide +kernel
theorem dX5_exchangeMeals_3 : decode cX5_exchangeMeals 3 = .ok (.iconst 3, 1) := by decide +kernel
theorem dX5_exchangeMeals_4 : decode cX5_exchangeMeals 4 = .ok (.if_icmp .ge 61, 3) := by decide +kernel
theorem dX5_exchangeMeals_7 : decode cX5_exchangeMeals 7 = .ok (.aload_n 0, 1) := by decide +kernel
theorem dX5_exchangeMeals_8 : decode cX5_exchangeMeals 8 = .ok (.getfield 46, 3) := by decide +kernel
theorem dX5_exchangeMeals_11 : decode cX5_exchangeMeals 11 = .ok (.iload_n 1, 1) := by decide +kernel
theorem dX5_exchangeMeals_12 : decode cX5_exchangeMeals 12 = .ok (.iload_n 3, 1) := by decide +kernel
theorem dX5_exchangeMeals_13 : decode cX5_exchangeMeals 13 = .ok (.invokestatic 77, 3) := by decide +kernel
theorem dX5_exchangeMeals_16 : decode cX5_exchangeMeals 16 = .ok (.invokestatic 63, 3) := by decide +kernel
theorem dX5_exchangeMeals_19 : decode cX5_exchangeMeals 19 = .ok (.istore 4, 2) := by decide +kernel
theorem dX5_exchangeMeals_21 : decode cX5_exchangeMeals 21 = .ok (.aload_n 0, 1) := by decide +kernel
theorem dX5_exchangeMeals_22 : decode cX5_exchangeMeals 22 = .ok (.getfield 46, 3) := by decide +kernel
theorem dX5_exchangeMeals_25 : decode cX5_exchangeMeals 25 = .ok (.iload_n 1, 1) := by decide +kernel
theorem dX5_exchangeMeals_26 : decode cX5_exchangeMeals 26 = .ok (.iload_n 3, 1) := by decide +kernel
theorem dX5_exchangeMeals_27 : decode cX5_exchangeMeals 27 = .ok (.invokestatic 77, 3) := by decide +kernel
theorem dX5_exchangeMeals_30 : decode cX5_exchangeMeals 30 = .ok (.aload_n 0, 1) := by decide +kernel
theorem dX5_exchangeMeals_31 : decode cX5_exchangeMeals 31 = .ok (.getfield 46, 3) := by decide +kernel
theorem dX5_exchangeMeals_34 : decode cX5_exchangeMeals 34 = .ok (.iload_n 2, 1) := by decide +kernel
theorem dX5_exchangeMeals_35 : decode cX5_exchangeMeals 35 = .ok (.iload_n 3, 1) := by decide +kernel
theorem dX5_exchangeMeals_36 : decode cX5_exchangeMeals 36 = .ok (.invokestatic 77, 3) := by decide +kernel
theorem dX5_exchangeMeals_39 : decode cX5_exchangeMeals 39 = .ok (.invokestatic 63, 3) := by decide +kernel
theorem dX5_exchangeMeals_42 : decode cX5_exchangeMeals 42 = .ok (.invokestatic 55, 3) := by decide +kernel
theorem dX5_exchangeMeals_45 : decode cX5_exchangeMeals 45 = .ok (.aload_n 0, 1) := by decide +kernel
theorem dX5_exchangeMeals_46 : decode cX5_exchangeMeals 46 = .ok (.getfield 46, 3) := by decide +kernel
theorem dX5_exchangeMeals_49 : decode cX5_exchangeMeals 49 = .ok (.iload_n 2, 1) := by decide +kernel
theorem dX5_exchangeMeals_50 : decode cX5_exchangeMeals 50 = .ok (.iload_n 3, 1) := by decide +kernel
theorem dX5_exchangeMeals_51 : decode cX5_exchangeMeals 51 = .ok (.invokestatic 77, 3) := by decide +kernel
theorem dX5_exchangeMeals_54 : decode cX5_exchangeMeals 54 = .ok (.iload 4, 2) := by decide +kernel
theorem dX5_exchangeMeals_56 : decode cX5_exchangeMeals 56 = .ok (.invokestatic 55, 3) := by decide +kernel
theorem dX5_exchangeMeals_59 : decode cX5_exchangeMeals 59 = .ok (.iinc 3 1, 3) := by decide +kernel
theorem dX5_exchangeMeals_62 : decode cX5_exchangeMeals 62 = .ok (.goto (-60), 3) := by decide +kernel
theorem dX5_exchangeMeals_65 : decode cX5_exchangeMeals 65 = .ok (.return_, 1) := by decide +kernel
set_option maxRecDepth 20000 in
theorem ggX6_init_X5_init : GoodIn wsX6_init wsX5_init := goodIn_r _ [31, 32, 2, 3, 33, 34, 35, 36, 37, 38, 39, 40, 41, 42, 43, 44, 45, 46, 47, 48, 49, 50, 51, 52, 87, 88, 89, 90, 91, 92, 93, 94, 95, 96, 97, 98] rfl (by decide +kernel)
set_option maxRecDepth 20000 in
theorem gX6_init_X5_init : GoodIn wsX6_init (wsX5_init) := ggX6_init_X5_init
set_option maxRecDepth 20000 in
theorem ggX6_init_X1_init : GoodIn wsX6_init wsX1_init := goodIn_r _ [55, 56, 2, 3, 34, 57, 58, 106, 107] rfl (by decide +kernel)
set_option maxRecDepth 20000 in
theorem gX6_init_X1_init : GoodIn wsX6_init (wsX1_init) := ggX6_init_X1_init
set_option maxRecDepth 20000 in
theorem ggX6_init_X2_init : GoodIn wsX6_init wsX2_init := goodIn_r _ [61, 62, 2, 3, 63, 64, 108, 109] rfl (by decide +kernel)
set_option maxRecDepth 20000 in
theorem gX6_init_X2_init : GoodIn wsX6_init (wsX2_init) := ggX6_init_X2_init
set_option maxRecDepth 20000 in
theorem ggX6_init_X0_init : GoodIn wsX6_init wsX0_init := goodIn_r _ [67, 68, 2, 3, 69, 70, 5, 6, 71, 72, 73, 30, 31, 32, 33, 34, 35, 36, 37, 38, 39, 40, 41, 42, 43, 44, 45, 46, 47, 48, 49, 50, 51, 52, 110, 111, 112, 87, 88, 89, 90, 91, 92, 93, 94, 95, 96, 97, 98] rfl (by decide +kernel)
set_option maxRecDepth 20000 in
theorem gX6_init_X0_init : GoodIn wsX6_init (wsX0_init) := ggX6_init_X0_init
set_option maxRecDepth 20000 in
theorem ggX6_init_X4_init : GoodIn wsX6_init wsX4_init := goodIn_r _ [76, 77, 2, 3, 34, 78, 79, 80, 113, 114] rfl (by decide +kernel)
set_option maxRecDepth 20000 in
theorem gX6_init_X4_init : GoodIn wsX6_init (wsX4_init) := ggX6_init_X4_init
set_option maxRecDepth 20000 in
theorem ggX6_init_X3_init : GoodIn wsX6_init wsX3_init := goodIn_r _ [83, 84, 2, 3, 34, 85, 86, 115, 116] rfl (by decide +kernel)
set_option maxRecDepth 20000 in
theorem gX6_init_X3_init : GoodIn wsX6_init (wsX3_init) := ggX6_init_X3_init
theorem dX6_init_0 : decode cX6_init 0 = .ok (.aload_n 0, 1) := by decide +kernel
theorem dX6_init_1 : decode cX6_init 1 = .ok (.invokespecial 1, 3) := by decide +kernel
theorem dX6_init_4 : decode cX6_init 4 = .ok (.aload_n 0, 1) := by decide +kernel
theorem dX6_init_5 : decode cX6_init 5 = .ok (.new 7, 3) := by decide +kernel
theorem dX6_init_8 : decode cX6_init 8 = .ok (.dup, 1) := by decide +kernel
theorem dX6_init_9 : decode cX6_init 9 = .ok (.invokespecial 9, 3) := by decide +kernel
theorem dX6_init_12 : decode cX6_init 12 = .ok (.putfield 10, 3) := by decide +kernel
theorem dX6_init_15 : decode cX6_init 15 = .ok (.aload_n 0, 1) := by decide +kernel
theorem dX6_init_16 : decode cX6_init 16 = .ok (.new 7, 3) := by decide +kernel
theorem dX6_init_19 : decode cX6_init 19 = .ok (.dup, 1) := by decide +kernel
theorem dX6_init_20 : decode cX6_init 20 = .ok (.invokespecial 9, 3) := by decide +kernel
theorem dX6_init_23 : decode cX6_init 23 = .ok (.putfield 16, 3) := by decide +kernel
theorem dX6_init_26 : decode cX6_init 26 = .ok (.aload_n 0, 1) := by decide +kernel
theorem dX6_init_27 : decode cX6_init 27 = .ok (.new 19, 3) := by decide +kernel
theorem dX6_init_30 : decode cX6_init 30 = .ok (.dup, 1) := by decide +kernel
theorem dX6_init_31 : decode cX6_init 31 = .ok (.invokespecial 21, 3) := by decide +kernel
theorem dX6_init_34 : decode cX6_init 34 = .ok (.putfield 22, 3) := by decide +kernel
theorem dX6_init_37 : decode cX6_init 37 = .ok (.aload_n 0, 1) := by decide +kernel
theorem dX6_init_38 : decode cX6_init 38 = .ok (.new 26, 3) := by decide +kernel
theorem dX6_init_41 : decode cX6_init 41 = .ok (.dup, 1) := by decide +kernel
theorem dX6_init_42 : decode cX6_init 42 = .ok (.aload_n 0, 1) := by decide +kernel
theorem dX6_init_43 : decode cX6_init 43 = .ok (.getfield 10, 3) := by decide +kernel
theorem dX6_init_46 : decode cX6_init 46 = .ok (.aload_n 0, 1) := by decide +kernel
theorem dX6_init_47 : decode cX6_init 47 = .ok (.getfield 22, 3) := by decide +kernel
theorem dX6_init_50 : decode cX6_init 50 = .ok (.invokespecial 28, 3) := by decide +kernel
theorem dX6_init_53 : decode cX6_init 53 = .ok (.putfield 31, 3) := by decide +kernel
theorem dX6_init_56 : decode cX6_init 56 = .ok (.aload_n 0, 1) := by decide +kernel
theorem dX6_init_57 : decode cX6_init 57 = .ok (.new 35, 3) := by decide +kernel
theorem dX6_init_60 : decode cX6_init 60 = .ok (.dup, 1) := by decide +kernel
theorem dX6_init_61 : decode cX6_init 61 = .ok (.invokespecial 37, 3) := by decide +kernel
theorem dX6_init_64 : decode cX6_init 64 = .ok (.putfield 38, 3) := by decide +kernel
theorem dX6_init_67 : decode cX6_init 67 = .ok (.aload_n 0, 1) := by decide +kernel
theorem dX6_init_68 : decode cX6_init 68 = .ok (.new 42, 3) := by decide +kernel
theorem dX6_init_71 : decode cX6_init 71 = .ok (.dup, 1) := by decide +kernel
theorem dX6_init_72 : decode cX6_init 72 = .ok (.invokespecial 44, 3) := by decide +kernel
theorem dX6_init_75 : decode cX6_init 75 = .ok (.putfield 45, 3) := by decide +kernel
theorem dX6_init_78 : decode cX6_init 78 = .ok (.aload_n 0, 1) := by decide +kernel
theorem dX6_init_79 : decode cX6_init 79 = .ok (.new 49, 3) := by decide +kernel
theorem dX6_init_82 : decode cX6_init 82 = .ok (.dup, 1) := by decide +kernel
theorem dX6_init_83 : decode cX6_init 83 = .ok (.invokespecial 51, 3) := by decide +kernel
theorem dX6_init_86 : decode cX6_init 86 = .ok (.putfield 52, 3) := by decide +kernel
theorem dX6_init_89 : decode cX6_init 89 = .ok (.return_, 1) := by decide +kernel
set_option maxRecDepth 20000 in
theorem ggX6_addDish_X6_isWithin : GoodIn wsX6_addDish wsX6_isWithin := goodIn_r _ [11] rfl (by decide +kernel)
set_option maxRecDepth 20000 in
theorem gX6_addDish_X6_isWithin : GoodIn wsX6_addDish (va_wsS RX6 56 yX6_isWithin wsX6_isWithin) := goodIn_app (goodIn_of _ (by decide +kernel)) ggX6_addDish_X6_isWithin
set_option maxRecDepth 20000 in
theorem ggX6_addDish_X0_save : GoodIn wsX6_addDish wsX0_save := goodIn_r _ [16, 17, 18, 19, 20, 21, 15, 22, 23, 24, 25, 26, 27, 28, 29, 30, 31, 32, 33, 34, 35, 36, 37, 38, 39, 40, 41, 10, 42, 43, 44, 45, 46, 47, 48, 49, 50, 76, 77, 78, 64, 65, 66, 67, 68, 69, 70, 71, 72, 73, 74, 75] rfl (by decide +kernel)
set_option maxRecDepth 20000 in
theorem gX6_addDish_X0_save : GoodIn wsX6_addDish (wsV RX6 76 RX0 yX0_save wsX0_save) := goodIn_app (goodIn_of _ (by decide +kernel)) ggX6_addDish_X0_save
set_option maxRecDepth 20000 in
theorem ggX6_addDish_X5_newDish : GoodIn wsX6_addDish wsX5_newDish := goodIn_r _ [54, 29, 30, 31, 32, 33, 34, 35, 55, 10, 56, 64, 65, 66, 67, 68, 69, 70, 71, 72, 73, 74, 75] rfl (by decide +kernel)
set_option maxRecDepth 20000 in
theorem gX6_addDish_X5_newDish : GoodIn wsX6_addDish (wsV RX6 80 RX5 yX5_newDish wsX5_newDish) := goodIn_app (goodIn_of _ (by decide +kernel)) ggX6_addDish_X5_newDish
theorem dX6_addDish_0 : decode cX6_addDish 0 = .ok (.iload_n 1, 1) := by decide +kernel
theorem dX6_addDish_1 : decode cX6_addDish 1 = .ok (.iconst 0, 1) := by decide +kernel
theorem dX6_addDish_2 : decode cX6_addDish 2 = .ok (.iconst 2, 1) := by decide +kernel
theorem dX6_addDish_3 : decode cX6_addDish 3 = .ok (.invokestatic 56, 3) := by decide +kernel
theorem dX6_addDish_6 : decode cX6_addDish 6 = .ok (.ifCond .eq 33, 3) := by decide +kernel
theorem dX6_addDish_9 : decode cX6_addDish 9 = .ok (.iload_n 2, 1) := by decide +kernel
theorem dX6_addDish_10 : decode cX6_addDish 10 = .ok (.iconst 0, 1) := by decide +kernel
theorem dX6_addDish_11 : decode cX6_addDish 11 = .ok (.bipush 30, 2) := by decide +kernel
theorem dX6_addDish_13 : decode cX6_addDish 13 = .ok (.invokestatic 56, 3) := by decide +kernel
theorem dX6_addDish_16 : decode cX6_addDish 16 = .ok (.ifCond .eq 23, 3) := by decide +kernel
theorem dX6_addDish_19 : decode cX6_addDish 19 = .ok (.iload_n 3, 1) := by decide +kernel
theorem dX6_addDish_20 : decode cX6_addDish 20 = .ok (.iconst 0, 1) := by decide +kernel
theorem dX6_addDish_21 : decode cX6_addDish 21 = .ok (.iconst 5, 1) := by decide +kernel
theorem dX6_addDish_22 : decode cX6_addDish 22 = .ok (.invokestatic 56, 3) := by decide +kernel
theorem dX6_addDish_25 : decode cX6_addDish 25 = .ok (.ifCond .eq 14, 3) := by decide +kernel
theorem dX6_addDish_28 : decode cX6_addDish 28 = .ok (.iload 4, 2) := by decide +kernel
theorem dX6_addDish_30 : decode cX6_addDish 30 = .ok (.iconst 1, 1) := by decide +kernel
theorem dX6_addDish_31 : decode cX6_addDish 31 = .ok (.bipush 9, 2) := by decide +kernel
theorem dX6_addDish_33 : decode cX6_addDish 33 = .ok (.invokestatic 56, 3) := by decide +kernel
theorem dX6_addDish_36 : decode cX6_addDish 36 = .ok (.ifCond .ne 13, 3) := by decide +kernel
theorem dX6_addDish_39 : decode cX6_addDish 39 = .ok (.new 60, 3) := by decide +kernel
theorem dX6_addDish_42 : decode cX6_addDish 42 = .ok (.dup, 1) := by decide +kernel
theorem dX6_addDish_43 : decode cX6_addDish 43 = .ok (.ldc 62, 2) := by decide +kernel
theorem dX6_addDish_45 : decode cX6_addDish 45 = .ok (.invokespecial 64, 3) := by decide +kernel
theorem dX6_addDish_48 : decode cX6_addDish 48 = .ok (.athrow, 1) := by decide +kernel
theorem dX6_addDish_49 : decode cX6_addDish 49 = .ok (.aload_n 0, 1) := by decide +kernel
theorem dX6_addDish_50 : decode cX6_addDish 50 = .ok (.getfield 10, 3) := by decide +kernel
theorem dX6_addDish_53 : decode cX6_addDish 53 = .ok (.getfield 67, 3) := by decide +kernel
theorem dX6_addDish_56 : decode cX6_addDish 56 = .ok (.bipush 12, 2) := by decide +kernel
theorem dX6_addDish_58 : decode cX6_addDish 58 = .ok (.if_icmp .lt 13, 3) := by decide +kernel
theorem dX6_addDish_61 : decode cX6_addDish 61 = .ok (.new 71, 3) := by decide +kernel
theorem dX6_addDish_64 : decode cX6_addDish 64 = .ok (.dup, 1) := by decide +kernel
theorem dX6_addDish_65 : decode cX6_addDish 65 = .ok (.ldc 73, 2) := by decide +kernel
theorem dX6_addDish_67 : decode cX6_addDish 67 = .ok (.invokespecial 75, 3) := by decide +kernel
theorem dX6_addDish_70 : decode cX6_addDish 70 = .ok (.athrow, 1) := by decide +kernel
theorem dX6_addDish_71 : decode cX6_addDish 71 = .ok (.aload_n 0, 1) := by decide +kernel
theorem dX6_addDish_72 : decode cX6_addDish 72 = .ok (.getfield 38, 3) := by decide +kernel
theorem dX6_addDish_75 : decode cX6_addDish 75 = .ok (.aload_n 0, 1) := by decide +kernel
theorem dX6_addDish_76 : decode cX6_addDish 76 = .ok (.getfield 10, 3) := by decide +kernel
theorem dX6_addDish_79 : decode cX6_addDish 79 = .ok (.invokevirtual 76, 3) := by decide +kernel
theorem dX6_addDish_82 : decode cX6_addDish 82 = .ok (.aload_n 0, 1) := by decide +kernel
theorem dX6_addDish_83 : decode cX6_addDish 83 = .ok (.getfield 10, 3) := by decide +kernel
theorem dX6_addDish_86 : decode cX6_addDish 86 = .ok (.iload_n 1, 1) := by decide +kernel
theorem dX6_addDish_87 : decode cX6_addDish 87 = .ok (.iload_n 2, 1) := by decide +kernel
theorem dX6_addDish_88 : decode cX6_addDish 88 = .ok (.iload_n 3, 1) := by decide +kernel
theorem dX6_addDish_89 : decode cX6_addDish 89 = .ok (.iload 4, 2) := by decide +kernel
theorem dX6_addDish_91 : decode cX6_addDish 91 = .ok (.invokevirtual 80, 3) := by decide +kernel
theorem dX6_addDish_94 : decode cX6_addDish 94 = .ok (.ireturn, 1) := by decide +kernel
set_option maxRecDepth 20000 in
theorem ggX6_leave_X5_hasDish : GoodIn wsX6_leave wsX5_hasDish := goodIn_r _ [16, 17, 119, 120, 121, 122, 123, 124, 125, 126, 127, 128, 129, 130] rfl (by decide +kernel)
set_option maxRecDepth 20000 in
theorem gX6_leave_X5_hasDish : GoodIn wsX6_leave (wsV RX6 84 RX5 yX5_hasDish wsX5_hasDish) := goodIn_app (goodIn_of _ (by decide +kernel)) ggX6_leave_X5_hasDish
set_option maxRecDepth 20000 in
theorem ggX6_leave_X6_isWithin : GoodIn wsX6_leave wsX6_isWithin := goodIn_r _ [21] rfl (by decide +kernel)
set_option maxRecDepth 20000 in
theorem gX6_leave_X6_isWithin : GoodIn wsX6_leave (va_wsS RX6 56 yX6_isWithin wsX6_isWithin) := goodIn_app (goodIn_of _ (by decide +kernel)) ggX6_leave_X6_isWithin
set_option maxRecDepth 20000 in
theorem ggX6_leave_X5_copyFrom : GoodIn wsX6_leave wsX5_copyFrom := goodIn_r _ [25, 17, 26, 27, 28, 29, 30, 31, 32, 33, 34, 35, 36, 37, 20, 38, 39, 40, 41, 42, 43, 44, 45, 46, 119, 120, 121, 122, 123, 124, 125, 126, 127, 128, 129, 130] rfl (by decide +kernel)
set_option maxRecDepth 20000 in
theorem gX6_leave_X5_copyFrom : GoodIn wsX6_leave (wsV RX6 95 RX5 yX5_copyFrom wsX5_copyFrom) := goodIn_app (goodIn_of _ (by decide +kernel)) ggX6_leave_X5_copyFrom
set_option maxRecDepth 20000 in
theorem ggX6_leave_X6_put : GoodIn wsX6_leave wsX6_put := goodIn_r _ [49] rfl (by decide +kernel)
set_option maxRecDepth 20000 in
theorem gX6_leave_X6_put : GoodIn wsX6_leave (va_wsS RX6 102 yX6_put wsX6_put) := goodIn_app (goodIn_of _ (by decide +kernel)) ggX6_leave_X6_put
set_option maxRecDepth 20000 in
theorem ggX6_leave_X1_areSound : GoodIn wsX6_leave wsX1_areSound := goodIn_r _ [54, 55, 56, 57, 53, 58, 59, 60, 61, 62, 63, 64, 65, 66, 67, 68, 69, 70, 71, 72, 15, 73, 17, 30, 74, 20, 75, 76, 77, 78, 79, 80, 81, 82, 83, 84, 85, 86, 87, 88, 89, 41, 90, 91, 92, 48, 49, 119, 120, 121, 122, 123, 124, 125, 126, 127, 128, 129, 130, 131, 132] rfl (by decide +kernel)
set_option maxRecDepth 20000 in
theorem gX6_leave_X1_areSound : GoodIn wsX6_leave (wsV RX6 109 RX1 yX1_areSound wsX1_areSound) := goodIn_app (goodIn_of _ (by decide +kernel)) ggX6_leave_X1_areSound
set_option maxRecDepth 20000 in
theorem ggX6_leave_X6_at : GoodIn wsX6_leave wsX6_at := goodIn_r _ [75] rfl (by decide +kernel)
set_option maxRecDepth 20000 in
theorem gX6_leave_X6_at : GoodIn wsX6_leave (va_wsS RX6 115 yX6_at wsX6_at) := goodIn_app (goodIn_of _ (by decide +kernel)) ggX6_leave_X6_at
set_option maxRecDepth 20000 in
theorem ggX6_leave_X6_takeOverTrial : GoodIn wsX6_leave wsX6_takeOverTrial := goodIn_r _ [97, 98, 7, 8, 99, 100, 101, 102, 103, 104, 105, 106, 107, 108, 109, 110, 111, 23, 24, 15, 25, 17, 26, 27, 28, 29, 30, 31, 32, 33, 34, 35, 36, 37, 20, 38, 39, 40, 41, 42, 43, 44, 45, 46, 22, 112, 113, 114, 115, 116, 117, 118, 133, 134, 135, 119, 120, 121, 122, 123, 124, 125, 126, 127, 128, 129, 130] rfl (by decide +kernel)
set_option maxRecDepth 20000 in
theorem gX6_leave_X6_takeOverTrial : GoodIn wsX6_leave (wsV RX6 119 RX6 yX6_takeOverTrial wsX6_takeOverTrial) := goodIn_app (goodIn_of _ (by decide +kernel)) ggX6_leave_X6_takeOverTrial
theorem dX6_leave_0 : decode cX6_leave 0 = .ok (.aload_n 0, 1) := by decide +kernel
theorem dX6_leave_1 : decode cX6_leave 1 = .ok (.getfield 10, 3) := by decide +kernel
theorem dX6_leave_4 : decode cX6_leave 4 = .ok (.iload_n 1, 1) := by decide +kernel
theorem dX6_leave_5 : decode cX6_leave 5 = .ok (.invokevirtual 84, 3) := by decide +kernel
theorem dX6_leave_8 : decode cX6_leave 8 = .ok (.ifCond .eq 19, 3) := by decide +kernel
theorem dX6_leave_11 : decode cX6_leave 11 = .ok (.iload_n 2, 1) := by decide +kernel
theorem dX6_leave_12 : decode cX6_leave 12 = .ok (.iconst (-1), 1) := by decide +kernel
theorem dX6_leave_13 : decode cX6_leave 13 = .ok (.if_icmp .eq 24, 3) := by decide +kernel
theorem dX6_leave_16 : decode cX6_leave 16 = .ok (.aload_n 0, 1) := by decide +kernel
theorem dX6_leave_17 : decode cX6_leave 17 = .ok (.getfield 10, 3) := by decide +kernel
theorem dX6_leave_20 : decode cX6_leave 20 = .ok (.iload_n 2, 1) := by decide +kernel
theorem dX6_leave_21 : decode cX6_leave 21 = .ok (.invokevirtual 84, 3) := by decide +kernel
theorem dX6_leave_24 : decode cX6_leave 24 = .ok (.ifCond .ne 13, 3) := by decide +kernel
theorem dX6_leave_27 : decode cX6_leave 27 = .ok (.new 88, 3) := by decide +kernel
theorem dX6_leave_30 : decode cX6_leave 30 = .ok (.dup, 1) := by decide +kernel
theorem dX6_leave_31 : decode cX6_leave 31 = .ok (.ldc 90, 2) := by decide +kernel
theorem dX6_leave_33 : decode cX6_leave 33 = .ok (.invokespecial 92, 3) := by decide +kernel
theorem dX6_leave_36 : decode cX6_leave 36 = .ok (.athrow, 1) := by decide +kernel
theorem dX6_leave_37 : decode cX6_leave 37 = .ok (.iload_n 1, 1) := by decide +kernel
theorem dX6_leave_38 : decode cX6_leave 38 = .ok (.iload_n 2, 1) := by decide +kernel
theorem dX6_leave_39 : decode cX6_leave 39 = .ok (.if_icmp .eq 18, 3) := by decide +kernel
theorem dX6_leave_42 : decode cX6_leave 42 = .ok (.iload_n 2, 1) := by decide +kernel
theorem dX6_leave_43 : decode cX6_leave 43 = .ok (.iconst (-1), 1) := by decide +kernel
theorem dX6_leave_44 : decode cX6_leave 44 = .ok (.if_icmp .eq 23, 3) := by decide +kernel
theorem dX6_leave_47 : decode cX6_leave 47 = .ok (.iload_n 3, 1) := by decide +kernel
theorem dX6_leave_48 : decode cX6_leave 48 = .ok (.iconst 1, 1) := by decide +kernel
theorem dX6_leave_49 : decode cX6_leave 49 = .ok (.bipush 6, 2) := by decide +kernel
theorem dX6_leave_51 : decode cX6_leave 51 = .ok (.invokestatic 56, 3) := by decide +kernel
theorem dX6_leave_54 : decode cX6_leave 54 = .ok (.ifCond .ne 13, 3) := by decide +kernel
theorem dX6_leave_57 : decode cX6_leave 57 = .ok (.new 60, 3) := by decide +kernel
theorem dX6_leave_60 : decode cX6_leave 60 = .ok (.dup, 1) := by decide +kernel
theorem dX6_leave_61 : decode cX6_leave 61 = .ok (.ldc 93, 2) := by decide +kernel
theorem dX6_leave_63 : decode cX6_leave 63 = .ok (.invokespecial 64, 3) := by decide +kernel
theorem dX6_leave_66 : decode cX6_leave 66 = .ok (.athrow, 1) := by decide +kernel
theorem dX6_leave_67 : decode cX6_leave 67 = .ok (.aload_n 0, 1) := by decide +kernel
theorem dX6_leave_68 : decode cX6_leave 68 = .ok (.getfield 16, 3) := by decide +kernel
theorem dX6_leave_71 : decode cX6_leave 71 = .ok (.aload_n 0, 1) := by decide +kernel
theorem dX6_leave_72 : decode cX6_leave 72 = .ok (.getfield 10, 3) := by decide +kernel
theorem dX6_leave_75 : decode cX6_leave 75 = .ok (.invokevirtual 95, 3) := by decide +kernel
theorem dX6_leave_78 : decode cX6_leave 78 = .ok (.aload_n 0, 1) := by decide +kernel
theorem dX6_leave_79 : decode cX6_leave 79 = .ok (.getfield 16, 3) := by decide +kernel
theorem dX6_leave_82 : decode cX6_leave 82 = .ok (.getfield 98, 3) := by decide +kernel
theorem dX6_leave_85 : decode cX6_leave 85 = .ok (.iload_n 1, 1) := by decide +kernel
