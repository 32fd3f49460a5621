theorem wsL_law_x0 : ∀ w ∈ (vx_atS RX6 64 "java/lang/IllegalArgumentException" ["java/lang/RuntimeException", "java/lang/Exception"]).filter goodWord, w ∈ lw_tbl := by decide +kernel
theorem wsL_law_x1 : ∀ w ∈ (vx_atS RX6 75 "java/lang/IllegalStateException" ["java/lang/RuntimeException", "java/lang/Exception"]).filter goodWord, w ∈ lw_tbl := by decide +kernel
theorem wsL_law_x2 : ∀ w ∈ (vx_atS RX6 92 "java/lang/IndexOutOfBoundsException" ["java/lang/RuntimeException", "java/lang/Exception"]).filter goodWord, w ∈ lw_tbl := by decide +kernel
theorem wsL_law_in : ∀ w ∈ wsL_law, w ∈ lw_tbl := fun w h => (List.mem_append.mp h).elim (fun h => (List.mem_append.mp h).elim (fun h => (List.mem_append.mp h).elim (fun h => wsL_law_in0 w h) (fun h => wsL_law_x0 w h)) (fun h => wsL_law_x1 w h)) (fun h => wsL_law_x2 w h)
theorem inlX0 : ∀ w ∈ wsX00, w ∈ wsL_law := fun _ h => List.mem_append_left _ (List.mem_append_left _ (List.mem_append_left _ (List.mem_append_left _ (List.mem_append_left _ (List.mem_append_left _ (List.mem_append_right _ h))))))
theorem inX0 : ∀ w ∈ wsX00, w ∈ lw_tbl := fun w h => wsL_law_in w (inlX0 w h)
theorem inlX1 : ∀ w ∈ wsX10, w ∈ wsL_law := fun _ h => List.mem_append_left _ (List.mem_append_left _ (List.mem_append_left _ (List.mem_append_left _ (List.mem_append_left _ (List.mem_append_left _ (List.mem_append_left _ (List.mem_append_left _ (List.mem_append_right _ h))))))))
theorem inX1 : ∀ w ∈ wsX10, w ∈ lw_tbl := fun w h => wsL_law_in w (inlX1 w h)
theorem inlX2 : ∀ w ∈ wsX20, w ∈ wsL_law := fun _ h => List.mem_append_left _ (List.mem_append_left _ (List.mem_append_left _ (List.mem_append_left _ (List.mem_append_left _ (List.mem_append_left _ (List.mem_append_left _ (List.mem_append_right _ h)))))))
theorem inX2 : ∀ w ∈ wsX20, w ∈ lw_tbl := fun w h => wsL_law_in w (inlX2 w h)
theorem inlX3 : ∀ w ∈ wsX30, w ∈ wsL_law := fun _ h => List.mem_append_left _ (List.mem_append_left _ (List.mem_append_left _ (List.mem_append_left _ (List.mem_append_right _ h))))
theorem inX3 : ∀ w ∈ wsX30, w ∈ lw_tbl := fun w h => wsL_law_in w (inlX3 w h)
theorem inlX4 : ∀ w ∈ wsX40, w ∈ wsL_law := fun _ h => List.mem_append_left _ (List.mem_append_left _ (List.mem_append_left _ (List.mem_append_left _ (List.mem_append_left _ (List.mem_append_right _ h)))))
theorem inX4 : ∀ w ∈ wsX40, w ∈ lw_tbl := fun w h => wsL_law_in w (inlX4 w h)
theorem inlX5 : ∀ w ∈ wsX50, w ∈ wsL_law := fun _ h => List.mem_append_left _ (List.mem_append_left _ (List.mem_append_left _ (List.mem_append_left _ (List.mem_append_left _ (List.mem_append_left _ (List.mem_append_left _ (List.mem_append_left _ (List.mem_append_left _ (List.mem_append_right _ h)))))))))
theorem inX5 : ∀ w ∈ wsX50, w ∈ lw_tbl := fun w h => wsL_law_in w (inlX5 w h)
theorem inlX6 : ∀ w ∈ wsX60, w ∈ wsL_law := fun _ h => List.mem_append_left _ (List.mem_append_left _ (List.mem_append_left _ (List.mem_append_left _ (List.mem_append_left _ (List.mem_append_left _ (List.mem_append_left _ (List.mem_append_left _ (List.mem_append_left _ (List.mem_append_left _ (List.mem_append_left _ (List.mem_append_right _ h)))))))))))
theorem inX6 : ∀ w ∈ wsX60, w ∈ lw_tbl := fun w h => wsL_law_in w (inlX6 w h)
theorem inlX7 : ∀ w ∈ wsX70, w ∈ wsL_law := fun _ h => List.mem_append_left _ (List.mem_append_left _ (List.mem_append_left _ (List.mem_append_left _ (List.mem_append_left _ (List.mem_append_left _ (List.mem_append_left _ (List.mem_append_left _ (List.mem_append_left _ (List.mem_append_left _ (List.mem_append_right _ h))))))))))
theorem inX7 : ∀ w ∈ wsX70, w ∈ lw_tbl := fun w h => wsL_law_in w (inlX7 w h)
theorem inJx145de : ∀ w ∈ wsJx145de0, w ∈ lw_tbl := by decide +kernel
theorem inJxb160c : ∀ w ∈ wsJxb160c0, w ∈ lw_tbl := by decide +kernel
theorem inJxe99ae : ∀ w ∈ wsJxe99ae0, w ∈ lw_tbl := by decide +kernel
theorem inJ9 : ∀ w ∈ wsJ90, w ∈ lw_tbl := by decide +kernel
theorem inJxd2413 : ∀ w ∈ wsJxd24130, w ∈ lw_tbl := by decide +kernel
theorem inJ0 : ∀ w ∈ wsJ00, w ∈ lw_tbl := by decide +kernel
theorem inJ10 : ∀ w ∈ wsJ100, w ∈ lw_tbl := by decide +kernel
theorem inJxfd54e : ∀ w ∈ wsJxfd54e0, w ∈ lw_tbl := by decide +kernel
theorem inJx3cf43 : ∀ w ∈ wsJx3cf430, w ∈ lw_tbl := by decide +kernel
theorem inJ7 : ∀ w ∈ wsJ70, w ∈ lw_tbl := by decide +kernel
set_option maxRecDepth 20000 in
theorem ggX0_init_X5_init : GoodIn wsX0_init wsX5_init := goodIn_r _ [12, 13, 2, 3, 14, 15, 16, 17, 18, 19, 20, 21, 22, 23, 24, 25, 26, 27, 28, 29, 30, 31, 32, 33, 37, 38, 39, 40, 41, 42, 43, 44, 45, 46, 47, 48] rfl (by decide +kernel)
set_option maxRecDepth 20000 in
theorem gX0_init_X5_init : GoodIn wsX0_init (wsX5_init) := ggX0_init_X5_init
theorem dX0_init_0 : decode cX0_init 0 = .ok (.aload_n 0, 1) := by decide +kernel
theorem dX0_init_1 : decode cX0_init 1 = .ok (.invokespecial 3, 3) := by decide +kernel
theorem dX0_init_4 : decode cX0_init 4 = .ok (.aload_n 0, 1) := by decide +kernel
theorem dX0_init_5 : decode cX0_init 5 = .ok (.bipush 6, 2) := by decide +kernel
theorem dX0_init_7 : decode cX0_init 7 = .ok (.anewarray 9, 3) := by decide +kernel
theorem dX0_init_10 : decode cX0_init 10 = .ok (.putfield 11, 3) := by decide +kernel
theorem dX0_init_13 : decode cX0_init 13 = .ok (.iconst 0, 1) := by decide +kernel
theorem dX0_init_14 : decode cX0_init 14 = .ok (.istore_n 1, 1) := by decide +kernel
theorem dX0_init_15 : decode cX0_init 15 = .ok (.iload_n 1, 1) := by decide +kernel
theorem dX0_init_16 : decode cX0_init 16 = .ok (.bipush 6, 2) := by decide +kernel
theorem dX0_init_18 : decode cX0_init 18 = .ok (.if_icmp .ge 22, 3) := by decide +kernel
theorem dX0_init_21 : decode cX0_init 21 = .ok (.aload_n 0, 1) := by decide +kernel
theorem dX0_init_22 : decode cX0_init 22 = .ok (.getfield 11, 3) := by decide +kernel
theorem dX0_init_25 : decode cX0_init 25 = .ok (.iload_n 1, 1) := by decide +kernel
theorem dX0_init_26 : decode cX0_init 26 = .ok (.new 9, 3) := by decide +kernel
theorem dX0_init_29 : decode cX0_init 29 = .ok (.dup, 1) := by decide +kernel
theorem dX0_init_30 : decode cX0_init 30 = .ok (.invokespecial 17, 3) := by decide +kernel
theorem dX0_init_33 : decode cX0_init 33 = .ok (.aastore, 1) := by decide +kernel
theorem dX0_init_34 : decode cX0_init 34 = .ok (.iinc 1 1, 3) := by decide +kernel
theorem dX0_init_37 : decode cX0_init 37 = .ok (.goto (-22), 3) := by decide +kernel
theorem dX0_init_40 : decode cX0_init 40 = .ok (.aload_n 0, 1) := by decide +kernel
theorem dX0_init_41 : decode cX0_init 41 = .ok (.iconst 0, 1) := by decide +kernel
theorem dX0_init_42 : decode cX0_init 42 = .ok (.putfield 18, 3) := by decide +kernel
theorem dX0_init_45 : decode cX0_init 45 = .ok (.aload_n 0, 1) := by decide +kernel
theorem dX0_init_46 : decode cX0_init 46 = .ok (.iconst 0, 1) := by decide +kernel
theorem dX0_init_47 : decode cX0_init 47 = .ok (.putfield 22, 3) := by decide +kernel
theorem dX0_init_50 : decode cX0_init 50 = .ok (.return_, 1) := by decide +kernel
set_option maxRecDepth 20000 in
theorem ggX0_save_X0_placeOf : GoodIn wsX0_save wsX0_placeOf := goodIn_r _ [7, 2, 8, 37, 38, 39] rfl (by decide +kernel)
set_option maxRecDepth 20000 in
theorem gX0_save_X0_placeOf : GoodIn wsX0_save (wsV RX0 25 RX0 yX0_placeOf wsX0_placeOf) := goodIn_app (goodIn_of _ (by decide +kernel)) ggX0_save_X0_placeOf
set_option maxRecDepth 20000 in
theorem ggX0_save_X5_copyFrom : GoodIn wsX0_save wsX5_copyFrom := goodIn_r _ [13, 14, 15, 16, 17, 18, 19, 20, 21, 22, 23, 24, 25, 26, 27, 28, 29, 30, 31, 32, 33, 34, 35, 36, 40, 41, 42, 43, 44, 45, 46, 47, 48, 49, 50, 51] rfl (by decide +kernel)
set_option maxRecDepth 20000 in
theorem gX0_save_X5_copyFrom : GoodIn wsX0_save (wsV RX0 29 RX5 yX5_copyFrom wsX5_copyFrom) := goodIn_app (goodIn_of _ (by decide +kernel)) ggX0_save_X5_copyFrom
theorem dX0_save_0 : decode cX0_save 0 = .ok (.aload_n 0, 1) := by decide +kernel
theorem dX0_save_1 : decode cX0_save 1 = .ok (.getfield 22, 3) := by decide +kernel
theorem dX0_save_4 : decode cX0_save 4 = .ok (.bipush 6, 2) := by decide +kernel
theorem dX0_save_6 : decode cX0_save 6 = .ok (.if_icmp .ne 26, 3) := by decide +kernel
theorem dX0_save_9 : decode cX0_save 9 = .ok (.aload_n 0, 1) := by decide +kernel
theorem dX0_save_10 : decode cX0_save 10 = .ok (.aload_n 0, 1) := by decide +kernel
theorem dX0_save_11 : decode cX0_save 11 = .ok (.getfield 18, 3) := by decide +kernel
theorem dX0_save_14 : decode cX0_save 14 = .ok (.iconst 1, 1) := by decide +kernel
theorem dX0_save_15 : decode cX0_save 15 = .ok (.iadd, 1) := by decide +kernel
theorem dX0_save_16 : decode cX0_save 16 = .ok (.bipush 6, 2) := by decide +kernel
theorem dX0_save_18 : decode cX0_save 18 = .ok (.irem, 1) := by decide +kernel
theorem dX0_save_19 : decode cX0_save 19 = .ok (.putfield 18, 3) := by decide +kernel
theorem dX0_save_22 : decode cX0_save 22 = .ok (.aload_n 0, 1) := by decide +kernel
theorem dX0_save_23 : decode cX0_save 23 = .ok (.dup, 1) := by decide +kernel
theorem dX0_save_24 : decode cX0_save 24 = .ok (.getfield 22, 3) := by decide +kernel
theorem dX0_save_27 : decode cX0_save 27 = .ok (.iconst 1, 1) := by decide +kernel
theorem dX0_save_28 : decode cX0_save 28 = .ok (.isub, 1) := by decide +kernel
theorem dX0_save_29 : decode cX0_save 29 = .ok (.putfield 22, 3) := by decide +kernel
theorem dX0_save_32 : decode cX0_save 32 = .ok (.aload_n 0, 1) := by decide +kernel
theorem dX0_save_33 : decode cX0_save 33 = .ok (.aload_n 0, 1) := by decide +kernel
theorem dX0_save_34 : decode cX0_save 34 = .ok (.getfield 22, 3) := by decide +kernel
theorem dX0_save_37 : decode cX0_save 37 = .ok (.invokevirtual 25, 3) := by decide +kernel
theorem dX0_save_40 : decode cX0_save 40 = .ok (.astore_n 2, 1) := by decide +kernel
theorem dX0_save_41 : decode cX0_save 41 = .ok (.aload_n 2, 1) := by decide +kernel
theorem dX0_save_42 : decode cX0_save 42 = .ok (.ifnull 18, 3) := by decide +kernel
theorem dX0_save_45 : decode cX0_save 45 = .ok (.aload_n 2, 1) := by decide +kernel
theorem dX0_save_46 : decode cX0_save 46 = .ok (.aload_n 1, 1) := by decide +kernel
theorem dX0_save_47 : decode cX0_save 47 = .ok (.invokevirtual 29, 3) := by decide +kernel
theorem dX0_save_50 : decode cX0_save 50 = .ok (.aload_n 0, 1) := by decide +kernel
theorem dX0_save_51 : decode cX0_save 51 = .ok (.dup, 1) := by decide +kernel
theorem dX0_save_52 : decode cX0_save 52 = .ok (.getfield 22, 3) := by decide +kernel
theorem dX0_save_55 : decode cX0_save 55 = .ok (.iconst 1, 1) := by decide +kernel
theorem dX0_save_56 : decode cX0_save 56 = .ok (.iadd, 1) := by decide +kernel
theorem dX0_save_57 : decode cX0_save 57 = .ok (.putfield 22, 3) := by decide +kernel
theorem dX0_save_60 : decode cX0_save 60 = .ok (.return_, 1) := by decide +kernel
set_option maxRecDepth 20000 in
theorem ggX0_bringBack_X0_placeOf : GoodIn wsX0_bringBack wsX0_placeOf := goodIn_r _ [6, 7, 8, 37, 38, 39] rfl (by decide +kernel)
set_option maxRecDepth 20000 in
theorem gX0_bringBack_X0_placeOf : GoodIn wsX0_bringBack (wsV RX0 25 RX0 yX0_placeOf wsX0_placeOf) := goodIn_app (goodIn_of _ (by decide +kernel)) ggX0_bringBack_X0_placeOf
set_option maxRecDepth 20000 in
theorem ggX0_bringBack_X5_copyFrom : GoodIn wsX0_bringBack wsX5_copyFrom := goodIn_r _ [13, 14, 15, 16, 17, 18, 19, 20, 21, 22, 23, 24, 25, 26, 27, 28, 29, 30, 31, 32, 33, 34, 35, 36, 40, 41, 42, 43, 44, 45, 46, 47, 48, 49, 50, 51] rfl (by decide +kernel)
set_option maxRecDepth 20000 in
theorem gX0_bringBack_X5_copyFrom : GoodIn wsX0_bringBack (wsV RX0 29 RX5 yX5_copyFrom wsX5_copyFrom) := goodIn_app (goodIn_of _ (by decide +kernel)) ggX0_bringBack_X5_copyFrom
theorem dX0_bringBack_0 : decode cX0_bringBack 0 = .ok (.aload_n 0, 1) := by decide +kernel
theorem dX0_bringBack_1 : decode cX0_bringBack 1 = .ok (.aload_n 0, 1) := by decide +kernel
theorem dX0_bringBack_2 : decode cX0_bringBack 2 = .ok (.getfield 22, 3) := by decide +kernel
theorem dX0_bringBack_5 : decode cX0_bringBack 5 = .ok (.iconst 1, 1) := by decide +kernel
theorem dX0_bringBack_6 : decode cX0_bringBack 6 = .ok (.isub, 1) := by decide +kernel
theorem dX0_bringBack_7 : decode cX0_bringBack 7 = .ok (.invokevirtual 25, 3) := by decide +kernel
theorem dX0_bringBack_10 : decode cX0_bringBack 10 = .ok (.astore_n 2, 1) := by decide +kernel
theorem dX0_bringBack_11 : decode cX0_bringBack 11 = .ok (.aload_n 2, 1) := by decide +kernel
theorem dX0_bringBack_12 : decode cX0_bringBack 12 = .ok (.ifnull 18, 3) := by decide +kernel
theorem dX0_bringBack_15 : decode cX0_bringBack 15 = .ok (.aload_n 1, 1) := by decide +kernel
theorem dX0_bringBack_16 : decode cX0_bringBack 16 = .ok (.aload_n 2, 1) := by decide +kernel
theorem dX0_bringBack_17 : decode cX0_bringBack 17 = .ok (.invokevirtual 29, 3) := by decide +kernel
theorem dX0_bringBack_20 : decode cX0_bringBack 20 = .ok (.aload_n 0, 1) := by decide +kernel
theorem dX0_bringBack_21 : decode cX0_bringBack 21 = .ok (.dup, 1) := by decide +kernel
theorem dX0_bringBack_22 : decode cX0_bringBack 22 = .ok (.getfield 22, 3) := by decide +kernel
theorem dX0_bringBack_25 : decode cX0_bringBack 25 = .ok (.iconst 1, 1) := by decide +kernel
theorem dX0_bringBack_26 : decode cX0_bringBack 26 = .ok (.isub, 1) := by decide +kernel
theorem dX0_bringBack_27 : decode cX0_bringBack 27 = .ok (.putfield 22, 3) := by decide +kernel
theorem dX0_bringBack_30 : decode cX0_bringBack 30 = .ok (.return_, 1) := by decide +kernel
theorem dX0_placeOf_0 : decode cX0_placeOf 0 = .ok (.aload_n 0, 1) := by decide +kernel
theorem dX0_placeOf_1 : decode cX0_placeOf 1 = .ok (.getfield 18, 3) := by decide +kernel
theorem dX0_placeOf_4 : decode cX0_placeOf 4 = .ok (.iload_n 1, 1) := by decide +kernel
theorem dX0_placeOf_5 : decode cX0_placeOf 5 = .ok (.iadd, 1) := by decide +kernel
theorem dX0_placeOf_6 : decode cX0_placeOf 6 = .ok (.bipush 6, 2) := by decide +kernel
theorem dX0_placeOf_8 : decode cX0_placeOf 8 = .ok (.irem, 1) := by decide +kernel
theorem dX0_placeOf_9 : decode cX0_placeOf 9 = .ok (.istore_n 2, 1) := by decide +kernel
theorem dX0_placeOf_10 : decode cX0_placeOf 10 = .ok (.iload_n 2, 1) := by decide +kernel
theorem dX0_placeOf_11 : decode cX0_placeOf 11 = .ok (.ifCond .lt 21, 3) := by decide +kernel
theorem dX0_placeOf_14 : decode cX0_placeOf 14 = .ok (.iload_n 2, 1) := by decide +kernel
theorem dX0_placeOf_15 : decode cX0_placeOf 15 = .ok (.aload_n 0, 1) := by decide +kernel
theorem dX0_placeOf_16 : decode cX0_placeOf 16 = .ok (.getfield 11, 3) := by decide +kernel
theorem dX0_placeOf_19 : decode cX0_placeOf 19 = .ok (.arraylength, 1) := by decide +kernel
theorem dX0_placeOf_20 : decode cX0_placeOf 20 = .ok (.if_icmp .ge 12, 3) := by decide +kernel
theorem dX0_placeOf_23 : decode cX0_placeOf 23 = .ok (.aload_n 0, 1) := by decide +kernel
theorem dX0_placeOf_24 : decode cX0_placeOf 24 = .ok (.getfield 11, 3) := by decide +kernel
theorem dX0_placeOf_27 : decode cX0_placeOf 27 = .ok (.iload_n 2, 1) := by decide +kernel
theorem dX0_placeOf_28 : decode cX0_placeOf 28 = .ok (.aaload, 1) := by decide +kernel
theorem dX0_placeOf_29 : decode cX0_placeOf 29 = .ok (.goto 4, 3) := by decide +kernel
theorem dX0_placeOf_32 : decode cX0_placeOf 32 = .ok (.aconst_null, 1) := by decide +kernel
theorem dX0_placeOf_33 : decode cX0_placeOf 33 = .ok (.areturn, 1) := by decide +kernel
theorem dX1_init_0 : decode cX1_init 0 = .ok (.aload_n 0, 1) := by decide +kernel
theorem dX1_init_1 : decode cX1_init 1 = .ok (.invokespecial 3, 3) := by decide +kernel
theorem dX1_init_4 : decode cX1_init 4 = .ok (.aload_n 0, 1) := by decide +kernel
theorem dX1_init_5 : decode cX1_init 5 = .ok (.bipush 84, 2) := by decide +kernel
theorem dX1_init_7 : decode cX1_init 7 = .ok (.newarray .int, 2) := by decide +kernel
theorem dX1_init_9 : decode cX1_init 9 = .ok (.putfield 9, 3) := by decide +kernel
theorem dX1_init_12 : decode cX1_init 12 = .ok (.aload_n 0, 1) := by decide +kernel
theorem dX1_init_13 : decode cX1_init 13 = .ok (.bipush 84, 2) := by decide +kernel
theorem dX1_init_15 : decode cX1_init 15 = .ok (.newarray .int, 2) := by decide +kernel
theorem dX1_init_17 : decode cX1_init 17 = .ok (.putfield 15, 3) := by decide +kernel
theorem dX1_init_20 : decode cX1_init 20 = .ok (.return_, 1) := by decide +kernel
set_option maxRecDepth 20000 in
theorem ggX1_areSound_X1_pairAll : GoodIn wsX1_areSound wsX1_pairAll := goodIn_r _ [5, 6, 7, 8, 9, 4, 10, 11, 12, 13, 14, 15, 16, 17, 18, 19, 20, 21, 22, 23, 24, 25, 26, 27, 28, 29, 30, 31, 32, 33, 34, 35, 36, 37, 38, 39, 40, 41, 42, 43, 44, 45, 46, 47, 48, 49, 50, 51, 52, 53, 54, 55, 56, 57, 58, 59, 60] rfl (by decide +kernel)
set_option maxRecDepth 20000 in
theorem gX1_areSound_X1_pairAll : GoodIn wsX1_areSound (wsV RX1 18 RX1 yX1_pairAll wsX1_pairAll) := goodIn_app (goodIn_of _ (by decide +kernel)) ggX1_areSound_X1_pairAll
theorem dX1_areSound_0 : decode cX1_areSound 0 = .ok (.aload_n 0, 1) := by decide +kernel
theorem dX1_areSound_1 : decode cX1_areSound 1 = .ok (.aload_n 1, 1) := by decide +kernel
theorem dX1_areSound_2 : decode cX1_areSound 2 = .ok (.invokevirtual 18, 3) := by decide +kernel
theorem dX1_areSound_5 : decode cX1_areSound 5 = .ok (.ireturn, 1) := by decide +kernel
set_option maxRecDepth 20000 in
theorem ggX1_staySoundWith_X5_isLeftover : GoodIn wsX1_staySoundWith wsX5_isLeftover := goodIn_r _ [6, 7, 8, 9, 10, 11, 42, 43, 44, 45, 46, 47, 48, 49, 50, 51, 52, 53] rfl (by decide +kernel)
set_option maxRecDepth 20000 in
theorem gX1_staySoundWith_X5_isLeftover : GoodIn wsX1_staySoundWith (wsV RX1 22 RX5 yX5_isLeftover wsX5_isLeftover) := goodIn_app (goodIn_of _ (by decide +kernel)) ggX1_staySoundWith_X5_isLeftover
set_option maxRecDepth 20000 in
theorem ggX1_staySoundWith_X1_forget : GoodIn wsX1_staySoundWith wsX1_forget := goodIn_r _ [16, 17, 18, 19, 20, 21, 22, 54, 55] rfl (by decide +kernel)
set_option maxRecDepth 20000 in
theorem gX1_staySoundWith_X1_forget : GoodIn wsX1_staySoundWith (wsV RX1 28 RX1 yX1_forget wsX1_forget) := goodIn_app (goodIn_of _ (by decide +kernel)) ggX1_staySoundWith_X1_forget
set_option maxRecDepth 20000 in
theorem ggX1_staySoundWith_X6_put : GoodIn wsX1_staySoundWith wsX6_put := goodIn_r _ [24] rfl (by decide +kernel)
set_option maxRecDepth 20000 in
theorem gX1_staySoundWith_X6_put_n34 : GoodIn wsX1_staySoundWith (wsX6_put) := ggX1_staySoundWith_X6_put
set_option maxRecDepth 20000 in
theorem ggX1_staySoundWith_X1_pairServings : GoodIn wsX1_staySoundWith wsX1_pairServings := goodIn_r _ [28, 29, 1, 17, 18, 9, 10, 11, 30, 31, 32, 33, 34, 15, 35, 36, 37, 38, 39, 40, 41, 23, 24, 42, 43, 44, 45, 46, 47, 48, 49, 50, 51, 52, 53, 54, 55] rfl (by decide +kernel)
set_option maxRecDepth 20000 in
theorem gX1_staySoundWith_X1_pairServings : GoodIn wsX1_staySoundWith (wsV RX1 38 RX1 yX1_pairServings wsX1_pairServings) := goodIn_app (goodIn_of _ (by decide +kernel)) ggX1_staySoundWith_X1_pairServings
theorem dX1_staySoundWith_0 : decode cX1_staySoundWith 0 = .ok (.aload_n 1, 1) := by decide +kernel
theorem dX1_staySoundWith_1 : decode cX1_staySoundWith 1 = .ok (.iload_n 3, 1) := by decide +kernel
theorem dX1_staySoundWith_2 : decode cX1_staySoundWith 2 = .ok (.invokevirtual 22, 3) := by decide +kernel
theorem dX1_staySoundWith_5 : decode cX1_staySoundWith 5 = .ok (.ifCond .ne 5, 3) := by decide +kernel
theorem dX1_staySoundWith_8 : decode cX1_staySoundWith 8 = .ok (.iconst 1, 1) := by decide +kernel
theorem dX1_staySoundWith_9 : decode cX1_staySoundWith 9 = .ok (.ireturn, 1) := by decide +kernel
theorem dX1_staySoundWith_10 : decode cX1_staySoundWith 10 = .ok (.aload_n 0, 1) := by decide +kernel
theorem dX1_staySoundWith_11 : decode cX1_staySoundWith 11 = .ok (.invokevirtual 28, 3) := by decide +kernel
theorem dX1_staySoundWith_14 : decode cX1_staySoundWith 14 = .ok (.aload_n 1, 1) := by decide +kernel
theorem dX1_staySoundWith_15 : decode cX1_staySoundWith 15 = .ok (.getfield 31, 3) := by decide +kernel
theorem dX1_staySoundWith_18 : decode cX1_staySoundWith 18 = .ok (.iload_n 2, 1) := by decide +kernel
theorem dX1_staySoundWith_19 : decode cX1_staySoundWith 19 = .ok (.iload_n 3, 1) := by decide +kernel
theorem dX1_staySoundWith_20 : decode cX1_staySoundWith 20 = .ok (.invokestatic 34, 3) := by decide +kernel
theorem dX1_staySoundWith_23 : decode cX1_staySoundWith 23 = .ok (.aload_n 0, 1) := by decide +kernel
theorem dX1_staySoundWith_24 : decode cX1_staySoundWith 24 = .ok (.aload_n 1, 1) := by decide +kernel
theorem dX1_staySoundWith_25 : decode cX1_staySoundWith 25 = .ok (.iload_n 3, 1) := by decide +kernel
theorem dX1_staySoundWith_26 : decode cX1_staySoundWith 26 = .ok (.invokevirtual 38, 3) := by decide +kernel
theorem dX1_staySoundWith_29 : decode cX1_staySoundWith 29 = .ok (.istore 4, 2) := by decide +kernel
theorem dX1_staySoundWith_31 : decode cX1_staySoundWith 31 = .ok (.aload_n 1, 1) := by decide +kernel
theorem dX1_staySoundWith_32 : decode cX1_staySoundWith 32 = .ok (.getfield 31, 3) := by decide +kernel
theorem dX1_staySoundWith_35 : decode cX1_staySoundWith 35 = .ok (.iload_n 2, 1) := by decide +kernel
theorem dX1_staySoundWith_36 : decode cX1_staySoundWith 36 = .ok (.iconst (-1), 1) := by decide +kernel
theorem dX1_staySoundWith_37 : decode cX1_staySoundWith 37 = .ok (.invokestatic 34, 3) := by decide +kernel
theorem dX1_staySoundWith_40 : decode cX1_staySoundWith 40 = .ok (.iload 4, 2) := by decide +kernel
theorem dX1_staySoundWith_42 : decode cX1_staySoundWith 42 = .ok (.ireturn, 1) := by decide +kernel
set_option maxRecDepth 20000 in
theorem ggX1_sourceDay_X6_at : GoodIn wsX1_sourceDay wsX6_at := goodIn_r _ [5] rfl (by decide +kernel)
set_option maxRecDepth 20000 in
theorem gX1_sourceDay_X6_at_n42 : GoodIn wsX1_sourceDay (wsX6_at) := ggX1_sourceDay_X6_at
set_option maxRecDepth 20000 in
theorem ggX1_sourceDay_X1_forget : GoodIn wsX1_sourceDay wsX1_forget := goodIn_r _ [10, 2, 11, 12, 13, 14, 15, 54, 55] rfl (by decide +kernel)
set_option maxRecDepth 20000 in
theorem gX1_sourceDay_X1_forget : GoodIn wsX1_sourceDay (wsV RX1 28 RX1 yX1_forget wsX1_forget) := goodIn_app (goodIn_of _ (by decide +kernel)) ggX1_sourceDay_X1_forget
set_option maxRecDepth 20000 in
theorem ggX1_sourceDay_X5_isLeftover : GoodIn wsX1_sourceDay wsX5_isLeftover := goodIn_r _ [20, 21, 22, 3, 4, 5, 42, 43, 44, 45, 46, 47, 48, 49, 50, 51, 52, 53] rfl (by decide +kernel)
set_option maxRecDepth 20000 in
theorem gX1_sourceDay_X5_isLeftover : GoodIn wsX1_sourceDay (wsV RX1 22 RX5 yX5_isLeftover wsX5_isLeftover) := goodIn_app (goodIn_of _ (by decide +kernel)) ggX1_sourceDay_X5_isLeftover
set_option maxRecDepth 20000 in
theorem ggX1_sourceDay_X1_pairServings : GoodIn wsX1_sourceDay wsX1_pairServings := goodIn_r _ [26, 27, 1, 2, 11, 3, 4, 5, 28, 29, 30, 31, 32, 9, 33, 34, 35, 36, 37, 38, 39, 40, 41, 42, 43, 44, 45, 46, 47, 48, 49, 50, 51, 52, 53, 54, 55] rfl (by decide +kernel)
set_option maxRecDepth 20000 in
theorem gX1_sourceDay_X1_pairServings : GoodIn wsX1_sourceDay (wsV RX1 38 RX1 yX1_pairServings wsX1_pairServings) := goodIn_app (goodIn_of _ (by decide +kernel)) ggX1_sourceDay_X1_pairServings
theorem dX1_sourceDay_0 : decode cX1_sourceDay 0 = .ok (.aload_n 1, 1) := by decide +kernel
theorem dX1_sourceDay_1 : decode cX1_sourceDay 1 = .ok (.getfield 31, 3) := by decide +kernel
theorem dX1_sourceDay_4 : decode cX1_sourceDay 4 = .ok (.iload_n 2, 1) := by decide +kernel
theorem dX1_sourceDay_5 : decode cX1_sourceDay 5 = .ok (.invokestatic 42, 3) := by decide +kernel
theorem dX1_sourceDay_8 : decode cX1_sourceDay 8 = .ok (.istore_n 3, 1) := by decide +kernel
theorem dX1_sourceDay_9 : decode cX1_sourceDay 9 = .ok (.aload_n 0, 1) := by decide +kernel
theorem dX1_sourceDay_10 : decode cX1_sourceDay 10 = .ok (.invokevirtual 28, 3) := by decide +kernel
theorem dX1_sourceDay_13 : decode cX1_sourceDay 13 = .ok (.iload_n 3, 1) := by decide +kernel
theorem dX1_sourceDay_14 : decode cX1_sourceDay 14 = .ok (.iconst (-1), 1) := by decide +kernel
theorem dX1_sourceDay_15 : decode cX1_sourceDay 15 = .ok (.if_icmp .eq 18, 3) := by decide +kernel
theorem dX1_sourceDay_18 : decode cX1_sourceDay 18 = .ok (.aload_n 1, 1) := by decide +kernel
theorem dX1_sourceDay_19 : decode cX1_sourceDay 19 = .ok (.iload_n 3, 1) := by decide +kernel
theorem dX1_sourceDay_20 : decode cX1_sourceDay 20 = .ok (.invokevirtual 22, 3) := by decide +kernel
theorem dX1_sourceDay_23 : decode cX1_sourceDay 23 = .ok (.ifCond .eq 10, 3) := by decide +kernel
theorem dX1_sourceDay_26 : decode cX1_sourceDay 26 = .ok (.aload_n 0, 1) := by decide +kernel
theorem dX1_sourceDay_27 : decode cX1_sourceDay 27 = .ok (.aload_n 1, 1) := by decide +kernel
theorem dX1_sourceDay_28 : decode cX1_sourceDay 28 = .ok (.iload_n 3, 1) := by decide +kernel
theorem dX1_sourceDay_29 : decode cX1_sourceDay 29 = .ok (.invokevirtual 38, 3) := by decide +kernel
theorem dX1_sourceDay_32 : decode cX1_sourceDay 32 = .ok (.pop, 1) := by decide +kernel
theorem dX1_sourceDay_33 : decode cX1_sourceDay 33 = .ok (.aload_n 0, 1) := by decide +kernel
theorem dX1_sourceDay_34 : decode cX1_sourceDay 34 = .ok (.getfield 9, 3) := by decide +kernel
theorem dX1_sourceDay_37 : decode cX1_sourceDay 37 = .ok (.iload_n 2, 1) := by decide +kernel
theorem dX1_sourceDay_38 : decode cX1_sourceDay 38 = .ok (.invokestatic 42, 3) := by decide +kernel
theorem dX1_sourceDay_41 : decode cX1_sourceDay 41 = .ok (.istore 4, 2) := by decide +kernel
theorem dX1_sourceDay_43 : decode cX1_sourceDay 43 = .ok (.iload 4, 2) := by decide +kernel
theorem dX1_sourceDay_45 : decode cX1_sourceDay 45 = .ok (.iconst (-1), 1) := by decide +kernel
theorem dX1_sourceDay_46 : decode cX1_sourceDay 46 = .ok (.if_icmp .ne 7, 3) := by decide +kernel
theorem dX1_sourceDay_49 : decode cX1_sourceDay 49 = .ok (.iconst (-1), 1) := by decide +kernel
theorem dX1_sourceDay_50 : decode cX1_sourceDay 50 = .ok (.goto 7, 3) := by decide +kernel
theorem dX1_sourceDay_53 : decode cX1_sourceDay 53 = .ok (.iload 4, 2) := by decide +kernel
theorem dX1_sourceDay_55 : decode cX1_sourceDay 55 = .ok (.iconst 3, 1) := by decide +kernel
theorem dX1_sourceDay_56 : decode cX1_sourceDay 56 = .ok (.idiv, 1) := by decide +kernel
theorem dX1_sourceDay_57 : decode cX1_sourceDay 57 = .ok (.ireturn, 1) := by decide +kernel
set_option maxRecDepth 20000 in
theorem ggX1_wastedOf_X1_pairAll : GoodIn wsX1_wastedOf wsX1_pairAll := goodIn_r _ [5, 6, 7, 8, 9, 4, 10, 11, 12, 13, 14, 15, 16, 17, 18, 19, 20, 21, 22, 23, 24, 25, 26, 27, 28, 29, 30, 31, 32, 33, 34, 35, 36, 37, 38, 39, 40, 41, 42, 43, 44, 45, 46, 51, 52, 53, 54, 55, 56, 57, 58, 59, 60, 61, 62, 63, 64] rfl (by decide +kernel)
set_option maxRecDepth 20000 in
theorem gX1_wastedOf_X1_pairAll : GoodIn wsX1_wastedOf (wsV RX1 18 RX1 yX1_pairAll wsX1_pairAll) := goodIn_app (goodIn_of _ (by decide +kernel)) ggX1_wastedOf_X1_pairAll
set_option maxRecDepth 20000 in
theorem ggX1_wastedOf_X1_wastedServings : GoodIn wsX1_wastedOf wsX1_wastedServings := goodIn_r _ [50, 43, 32, 12, 24, 25, 26, 51, 52, 53, 54, 55, 56, 57, 58, 59, 60, 61, 62, 63, 64] rfl (by decide +kernel)
set_option maxRecDepth 20000 in
theorem gX1_wastedOf_X1_wastedServings : GoodIn wsX1_wastedOf (wsV RX1 46 RX1 yX1_wastedServings wsX1_wastedServings) := goodIn_app (goodIn_of _ (by decide +kernel)) ggX1_wastedOf_X1_wastedServings
theorem dX1_wastedOf_0 : decode cX1_wastedOf 0 = .ok (.aload_n 0, 1) := by decide +kernel
theorem dX1_wastedOf_1 : decode cX1_wastedOf 1 = .ok (.aload_n 1, 1) := by decide +kernel
theorem dX1_wastedOf_2 : decode cX1_wastedOf 2 = .ok (.invokevirtual 18, 3) := by decide +kernel
theorem dX1_wastedOf_5 : decode cX1_wastedOf 5 = .ok (.pop, 1) := by decide +kernel
theorem dX1_wastedOf_6 : decode cX1_wastedOf 6 = .ok (.aload_n 0, 1) := by decide +kernel
theorem dX1_wastedOf_7 : decode cX1_wastedOf 7 = .ok (.aload_n 1, 1) := by decide +kernel
theorem dX1_wastedOf_8 : decode cX1_wastedOf 8 = .ok (.iload_n 2, 1) := by decide +kernel
theorem dX1_wastedOf_9 : decode cX1_wastedOf 9 = .ok (.invokevirtual 46, 3) := by decide +kernel
theorem dX1_wastedOf_12 : decode cX1_wastedOf 12 = .ok (.ireturn, 1) := by decide +kernel
set_option maxRecDepth 20000 in
theorem ggX1_wastedOfAll_X1_pairAll : GoodIn wsX1_wastedOfAll wsX1_pairAll := goodIn_r _ [6, 1, 7, 8, 9, 5, 10, 11, 12, 13, 14, 15, 16, 17, 18, 19, 20, 21, 22, 23, 24, 25, 26, 27, 28, 29, 30, 31, 32, 33, 34, 35, 36, 37, 38, 39, 40, 41, 42, 43, 44, 45, 46, 51, 52, 53, 54, 55, 56, 57, 58, 59, 60, 61, 62, 63, 64] rfl (by decide +kernel)
set_option maxRecDepth 20000 in
theorem gX1_wastedOfAll_X1_pairAll : GoodIn wsX1_wastedOfAll (wsV RX1 18 RX1 yX1_pairAll wsX1_pairAll) := goodIn_app (goodIn_of _ (by decide +kernel)) ggX1_wastedOfAll_X1_pairAll
set_option maxRecDepth 20000 in
theorem ggX1_wastedOfAll_X1_wastedServings : GoodIn wsX1_wastedOfAll wsX1_wastedServings := goodIn_r _ [50, 43, 32, 12, 24, 25, 26, 51, 52, 53, 54, 55, 56, 57, 58, 59, 60, 61, 62, 63, 64] rfl (by decide +kernel)
set_option maxRecDepth 20000 in
theorem gX1_wastedOfAll_X1_wastedServings : GoodIn wsX1_wastedOfAll (wsV RX1 46 RX1 yX1_wastedServings wsX1_wastedServings) := goodIn_app (goodIn_of _ (by decide +kernel)) ggX1_wastedOfAll_X1_wastedServings
theorem dX1_wastedOfAll_0 : decode cX1_wastedOfAll 0 = .ok (.aload_n 0, 1) := by decide +kernel
theorem dX1_wastedOfAll_1 : decode cX1_wastedOfAll 1 = .ok (.aload_n 1, 1) := by decide +kernel
theorem dX1_wastedOfAll_2 : decode cX1_wastedOfAll 2 = .ok (.invokevirtual 18, 3) := by decide +kernel
theorem dX1_wastedOfAll_5 : decode cX1_wastedOfAll 5 = .ok (.pop, 1) := by decide +kernel
theorem dX1_wastedOfAll_6 : decode cX1_wastedOfAll 6 = .ok (.iconst 0, 1) := by decide +kernel
theorem dX1_wastedOfAll_7 : decode cX1_wastedOfAll 7 = .ok (.istore_n 2, 1) := by decide +kernel
theorem dX1_wastedOfAll_8 : decode cX1_wastedOfAll 8 = .ok (.iconst 0, 1) := by decide +kernel
theorem dX1_wastedOfAll_9 : decode cX1_wastedOfAll 9 = .ok (.istore_n 3, 1) := by decide +kernel
theorem dX1_wastedOfAll_10 : decode cX1_wastedOfAll 10 = .ok (.iload_n 3, 1) := by decide +kernel
theorem dX1_wastedOfAll_11 : decode cX1_wastedOfAll 11 = .ok (.aload_n 1, 1) := by decide +kernel
theorem dX1_wastedOfAll_12 : decode cX1_wastedOfAll 12 = .ok (.getfield 50, 3) := by decide +kernel
theorem dX1_wastedOfAll_15 : decode cX1_wastedOfAll 15 = .ok (.if_icmp .ge 18, 3) := by decide +kernel
theorem dX1_wastedOfAll_18 : decode cX1_wastedOfAll 18 = .ok (.iload_n 2, 1) := by decide +kernel
theorem dX1_wastedOfAll_19 : decode cX1_wastedOfAll 19 = .ok (.aload_n 0, 1) := by decide +kernel
theorem dX1_wastedOfAll_20 : decode cX1_wastedOfAll 20 = .ok (.aload_n 1, 1) := by decide +kernel
theorem dX1_wastedOfAll_21 : decode cX1_wastedOfAll 21 = .ok (.iload_n 3, 1) := by decide +kernel
theorem dX1_wastedOfAll_22 : decode cX1_wastedOfAll 22 = .ok (.invokevirtual 46, 3) := by decide +kernel
theorem dX1_wastedOfAll_25 : decode cX1_wastedOfAll 25 = .ok (.iadd, 1) := by decide +kernel
theorem dX1_wastedOfAll_26 : decode cX1_wastedOfAll 26 = .ok (.istore_n 2, 1) := by decide +kernel
theorem dX1_wastedOfAll_27 : decode cX1_wastedOfAll 27 = .ok (.iinc 3 1, 3) := by decide +kernel
theorem dX1_wastedOfAll_30 : decode cX1_wastedOfAll 30 = .ok (.goto (-20), 3) := by decide +kernel
theorem dX1_wastedOfAll_33 : decode cX1_wastedOfAll 33 = .ok (.iload_n 2, 1) := by decide +kernel
theorem dX1_wastedOfAll_34 : decode cX1_wastedOfAll 34 = .ok (.ireturn, 1) := by decide +kernel
set_option maxRecDepth 20000 in
theorem ggX1_wastedServings_X6_at : GoodIn wsX1_wastedServings wsX6_at := goodIn_r _ [6] rfl (by decide +kernel)
set_option maxRecDepth 20000 in
theorem gX1_wastedServings_X6_at_n42 : GoodIn wsX1_wastedServings (wsX6_at) := ggX1_wastedServings_X6_at
theorem dX1_wastedServings_0 : decode cX1_wastedServings 0 = .ok (.aload_n 1, 1) := by decide +kernel
theorem dX1_wastedServings_1 : decode cX1_wastedServings 1 = .ok (.getfield 54, 3) := by decide +kernel
theorem dX1_wastedServings_4 : decode cX1_wastedServings 4 = .ok (.iload_n 2, 1) := by decide +kernel
theorem dX1_wastedServings_5 : decode cX1_wastedServings 5 = .ok (.invokestatic 42, 3) := by decide +kernel
theorem dX1_wastedServings_8 : decode cX1_wastedServings 8 = .ok (.iconst (-1), 1) := by decide +kernel
theorem dX1_wastedServings_9 : decode cX1_wastedServings 9 = .ok (.if_icmp .ne 5, 3) := by decide +kernel
theorem dX1_wastedServings_12 : decode cX1_wastedServings 12 = .ok (.iconst 0, 1) := by decide +kernel
theorem dX1_wastedServings_13 : decode cX1_wastedServings 13 = .ok (.ireturn, 1) := by decide +kernel
theorem dX1_wastedServings_14 : decode cX1_wastedServings 14 = .ok (.iconst 0, 1) := by decide +kernel
theorem dX1_wastedServings_15 : decode cX1_wastedServings 15 = .ok (.istore_n 3, 1) := by decide +kernel
theorem dX1_wastedServings_16 : decode cX1_wastedServings 16 = .ok (.iconst 0, 1) := by decide +kernel
theorem dX1_wastedServings_17 : decode cX1_wastedServings 17 = .ok (.istore 4, 2) := by decide +kernel
theorem dX1_wastedServings_19 : decode cX1_wastedServings 19 = .ok (.iload 4, 2) := by decide +kernel
theorem dX1_wastedServings_21 : decode cX1_wastedServings 21 = .ok (.bipush 84, 2) := by decide +kernel
theorem dX1_wastedServings_23 : decode cX1_wastedServings 23 = .ok (.if_icmp .ge 37, 3) := by decide +kernel
theorem dX1_wastedServings_26 : decode cX1_wastedServings 26 = .ok (.aload_n 1, 1) := by decide +kernel
theorem dX1_wastedServings_27 : decode cX1_wastedServings 27 = .ok (.getfield 31, 3) := by decide +kernel
theorem dX1_wastedServings_30 : decode cX1_wastedServings 30 = .ok (.iload 4, 2) := by decide +kernel
theorem dX1_wastedServings_32 : decode cX1_wastedServings 32 = .ok (.invokestatic 42, 3) := by decide +kernel
theorem dX1_wastedServings_35 : decode cX1_wastedServings 35 = .ok (.iload_n 2, 1) := by decide +kernel
theorem dX1_wastedServings_36 : decode cX1_wastedServings 36 = .ok (.if_icmp .ne 18, 3) := by decide +kernel
theorem dX1_wastedServings_39 : decode cX1_wastedServings 39 = .ok (.aload_n 0, 1) := by decide +kernel
theorem dX1_wastedServings_40 : decode cX1_wastedServings 40 = .ok (.getfield 15, 3) := by decide +kernel
theorem dX1_wastedServings_43 : decode cX1_wastedServings 43 = .ok (.iload 4, 2) := by decide +kernel
theorem dX1_wastedServings_45 : decode cX1_wastedServings 45 = .ok (.invokestatic 42, 3) := by decide +kernel
theorem dX1_wastedServings_48 : decode cX1_wastedServings 48 = .ok (.ifCond .ne 6, 3) := by decide +kernel
theorem dX1_wastedServings_51 : decode cX1_wastedServings 51 = .ok (.iinc 3 1, 3) := by decide +kernel
theorem dX1_wastedServings_54 : decode cX1_wastedServings 54 = .ok (.iinc 4 1, 3) := by decide +kernel
theorem dX1_wastedServings_57 : decode cX1_wastedServings 57 = .ok (.goto (-38), 3) := by decide +kernel
theorem dX1_wastedServings_60 : decode cX1_wastedServings 60 = .ok (.iload_n 3, 1) := by decide +kernel
theorem dX1_wastedServings_61 : decode cX1_wastedServings 61 = .ok (.ireturn, 1) := by decide +kernel
set_option maxRecDepth 20000 in
theorem ggX1_forget_J7_fill_53178 : GoodIn wsX1_forget wsJ7_fill_53178 := goodIn_r _ [6] rfl (by decide +kernel)
set_option maxRecDepth 20000 in
theorem gX1_forget_J7_fill_53178 : GoodIn wsX1_forget (va_wsS RX1 57 yJ7_fill_53178 wsJ7_fill_53178) := goodIn_app (goodIn_of _ (by decide +kernel)) ggX1_forget_J7_fill_53178
theorem dX1_forget_0 : decode cX1_forget 0 = .ok (.aload_n 0, 1) := by decide +kernel
theorem dX1_forget_1 : decode cX1_forget 1 = .ok (.getfield 9, 3) := by decide +kernel
theorem dX1_forget_4 : decode cX1_forget 4 = .ok (.iconst (-1), 1) := by decide +kernel
theorem dX1_forget_5 : decode cX1_forget 5 = .ok (.invokestatic 57, 3) := by decide +kernel
theorem dX1_forget_8 : decode cX1_forget 8 = .ok (.aload_n 0, 1) := by decide +kernel
theorem dX1_forget_9 : decode cX1_forget 9 = .ok (.getfield 15, 3) := by decide +kernel
theorem dX1_forget_12 : decode cX1_forget 12 = .ok (.iconst 0, 1) := by decide +kernel
theorem dX1_forget_13 : decode cX1_forget 13 = .ok (.invokestatic 57, 3) := by decide +kernel
theorem dX1_forget_16 : decode cX1_forget 16 = .ok (.return_, 1) := by decide +kernel
set_option maxRecDepth 20000 in
theorem ggX1_pairAll_X1_forget : GoodIn wsX1_pairAll wsX1_forget := goodIn_r _ [6, 7, 8, 9, 10, 11, 12, 55, 56] rfl (by decide +kernel)
set_option maxRecDepth 20000 in
theorem gX1_pairAll_X1_forget : GoodIn wsX1_pairAll (wsV RX1 28 RX1 yX1_forget wsX1_forget) := goodIn_app (goodIn_of _ (by decide +kernel)) ggX1_pairAll_X1_forget
set_option maxRecDepth 20000 in
theorem ggX1_pairAll_X5_isLeftover : GoodIn wsX1_pairAll wsX5_isLeftover := goodIn_r _ [17, 18, 19, 20, 21, 22, 43, 44, 45, 46, 47, 48, 49, 50, 51, 52, 53, 54] rfl (by decide +kernel)
set_option maxRecDepth 20000 in
theorem gX1_pairAll_X5_isLeftover : GoodIn wsX1_pairAll (wsV RX1 22 RX5 yX5_isLeftover wsX5_isLeftover) := goodIn_app (goodIn_of _ (by decide +kernel)) ggX1_pairAll_X5_isLeftover
set_option maxRecDepth 20000 in
theorem ggX1_pairAll_X1_pairServings : GoodIn wsX1_pairAll wsX1_pairServings := goodIn_r _ [26, 27, 28, 7, 8, 20, 21, 22, 29, 30, 31, 32, 33, 5, 34, 35, 36, 37, 38, 39, 40, 41, 42, 43, 44, 45, 46, 47, 48, 49, 50, 51, 52, 53, 54, 55, 56] rfl (by decide +kernel)
set_option maxRecDepth 20000 in
theorem gX1_pairAll_X1_pairServings : GoodIn wsX1_pairAll (wsV RX1 38 RX1 yX1_pairServings wsX1_pairServings) := goodIn_app (goodIn_of _ (by decide +kernel)) ggX1_pairAll_X1_pairServings
theorem dX1_pairAll_0 : decode cX1_pairAll 0 = .ok (.aload_n 0, 1) := by decide +kernel
theorem dX1_pairAll_1 : decode cX1_pairAll 1 = .ok (.invokevirtual 28, 3) := by decide +kernel
theorem dX1_pairAll_4 : decode cX1_pairAll 4 = .ok (.iconst 1, 1) := by decide +kernel
theorem dX1_pairAll_5 : decode cX1_pairAll 5 = .ok (.istore_n 2, 1) := by decide +kernel
theorem dX1_pairAll_6 : decode cX1_pairAll 6 = .ok (.iconst 0, 1) := by decide +kernel
theorem dX1_pairAll_7 : decode cX1_pairAll 7 = .ok (.istore_n 3, 1) := by decide +kernel
theorem dX1_pairAll_8 : decode cX1_pairAll 8 = .ok (.iload_n 3, 1) := by decide +kernel
theorem dX1_pairAll_9 : decode cX1_pairAll 9 = .ok (.aload_n 1, 1) := by decide +kernel
theorem dX1_pairAll_10 : decode cX1_pairAll 10 = .ok (.getfield 50, 3) := by decide +kernel
theorem dX1_pairAll_13 : decode cX1_pairAll 13 = .ok (.if_icmp .ge 28, 3) := by decide +kernel
theorem dX1_pairAll_16 : decode cX1_pairAll 16 = .ok (.aload_n 1, 1) := by decide +kernel
theorem dX1_pairAll_17 : decode cX1_pairAll 17 = .ok (.iload_n 3, 1) := by decide +kernel
theorem dX1_pairAll_18 : decode cX1_pairAll 18 = .ok (.invokevirtual 22, 3) := by decide +kernel
theorem dX1_pairAll_21 : decode cX1_pairAll 21 = .ok (.ifCond .eq 14, 3) := by decide +kernel
theorem dX1_pairAll_24 : decode cX1_pairAll 24 = .ok (.aload_n 0, 1) := by decide +kernel
theorem dX1_pairAll_25 : decode cX1_pairAll 25 = .ok (.aload_n 1, 1) := by decide +kernel
theorem dX1_pairAll_26 : decode cX1_pairAll 26 = .ok (.iload_n 3, 1) := by decide +kernel
theorem dX1_pairAll_27 : decode cX1_pairAll 27 = .ok (.invokevirtual 38, 3) := by decide +kernel
theorem dX1_pairAll_30 : decode cX1_pairAll 30 = .ok (.ifCond .ne 5, 3) := by decide +kernel
theorem dX1_pairAll_33 : decode cX1_pairAll 33 = .ok (.iconst 0, 1) := by decide +kernel
theorem dX1_pairAll_34 : decode cX1_pairAll 34 = .ok (.istore_n 2, 1) := by decide +kernel
theorem dX1_pairAll_35 : decode cX1_pairAll 35 = .ok (.iinc 3 1, 3) := by decide +kernel
theorem dX1_pairAll_38 : decode cX1_pairAll 38 = .ok (.goto (-30), 3) := by decide +kernel
theorem dX1_pairAll_41 : decode cX1_pairAll 41 = .ok (.iload_n 2, 1) := by decide +kernel
theorem dX1_pairAll_42 : decode cX1_pairAll 42 = .ok (.ireturn, 1) := by decide +kernel
set_option maxRecDepth 20000 in
theorem ggX1_pairServings_X6_at : GoodIn wsX1_pairServings wsX6_at := goodIn_r _ [7] rfl (by decide +kernel)
set_option maxRecDepth 20000 in
theorem gX1_pairServings_X6_at_n42 : GoodIn wsX1_pairServings (wsX6_at) := ggX1_pairServings_X6_at
set_option maxRecDepth 20000 in
theorem ggX1_pairServings_X6_cellOf : GoodIn wsX1_pairServings wsX6_cellOf := goodIn_r _ [9] rfl (by decide +kernel)
set_option maxRecDepth 20000 in
theorem gX1_pairServings_X6_cellOf_n66 : GoodIn wsX1_pairServings (wsX6_cellOf) := ggX1_pairServings_X6_cellOf
set_option maxRecDepth 20000 in
theorem ggX1_pairServings_X1_nextSource : GoodIn wsX1_pairServings wsX1_nextSource := goodIn_r _ [14, 15, 16, 17, 18, 2, 19, 4, 20, 8, 6, 9, 5, 7, 23, 24, 25, 26, 27, 28, 29, 30, 31, 32, 33, 34, 35, 36] rfl (by decide +kernel)
set_option maxRecDepth 20000 in
theorem gX1_pairServings_X1_nextSource : GoodIn wsX1_pairServings (wsV RX1 70 RX1 yX1_nextSource wsX1_nextSource) := goodIn_app (goodIn_of _ (by decide +kernel)) ggX1_pairServings_X1_nextSource
set_option maxRecDepth 20000 in
theorem ggX1_pairServings_X6_put : GoodIn wsX1_pairServings wsX6_put := goodIn_r _ [22] rfl (by decide +kernel)
set_option maxRecDepth 20000 in
theorem gX1_pairServings_X6_put_n34 : GoodIn wsX1_pairServings (wsX6_put) := ggX1_pairServings_X6_put
theorem dX1_pairServings_0 : decode cX1_pairServings 0 = .ok (.aload_n 1, 1) := by decide +kernel
theorem dX1_pairServings_1 : decode cX1_pairServings 1 = .ok (.getfield 63, 3) := by decide +kernel
theorem dX1_pairServings_4 : decode cX1_pairServings 4 = .ok (.iload_n 2, 1) := by decide +kernel
theorem dX1_pairServings_5 : decode cX1_pairServings 5 = .ok (.invokestatic 42, 3) := by decide +kernel
theorem dX1_pairServings_8 : decode cX1_pairServings 8 = .ok (.istore_n 3, 1) := by decide +kernel
theorem dX1_pairServings_9 : decode cX1_pairServings 9 = .ok (.iconst 1, 1) := by decide +kernel
theorem dX1_pairServings_10 : decode cX1_pairServings 10 = .ok (.istore 4, 2) := by decide +kernel
theorem dX1_pairServings_12 : decode cX1_pairServings 12 = .ok (.iconst 0, 1) := by decide +kernel
theorem dX1_pairServings_13 : decode cX1_pairServings 13 = .ok (.istore 5, 2) := by decide +kernel
theorem dX1_pairServings_15 : decode cX1_pairServings 15 = .ok (.iload 5, 2) := by decide +kernel
theorem dX1_pairServings_17 : decode cX1_pairServings 17 = .ok (.bipush 28, 2) := by decide +kernel
theorem dX1_pairServings_19 : decode cX1_pairServings 19 = .ok (.if_icmp .ge 79, 3) := by decide +kernel
theorem dX1_pairServings_22 : decode cX1_pairServings 22 = .ok (.iload 5, 2) := by decide +kernel
theorem dX1_pairServings_24 : decode cX1_pairServings 24 = .ok (.iload_n 3, 1) := by decide +kernel
theorem dX1_pairServings_25 : decode cX1_pairServings 25 = .ok (.invokestatic 66, 3) := by decide +kernel
theorem dX1_pairServings_28 : decode cX1_pairServings 28 = .ok (.istore 6, 2) := by decide +kernel
theorem dX1_pairServings_30 : decode cX1_pairServings 30 = .ok (.aload_n 1, 1) := by decide +kernel
theorem dX1_pairServings_31 : decode cX1_pairServings 31 = .ok (.getfield 31, 3) := by decide +kernel
theorem dX1_pairServings_34 : decode cX1_pairServings 34 = .ok (.iload 6, 2) := by decide +kernel
theorem dX1_pairServings_36 : decode cX1_pairServings 36 = .ok (.invokestatic 42, 3) := by decide +kernel
theorem dX1_pairServings_39 : decode cX1_pairServings 39 = .ok (.iload_n 2, 1) := by decide +kernel
theorem dX1_pairServings_40 : decode cX1_pairServings 40 = .ok (.if_icmp .ne 52, 3) := by decide +kernel
theorem dX1_pairServings_43 : decode cX1_pairServings 43 = .ok (.aload_n 0, 1) := by decide +kernel
theorem dX1_pairServings_44 : decode cX1_pairServings 44 = .ok (.aload_n 1, 1) := by decide +kernel
theorem dX1_pairServings_45 : decode cX1_pairServings 45 = .ok (.iload_n 2, 1) := by decide +kernel
theorem dX1_pairServings_46 : decode cX1_pairServings 46 = .ok (.iload 5, 2) := by decide +kernel
theorem dX1_pairServings_48 : decode cX1_pairServings 48 = .ok (.invokevirtual 70, 3) := by decide +kernel
theorem dX1_pairServings_51 : decode cX1_pairServings 51 = .ok (.istore 7, 2) := by decide +kernel
theorem dX1_pairServings_53 : decode cX1_pairServings 53 = .ok (.aload_n 0, 1) := by decide +kernel
theorem dX1_pairServings_54 : decode cX1_pairServings 54 = .ok (.getfield 9, 3) := by decide +kernel
theorem dX1_pairServings_57 : decode cX1_pairServings 57 = .ok (.iload 6, 2) := by decide +kernel
theorem dX1_pairServings_59 : decode cX1_pairServings 59 = .ok (.iload 7, 2) := by decide +kernel
theorem dX1_pairServings_61 : decode cX1_pairServings 61 = .ok (.invokestatic 34, 3) := by decide +kernel
theorem dX1_pairServings_64 : decode cX1_pairServings 64 = .ok (.aload_n 0, 1) := by decide +kernel
theorem dX1_pairServings_65 : decode cX1_pairServings 65 = .ok (.getfield 15, 3) := by decide +kernel
theorem dX1_pairServings_68 : decode cX1_pairServings 68 = .ok (.iload 7, 2) := by decide +kernel
theorem dX1_pairServings_70 : decode cX1_pairServings 70 = .ok (.iconst 1, 1) := by decide +kernel
theorem dX1_pairServings_71 : decode cX1_pairServings 71 = .ok (.invokestatic 34, 3) := by decide +kernel
theorem dX1_pairServings_74 : decode cX1_pairServings 74 = .ok (.iload 4, 2) := by decide +kernel
theorem dX1_pairServings_76 : decode cX1_pairServings 76 = .ok (.ifCond .eq 13, 3) := by decide +kernel
theorem dX1_pairServings_79 : decode cX1_pairServings 79 = .ok (.iload 7, 2) := by decide +kernel
theorem dX1_pairServings_81 : decode cX1_pairServings 81 = .ok (.iconst (-1), 1) := by decide +kernel
theorem dX1_pairServings_82 : decode cX1_pairServings 82 = .ok (.if_icmp .eq 7, 3) := by decide +kernel
theorem dX1_pairServings_85 : decode cX1_pairServings 85 = .ok (.iconst 1, 1) := by decide +kernel
theorem dX1_pairServings_86 : decode cX1_pairServings 86 = .ok (.goto 4, 3) := by decide +kernel
theorem dX1_pairServings_89 : decode cX1_pairServings 89 = .ok (.iconst 0, 1) := by decide +kernel
theorem dX1_pairServings_90 : decode cX1_pairServings 90 = .ok (.istore 4, 2) := by decide +kernel
theorem dX1_pairServings_92 : decode cX1_pairServings 92 = .ok (.iinc 5 1, 3) := by decide +kernel
theorem dX1_pairServings_95 : decode cX1_pairServings 95 = .ok (.goto (-80), 3) := by decide +kernel
theorem dX1_pairServings_98 : decode cX1_pairServings 98 = .ok (.iload 4, 2) := by decide +kernel
theorem dX1_pairServings_100 : decode cX1_pairServings 100 = .ok (.ireturn, 1) := by decide +kernel
set_option maxRecDepth 20000 in
theorem ggX1_nextSource_X6_cellOf : GoodIn wsX1_nextSource wsX6_cellOf := goodIn_r _ [11] rfl (by decide +kernel)
set_option maxRecDepth 20000 in
theorem gX1_nextSource_X6_cellOf_n66 : GoodIn wsX1_nextSource (wsX6_cellOf) := ggX1_nextSource_X6_cellOf
set_option maxRecDepth 20000 in
theorem ggX1_nextSource_X6_at : GoodIn wsX1_nextSource wsX6_at := goodIn_r _ [13] rfl (by decide +kernel)
set_option maxRecDepth 20000 in
theorem gX1_nextSource_X6_at_n42 : GoodIn wsX1_nextSource (wsX6_at) := ggX1_nextSource_X6_at
theorem dX1_nextSource_0 : decode cX1_nextSource 0 = .ok (.iconst (-1), 1) := by decide +kernel
theorem dX1_nextSource_1 : decode cX1_nextSource 1 = .ok (.istore 4, 2) := by decide +kernel
theorem dX1_nextSource_3 : decode cX1_nextSource 3 = .ok (.iconst 0, 1) := by decide +kernel
theorem dX1_nextSource_4 : decode cX1_nextSource 4 = .ok (.istore 5, 2) := by decide +kernel
theorem dX1_nextSource_6 : decode cX1_nextSource 6 = .ok (.iconst 0, 1) := by decide +kernel
theorem dX1_nextSource_7 : decode cX1_nextSource 7 = .ok (.iload_n 3, 1) := by decide +kernel
theorem dX1_nextSource_8 : decode cX1_nextSource 8 = .ok (.bipush 6, 2) := by decide +kernel
theorem dX1_nextSource_10 : decode cX1_nextSource 10 = .ok (.isub, 1) := by decide +kernel
theorem dX1_nextSource_11 : decode cX1_nextSource 11 = .ok (.invokestatic 74, 3) := by decide +kernel
theorem dX1_nextSource_14 : decode cX1_nextSource 14 = .ok (.iconst 0, 1) := by decide +kernel
theorem dX1_nextSource_15 : decode cX1_nextSource 15 = .ok (.invokestatic 66, 3) := by decide +kernel
theorem dX1_nextSource_18 : decode cX1_nextSource 18 = .ok (.istore 6, 2) := by decide +kernel
theorem dX1_nextSource_20 : decode cX1_nextSource 20 = .ok (.iload_n 3, 1) := by decide +kernel
theorem dX1_nextSource_21 : decode cX1_nextSource 21 = .ok (.iconst 0, 1) := by decide +kernel
theorem dX1_nextSource_22 : decode cX1_nextSource 22 = .ok (.invokestatic 66, 3) := by decide +kernel
theorem dX1_nextSource_25 : decode cX1_nextSource 25 = .ok (.istore 7, 2) := by decide +kernel
theorem dX1_nextSource_27 : decode cX1_nextSource 27 = .ok (.iload 6, 2) := by decide +kernel
theorem dX1_nextSource_29 : decode cX1_nextSource 29 = .ok (.istore 8, 2) := by decide +kernel
theorem dX1_nextSource_31 : decode cX1_nextSource 31 = .ok (.iload 8, 2) := by decide +kernel
theorem dX1_nextSource_33 : decode cX1_nextSource 33 = .ok (.iload 7, 2) := by decide +kernel
theorem dX1_nextSource_35 : decode cX1_nextSource 35 = .ok (.if_icmp .ge 88, 3) := by decide +kernel
theorem dX1_nextSource_38 : decode cX1_nextSource 38 = .ok (.aload_n 1, 1) := by decide +kernel
theorem dX1_nextSource_39 : decode cX1_nextSource 39 = .ok (.getfield 31, 3) := by decide +kernel
theorem dX1_nextSource_42 : decode cX1_nextSource 42 = .ok (.iload 8, 2) := by decide +kernel
theorem dX1_nextSource_44 : decode cX1_nextSource 44 = .ok (.invokestatic 42, 3) := by decide +kernel
theorem dX1_nextSource_47 : decode cX1_nextSource 47 = .ok (.istore 9, 2) := by decide +kernel
theorem dX1_nextSource_49 : decode cX1_nextSource 49 = .ok (.aload_n 1, 1) := by decide +kernel
theorem dX1_nextSource_50 : decode cX1_nextSource 50 = .ok (.getfield 54, 3) := by decide +kernel
theorem dX1_nextSource_53 : decode cX1_nextSource 53 = .ok (.iload 9, 2) := by decide +kernel
theorem dX1_nextSource_55 : decode cX1_nextSource 55 = .ok (.invokestatic 42, 3) := by decide +kernel
theorem dX1_nextSource_58 : decode cX1_nextSource 58 = .ok (.iload_n 2, 1) := by decide +kernel
theorem dX1_nextSource_59 : decode cX1_nextSource 59 = .ok (.if_icmp .ne 58, 3) := by decide +kernel
theorem dX1_nextSource_62 : decode cX1_nextSource 62 = .ok (.aload_n 0, 1) := by decide +kernel
theorem dX1_nextSource_63 : decode cX1_nextSource 63 = .ok (.getfield 15, 3) := by decide +kernel
theorem dX1_nextSource_66 : decode cX1_nextSource 66 = .ok (.iload 8, 2) := by decide +kernel
theorem dX1_nextSource_68 : decode cX1_nextSource 68 = .ok (.invokestatic 42, 3) := by decide +kernel
theorem dX1_nextSource_71 : decode cX1_nextSource 71 = .ok (.ifCond .ne 46, 3) := by decide +kernel
theorem dX1_nextSource_74 : decode cX1_nextSource 74 = .ok (.iload 8, 2) := by decide +kernel
theorem dX1_nextSource_76 : decode cX1_nextSource 76 = .ok (.iconst 3, 1) := by decide +kernel
theorem dX1_nextSource_77 : decode cX1_nextSource 77 = .ok (.idiv, 1) := by decide +kernel
theorem dX1_nextSource_78 : decode cX1_nextSource 78 = .ok (.aload_n 1, 1) := by decide +kernel
theorem dX1_nextSource_79 : decode cX1_nextSource 79 = .ok (.getfield 79, 3) := by decide +kernel
theorem dX1_nextSource_82 : decode cX1_nextSource 82 = .ok (.iload 9, 2) := by decide +kernel
theorem dX1_nextSource_84 : decode cX1_nextSource 84 = .ok (.invokestatic 42, 3) := by decide +kernel
theorem dX1_nextSource_87 : decode cX1_nextSource 87 = .ok (.iadd, 1) := by decide +kernel
theorem dX1_nextSource_88 : decode cX1_nextSource 88 = .ok (.istore 10, 2) := by decide +kernel
theorem dX1_nextSource_90 : decode cX1_nextSource 90 = .ok (.iload 10, 2) := by decide +kernel
theorem dX1_nextSource_92 : decode cX1_nextSource 92 = .ok (.iload_n 3, 1) := by decide +kernel
theorem dX1_nextSource_93 : decode cX1_nextSource 93 = .ok (.if_icmp .lt 24, 3) := by decide +kernel
theorem dX1_nextSource_96 : decode cX1_nextSource 96 = .ok (.iload 4, 2) := by decide +kernel
theorem dX1_nextSource_98 : decode cX1_nextSource 98 = .ok (.iconst (-1), 1) := by decide +kernel
theorem dX1_nextSource_99 : decode cX1_nextSource 99 = .ok (.if_icmp .eq 10, 3) := by decide +kernel
theorem dX1_nextSource_102 : decode cX1_nextSource 102 = .ok (.iload 10, 2) := by decide +kernel
theorem dX1_nextSource_104 : decode cX1_nextSource 104 = .ok (.iload 5, 2) := by decide +kernel
theorem dX1_nextSource_106 : decode cX1_nextSource 106 = .ok (.if_icmp .ge 11, 3) := by decide +kernel
theorem dX1_nextSource_109 : decode cX1_nextSource 109 = .ok (.iload 8, 2) := by decide +kernel
theorem dX1_nextSource_111 : decode cX1_nextSource 111 = .ok (.istore 4, 2) := by decide +kernel
theorem dX1_nextSource_113 : decode cX1_nextSource 113 = .ok (.iload 10, 2) := by decide +kernel
theorem dX1_nextSource_115 : decode cX1_nextSource 115 = .ok (.istore 5, 2) := by decide +kernel
theorem dX1_nextSource_117 : decode cX1_nextSource 117 = .ok (.iinc 8 1, 3) := by decide +kernel
theorem dX1_nextSource_120 : decode cX1_nextSource 120 = .ok (.goto (-89), 3) := by decide +kernel
theorem dX1_nextSource_123 : decode cX1_nextSource 123 = .ok (.iload 4, 2) := by decide +kernel
theorem dX1_nextSource_125 : decode cX1_nextSource 125 = .ok (.ireturn, 1) := by decide +kernel
theorem dX2_init_0 : decode cX2_init 0 = .ok (.aload_n 0, 1) := by decide +kernel
theorem dX2_init_1 : decode cX2_init 1 = .ok (.invokespecial 3, 3) := by decide +kernel
theorem dX2_init_4 : decode cX2_init 4 = .ok (.aload_n 0, 1) := by decide +kernel
theorem dX2_init_5 : decode cX2_init 5 = .ok (.aload_n 1, 1) := by decide +kernel
theorem dX2_init_6 : decode cX2_init 6 = .ok (.putfield 9, 3) := by decide +kernel
theorem dX2_init_9 : decode cX2_init 9 = .ok (.aload_n 0, 1) := by decide +kernel
theorem dX2_init_10 : decode cX2_init 10 = .ok (.aload_n 2, 1) := by decide +kernel
theorem dX2_init_11 : decode cX2_init 11 = .ok (.putfield 15, 3) := by decide +kernel
theorem dX2_init_14 : decode cX2_init 14 = .ok (.return_, 1) := by decide +kernel
set_option maxRecDepth 20000 in
theorem ggX2_reasonAgainst_X6_cellOf : GoodIn wsX2_reasonAgainst wsX6_cellOf := goodIn_r _ [9] rfl (by decide +kernel)
set_option maxRecDepth 20000 in
theorem gX2_reasonAgainst_X6_cellOf_n19 : GoodIn wsX2_reasonAgainst (wsX6_cellOf) := ggX2_reasonAgainst_X6_cellOf
set_option maxRecDepth 20000 in
theorem ggX2_reasonAgainst_X6_at : GoodIn wsX2_reasonAgainst wsX6_at := goodIn_r _ [11] rfl (by decide +kernel)
set_option maxRecDepth 20000 in
theorem gX2_reasonAgainst_X6_at_n29 : GoodIn wsX2_reasonAgainst (wsX6_at) := ggX2_reasonAgainst_X6_at
set_option maxRecDepth 20000 in
theorem ggX2_reasonAgainst_X5_isVetoed : GoodIn wsX2_reasonAgainst wsX5_isVetoed := goodIn_r _ [16, 17, 18, 19, 20, 15, 21, 22, 23, 24, 25, 26, 27, 28, 10, 8, 11, 80, 81, 82, 83, 84, 85, 86, 87, 88, 89, 90, 91] rfl (by decide +kernel)
set_option maxRecDepth 20000 in
theorem gX2_reasonAgainst_X5_isVetoed : GoodIn wsX2_reasonAgainst (wsV RX2 36 RX5 yX5_isVetoed wsX5_isVetoed) := goodIn_app (goodIn_of _ (by decide +kernel)) ggX2_reasonAgainst_X5_isVetoed
set_option maxRecDepth 20000 in
theorem ggX2_reasonAgainst_X5_weekCost : GoodIn wsX2_reasonAgainst wsX5_weekCost := goodIn_r _ [32, 33, 34, 35, 15, 36, 37, 38, 7, 8, 9, 10, 11, 80, 81, 82, 83, 84, 85, 86, 87, 88, 89, 90, 91] rfl (by decide +kernel)
set_option maxRecDepth 20000 in
theorem gX2_reasonAgainst_X5_weekCost : GoodIn wsX2_reasonAgainst (wsV RX2 40 RX5 yX5_weekCost wsX5_weekCost) := goodIn_app (goodIn_of _ (by decide +kernel)) ggX2_reasonAgainst_X5_weekCost
set_option maxRecDepth 20000 in
theorem ggX2_reasonAgainst_X1_staySoundWith : GoodIn wsX2_reasonAgainst wsX1_staySoundWith := goodIn_r _ [43, 44, 45, 46, 47, 15, 48, 49, 50, 10, 8, 11, 51, 52, 53, 42, 54, 55, 56, 57, 58, 59, 60, 61, 62, 63, 64, 65, 66, 67, 7, 9, 68, 69, 70, 71, 72, 73, 74, 75, 76, 77, 80, 81, 82, 83, 84, 85, 86, 87, 88, 89, 90, 91, 92, 93] rfl (by decide +kernel)
set_option maxRecDepth 20000 in
theorem gX2_reasonAgainst_X1_staySoundWith : GoodIn wsX2_reasonAgainst (wsV RX2 50 RX1 yX1_staySoundWith wsX1_staySoundWith) := goodIn_app (goodIn_of _ (by decide +kernel)) ggX2_reasonAgainst_X1_staySoundWith
theorem dX2_reasonAgainst_0 : decode cX2_reasonAgainst 0 = .ok (.iload_n 1, 1) := by decide +kernel
theorem dX2_reasonAgainst_1 : decode cX2_reasonAgainst 1 = .ok (.iload_n 2, 1) := by decide +kernel
theorem dX2_reasonAgainst_2 : decode cX2_reasonAgainst 2 = .ok (.invokestatic 19, 3) := by decide +kernel
theorem dX2_reasonAgainst_5 : decode cX2_reasonAgainst 5 = .ok (.istore 4, 2) := by decide +kernel
theorem dX2_reasonAgainst_7 : decode cX2_reasonAgainst 7 = .ok (.aload_n 0, 1) := by decide +kernel
theorem dX2_reasonAgainst_8 : decode cX2_reasonAgainst 8 = .ok (.getfield 9, 3) := by decide +kernel
theorem dX2_reasonAgainst_11 : decode cX2_reasonAgainst 11 = .ok (.getfield 23, 3) := by decide +kernel
theorem dX2_reasonAgainst_14 : decode cX2_reasonAgainst 14 = .ok (.iload 4, 2) := by decide +kernel
theorem dX2_reasonAgainst_16 : decode cX2_reasonAgainst 16 = .ok (.invokestatic 29, 3) := by decide +kernel
theorem dX2_reasonAgainst_19 : decode cX2_reasonAgainst 19 = .ok (.iconst (-1), 1) := by decide +kernel
theorem dX2_reasonAgainst_20 : decode cX2_reasonAgainst 20 = .ok (.if_icmp .eq 5, 3) := by decide +kernel
theorem dX2_reasonAgainst_23 : decode cX2_reasonAgainst 23 = .ok (.iconst 1, 1) := by decide +kernel
theorem dX2_reasonAgainst_24 : decode cX2_reasonAgainst 24 = .ok (.ireturn, 1) := by decide +kernel
theorem dX2_reasonAgainst_25 : decode cX2_reasonAgainst 25 = .ok (.aload_n 0, 1) := by decide +kernel
theorem dX2_reasonAgainst_26 : decode cX2_reasonAgainst 26 = .ok (.getfield 9, 3) := by decide +kernel
theorem dX2_reasonAgainst_29 : decode cX2_reasonAgainst 29 = .ok (.getfield 33, 3) := by decide +kernel
theorem dX2_reasonAgainst_32 : decode cX2_reasonAgainst 32 = .ok (.iload_n 3, 1) := by decide +kernel
theorem dX2_reasonAgainst_33 : decode cX2_reasonAgainst 33 = .ok (.invokestatic 29, 3) := by decide +kernel
theorem dX2_reasonAgainst_36 : decode cX2_reasonAgainst 36 = .ok (.iload_n 2, 1) := by decide +kernel
theorem dX2_reasonAgainst_37 : decode cX2_reasonAgainst 37 = .ok (.if_icmp .eq 5, 3) := by decide +kernel
theorem dX2_reasonAgainst_40 : decode cX2_reasonAgainst 40 = .ok (.iconst 2, 1) := by decide +kernel
theorem dX2_reasonAgainst_41 : decode cX2_reasonAgainst 41 = .ok (.ireturn, 1) := by decide +kernel
theorem dX2_reasonAgainst_42 : decode cX2_reasonAgainst 42 = .ok (.aload_n 0, 1) := by decide +kernel
theorem dX2_reasonAgainst_43 : decode cX2_reasonAgainst 43 = .ok (.getfield 9, 3) := by decide +kernel
theorem dX2_reasonAgainst_46 : decode cX2_reasonAgainst 46 = .ok (.iload_n 1, 1) := by decide +kernel
theorem dX2_reasonAgainst_47 : decode cX2_reasonAgainst 47 = .ok (.iload_n 3, 1) := by decide +kernel
theorem dX2_reasonAgainst_48 : decode cX2_reasonAgainst 48 = .ok (.invokevirtual 36, 3) := by decide +kernel
theorem dX2_reasonAgainst_51 : decode cX2_reasonAgainst 51 = .ok (.ifCond .eq 5, 3) := by decide +kernel
theorem dX2_reasonAgainst_54 : decode cX2_reasonAgainst 54 = .ok (.iconst 3, 1) := by decide +kernel
theorem dX2_reasonAgainst_55 : decode cX2_reasonAgainst 55 = .ok (.ireturn, 1) := by decide +kernel
theorem dX2_reasonAgainst_56 : decode cX2_reasonAgainst 56 = .ok (.aload_n 0, 1) := by decide +kernel
theorem dX2_reasonAgainst_57 : decode cX2_reasonAgainst 57 = .ok (.getfield 9, 3) := by decide +kernel
theorem dX2_reasonAgainst_60 : decode cX2_reasonAgainst 60 = .ok (.iload_n 1, 1) := by decide +kernel
theorem dX2_reasonAgainst_61 : decode cX2_reasonAgainst 61 = .ok (.bipush 7, 2) := by decide +kernel
theorem dX2_reasonAgainst_63 : decode cX2_reasonAgainst 63 = .ok (.idiv, 1) := by decide +kernel
theorem dX2_reasonAgainst_64 : decode cX2_reasonAgainst 64 = .ok (.invokevirtual 40, 3) := by decide +kernel
theorem dX2_reasonAgainst_67 : decode cX2_reasonAgainst 67 = .ok (.aload_n 0, 1) := by decide +kernel
theorem dX2_reasonAgainst_68 : decode cX2_reasonAgainst 68 = .ok (.getfield 9, 3) := by decide +kernel
theorem dX2_reasonAgainst_71 : decode cX2_reasonAgainst 71 = .ok (.getfield 44, 3) := by decide +kernel
theorem dX2_reasonAgainst_74 : decode cX2_reasonAgainst 74 = .ok (.iload_n 3, 1) := by decide +kernel
theorem dX2_reasonAgainst_75 : decode cX2_reasonAgainst 75 = .ok (.invokestatic 29, 3) := by decide +kernel
theorem dX2_reasonAgainst_78 : decode cX2_reasonAgainst 78 = .ok (.iadd, 1) := by decide +kernel
theorem dX2_reasonAgainst_79 : decode cX2_reasonAgainst 79 = .ok (.aload_n 0, 1) := by decide +kernel
theorem dX2_reasonAgainst_80 : decode cX2_reasonAgainst 80 = .ok (.getfield 9, 3) := by decide +kernel
theorem dX2_reasonAgainst_83 : decode cX2_reasonAgainst 83 = .ok (.getfield 47, 3) := by decide +kernel
theorem dX2_reasonAgainst_86 : decode cX2_reasonAgainst 86 = .ok (.iconst 2, 1) := by decide +kernel
theorem dX2_reasonAgainst_87 : decode cX2_reasonAgainst 87 = .ok (.invokestatic 29, 3) := by decide +kernel
theorem dX2_reasonAgainst_90 : decode cX2_reasonAgainst 90 = .ok (.if_icmp .le 5, 3) := by decide +kernel
theorem dX2_reasonAgainst_93 : decode cX2_reasonAgainst 93 = .ok (.iconst 4, 1) := by decide +kernel
theorem dX2_reasonAgainst_94 : decode cX2_reasonAgainst 94 = .ok (.ireturn, 1) := by decide +kernel
theorem dX2_reasonAgainst_95 : decode cX2_reasonAgainst 95 = .ok (.aload_n 0, 1) := by decide +kernel
theorem dX2_reasonAgainst_96 : decode cX2_reasonAgainst 96 = .ok (.getfield 15, 3) := by decide +kernel
theorem dX2_reasonAgainst_99 : decode cX2_reasonAgainst 99 = .ok (.aload_n 0, 1) := by decide +kernel
theorem dX2_reasonAgainst_100 : decode cX2_reasonAgainst 100 = .ok (.getfield 9, 3) := by decide +kernel
theorem dX2_reasonAgainst_103 : decode cX2_reasonAgainst 103 = .ok (.iload 4, 2) := by decide +kernel
theorem dX2_reasonAgainst_105 : decode cX2_reasonAgainst 105 = .ok (.iload_n 3, 1) := by decide +kernel
theorem dX2_reasonAgainst_106 : decode cX2_reasonAgainst 106 = .ok (.invokevirtual 50, 3) := by decide +kernel
theorem dX2_reasonAgainst_109 : decode cX2_reasonAgainst 109 = .ok (.ifCond .eq 7, 3) := by decide +kernel
theorem dX2_reasonAgainst_112 : decode cX2_reasonAgainst 112 = .ok (.iconst 0, 1) := by decide +kernel
theorem dX2_reasonAgainst_113 : decode cX2_reasonAgainst 113 = .ok (.goto 4, 3) := by decide +kernel
theorem dX2_reasonAgainst_116 : decode cX2_reasonAgainst 116 = .ok (.iconst 5, 1) := by decide +kernel
theorem dX2_reasonAgainst_117 : decode cX2_reasonAgainst 117 = .ok (.ireturn, 1) := by decide +kernel
set_option maxRecDepth 20000 in
theorem ggX2_joyOfDish_X2_sameTasteBefore : GoodIn wsX2_joyOfDish wsX2_sameTasteBefore := goodIn_r _ [5, 6, 7, 8, 9, 10, 11, 12, 13, 14, 15, 16, 17, 18, 24, 25, 26, 27, 28, 29, 30, 31, 32, 33, 34, 35, 36, 37] rfl (by decide +kernel)
set_option maxRecDepth 20000 in
theorem gX2_joyOfDish_X2_sameTasteBefore : GoodIn wsX2_joyOfDish (wsV RX2 56 RX2 yX2_sameTasteBefore wsX2_sameTasteBefore) := goodIn_app (goodIn_of _ (by decide +kernel)) ggX2_joyOfDish_X2_sameTasteBefore
set_option maxRecDepth 20000 in
theorem ggX2_joyOfDish_X2_joyLeft : GoodIn wsX2_joyOfDish wsX2_joyLeft := goodIn_r _ [22, 6, 23, 8, 9, 10, 11, 12, 14, 15, 16, 24, 25, 26, 27, 28, 29, 30, 31, 32, 33, 34, 35, 36, 37] rfl (by decide +kernel)
set_option maxRecDepth 20000 in
theorem gX2_joyOfDish_X2_joyLeft : GoodIn wsX2_joyOfDish (wsV RX2 59 RX2 yX2_joyLeft wsX2_joyLeft) := goodIn_app (goodIn_of _ (by decide +kernel)) ggX2_joyOfDish_X2_joyLeft
theorem dX2_joyOfDish_0 : decode cX2_joyOfDish 0 = .ok (.aload_n 0, 1) := by decide +kernel
theorem dX2_joyOfDish_1 : decode cX2_joyOfDish 1 = .ok (.iload_n 2, 1) := by decide +kernel
theorem dX2_joyOfDish_2 : decode cX2_joyOfDish 2 = .ok (.aload_n 0, 1) := by decide +kernel
theorem dX2_joyOfDish_3 : decode cX2_joyOfDish 3 = .ok (.iload_n 1, 1) := by decide +kernel
theorem dX2_joyOfDish_4 : decode cX2_joyOfDish 4 = .ok (.iload_n 2, 1) := by decide +kernel
theorem dX2_joyOfDish_5 : decode cX2_joyOfDish 5 = .ok (.invokevirtual 56, 3) := by decide +kernel
theorem dX2_joyOfDish_8 : decode cX2_joyOfDish 8 = .ok (.invokevirtual 59, 3) := by decide +kernel
theorem dX2_joyOfDish_11 : decode cX2_joyOfDish 11 = .ok (.ireturn, 1) := by decide +kernel
set_option maxRecDepth 20000 in
theorem ggX2_joyLeft_X6_at : GoodIn wsX2_joyLeft wsX6_at := goodIn_r _ [10] rfl (by decide +kernel)
set_option maxRecDepth 20000 in
theorem gX2_joyLeft_X6_at_n29 : GoodIn wsX2_joyLeft (wsX6_at) := ggX2_joyLeft_X6_at
theorem dX2_joyLeft_0 : decode cX2_joyLeft 0 = .ok (.iconst 0, 1) := by decide +kernel
theorem dX2_joyLeft_1 : decode cX2_joyLeft 1 = .ok (.aload_n 0, 1) := by decide +kernel
theorem dX2_joyLeft_2 : decode cX2_joyLeft 2 = .ok (.getfield 9, 3) := by decide +kernel
theorem dX2_joyLeft_5 : decode cX2_joyLeft 5 = .ok (.getfield 62, 3) := by decide +kernel
theorem dX2_joyLeft_8 : decode cX2_joyLeft 8 = .ok (.iload_n 1, 1) := by decide +kernel
theorem dX2_joyLeft_9 : decode cX2_joyLeft 9 = .ok (.invokestatic 29, 3) := by decide +kernel
theorem dX2_joyLeft_12 : decode cX2_joyLeft 12 = .ok (.aload_n 0, 1) := by decide +kernel
theorem dX2_joyLeft_13 : decode cX2_joyLeft 13 = .ok (.getfield 9, 3) := by decide +kernel
theorem dX2_joyLeft_16 : decode cX2_joyLeft 16 = .ok (.getfield 47, 3) := by decide +kernel
theorem dX2_joyLeft_19 : decode cX2_joyLeft 19 = .ok (.iconst 0, 1) := by decide +kernel
theorem dX2_joyLeft_20 : decode cX2_joyLeft 20 = .ok (.invokestatic 29, 3) := by decide +kernel
theorem dX2_joyLeft_23 : decode cX2_joyLeft 23 = .ok (.iload_n 2, 1) := by decide +kernel
theorem dX2_joyLeft_24 : decode cX2_joyLeft 24 = .ok (.imul, 1) := by decide +kernel
theorem dX2_joyLeft_25 : decode cX2_joyLeft 25 = .ok (.isub, 1) := by decide +kernel
theorem dX2_joyLeft_26 : decode cX2_joyLeft 26 = .ok (.invokestatic 65, 3) := by decide +kernel
theorem dX2_joyLeft_29 : decode cX2_joyLeft 29 = .ok (.ireturn, 1) := by decide +kernel
set_option maxRecDepth 20000 in
theorem ggX2_sameTasteBefore_X6_at : GoodIn wsX2_sameTasteBefore wsX6_at := goodIn_r _ [11] rfl (by decide +kernel)
set_option maxRecDepth 20000 in
theorem gX2_sameTasteBefore_X6_at_n29 : GoodIn wsX2_sameTasteBefore (wsX6_at) := ggX2_sameTasteBefore_X6_at
set_option maxRecDepth 20000 in
theorem ggX2_sameTasteBefore_X6_cellOf : GoodIn wsX2_sameTasteBefore wsX6_cellOf := goodIn_r _ [13] rfl (by decide +kernel)
set_option maxRecDepth 20000 in
theorem gX2_sameTasteBefore_X6_cellOf_n19 : GoodIn wsX2_sameTasteBefore (wsX6_cellOf) := ggX2_sameTasteBefore_X6_cellOf
theorem dX2_sameTasteBefore_0 : decode cX2_sameTasteBefore 0 = .ok (.aload_n 0, 1) := by decide +kernel
theorem dX2_sameTasteBefore_1 : decode cX2_sameTasteBefore 1 = .ok (.getfield 9, 3) := by decide +kernel
theorem dX2_sameTasteBefore_4 : decode cX2_sameTasteBefore 4 = .ok (.getfield 70, 3) := by decide +kernel
theorem dX2_sameTasteBefore_7 : decode cX2_sameTasteBefore 7 = .ok (.iload_n 2, 1) := by decide +kernel
theorem dX2_sameTasteBefore_8 : decode cX2_sameTasteBefore 8 = .ok (.invokestatic 29, 3) := by decide +kernel
theorem dX2_sameTasteBefore_11 : decode cX2_sameTasteBefore 11 = .ok (.istore_n 3, 1) := by decide +kernel
theorem dX2_sameTasteBefore_12 : decode cX2_sameTasteBefore 12 = .ok (.iconst 0, 1) := by decide +kernel
theorem dX2_sameTasteBefore_13 : decode cX2_sameTasteBefore 13 = .ok (.iload_n 1, 1) := by decide +kernel
theorem dX2_sameTasteBefore_14 : decode cX2_sameTasteBefore 14 = .ok (.aload_n 0, 1) := by decide +kernel
theorem dX2_sameTasteBefore_15 : decode cX2_sameTasteBefore 15 = .ok (.getfield 9, 3) := by decide +kernel
theorem dX2_sameTasteBefore_18 : decode cX2_sameTasteBefore 18 = .ok (.getfield 47, 3) := by decide +kernel
theorem dX2_sameTasteBefore_21 : decode cX2_sameTasteBefore 21 = .ok (.iconst 1, 1) := by decide +kernel
theorem dX2_sameTasteBefore_22 : decode cX2_sameTasteBefore 22 = .ok (.invokestatic 29, 3) := by decide +kernel
theorem dX2_sameTasteBefore_25 : decode cX2_sameTasteBefore 25 = .ok (.isub, 1) := by decide +kernel
theorem dX2_sameTasteBefore_26 : decode cX2_sameTasteBefore 26 = .ok (.invokestatic 65, 3) := by decide +kernel
theorem dX2_sameTasteBefore_29 : decode cX2_sameTasteBefore 29 = .ok (.iconst 0, 1) := by decide +kernel
theorem dX2_sameTasteBefore_30 : decode cX2_sameTasteBefore 30 = .ok (.invokestatic 19, 3) := by decide +kernel
theorem dX2_sameTasteBefore_33 : decode cX2_sameTasteBefore 33 = .ok (.istore 4, 2) := by decide +kernel
theorem dX2_sameTasteBefore_35 : decode cX2_sameTasteBefore 35 = .ok (.iload_n 1, 1) := by decide +kernel
theorem dX2_sameTasteBefore_36 : decode cX2_sameTasteBefore 36 = .ok (.iconst 0, 1) := by decide +kernel
theorem dX2_sameTasteBefore_37 : decode cX2_sameTasteBefore 37 = .ok (.invokestatic 19, 3) := by decide +kernel
theorem dX2_sameTasteBefore_40 : decode cX2_sameTasteBefore 40 = .ok (.istore 5, 2) := by decide +kernel
theorem dX2_sameTasteBefore_42 : decode cX2_sameTasteBefore 42 = .ok (.iconst 0, 1) := by decide +kernel
theorem dX2_sameTasteBefore_43 : decode cX2_sameTasteBefore 43 = .ok (.istore 6, 2) := by decide +kernel
theorem dX2_sameTasteBefore_45 : decode cX2_sameTasteBefore 45 = .ok (.iload 4, 2) := by decide +kernel
theorem dX2_sameTasteBefore_47 : decode cX2_sameTasteBefore 47 = .ok (.istore 7, 2) := by decide +kernel
theorem dX2_sameTasteBefore_49 : decode cX2_sameTasteBefore 49 = .ok (.iload 7, 2) := by decide +kernel
theorem dX2_sameTasteBefore_51 : decode cX2_sameTasteBefore 51 = .ok (.iload 5, 2) := by decide +kernel
theorem dX2_sameTasteBefore_53 : decode cX2_sameTasteBefore 53 = .ok (.if_icmp .ge 48, 3) := by decide +kernel
theorem dX2_sameTasteBefore_56 : decode cX2_sameTasteBefore 56 = .ok (.aload_n 0, 1) := by decide +kernel
theorem dX2_sameTasteBefore_57 : decode cX2_sameTasteBefore 57 = .ok (.getfield 9, 3) := by decide +kernel
theorem dX2_sameTasteBefore_60 : decode cX2_sameTasteBefore 60 = .ok (.getfield 23, 3) := by decide +kernel
theorem dX2_sameTasteBefore_63 : decode cX2_sameTasteBefore 63 = .ok (.iload 7, 2) := by decide +kernel
theorem dX2_sameTasteBefore_65 : decode cX2_sameTasteBefore 65 = .ok (.invokestatic 29, 3) := by decide +kernel
theorem dX2_sameTasteBefore_68 : decode cX2_sameTasteBefore 68 = .ok (.istore 8, 2) := by decide +kernel
theorem dX2_sameTasteBefore_70 : decode cX2_sameTasteBefore 70 = .ok (.iload 8, 2) := by decide +kernel
theorem dX2_sameTasteBefore_72 : decode cX2_sameTasteBefore 72 = .ok (.iconst (-1), 1) := by decide +kernel
theorem dX2_sameTasteBefore_73 : decode cX2_sameTasteBefore 73 = .ok (.if_icmp .eq 22, 3) := by decide +kernel
theorem dX2_sameTasteBefore_76 : decode cX2_sameTasteBefore 76 = .ok (.aload_n 0, 1) := by decide +kernel
theorem dX2_sameTasteBefore_77 : decode cX2_sameTasteBefore 77 = .ok (.getfield 9, 3) := by decide +kernel
theorem dX2_sameTasteBefore_80 : decode cX2_sameTasteBefore 80 = .ok (.getfield 70, 3) := by decide +kernel
theorem dX2_sameTasteBefore_83 : decode cX2_sameTasteBefore 83 = .ok (.iload 8, 2) := by decide +kernel
theorem dX2_sameTasteBefore_85 : decode cX2_sameTasteBefore 85 = .ok (.invokestatic 29, 3) := by decide +kernel
theorem dX2_sameTasteBefore_88 : decode cX2_sameTasteBefore 88 = .ok (.iload_n 3, 1) := by decide +kernel
theorem dX2_sameTasteBefore_89 : decode cX2_sameTasteBefore 89 = .ok (.if_icmp .ne 6, 3) := by decide +kernel
theorem dX2_sameTasteBefore_92 : decode cX2_sameTasteBefore 92 = .ok (.iinc 6 1, 3) := by decide +kernel
theorem dX2_sameTasteBefore_95 : decode cX2_sameTasteBefore 95 = .ok (.iinc 7 1, 3) := by decide +kernel
theorem dX2_sameTasteBefore_98 : decode cX2_sameTasteBefore 98 = .ok (.goto (-49), 3) := by decide +kernel
theorem dX2_sameTasteBefore_101 : decode cX2_sameTasteBefore 101 = .ok (.iload 6, 2) := by decide +kernel
theorem dX2_sameTasteBefore_103 : decode cX2_sameTasteBefore 103 = .ok (.ireturn, 1) := by decide +kernel
set_option maxRecDepth 20000 in
theorem ggX2_joyOfMeal_X6_cellOf : GoodIn wsX2_joyOfMeal wsX6_cellOf := goodIn_r _ [5] rfl (by decide +kernel)
set_option maxRecDepth 20000 in
theorem gX2_joyOfMeal_X6_cellOf_n19 : GoodIn wsX2_joyOfMeal (wsX6_cellOf) := ggX2_joyOfMeal_X6_cellOf
set_option maxRecDepth 20000 in
theorem ggX2_joyOfMeal_X6_at : GoodIn wsX2_joyOfMeal wsX6_at := goodIn_r _ [7] rfl (by decide +kernel)
set_option maxRecDepth 20000 in
theorem gX2_joyOfMeal_X6_at_n29 : GoodIn wsX2_joyOfMeal (wsX6_at) := ggX2_joyOfMeal_X6_at
set_option maxRecDepth 20000 in
theorem ggX2_joyOfMeal_X2_joyOfDish : GoodIn wsX2_joyOfMeal wsX2_joyOfDish := goodIn_r _ [12, 13, 14, 15, 11, 16, 1, 17, 18, 19, 20, 21, 22, 2, 6, 4, 7, 3, 5, 23, 24, 25, 26, 27, 28, 29, 30, 31, 32, 33, 34, 35, 36, 37, 38, 39, 40, 41] rfl (by decide +kernel)
set_option maxRecDepth 20000 in
theorem gX2_joyOfMeal_X2_joyOfDish : GoodIn wsX2_joyOfMeal (wsV RX2 73 RX2 yX2_joyOfDish wsX2_joyOfDish) := goodIn_app (goodIn_of _ (by decide +kernel)) ggX2_joyOfMeal_X2_joyOfDish
theorem dX2_joyOfMeal_0 : decode cX2_joyOfMeal 0 = .ok (.iconst 0, 1) := by decide +kernel
theorem dX2_joyOfMeal_1 : decode cX2_joyOfMeal 1 = .ok (.istore_n 2, 1) := by decide +kernel
theorem dX2_joyOfMeal_2 : decode cX2_joyOfMeal 2 = .ok (.iconst 0, 1) := by decide +kernel
theorem dX2_joyOfMeal_3 : decode cX2_joyOfMeal 3 = .ok (.istore_n 3, 1) := by decide +kernel
theorem dX2_joyOfMeal_4 : decode cX2_joyOfMeal 4 = .ok (.iload_n 3, 1) := by decide +kernel
theorem dX2_joyOfMeal_5 : decode cX2_joyOfMeal 5 = .ok (.iconst 3, 1) := by decide +kernel
theorem dX2_joyOfMeal_6 : decode cX2_joyOfMeal 6 = .ok (.if_icmp .ge 42, 3) := by decide +kernel
theorem dX2_joyOfMeal_9 : decode cX2_joyOfMeal 9 = .ok (.aload_n 0, 1) := by decide +kernel
theorem dX2_joyOfMeal_10 : decode cX2_joyOfMeal 10 = .ok (.getfield 9, 3) := by decide +kernel
theorem dX2_joyOfMeal_13 : decode cX2_joyOfMeal 13 = .ok (.getfield 23, 3) := by decide +kernel
theorem dX2_joyOfMeal_16 : decode cX2_joyOfMeal 16 = .ok (.iload_n 1, 1) := by decide +kernel
theorem dX2_joyOfMeal_17 : decode cX2_joyOfMeal 17 = .ok (.iload_n 3, 1) := by decide +kernel
theorem dX2_joyOfMeal_18 : decode cX2_joyOfMeal 18 = .ok (.invokestatic 19, 3) := by decide +kernel
theorem dX2_joyOfMeal_21 : decode cX2_joyOfMeal 21 = .ok (.invokestatic 29, 3) := by decide +kernel
theorem dX2_joyOfMeal_24 : decode cX2_joyOfMeal 24 = .ok (.istore 4, 2) := by decide +kernel
theorem dX2_joyOfMeal_26 : decode cX2_joyOfMeal 26 = .ok (.iload 4, 2) := by decide +kernel
theorem dX2_joyOfMeal_28 : decode cX2_joyOfMeal 28 = .ok (.iconst (-1), 1) := by decide +kernel
theorem dX2_joyOfMeal_29 : decode cX2_joyOfMeal 29 = .ok (.if_icmp .eq 13, 3) := by decide +kernel
theorem dX2_joyOfMeal_32 : decode cX2_joyOfMeal 32 = .ok (.iload_n 2, 1) := by decide +kernel
theorem dX2_joyOfMeal_33 : decode cX2_joyOfMeal 33 = .ok (.aload_n 0, 1) := by decide +kernel
theorem dX2_joyOfMeal_34 : decode cX2_joyOfMeal 34 = .ok (.iload_n 1, 1) := by decide +kernel
theorem dX2_joyOfMeal_35 : decode cX2_joyOfMeal 35 = .ok (.iload 4, 2) := by decide +kernel
theorem dX2_joyOfMeal_37 : decode cX2_joyOfMeal 37 = .ok (.invokevirtual 73, 3) := by decide +kernel
theorem dX2_joyOfMeal_40 : decode cX2_joyOfMeal 40 = .ok (.iadd, 1) := by decide +kernel
theorem dX2_joyOfMeal_41 : decode cX2_joyOfMeal 41 = .ok (.istore_n 2, 1) := by decide +kernel
theorem dX2_joyOfMeal_42 : decode cX2_joyOfMeal 42 = .ok (.iinc 3 1, 3) := by decide +kernel
theorem dX2_joyOfMeal_45 : decode cX2_joyOfMeal 45 = .ok (.goto (-41), 3) := by decide +kernel
theorem dX2_joyOfMeal_48 : decode cX2_joyOfMeal 48 = .ok (.iload_n 2, 1) := by decide +kernel
theorem dX2_joyOfMeal_49 : decode cX2_joyOfMeal 49 = .ok (.ireturn, 1) := by decide +kernel
set_option maxRecDepth 20000 in
theorem ggX2_joyOfPlan_X2_joyOfMeal : GoodIn wsX2_joyOfPlan wsX2_joyOfMeal := goodIn_r _ [5, 6, 7, 8, 9, 10, 11, 12, 13, 14, 15, 4, 16, 17, 18, 19, 20, 21, 22, 23, 24, 25, 26, 27, 28, 29, 30, 31, 32, 33, 34, 35, 36, 37, 38, 39, 40, 41, 42, 43, 44, 45] rfl (by decide +kernel)
set_option maxRecDepth 20000 in
theorem gX2_joyOfPlan_X2_joyOfMeal : GoodIn wsX2_joyOfPlan (wsV RX2 76 RX2 yX2_joyOfMeal wsX2_joyOfMeal) := goodIn_app (goodIn_of _ (by decide +kernel)) ggX2_joyOfPlan_X2_joyOfMeal
theorem dX2_joyOfPlan_0 : decode cX2_joyOfPlan 0 = .ok (.iconst 0, 1) := by decide +kernel
theorem dX2_joyOfPlan_1 : decode cX2_joyOfPlan 1 = .ok (.istore_n 1, 1) := by decide +kernel
theorem dX2_joyOfPlan_2 : decode cX2_joyOfPlan 2 = .ok (.iconst 0, 1) := by decide +kernel
theorem dX2_joyOfPlan_3 : decode cX2_joyOfPlan 3 = .ok (.istore_n 2, 1) := by decide +kernel
theorem dX2_joyOfPlan_4 : decode cX2_joyOfPlan 4 = .ok (.iload_n 2, 1) := by decide +kernel
theorem dX2_joyOfPlan_5 : decode cX2_joyOfPlan 5 = .ok (.bipush 28, 2) := by decide +kernel
theorem dX2_joyOfPlan_7 : decode cX2_joyOfPlan 7 = .ok (.if_icmp .ge 17, 3) := by decide +kernel
theorem dX2_joyOfPlan_10 : decode cX2_joyOfPlan 10 = .ok (.iload_n 1, 1) := by decide +kernel
theorem dX2_joyOfPlan_11 : decode cX2_joyOfPlan 11 = .ok (.aload_n 0, 1) := by decide +kernel
theorem dX2_joyOfPlan_12 : decode cX2_joyOfPlan 12 = .ok (.iload_n 2, 1) := by decide +kernel
theorem dX2_joyOfPlan_13 : decode cX2_joyOfPlan 13 = .ok (.invokevirtual 76, 3) := by decide +kernel
theorem dX2_joyOfPlan_16 : decode cX2_joyOfPlan 16 = .ok (.iadd, 1) := by decide +kernel
theorem dX2_joyOfPlan_17 : decode cX2_joyOfPlan 17 = .ok (.istore_n 1, 1) := by decide +kernel
theorem dX2_joyOfPlan_18 : decode cX2_joyOfPlan 18 = .ok (.iinc 2 1, 3) := by decide +kernel
theorem dX2_joyOfPlan_21 : decode cX2_joyOfPlan 21 = .ok (.goto (-17), 3) := by decide +kernel
theorem dX2_joyOfPlan_24 : decode cX2_joyOfPlan 24 = .ok (.iload_n 1, 1) := by decide +kernel
theorem dX2_joyOfPlan_25 : decode cX2_joyOfPlan 25 = .ok (.ireturn, 1) := by decide +kernel
set_option maxRecDepth 20000 in
theorem ggX2_bestDish_X2_reasonAgainst : GoodIn wsX2_bestDish wsX2_reasonAgainst := goodIn_r _ [7, 1, 8, 9, 10, 11, 12, 13, 14, 15, 16, 17, 18, 19, 20, 21, 22, 23, 24, 25, 26, 27, 28, 29, 30, 31, 32, 33, 34, 35, 36, 37, 38, 39, 40, 41, 42, 43, 44, 45, 46, 47, 48, 49, 50, 51, 52, 53, 54, 55, 56, 57, 58, 59, 60, 61, 62, 63, 64, 65, 66, 67, 68, 69, 70, 71, 72, 73, 74, 75, 76, 77, 78, 79, 80, 81, 82, 83, 103, 104, 105, 106, 107, 108, 109, 110, 111, 112, 113, 114, 115, 116, 117, 118] rfl (by decide +kernel)
set_option maxRecDepth 20000 in
theorem gX2_bestDish_X2_reasonAgainst : GoodIn wsX2_bestDish (wsV RX2 83 RX2 yX2_reasonAgainst wsX2_reasonAgainst) := goodIn_app (goodIn_of _ (by decide +kernel)) ggX2_bestDish_X2_reasonAgainst
set_option maxRecDepth 20000 in
theorem ggX2_bestDish_X2_isBetter : GoodIn wsX2_bestDish wsX2_isBetter := goodIn_r _ [87, 1, 10, 88, 89, 90, 6, 91, 92, 93, 94, 95, 96, 11, 97, 79, 80, 81, 8, 16, 14, 17, 13, 15, 98, 99, 100, 101, 102, 103, 104, 105, 106, 107, 108, 109, 110, 111, 112, 113, 114, 115, 116] rfl (by decide +kernel)
set_option maxRecDepth 20000 in
theorem gX2_bestDish_X2_isBetter : GoodIn wsX2_bestDish (wsV RX2 87 RX2 yX2_isBetter wsX2_isBetter) := goodIn_app (goodIn_of _ (by decide +kernel)) ggX2_bestDish_X2_isBetter
theorem dX2_bestDish_0 : decode cX2_bestDish 0 = .ok (.iconst (-1), 1) := by decide +kernel
theorem dX2_bestDish_1 : decode cX2_bestDish 1 = .ok (.istore_n 3, 1) := by decide +kernel
theorem dX2_bestDish_2 : decode cX2_bestDish 2 = .ok (.iconst 0, 1) := by decide +kernel
theorem dX2_bestDish_3 : decode cX2_bestDish 3 = .ok (.istore 4, 2) := by decide +kernel
theorem dX2_bestDish_5 : decode cX2_bestDish 5 = .ok (.iload 4, 2) := by decide +kernel
theorem dX2_bestDish_7 : decode cX2_bestDish 7 = .ok (.aload_n 0, 1) := by decide +kernel
theorem dX2_bestDish_8 : decode cX2_bestDish 8 = .ok (.getfield 9, 3) := by decide +kernel
theorem dX2_bestDish_11 : decode cX2_bestDish 11 = .ok (.getfield 79, 3) := by decide +kernel
theorem dX2_bestDish_14 : decode cX2_bestDish 14 = .ok (.if_icmp .ge 39, 3) := by decide +kernel
theorem dX2_bestDish_17 : decode cX2_bestDish 17 = .ok (.aload_n 0, 1) := by decide +kernel
theorem dX2_bestDish_18 : decode cX2_bestDish 18 = .ok (.iload_n 1, 1) := by decide +kernel
theorem dX2_bestDish_19 : decode cX2_bestDish 19 = .ok (.iload_n 2, 1) := by decide +kernel
theorem dX2_bestDish_20 : decode cX2_bestDish 20 = .ok (.iload 4, 2) := by decide +kernel
theorem dX2_bestDish_22 : decode cX2_bestDish 22 = .ok (.invokevirtual 83, 3) := by decide +kernel
theorem dX2_bestDish_25 : decode cX2_bestDish 25 = .ok (.ifCond .ne 22, 3) := by decide +kernel
theorem dX2_bestDish_28 : decode cX2_bestDish 28 = .ok (.iload_n 3, 1) := by decide +kernel
theorem dX2_bestDish_29 : decode cX2_bestDish 29 = .ok (.iconst (-1), 1) := by decide +kernel
theorem dX2_bestDish_30 : decode cX2_bestDish 30 = .ok (.if_icmp .eq 14, 3) := by decide +kernel
theorem dX2_bestDish_33 : decode cX2_bestDish 33 = .ok (.aload_n 0, 1) := by decide +kernel
theorem dX2_bestDish_34 : decode cX2_bestDish 34 = .ok (.iload_n 1, 1) := by decide +kernel
theorem dX2_bestDish_35 : decode cX2_bestDish 35 = .ok (.iload 4, 2) := by decide +kernel
theorem dX2_bestDish_37 : decode cX2_bestDish 37 = .ok (.iload_n 3, 1) := by decide +kernel
theorem dX2_bestDish_38 : decode cX2_bestDish 38 = .ok (.invokevirtual 87, 3) := by decide +kernel
theorem dX2_bestDish_41 : decode cX2_bestDish 41 = .ok (.ifCond .eq 6, 3) := by decide +kernel
theorem dX2_bestDish_44 : decode cX2_bestDish 44 = .ok (.iload 4, 2) := by decide +kernel
theorem dX2_bestDish_46 : decode cX2_bestDish 46 = .ok (.istore_n 3, 1) := by decide +kernel
theorem dX2_bestDish_47 : decode cX2_bestDish 47 = .ok (.iinc 4 1, 3) := by decide +kernel
theorem dX2_bestDish_50 : decode cX2_bestDish 50 = .ok (.goto (-45), 3) := by decide +kernel
theorem dX2_bestDish_53 : decode cX2_bestDish 53 = .ok (.iload_n 3, 1) := by decide +kernel
theorem dX2_bestDish_54 : decode cX2_bestDish 54 = .ok (.ireturn, 1) := by decide +kernel
set_option maxRecDepth 20000 in
theorem ggX2_isBetter_X2_joyOfDish : GoodIn wsX2_isBetter wsX2_joyOfDish := goodIn_r _ [7, 8, 9, 10, 6, 11, 1, 12, 13, 14, 15, 16, 17, 18, 19, 20, 21, 22, 23, 24, 25, 26, 27, 28, 29, 30, 31, 32, 33, 34, 35, 36, 37, 38, 39, 40, 41, 42] rfl (by decide +kernel)
set_option maxRecDepth 20000 in
theorem gX2_isBetter_X2_joyOfDish : GoodIn wsX2_isBetter (wsV RX2 73 RX2 yX2_joyOfDish wsX2_joyOfDish) := goodIn_app (goodIn_of _ (by decide +kernel)) ggX2_isBetter_X2_joyOfDish
set_option maxRecDepth 20000 in
theorem ggX2_isBetter_X6_at : GoodIn wsX2_isBetter wsX6_at := goodIn_r _ [21] rfl (by decide +kernel)
set_option maxRecDepth 20000 in
theorem gX2_isBetter_X6_at_n29 : GoodIn wsX2_isBetter (wsX6_at) := ggX2_isBetter_X6_at
theorem dX2_isBetter_0 : decode cX2_isBetter 0 = .ok (.aload_n 0, 1) := by decide +kernel
theorem dX2_isBetter_1 : decode cX2_isBetter 1 = .ok (.iload_n 1, 1) := by decide +kernel
theorem dX2_isBetter_2 : decode cX2_isBetter 2 = .ok (.iload_n 2, 1) := by decide +kernel
theorem dX2_isBetter_3 : decode cX2_isBetter 3 = .ok (.invokevirtual 73, 3) := by decide +kernel
theorem dX2_isBetter_6 : decode cX2_isBetter 6 = .ok (.aload_n 0, 1) := by decide +kernel
theorem dX2_isBetter_7 : decode cX2_isBetter 7 = .ok (.iload_n 1, 1) := by decide +kernel
theorem dX2_isBetter_8 : decode cX2_isBetter 8 = .ok (.iload_n 3, 1) := by decide +kernel
theorem dX2_isBetter_9 : decode cX2_isBetter 9 = .ok (.invokevirtual 73, 3) := by decide +kernel
theorem dX2_isBetter_12 : decode cX2_isBetter 12 = .ok (.isub, 1) := by decide +kernel
theorem dX2_isBetter_13 : decode cX2_isBetter 13 = .ok (.istore 4, 2) := by decide +kernel
theorem dX2_isBetter_15 : decode cX2_isBetter 15 = .ok (.iload 4, 2) := by decide +kernel
theorem dX2_isBetter_17 : decode cX2_isBetter 17 = .ok (.ifCond .gt 33, 3) := by decide +kernel
theorem dX2_isBetter_20 : decode cX2_isBetter 20 = .ok (.iload 4, 2) := by decide +kernel
theorem dX2_isBetter_22 : decode cX2_isBetter 22 = .ok (.ifCond .ne 32, 3) := by decide +kernel
theorem dX2_isBetter_25 : decode cX2_isBetter 25 = .ok (.aload_n 0, 1) := by decide +kernel
theorem dX2_isBetter_26 : decode cX2_isBetter 26 = .ok (.getfield 9, 3) := by decide +kernel
theorem dX2_isBetter_29 : decode cX2_isBetter 29 = .ok (.getfield 44, 3) := by decide +kernel
theorem dX2_isBetter_32 : decode cX2_isBetter 32 = .ok (.iload_n 2, 1) := by decide +kernel
theorem dX2_isBetter_33 : decode cX2_isBetter 33 = .ok (.invokestatic 29, 3) := by decide +kernel
theorem dX2_isBetter_36 : decode cX2_isBetter 36 = .ok (.aload_n 0, 1) := by decide +kernel
theorem dX2_isBetter_37 : decode cX2_isBetter 37 = .ok (.getfield 9, 3) := by decide +kernel
theorem dX2_isBetter_40 : decode cX2_isBetter 40 = .ok (.getfield 44, 3) := by decide +kernel
theorem dX2_isBetter_43 : decode cX2_isBetter 43 = .ok (.iload_n 3, 1) := by decide +kernel
theorem dX2_isBetter_44 : decode cX2_isBetter 44 = .ok (.invokestatic 29, 3) := by decide +kernel
theorem dX2_isBetter_47 : decode cX2_isBetter 47 = .ok (.if_icmp .ge 7, 3) := by decide +kernel
theorem dX2_isBetter_50 : decode cX2_isBetter 50 = .ok (.iconst 1, 1) := by decide +kernel
theorem dX2_isBetter_51 : decode cX2_isBetter 51 = .ok (.goto 4, 3) := by decide +kernel
theorem dX2_isBetter_54 : decode cX2_isBetter 54 = .ok (.iconst 0, 1) := by decide +kernel
theorem dX2_isBetter_55 : decode cX2_isBetter 55 = .ok (.ireturn, 1) := by decide +kernel
set_option maxRecDepth 20000 in
theorem ggX2_growth_X2_joyOfDish : GoodIn wsX2_growth wsX2_joyOfDish := goodIn_r _ [13, 14, 15, 16, 12, 17, 1, 2, 3, 18, 19, 6, 20, 8, 21, 22, 23, 24, 25, 26, 27, 28, 29, 30, 31, 32, 33, 34, 35, 36, 37, 38, 39, 40, 41, 42, 43, 44] rfl (by decide +kernel)
set_option maxRecDepth 20000 in
theorem gX2_growth_X2_joyOfDish : GoodIn wsX2_growth (wsV RX2 73 RX2 yX2_joyOfDish wsX2_joyOfDish) := goodIn_app (goodIn_of _ (by decide +kernel)) ggX2_growth_X2_joyOfDish
set_option maxRecDepth 20000 in
theorem ggX2_growth_X6_at : GoodIn wsX2_growth wsX6_at := goodIn_r _ [23] rfl (by decide +kernel)
set_option maxRecDepth 20000 in
theorem gX2_growth_X6_at_n29 : GoodIn wsX2_growth (wsX6_at) := ggX2_growth_X6_at
set_option maxRecDepth 20000 in
theorem ggX2_growth_X6_cellOf : GoodIn wsX2_growth wsX6_cellOf := goodIn_r _ [25] rfl (by decide +kernel)
set_option maxRecDepth 20000 in
theorem gX2_growth_X6_cellOf_n19 : GoodIn wsX2_growth (wsX6_cellOf) := ggX2_growth_X6_cellOf
set_option maxRecDepth 20000 in
theorem ggX2_growth_X2_sameTasteBefore : GoodIn wsX2_growth wsX2_sameTasteBefore := goodIn_r _ [17, 1, 2, 3, 18, 19, 6, 20, 8, 21, 22, 23, 24, 25, 31, 32, 33, 34, 35, 36, 37, 38, 39, 40, 41, 42, 43, 44] rfl (by decide +kernel)
set_option maxRecDepth 20000 in
theorem gX2_growth_X2_sameTasteBefore : GoodIn wsX2_growth (wsV RX2 56 RX2 yX2_sameTasteBefore wsX2_sameTasteBefore) := goodIn_app (goodIn_of _ (by decide +kernel)) ggX2_growth_X2_sameTasteBefore
set_option maxRecDepth 20000 in
theorem ggX2_growth_X2_joyLeft : GoodIn wsX2_growth wsX2_joyLeft := goodIn_r _ [29, 1, 30, 3, 18, 19, 6, 20, 21, 22, 23, 31, 32, 33, 34, 35, 36, 37, 38, 39, 40, 41, 42, 43, 44] rfl (by decide +kernel)
set_option maxRecDepth 20000 in
theorem gX2_growth_X2_joyLeft : GoodIn wsX2_growth (wsV RX2 59 RX2 yX2_joyLeft wsX2_joyLeft) := goodIn_app (goodIn_of _ (by decide +kernel)) ggX2_growth_X2_joyLeft
theorem dX2_growth_0 : decode cX2_growth 0 = .ok (.aload_n 0, 1) := by decide +kernel
theorem dX2_growth_1 : decode cX2_growth 1 = .ok (.iload_n 1, 1) := by decide +kernel
theorem dX2_growth_2 : decode cX2_growth 2 = .ok (.iload_n 2, 1) := by decide +kernel
theorem dX2_growth_3 : decode cX2_growth 3 = .ok (.invokevirtual 73, 3) := by decide +kernel
theorem dX2_growth_6 : decode cX2_growth 6 = .ok (.istore_n 3, 1) := by decide +kernel
theorem dX2_growth_7 : decode cX2_growth 7 = .ok (.aload_n 0, 1) := by decide +kernel
theorem dX2_growth_8 : decode cX2_growth 8 = .ok (.getfield 9, 3) := by decide +kernel
theorem dX2_growth_11 : decode cX2_growth 11 = .ok (.getfield 70, 3) := by decide +kernel
theorem dX2_growth_14 : decode cX2_growth 14 = .ok (.iload_n 2, 1) := by decide +kernel
theorem dX2_growth_15 : decode cX2_growth 15 = .ok (.invokestatic 29, 3) := by decide +kernel
theorem dX2_growth_18 : decode cX2_growth 18 = .ok (.istore 4, 2) := by decide +kernel
theorem dX2_growth_20 : decode cX2_growth 20 = .ok (.iload_n 1, 1) := by decide +kernel
theorem dX2_growth_21 : decode cX2_growth 21 = .ok (.iconst 1, 1) := by decide +kernel
theorem dX2_growth_22 : decode cX2_growth 22 = .ok (.iadd, 1) := by decide +kernel
theorem dX2_growth_23 : decode cX2_growth 23 = .ok (.iconst 0, 1) := by decide +kernel
theorem dX2_growth_24 : decode cX2_growth 24 = .ok (.invokestatic 19, 3) := by decide +kernel
theorem dX2_growth_27 : decode cX2_growth 27 = .ok (.istore 5, 2) := by decide +kernel
theorem dX2_growth_29 : decode cX2_growth 29 = .ok (.bipush 28, 2) := by decide +kernel
theorem dX2_growth_31 : decode cX2_growth 31 = .ok (.iload_n 1, 1) := by decide +kernel
theorem dX2_growth_32 : decode cX2_growth 32 = .ok (.aload_n 0, 1) := by decide +kernel
theorem dX2_growth_33 : decode cX2_growth 33 = .ok (.getfield 9, 3) := by decide +kernel
theorem dX2_growth_36 : decode cX2_growth 36 = .ok (.getfield 47, 3) := by decide +kernel
theorem dX2_growth_39 : decode cX2_growth 39 = .ok (.iconst 1, 1) := by decide +kernel
theorem dX2_growth_40 : decode cX2_growth 40 = .ok (.invokestatic 29, 3) := by decide +kernel
theorem dX2_growth_43 : decode cX2_growth 43 = .ok (.iadd, 1) := by decide +kernel
theorem dX2_growth_44 : decode cX2_growth 44 = .ok (.iconst 1, 1) := by decide +kernel
theorem dX2_growth_45 : decode cX2_growth 45 = .ok (.iadd, 1) := by decide +kernel
theorem dX2_growth_46 : decode cX2_growth 46 = .ok (.invokestatic 91, 3) := by decide +kernel
theorem dX2_growth_49 : decode cX2_growth 49 = .ok (.iconst 0, 1) := by decide +kernel
theorem dX2_growth_50 : decode cX2_growth 50 = .ok (.invokestatic 19, 3) := by decide +kernel
theorem dX2_growth_53 : decode cX2_growth 53 = .ok (.istore 6, 2) := by decide +kernel
theorem dX2_growth_55 : decode cX2_growth 55 = .ok (.iload 5, 2) := by decide +kernel
theorem dX2_growth_57 : decode cX2_growth 57 = .ok (.istore 7, 2) := by decide +kernel
theorem dX2_growth_59 : decode cX2_growth 59 = .ok (.iload 7, 2) := by decide +kernel
theorem dX2_growth_61 : decode cX2_growth 61 = .ok (.iload 6, 2) := by decide +kernel
theorem dX2_growth_63 : decode cX2_growth 63 = .ok (.if_icmp .ge 80, 3) := by decide +kernel
theorem dX2_growth_66 : decode cX2_growth 66 = .ok (.aload_n 0, 1) := by decide +kernel
theorem dX2_growth_67 : decode cX2_growth 67 = .ok (.getfield 9, 3) := by decide +kernel
theorem dX2_growth_70 : decode cX2_growth 70 = .ok (.getfield 23, 3) := by decide +kernel
theorem dX2_growth_73 : decode cX2_growth 73 = .ok (.iload 7, 2) := by decide +kernel
theorem dX2_growth_75 : decode cX2_growth 75 = .ok (.invokestatic 29, 3) := by decide +kernel
theorem dX2_growth_78 : decode cX2_growth 78 = .ok (.istore 8, 2) := by decide +kernel
theorem dX2_growth_80 : decode cX2_growth 80 = .ok (.iload 8, 2) := by decide +kernel
theorem dX2_growth_82 : decode cX2_growth 82 = .ok (.iconst (-1), 1) := by decide +kernel
theorem dX2_growth_83 : decode cX2_growth 83 = .ok (.if_icmp .eq 54, 3) := by decide +kernel
theorem dX2_growth_86 : decode cX2_growth 86 = .ok (.aload_n 0, 1) := by decide +kernel
theorem dX2_growth_87 : decode cX2_growth 87 = .ok (.getfield 9, 3) := by decide +kernel
theorem dX2_growth_90 : decode cX2_growth 90 = .ok (.getfield 70, 3) := by decide +kernel
theorem dX2_growth_93 : decode cX2_growth 93 = .ok (.iload 8, 2) := by decide +kernel
theorem dX2_growth_95 : decode cX2_growth 95 = .ok (.invokestatic 29, 3) := by decide +kernel
theorem dX2_growth_98 : decode cX2_growth 98 = .ok (.iload 4, 2) := by decide +kernel
theorem dX2_growth_100 : decode cX2_growth 100 = .ok (.if_icmp .ne 37, 3) := by decide +kernel
theorem dX2_growth_103 : decode cX2_growth 103 = .ok (.aload_n 0, 1) := by decide +kernel
theorem dX2_growth_104 : decode cX2_growth 104 = .ok (.iload 7, 2) := by decide +kernel
theorem dX2_growth_106 : decode cX2_growth 106 = .ok (.iconst 3, 1) := by decide +kernel
theorem dX2_growth_107 : decode cX2_growth 107 = .ok (.idiv, 1) := by decide +kernel
theorem dX2_growth_108 : decode cX2_growth 108 = .ok (.iload 8, 2) := by decide +kernel
theorem dX2_growth_110 : decode cX2_growth 110 = .ok (.invokevirtual 56, 3) := by decide +kernel
theorem dX2_growth_113 : decode cX2_growth 113 = .ok (.istore 9, 2) := by decide +kernel
theorem dX2_growth_115 : decode cX2_growth 115 = .ok (.iload_n 3, 1) := by decide +kernel
theorem dX2_growth_116 : decode cX2_growth 116 = .ok (.aload_n 0, 1) := by decide +kernel
theorem dX2_growth_117 : decode cX2_growth 117 = .ok (.iload 8, 2) := by decide +kernel
theorem dX2_growth_119 : decode cX2_growth 119 = .ok (.iload 9, 2) := by decide +kernel
theorem dX2_growth_121 : decode cX2_growth 121 = .ok (.iconst 1, 1) := by decide +kernel
theorem dX2_growth_122 : decode cX2_growth 122 = .ok (.iadd, 1) := by decide +kernel
theorem dX2_growth_123 : decode cX2_growth 123 = .ok (.invokevirtual 59, 3) := by decide +kernel
theorem dX2_growth_126 : decode cX2_growth 126 = .ok (.aload_n 0, 1) := by decide +kernel
theorem dX2_growth_127 : decode cX2_growth 127 = .ok (.iload 8, 2) := by decide +kernel
theorem dX2_growth_129 : decode cX2_growth 129 = .ok (.iload 9, 2) := by decide +kernel
theorem dX2_growth_131 : decode cX2_growth 131 = .ok (.invokevirtual 59, 3) := by decide +kernel
theorem dX2_growth_134 : decode cX2_growth 134 = .ok (.isub, 1) := by decide +kernel
theorem dX2_growth_135 : decode cX2_growth 135 = .ok (.iadd, 1) := by decide +kernel
theorem dX2_growth_136 : decode cX2_growth 136 = .ok (.istore_n 3, 1) := by decide +kernel
theorem dX2_growth_137 : decode cX2_growth 137 = .ok (.iinc 7 1, 3) := by decide +kernel
theorem dX2_growth_140 : decode cX2_growth 140 = .ok (.goto (-81), 3) := by decide +kernel
theorem dX2_growth_143 : decode cX2_growth 143 = .ok (.iload_n 3, 1) := by decide +kernel
theorem dX2_growth_144 : decode cX2_growth 144 = .ok (.ireturn, 1) := by decide +kernel
set_option maxRecDepth 20000 in
theorem ggX2_bestDayOf_X6_at : GoodIn wsX2_bestDayOf wsX6_at := goodIn_r _ [5] rfl (by decide +kernel)
set_option maxRecDepth 20000 in
theorem gX2_bestDayOf_X6_at_n29 : GoodIn wsX2_bestDayOf (wsX6_at) := ggX2_bestDayOf_X6_at
set_option maxRecDepth 20000 in
theorem ggX2_bestDayOf_X2_reasonAgainst : GoodIn wsX2_bestDayOf wsX2_reasonAgainst := goodIn_r _ [10, 1, 11, 2, 12, 13, 14, 15, 4, 16, 3, 5, 17, 18, 19, 20, 21, 22, 23, 24, 25, 26, 27, 28, 29, 30, 31, 32, 33, 34, 35, 36, 37, 38, 39, 40, 41, 42, 43, 44, 45, 46, 47, 48, 49, 50, 51, 52, 53, 54, 55, 56, 57, 58, 59, 60, 61, 62, 63, 64, 65, 66, 67, 68, 69, 70, 71, 72, 73, 74, 75, 76, 77, 78, 79, 80, 81, 82, 105, 106, 107, 108, 109, 110, 111, 112, 113, 114, 115, 116, 117, 118, 119, 120] rfl (by decide +kernel)
set_option maxRecDepth 20000 in
theorem gX2_bestDayOf_X2_reasonAgainst : GoodIn wsX2_bestDayOf (wsV RX2 83 RX2 yX2_reasonAgainst wsX2_reasonAgainst) := goodIn_app (goodIn_of _ (by decide +kernel)) ggX2_bestDayOf_X2_reasonAgainst
set_option maxRecDepth 20000 in
theorem ggX2_bestDayOf_X2_growth : GoodIn wsX2_bestDayOf wsX2_growth := goodIn_r _ [86, 1, 87, 13, 88, 89, 79, 90, 11, 91, 92, 93, 9, 94, 95, 96, 97, 98, 99, 78, 80, 3, 4, 5, 15, 16, 100, 101, 102, 103, 104, 105, 106, 107, 108, 109, 110, 111, 112, 113, 114, 115, 116, 117, 118] rfl (by decide +kernel)
set_option maxRecDepth 20000 in
theorem gX2_bestDayOf_X2_growth : GoodIn wsX2_bestDayOf (wsV RX2 94 RX2 yX2_growth wsX2_growth) := goodIn_app (goodIn_of _ (by decide +kernel)) ggX2_bestDayOf_X2_growth
theorem dX2_bestDayOf_0 : decode cX2_bestDayOf 0 = .ok (.aload_n 0, 1) := by decide +kernel
theorem dX2_bestDayOf_1 : decode cX2_bestDayOf 1 = .ok (.getfield 9, 3) := by decide +kernel
theorem dX2_bestDayOf_4 : decode cX2_bestDayOf 4 = .ok (.getfield 33, 3) := by decide +kernel
theorem dX2_bestDayOf_7 : decode cX2_bestDayOf 7 = .ok (.iload_n 1, 1) := by decide +kernel
theorem dX2_bestDayOf_8 : decode cX2_bestDayOf 8 = .ok (.invokestatic 29, 3) := by decide +kernel
theorem dX2_bestDayOf_11 : decode cX2_bestDayOf 11 = .ok (.istore_n 2, 1) := by decide +kernel
theorem dX2_bestDayOf_12 : decode cX2_bestDayOf 12 = .ok (.iconst (-1), 1) := by decide +kernel
theorem dX2_bestDayOf_13 : decode cX2_bestDayOf 13 = .ok (.istore_n 3, 1) := by decide +kernel
theorem dX2_bestDayOf_14 : decode cX2_bestDayOf 14 = .ok (.iconst 0, 1) := by decide +kernel
theorem dX2_bestDayOf_15 : decode cX2_bestDayOf 15 = .ok (.istore 4, 2) := by decide +kernel
theorem dX2_bestDayOf_17 : decode cX2_bestDayOf 17 = .ok (.iconst 0, 1) := by decide +kernel
theorem dX2_bestDayOf_18 : decode cX2_bestDayOf 18 = .ok (.istore 5, 2) := by decide +kernel
theorem dX2_bestDayOf_20 : decode cX2_bestDayOf 20 = .ok (.iload 5, 2) := by decide +kernel
theorem dX2_bestDayOf_22 : decode cX2_bestDayOf 22 = .ok (.bipush 28, 2) := by decide +kernel
theorem dX2_bestDayOf_24 : decode cX2_bestDayOf 24 = .ok (.if_icmp .ge 48, 3) := by decide +kernel
theorem dX2_bestDayOf_27 : decode cX2_bestDayOf 27 = .ok (.aload_n 0, 1) := by decide +kernel
theorem dX2_bestDayOf_28 : decode cX2_bestDayOf 28 = .ok (.iload 5, 2) := by decide +kernel
theorem dX2_bestDayOf_30 : decode cX2_bestDayOf 30 = .ok (.iload_n 2, 1) := by decide +kernel
theorem dX2_bestDayOf_31 : decode cX2_bestDayOf 31 = .ok (.iload_n 1, 1) := by decide +kernel
theorem dX2_bestDayOf_32 : decode cX2_bestDayOf 32 = .ok (.invokevirtual 83, 3) := by decide +kernel
theorem dX2_bestDayOf_35 : decode cX2_bestDayOf 35 = .ok (.ifCond .ne 31, 3) := by decide +kernel
theorem dX2_bestDayOf_38 : decode cX2_bestDayOf 38 = .ok (.aload_n 0, 1) := by decide +kernel
theorem dX2_bestDayOf_39 : decode cX2_bestDayOf 39 = .ok (.iload 5, 2) := by decide +kernel
theorem dX2_bestDayOf_41 : decode cX2_bestDayOf 41 = .ok (.iload_n 1, 1) := by decide +kernel
theorem dX2_bestDayOf_42 : decode cX2_bestDayOf 42 = .ok (.invokevirtual 94, 3) := by decide +kernel
theorem dX2_bestDayOf_45 : decode cX2_bestDayOf 45 = .ok (.istore 6, 2) := by decide +kernel
theorem dX2_bestDayOf_47 : decode cX2_bestDayOf 47 = .ok (.iload_n 3, 1) := by decide +kernel
theorem dX2_bestDayOf_48 : decode cX2_bestDayOf 48 = .ok (.iconst (-1), 1) := by decide +kernel
theorem dX2_bestDayOf_49 : decode cX2_bestDayOf 49 = .ok (.if_icmp .eq 10, 3) := by decide +kernel
theorem dX2_bestDayOf_52 : decode cX2_bestDayOf 52 = .ok (.iload 6, 2) := by decide +kernel
theorem dX2_bestDayOf_54 : decode cX2_bestDayOf 54 = .ok (.iload 4, 2) := by decide +kernel
theorem dX2_bestDayOf_56 : decode cX2_bestDayOf 56 = .ok (.if_icmp .le 10, 3) := by decide +kernel
theorem dX2_bestDayOf_59 : decode cX2_bestDayOf 59 = .ok (.iload 5, 2) := by decide +kernel
theorem dX2_bestDayOf_61 : decode cX2_bestDayOf 61 = .ok (.istore_n 3, 1) := by decide +kernel
theorem dX2_bestDayOf_62 : decode cX2_bestDayOf 62 = .ok (.iload 6, 2) := by decide +kernel
theorem dX2_bestDayOf_64 : decode cX2_bestDayOf 64 = .ok (.istore 4, 2) := by decide +kernel
theorem dX2_bestDayOf_66 : decode cX2_bestDayOf 66 = .ok (.iinc 5 1, 3) := by decide +kernel
theorem dX2_bestDayOf_69 : decode cX2_bestDayOf 69 = .ok (.goto (-49), 3) := by decide +kernel
theorem dX2_bestDayOf_72 : decode cX2_bestDayOf 72 = .ok (.iload_n 3, 1) := by decide +kernel
theorem dX2_bestDayOf_73 : decode cX2_bestDayOf 73 = .ok (.ireturn, 1) := by decide +kernel
theorem dX3_init_0 : decode cX3_init 0 = .ok (.aload_n 0, 1) := by decide +kernel
theorem dX3_init_1 : decode cX3_init 1 = .ok (.invokespecial 3, 3) := by decide +kernel
theorem dX3_init_4 : decode cX3_init 4 = .ok (.aload_n 0, 1) := by decide +kernel
theorem dX3_init_5 : decode cX3_init 5 = .ok (.bipush 60, 2) := by decide +kernel
theorem dX3_init_7 : decode cX3_init 7 = .ok (.newarray .int, 2) := by decide +kernel
theorem dX3_init_9 : decode cX3_init 9 = .ok (.putfield 9, 3) := by decide +kernel
theorem dX3_init_12 : decode cX3_init 12 = .ok (.aload_n 0, 1) := by decide +kernel
theorem dX3_init_13 : decode cX3_init 13 = .ok (.iconst 0, 1) := by decide +kernel
theorem dX3_init_14 : decode cX3_init 14 = .ok (.putfield 15, 3) := by decide +kernel
theorem dX3_init_17 : decode cX3_init 17 = .ok (.return_, 1) := by decide +kernel
set_option maxRecDepth 20000 in
theorem ggX3_addCode_X6_put : GoodIn wsX3_addCode wsX6_put := goodIn_r _ [5] rfl (by decide +kernel)
set_option maxRecDepth 20000 in
theorem gX3_addCode_X6_put_n19 : GoodIn wsX3_addCode (wsX6_put) := ggX3_addCode_X6_put
theorem dX3_addCode_0 : decode cX3_addCode 0 = .ok (.aload_n 0, 1) := by decide +kernel
theorem dX3_addCode_1 : decode cX3_addCode 1 = .ok (.getfield 9, 3) := by decide +kernel
theorem dX3_addCode_4 : decode cX3_addCode 4 = .ok (.aload_n 0, 1) := by decide +kernel
theorem dX3_addCode_5 : decode cX3_addCode 5 = .ok (.getfield 15, 3) := by decide +kernel
theorem dX3_addCode_8 : decode cX3_addCode 8 = .ok (.iload_n 1, 1) := by decide +kernel
theorem dX3_addCode_9 : decode cX3_addCode 9 = .ok (.invokestatic 19, 3) := by decide +kernel
theorem dX3_addCode_12 : decode cX3_addCode 12 = .ok (.aload_n 0, 1) := by decide +kernel
theorem dX3_addCode_13 : decode cX3_addCode 13 = .ok (.dup, 1) := by decide +kernel
theorem dX3_addCode_14 : decode cX3_addCode 14 = .ok (.getfield 15, 3) := by decide +kernel
theorem dX3_addCode_17 : decode cX3_addCode 17 = .ok (.iconst 1, 1) := by decide +kernel
theorem dX3_addCode_18 : decode cX3_addCode 18 = .ok (.iadd, 1) := by decide +kernel
theorem dX3_addCode_19 : decode cX3_addCode 19 = .ok (.putfield 15, 3) := by decide +kernel
theorem dX3_addCode_22 : decode cX3_addCode 22 = .ok (.return_, 1) := by decide +kernel
theorem dX3_makeEmpty_0 : decode cX3_makeEmpty 0 = .ok (.aload_n 0, 1) := by decide +kernel
theorem dX3_makeEmpty_1 : decode cX3_makeEmpty 1 = .ok (.iconst 0, 1) := by decide +kernel
theorem dX3_makeEmpty_2 : decode cX3_makeEmpty 2 = .ok (.putfield 15, 3) := by decide +kernel
theorem dX3_makeEmpty_5 : decode cX3_makeEmpty 5 = .ok (.return_, 1) := by decide +kernel
set_option maxRecDepth 20000 in
theorem ggX3_errorIndex_X6_at : GoodIn wsX3_errorIndex wsX6_at := goodIn_r _ [5] rfl (by decide +kernel)
set_option maxRecDepth 20000 in
theorem gX3_errorIndex_X6_at_n23 : GoodIn wsX3_errorIndex (wsX6_at) := ggX3_errorIndex_X6_at
set_option maxRecDepth 20000 in
theorem ggX3_errorIndex_X3_placeAfter : GoodIn wsX3_errorIndex wsX3_placeAfter := goodIn_r _ [9, 10, 11, 8, 12, 13, 4, 14, 15, 16, 17] rfl (by decide +kernel)
set_option maxRecDepth 20000 in
theorem gX3_errorIndex_X3_placeAfter : GoodIn wsX3_errorIndex (va_wsS RX3 27 yX3_placeAfter wsX3_placeAfter) := goodIn_app (goodIn_of _ (by decide +kernel)) ggX3_errorIndex_X3_placeAfter
theorem dX3_errorIndex_0 : decode cX3_errorIndex 0 = .ok (.iconst 0, 1) := by decide +kernel
theorem dX3_errorIndex_1 : decode cX3_errorIndex 1 = .ok (.istore_n 1, 1) := by decide +kernel
theorem dX3_errorIndex_2 : decode cX3_errorIndex 2 = .ok (.iconst 0, 1) := by decide +kernel
theorem dX3_errorIndex_3 : decode cX3_errorIndex 3 = .ok (.istore_n 2, 1) := by decide +kernel
theorem dX3_errorIndex_4 : decode cX3_errorIndex 4 = .ok (.iload_n 2, 1) := by decide +kernel
theorem dX3_errorIndex_5 : decode cX3_errorIndex 5 = .ok (.aload_n 0, 1) := by decide +kernel
theorem dX3_errorIndex_6 : decode cX3_errorIndex 6 = .ok (.getfield 15, 3) := by decide +kernel
theorem dX3_errorIndex_9 : decode cX3_errorIndex 9 = .ok (.if_icmp .ge 29, 3) := by decide +kernel
theorem dX3_errorIndex_12 : decode cX3_errorIndex 12 = .ok (.iload_n 1, 1) := by decide +kernel
theorem dX3_errorIndex_13 : decode cX3_errorIndex 13 = .ok (.aload_n 0, 1) := by decide +kernel
theorem dX3_errorIndex_14 : decode cX3_errorIndex 14 = .ok (.getfield 9, 3) := by decide +kernel
theorem dX3_errorIndex_17 : decode cX3_errorIndex 17 = .ok (.iload_n 2, 1) := by decide +kernel
theorem dX3_errorIndex_18 : decode cX3_errorIndex 18 = .ok (.invokestatic 23, 3) := by decide +kernel
theorem dX3_errorIndex_21 : decode cX3_errorIndex 21 = .ok (.invokestatic 27, 3) := by decide +kernel
theorem dX3_errorIndex_24 : decode cX3_errorIndex 24 = .ok (.istore_n 1, 1) := by decide +kernel
theorem dX3_errorIndex_25 : decode cX3_errorIndex 25 = .ok (.iload_n 1, 1) := by decide +kernel
theorem dX3_errorIndex_26 : decode cX3_errorIndex 26 = .ok (.iconst (-1), 1) := by decide +kernel
theorem dX3_errorIndex_27 : decode cX3_errorIndex 27 = .ok (.if_icmp .ne 5, 3) := by decide +kernel
theorem dX3_errorIndex_30 : decode cX3_errorIndex 30 = .ok (.iload_n 2, 1) := by decide +kernel
theorem dX3_errorIndex_31 : decode cX3_errorIndex 31 = .ok (.ireturn, 1) := by decide +kernel
theorem dX3_errorIndex_32 : decode cX3_errorIndex 32 = .ok (.iinc 2 1, 3) := by decide +kernel
theorem dX3_errorIndex_35 : decode cX3_errorIndex 35 = .ok (.goto (-31), 3) := by decide +kernel
theorem dX3_errorIndex_38 : decode cX3_errorIndex 38 = .ok (.aload_n 0, 1) := by decide +kernel
theorem dX3_errorIndex_39 : decode cX3_errorIndex 39 = .ok (.getfield 15, 3) := by decide +kernel
theorem dX3_errorIndex_42 : decode cX3_errorIndex 42 = .ok (.ireturn, 1) := by decide +kernel
set_option maxRecDepth 20000 in
theorem ggX3_isComplete_X3_errorIndex : GoodIn wsX3_isComplete wsX3_errorIndex := goodIn_r _ [7, 1, 2, 8, 9, 10, 11, 12, 6, 13, 14, 15, 16, 17, 18, 19, 20, 21, 22, 23] rfl (by decide +kernel)
set_option maxRecDepth 20000 in
theorem gX3_isComplete_X3_errorIndex : GoodIn wsX3_isComplete (wsV RX3 31 RX3 yX3_errorIndex wsX3_errorIndex) := goodIn_app (goodIn_of _ (by decide +kernel)) ggX3_isComplete_X3_errorIndex
set_option maxRecDepth 20000 in
theorem ggX3_isComplete_X6_at : GoodIn wsX3_isComplete wsX6_at := goodIn_r _ [10] rfl (by decide +kernel)
set_option maxRecDepth 20000 in
theorem gX3_isComplete_X6_at_n23 : GoodIn wsX3_isComplete (wsX6_at) := ggX3_isComplete_X6_at
theorem dX3_isComplete_0 : decode cX3_isComplete 0 = .ok (.aload_n 0, 1) := by decide +kernel
theorem dX3_isComplete_1 : decode cX3_isComplete 1 = .ok (.invokevirtual 31, 3) := by decide +kernel
theorem dX3_isComplete_4 : decode cX3_isComplete 4 = .ok (.aload_n 0, 1) := by decide +kernel
theorem dX3_isComplete_5 : decode cX3_isComplete 5 = .ok (.getfield 15, 3) := by decide +kernel
theorem dX3_isComplete_8 : decode cX3_isComplete 8 = .ok (.if_icmp .ne 25, 3) := by decide +kernel
theorem dX3_isComplete_11 : decode cX3_isComplete 11 = .ok (.aload_n 0, 1) := by decide +kernel
theorem dX3_isComplete_12 : decode cX3_isComplete 12 = .ok (.getfield 9, 3) := by decide +kernel
theorem dX3_isComplete_15 : decode cX3_isComplete 15 = .ok (.aload_n 0, 1) := by decide +kernel
theorem dX3_isComplete_16 : decode cX3_isComplete 16 = .ok (.getfield 15, 3) := by decide +kernel
theorem dX3_isComplete_19 : decode cX3_isComplete 19 = .ok (.iconst 2, 1) := by decide +kernel
theorem dX3_isComplete_20 : decode cX3_isComplete 20 = .ok (.isub, 1) := by decide +kernel
theorem dX3_isComplete_21 : decode cX3_isComplete 21 = .ok (.invokestatic 23, 3) := by decide +kernel
theorem dX3_isComplete_24 : decode cX3_isComplete 24 = .ok (.bipush 61, 2) := by decide +kernel
theorem dX3_isComplete_26 : decode cX3_isComplete 26 = .ok (.if_icmp .ne 7, 3) := by decide +kernel
theorem dX3_isComplete_29 : decode cX3_isComplete 29 = .ok (.iconst 1, 1) := by decide +kernel
theorem dX3_isComplete_30 : decode cX3_isComplete 30 = .ok (.goto 4, 3) := by decide +kernel
theorem dX3_isComplete_33 : decode cX3_isComplete 33 = .ok (.iconst 0, 1) := by decide +kernel
theorem dX3_isComplete_34 : decode cX3_isComplete 34 = .ok (.ireturn, 1) := by decide +kernel
set_option maxRecDepth 20000 in
theorem ggX3_placeAfter_X3_placeAfterFirstDigit : GoodIn wsX3_placeAfter wsX3_placeAfterFirstDigit := goodIn_r _ [4, 5, 6, 7] rfl (by decide +kernel)
set_option maxRecDepth 20000 in
theorem gX3_placeAfter_X3_placeAfterFirstDigit : GoodIn wsX3_placeAfter (va_wsS RX3 35 yX3_placeAfterFirstDigit wsX3_placeAfterFirstDigit) := goodIn_app (goodIn_of _ (by decide +kernel)) ggX3_placeAfter_X3_placeAfterFirstDigit
set_option maxRecDepth 20000 in
theorem ggX3_placeAfter_X6_isWithin : GoodIn wsX3_placeAfter wsX6_isWithin := goodIn_r _ [7] rfl (by decide +kernel)
set_option maxRecDepth 20000 in
theorem gX3_placeAfter_X6_isWithin_n39 : GoodIn wsX3_placeAfter (wsX6_isWithin) := ggX3_placeAfter_X6_isWithin
set_option maxRecDepth 20000 in
theorem ggX3_placeAfter_X3_placeAfterDay : GoodIn wsX3_placeAfter wsX3_placeAfterDay := goodIn_r _ [10] rfl (by decide +kernel)
set_option maxRecDepth 20000 in
theorem gX3_placeAfter_X3_placeAfterDay : GoodIn wsX3_placeAfter (va_wsS RX3 43 yX3_placeAfterDay wsX3_placeAfterDay) := goodIn_app (goodIn_of _ (by decide +kernel)) ggX3_placeAfter_X3_placeAfterDay
theorem dX3_placeAfter_0 : decode cX3_placeAfter 0 = .ok (.iload_n 0, 1) := by decide +kernel
theorem dX3_placeAfter_1 : decode cX3_placeAfter 1 = .ok (.tableswitch 135 0 6 #[43, 55, 60, 80, 100, 105, 123], 43) := by decide +kernel
theorem dX3_placeAfter_44 : decode cX3_placeAfter 44 = .ok (.iload_n 1, 1) := by decide +kernel
theorem dX3_placeAfter_45 : decode cX3_placeAfter 45 = .ok (.bipush 100, 2) := by decide +kernel
theorem dX3_placeAfter_47 : decode cX3_placeAfter 47 = .ok (.if_icmp .ne 7, 3) := by decide +kernel
theorem dX3_placeAfter_50 : decode cX3_placeAfter 50 = .ok (.iconst 1, 1) := by decide +kernel
theorem dX3_placeAfter_51 : decode cX3_placeAfter 51 = .ok (.goto 4, 3) := by decide +kernel
theorem dX3_placeAfter_54 : decode cX3_placeAfter 54 = .ok (.iconst (-1), 1) := by decide +kernel
theorem dX3_placeAfter_55 : decode cX3_placeAfter 55 = .ok (.ireturn, 1) := by decide +kernel
theorem dX3_placeAfter_56 : decode cX3_placeAfter 56 = .ok (.iload_n 1, 1) := by decide +kernel
theorem dX3_placeAfter_57 : decode cX3_placeAfter 57 = .ok (.invokestatic 35, 3) := by decide +kernel
theorem dX3_placeAfter_60 : decode cX3_placeAfter 60 = .ok (.ireturn, 1) := by decide +kernel
theorem dX3_placeAfter_61 : decode cX3_placeAfter 61 = .ok (.iload_n 1, 1) := by decide +kernel
theorem dX3_placeAfter_62 : decode cX3_placeAfter 62 = .ok (.bipush 48, 2) := by decide +kernel
theorem dX3_placeAfter_64 : decode cX3_placeAfter 64 = .ok (.bipush 57, 2) := by decide +kernel
theorem dX3_placeAfter_66 : decode cX3_placeAfter 66 = .ok (.invokestatic 39, 3) := by decide +kernel
theorem dX3_placeAfter_69 : decode cX3_placeAfter 69 = .ok (.ifCond .eq 7, 3) := by decide +kernel
theorem dX3_placeAfter_72 : decode cX3_placeAfter 72 = .ok (.iconst 4, 1) := by decide +kernel
theorem dX3_placeAfter_73 : decode cX3_placeAfter 73 = .ok (.goto 7, 3) := by decide +kernel
theorem dX3_placeAfter_76 : decode cX3_placeAfter 76 = .ok (.iload_n 1, 1) := by decide +kernel
theorem dX3_placeAfter_77 : decode cX3_placeAfter 77 = .ok (.invokestatic 43, 3) := by decide +kernel
theorem dX3_placeAfter_80 : decode cX3_placeAfter 80 = .ok (.ireturn, 1) := by decide +kernel
theorem dX3_placeAfter_81 : decode cX3_placeAfter 81 = .ok (.iload_n 1, 1) := by decide +kernel
theorem dX3_placeAfter_82 : decode cX3_placeAfter 82 = .ok (.bipush 48, 2) := by decide +kernel
theorem dX3_placeAfter_84 : decode cX3_placeAfter 84 = .ok (.bipush 55, 2) := by decide +kernel
theorem dX3_placeAfter_86 : decode cX3_placeAfter 86 = .ok (.invokestatic 39, 3) := by decide +kernel
theorem dX3_placeAfter_89 : decode cX3_placeAfter 89 = .ok (.ifCond .eq 7, 3) := by decide +kernel
theorem dX3_placeAfter_92 : decode cX3_placeAfter 92 = .ok (.iconst 4, 1) := by decide +kernel
theorem dX3_placeAfter_93 : decode cX3_placeAfter 93 = .ok (.goto 7, 3) := by decide +kernel
theorem dX3_placeAfter_96 : decode cX3_placeAfter 96 = .ok (.iload_n 1, 1) := by decide +kernel
theorem dX3_placeAfter_97 : decode cX3_placeAfter 97 = .ok (.invokestatic 43, 3) := by decide +kernel
theorem dX3_placeAfter_100 : decode cX3_placeAfter 100 = .ok (.ireturn, 1) := by decide +kernel
theorem dX3_placeAfter_101 : decode cX3_placeAfter 101 = .ok (.iload_n 1, 1) := by decide +kernel
theorem dX3_placeAfter_102 : decode cX3_placeAfter 102 = .ok (.invokestatic 43, 3) := by decide +kernel
theorem dX3_placeAfter_105 : decode cX3_placeAfter 105 = .ok (.ireturn, 1) := by decide +kernel
theorem dX3_placeAfter_106 : decode cX3_placeAfter 106 = .ok (.iload_n 1, 1) := by decide +kernel
theorem dX3_placeAfter_107 : decode cX3_placeAfter 107 = .ok (.bipush 97, 2) := by decide +kernel
theorem dX3_placeAfter_109 : decode cX3_placeAfter 109 = .ok (.bipush 108, 2) := by decide +kernel
theorem dX3_placeAfter_111 : decode cX3_placeAfter 111 = .ok (.invokestatic 39, 3) := by decide +kernel
theorem dX3_placeAfter_114 : decode cX3_placeAfter 114 = .ok (.ifCond .eq 8, 3) := by decide +kernel
theorem dX3_placeAfter_117 : decode cX3_placeAfter 117 = .ok (.bipush 6, 2) := by decide +kernel
theorem dX3_placeAfter_119 : decode cX3_placeAfter 119 = .ok (.goto 4, 3) := by decide +kernel
theorem dX3_placeAfter_122 : decode cX3_placeAfter 122 = .ok (.iconst (-1), 1) := by decide +kernel
theorem dX3_placeAfter_123 : decode cX3_placeAfter 123 = .ok (.ireturn, 1) := by decide +kernel
theorem dX3_placeAfter_124 : decode cX3_placeAfter 124 = .ok (.iload_n 1, 1) := by decide +kernel
theorem dX3_placeAfter_125 : decode cX3_placeAfter 125 = .ok (.bipush 59, 2) := by decide +kernel
theorem dX3_placeAfter_127 : decode cX3_placeAfter 127 = .ok (.if_icmp .ne 7, 3) := by decide +kernel
theorem dX3_placeAfter_130 : decode cX3_placeAfter 130 = .ok (.iconst 0, 1) := by decide +kernel
theorem dX3_placeAfter_131 : decode cX3_placeAfter 131 = .ok (.goto 4, 3) := by decide +kernel
theorem dX3_placeAfter_134 : decode cX3_placeAfter 134 = .ok (.iconst (-1), 1) := by decide +kernel
theorem dX3_placeAfter_135 : decode cX3_placeAfter 135 = .ok (.ireturn, 1) := by decide +kernel
theorem dX3_placeAfter_136 : decode cX3_placeAfter 136 = .ok (.iconst (-1), 1) := by decide +kernel
theorem dX3_placeAfter_137 : decode cX3_placeAfter 137 = .ok (.ireturn, 1) := by decide +kernel
set_option maxRecDepth 20000 in
theorem ggX3_placeAfterFirstDigit_X6_isWithin : GoodIn wsX3_placeAfterFirstDigit wsX6_isWithin := goodIn_r _ [3] rfl (by decide +kernel)
set_option maxRecDepth 20000 in
theorem gX3_placeAfterFirstDigit_X6_isWithin_n39 : GoodIn wsX3_placeAfterFirstDigit (wsX6_isWithin) := ggX3_placeAfterFirstDigit_X6_isWithin
theorem dX3_placeAfterFirstDigit_0 : decode cX3_placeAfterFirstDigit 0 = .ok (.iload_n 0, 1) := by decide +kernel
theorem dX3_placeAfterFirstDigit_1 : decode cX3_placeAfterFirstDigit 1 = .ok (.bipush 49, 2) := by decide +kernel
theorem dX3_placeAfterFirstDigit_3 : decode cX3_placeAfterFirstDigit 3 = .ok (.if_icmp .ne 5, 3) := by decide +kernel
theorem dX3_placeAfterFirstDigit_6 : decode cX3_placeAfterFirstDigit 6 = .ok (.iconst 2, 1) := by decide +kernel
theorem dX3_placeAfterFirstDigit_7 : decode cX3_placeAfterFirstDigit 7 = .ok (.ireturn, 1) := by decide +kernel
theorem dX3_placeAfterFirstDigit_8 : decode cX3_placeAfterFirstDigit 8 = .ok (.iload_n 0, 1) := by decide +kernel
