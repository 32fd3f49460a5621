set_option maxRecDepth 20000 in
theorem ggL_addDish_X6_addDish : GoodIn wsL_addDish wsX6_addDish := goodIn_ca (goodIn_ca (goodIn_r _ [7, 8, 9, 10, 11, 12, 13, 14, 15, 16, 6, 17, 18, 19, 20, 21, 22, 23, 24, 25, 26, 27, 28, 29, 30, 31, 32, 33, 34, 35, 36, 37, 38, 39, 40, 41, 42, 43, 44, 45, 46, 47, 48, 49, 50, 51, 52, 53, 54, 55, 56, 57, 58, 59, 60, 61, 62, 63, 64, 65, 66, 67, 68, 69, 70, 71, 72, 73, 74, 75, 76, 77, 78, 79, 80, 81, 82, 83, 84] rfl (by decide +kernel)) (goodIn_sub (fun _ h => List.mem_cons_of_mem _ (List.mem_append_left _ (List.mem_append_right _ h))) (by decide +kernel))) (goodIn_sub (fun _ h => List.mem_cons_of_mem _ (List.mem_append_right _ h)) (by decide +kernel))
set_option maxRecDepth 20000 in
theorem gL_addDish_X6_addDish : GoodIn wsL_addDish (wsV RL 7 RX6 yX6_addDish wsX6_addDish) := goodIn_app (goodIn_of _ (by decide +kernel)) ggL_addDish_X6_addDish
theorem dL_addDish_0 : decode cL_addDish 0 = .ok (.aload 5, 2) := by decide +kernel
theorem dL_addDish_2 : decode cL_addDish 2 = .ok (.iconst 0, 1) := by decide +kernel
theorem dL_addDish_3 : decode cL_addDish 3 = .ok (.aload_n 0, 1) := by decide +kernel
theorem dL_addDish_4 : decode cL_addDish 4 = .ok (.iload_n 1, 1) := by decide +kernel
theorem dL_addDish_5 : decode cL_addDish 5 = .ok (.iload_n 2, 1) := by decide +kernel
theorem dL_addDish_6 : decode cL_addDish 6 = .ok (.iload_n 3, 1) := by decide +kernel
theorem dL_addDish_7 : decode cL_addDish 7 = .ok (.iload 4, 2) := by decide +kernel
theorem dL_addDish_9 : decode cL_addDish 9 = .ok (.invokevirtual 7, 3) := by decide +kernel
theorem dL_addDish_12 : decode cL_addDish 12 = .ok (.i2l, 1) := by decide +kernel
theorem dL_addDish_13 : decode cL_addDish 13 = .ok (.lastore, 1) := by decide +kernel
theorem dL_addDish_14 : decode cL_addDish 14 = .ok (.goto 11, 3) := by decide +kernel
theorem dL_addDish_17 : decode cL_addDish 17 = .ok (.astore 6, 2) := by decide +kernel
theorem dL_addDish_19 : decode cL_addDish 19 = .ok (.iconst 1, 1) := by decide +kernel
theorem dL_addDish_20 : decode cL_addDish 20 = .ok (.ireturn, 1) := by decide +kernel
theorem dL_addDish_21 : decode cL_addDish 21 = .ok (.astore 6, 2) := by decide +kernel
theorem dL_addDish_23 : decode cL_addDish 23 = .ok (.iconst 2, 1) := by decide +kernel
theorem dL_addDish_24 : decode cL_addDish 24 = .ok (.ireturn, 1) := by decide +kernel
theorem dL_addDish_25 : decode cL_addDish 25 = .ok (.iconst 0, 1) := by decide +kernel
theorem dL_addDish_26 : decode cL_addDish 26 = .ok (.ireturn, 1) := by decide +kernel
set_option maxRecDepth 20000 in
theorem ggL_leave_X6_leave : GoodIn wsL_leave wsX6_leave := goodIn_ca (goodIn_ca (goodIn_ca (goodIn_r _ [8, 9, 10, 11, 12, 13, 14, 15, 16, 17, 18, 19, 20, 21, 22, 23, 24, 25, 26, 27, 7, 28, 29, 30, 31, 32, 33, 34, 35, 36, 37, 38, 39, 40, 41, 42, 43, 44, 45, 46, 47, 48, 49, 50, 51, 52, 53, 54, 55, 56, 57, 58, 59, 60, 61, 62, 63, 64, 65, 66, 67, 68, 69, 70, 71, 72, 73, 74, 75, 76, 77, 78, 79, 80, 81, 82, 83, 84, 85, 86, 87, 88, 89, 90, 91, 92, 93, 94, 95, 96, 97, 98, 99, 100, 101, 102, 103, 104, 105, 106, 107, 108, 109, 110, 111, 112, 113, 114, 115, 116, 117, 118, 119, 120, 121, 122, 123, 124, 125, 126, 127, 128, 129, 130, 131, 132, 133, 134, 135, 136, 137, 138, 139, 140, 141, 142] rfl (by decide +kernel)) (goodIn_sub (fun _ h => List.mem_cons_of_mem _ (List.mem_append_left _ (List.mem_append_left _ (List.mem_append_right _ h)))) (by decide +kernel))) (goodIn_sub (fun _ h => List.mem_cons_of_mem _ (List.mem_append_left _ (List.mem_append_right _ h))) (by decide +kernel))) (goodIn_sub (fun _ h => List.mem_cons_of_mem _ (List.mem_append_right _ h)) (by decide +kernel))
set_option maxRecDepth 20000 in
theorem gL_leave_X6_leave : GoodIn wsL_leave (wsV RL 17 RX6 yX6_leave wsX6_leave) := goodIn_app (goodIn_of _ (by decide +kernel)) ggL_leave_X6_leave
theorem dL_leave_0 : decode cL_leave 0 = .ok (.aload 4, 2) := by decide +kernel
theorem dL_leave_2 : decode cL_leave 2 = .ok (.iconst 0, 1) := by decide +kernel
theorem dL_leave_3 : decode cL_leave 3 = .ok (.aload_n 0, 1) := by decide +kernel
theorem dL_leave_4 : decode cL_leave 4 = .ok (.iload_n 1, 1) := by decide +kernel
theorem dL_leave_5 : decode cL_leave 5 = .ok (.iload_n 2, 1) := by decide +kernel
theorem dL_leave_6 : decode cL_leave 6 = .ok (.iload_n 3, 1) := by decide +kernel
theorem dL_leave_7 : decode cL_leave 7 = .ok (.invokevirtual 17, 3) := by decide +kernel
theorem dL_leave_10 : decode cL_leave 10 = .ok (.i2l, 1) := by decide +kernel
theorem dL_leave_11 : decode cL_leave 11 = .ok (.lastore, 1) := by decide +kernel
theorem dL_leave_12 : decode cL_leave 12 = .ok (.goto 15, 3) := by decide +kernel
theorem dL_leave_15 : decode cL_leave 15 = .ok (.astore 5, 2) := by decide +kernel
theorem dL_leave_17 : decode cL_leave 17 = .ok (.iconst 1, 1) := by decide +kernel
theorem dL_leave_18 : decode cL_leave 18 = .ok (.ireturn, 1) := by decide +kernel
theorem dL_leave_19 : decode cL_leave 19 = .ok (.astore 5, 2) := by decide +kernel
theorem dL_leave_21 : decode cL_leave 21 = .ok (.iconst 2, 1) := by decide +kernel
theorem dL_leave_22 : decode cL_leave 22 = .ok (.ireturn, 1) := by decide +kernel
theorem dL_leave_23 : decode cL_leave 23 = .ok (.astore 5, 2) := by decide +kernel
theorem dL_leave_25 : decode cL_leave 25 = .ok (.iconst 3, 1) := by decide +kernel
theorem dL_leave_26 : decode cL_leave 26 = .ok (.ireturn, 1) := by decide +kernel
theorem dL_leave_27 : decode cL_leave 27 = .ok (.iconst 0, 1) := by decide +kernel
theorem dL_leave_28 : decode cL_leave 28 = .ok (.ireturn, 1) := by decide +kernel
set_option maxRecDepth 20000 in
theorem ggL_addGuest_X6_addGuest : GoodIn wsL_addGuest wsX6_addGuest := goodIn_ca (goodIn_r _ [6, 7, 8, 9, 10, 11, 12, 13, 14, 15, 16, 17, 18, 19, 20, 21, 22, 23, 24, 25, 26, 27, 28, 29, 30, 31, 32, 33, 34, 35, 36, 37, 38, 39, 40, 41, 5, 42, 43, 44, 45, 46, 47, 48, 49, 50, 51, 52, 53, 54, 55, 56, 57, 58, 59, 60, 61, 62, 63, 64, 65, 66, 67, 68, 69, 70, 71, 72, 73, 74, 75, 76, 77, 78] rfl (by decide +kernel)) (goodIn_sub (fun _ h => List.mem_cons_of_mem _ (List.mem_append_right _ h)) (by decide +kernel))
set_option maxRecDepth 20000 in
theorem gL_addGuest_X6_addGuest : GoodIn wsL_addGuest (wsV RL 23 RX6 yX6_addGuest wsX6_addGuest) := goodIn_app (goodIn_of _ (by decide +kernel)) ggL_addGuest_X6_addGuest
theorem dL_addGuest_0 : decode cL_addGuest 0 = .ok (.aload_n 1, 1) := by decide +kernel
theorem dL_addGuest_1 : decode cL_addGuest 1 = .ok (.iconst 0, 1) := by decide +kernel
theorem dL_addGuest_2 : decode cL_addGuest 2 = .ok (.aload_n 0, 1) := by decide +kernel
theorem dL_addGuest_3 : decode cL_addGuest 3 = .ok (.invokevirtual 23, 3) := by decide +kernel
theorem dL_addGuest_6 : decode cL_addGuest 6 = .ok (.i2l, 1) := by decide +kernel
theorem dL_addGuest_7 : decode cL_addGuest 7 = .ok (.lastore, 1) := by decide +kernel
theorem dL_addGuest_8 : decode cL_addGuest 8 = .ok (.goto 6, 3) := by decide +kernel
theorem dL_addGuest_11 : decode cL_addGuest 11 = .ok (.astore_n 2, 1) := by decide +kernel
theorem dL_addGuest_12 : decode cL_addGuest 12 = .ok (.iconst 1, 1) := by decide +kernel
theorem dL_addGuest_13 : decode cL_addGuest 13 = .ok (.ireturn, 1) := by decide +kernel
theorem dL_addGuest_14 : decode cL_addGuest 14 = .ok (.iconst 0, 1) := by decide +kernel
theorem dL_addGuest_15 : decode cL_addGuest 15 = .ok (.ireturn, 1) := by decide +kernel
set_option maxRecDepth 20000 in
theorem ggL_come_X6_come : GoodIn wsL_come wsX6_come := goodIn_ca (goodIn_ca (goodIn_ca (goodIn_r _ [8, 9, 10, 11, 12, 13, 14, 15, 16, 17, 18, 19, 20, 21, 22, 23, 24, 25, 7, 26, 27, 28, 29, 30, 31, 32, 33, 34, 35, 36, 37, 38, 39, 40, 41, 42, 43, 44, 45, 46, 47, 48, 49, 50, 51, 52, 53, 54, 55, 56, 57, 58, 59, 60, 61, 62, 63, 64, 65, 66, 67, 68, 69, 70, 71, 72, 73, 74, 75, 76, 77, 78, 79, 80, 81, 82, 83, 84, 85, 86, 87, 88, 89, 90, 91, 92, 93, 94, 95, 96, 97, 98, 99, 100, 101, 102, 103, 104, 105, 106, 107, 108, 109, 110, 111, 112, 113] rfl (by decide +kernel)) (goodIn_sub (fun _ h => List.mem_cons_of_mem _ (List.mem_append_left _ (List.mem_append_left _ (List.mem_append_right _ h)))) (by decide +kernel))) (goodIn_sub (fun _ h => List.mem_cons_of_mem _ (List.mem_append_left _ (List.mem_append_right _ h))) (by decide +kernel))) (goodIn_sub (fun _ h => List.mem_cons_of_mem _ (List.mem_append_right _ h)) (by decide +kernel))
set_option maxRecDepth 20000 in
theorem gL_come_X6_come : GoodIn wsL_come (wsV RL 27 RX6 yX6_come wsX6_come) := goodIn_app (goodIn_of _ (by decide +kernel)) ggL_come_X6_come
theorem dL_come_0 : decode cL_come 0 = .ok (.aload_n 3, 1) := by decide +kernel
theorem dL_come_1 : decode cL_come 1 = .ok (.iconst 0, 1) := by decide +kernel
theorem dL_come_2 : decode cL_come 2 = .ok (.aload_n 0, 1) := by decide +kernel
theorem dL_come_3 : decode cL_come 3 = .ok (.iload_n 1, 1) := by decide +kernel
theorem dL_come_4 : decode cL_come 4 = .ok (.iload_n 2, 1) := by decide +kernel
theorem dL_come_5 : decode cL_come 5 = .ok (.invokevirtual 27, 3) := by decide +kernel
theorem dL_come_8 : decode cL_come 8 = .ok (.i2l, 1) := by decide +kernel
theorem dL_come_9 : decode cL_come 9 = .ok (.lastore, 1) := by decide +kernel
theorem dL_come_10 : decode cL_come 10 = .ok (.goto 15, 3) := by decide +kernel
theorem dL_come_13 : decode cL_come 13 = .ok (.astore 4, 2) := by decide +kernel
theorem dL_come_15 : decode cL_come 15 = .ok (.iconst 1, 1) := by decide +kernel
theorem dL_come_16 : decode cL_come 16 = .ok (.ireturn, 1) := by decide +kernel
theorem dL_come_17 : decode cL_come 17 = .ok (.astore 4, 2) := by decide +kernel
theorem dL_come_19 : decode cL_come 19 = .ok (.iconst 2, 1) := by decide +kernel
theorem dL_come_20 : decode cL_come 20 = .ok (.ireturn, 1) := by decide +kernel
theorem dL_come_21 : decode cL_come 21 = .ok (.astore 4, 2) := by decide +kernel
theorem dL_come_23 : decode cL_come 23 = .ok (.iconst 3, 1) := by decide +kernel
theorem dL_come_24 : decode cL_come 24 = .ok (.ireturn, 1) := by decide +kernel
theorem dL_come_25 : decode cL_come 25 = .ok (.iconst 0, 1) := by decide +kernel
theorem dL_come_26 : decode cL_come 26 = .ok (.ireturn, 1) := by decide +kernel
set_option maxRecDepth 20000 in
theorem ggL_veto_X6_veto : GoodIn wsL_veto wsX6_veto := goodIn_ca (goodIn_ca (goodIn_ca (goodIn_r _ [8, 9, 10, 11, 12, 13, 14, 15, 16, 17, 18, 19, 20, 21, 22, 23, 24, 25, 7, 26, 27, 28, 29, 30, 31, 32, 33, 34, 35, 36, 37, 38, 39, 40, 41, 42, 43, 44, 45, 46, 47, 48, 49, 50, 51, 52, 53, 54, 55, 56, 57, 58, 59, 60, 61, 62, 63, 64, 65, 66, 67, 68, 69, 70, 71, 72, 73, 74, 75, 76, 77, 78, 79, 80, 81, 82, 83, 84, 85, 86, 87, 88, 89, 90, 91, 92, 93, 94, 95, 96, 97, 98, 99, 100, 101, 102, 103, 104, 105, 106, 107, 108, 109, 110, 111, 112, 113] rfl (by decide +kernel)) (goodIn_sub (fun _ h => List.mem_cons_of_mem _ (List.mem_append_left _ (List.mem_append_left _ (List.mem_append_right _ h)))) (by decide +kernel))) (goodIn_sub (fun _ h => List.mem_cons_of_mem _ (List.mem_append_left _ (List.mem_append_right _ h))) (by decide +kernel))) (goodIn_sub (fun _ h => List.mem_cons_of_mem _ (List.mem_append_right _ h)) (by decide +kernel))
set_option maxRecDepth 20000 in
theorem gL_veto_X6_veto : GoodIn wsL_veto (wsV RL 31 RX6 yX6_veto wsX6_veto) := goodIn_app (goodIn_of _ (by decide +kernel)) ggL_veto_X6_veto
theorem dL_veto_0 : decode cL_veto 0 = .ok (.aload_n 3, 1) := by decide +kernel
theorem dL_veto_1 : decode cL_veto 1 = .ok (.iconst 0, 1) := by decide +kernel
theorem dL_veto_2 : decode cL_veto 2 = .ok (.aload_n 0, 1) := by decide +kernel
theorem dL_veto_3 : decode cL_veto 3 = .ok (.iload_n 1, 1) := by decide +kernel
theorem dL_veto_4 : decode cL_veto 4 = .ok (.iload_n 2, 1) := by decide +kernel
theorem dL_veto_5 : decode cL_veto 5 = .ok (.invokevirtual 31, 3) := by decide +kernel
theorem dL_veto_8 : decode cL_veto 8 = .ok (.i2l, 1) := by decide +kernel
theorem dL_veto_9 : decode cL_veto 9 = .ok (.lastore, 1) := by decide +kernel
theorem dL_veto_10 : decode cL_veto 10 = .ok (.goto 15, 3) := by decide +kernel
theorem dL_veto_13 : decode cL_veto 13 = .ok (.astore 4, 2) := by decide +kernel
theorem dL_veto_15 : decode cL_veto 15 = .ok (.iconst 1, 1) := by decide +kernel
theorem dL_veto_16 : decode cL_veto 16 = .ok (.ireturn, 1) := by decide +kernel
theorem dL_veto_17 : decode cL_veto 17 = .ok (.astore 4, 2) := by decide +kernel
theorem dL_veto_19 : decode cL_veto 19 = .ok (.iconst 2, 1) := by decide +kernel
theorem dL_veto_20 : decode cL_veto 20 = .ok (.ireturn, 1) := by decide +kernel
theorem dL_veto_21 : decode cL_veto 21 = .ok (.astore 4, 2) := by decide +kernel
theorem dL_veto_23 : decode cL_veto 23 = .ok (.iconst 3, 1) := by decide +kernel
theorem dL_veto_24 : decode cL_veto 24 = .ok (.ireturn, 1) := by decide +kernel
theorem dL_veto_25 : decode cL_veto 25 = .ok (.iconst 0, 1) := by decide +kernel
theorem dL_veto_26 : decode cL_veto 26 = .ok (.ireturn, 1) := by decide +kernel
set_option maxRecDepth 20000 in
theorem ggL_set_X6_set : GoodIn wsL_set wsX6_set := goodIn_ca (goodIn_ca (goodIn_ca (goodIn_r _ [8, 9, 10, 11, 12, 13, 14, 15, 16, 17, 18, 19, 7, 20, 21, 22, 23, 24, 25, 26, 27, 28, 29, 30, 31, 32, 33, 34, 35, 36, 37, 38, 39, 40, 41, 42, 43, 44, 45, 46, 47, 48, 49, 50, 51, 52, 53, 54, 55, 56, 57, 58, 59, 60, 61, 62, 63, 64, 65, 66, 67, 68, 69, 70, 71, 72, 73, 74, 75, 76, 77, 78, 79, 80, 81, 82, 83, 84, 85, 86, 87, 88, 89, 90, 91, 92, 93, 94, 95, 96, 97, 98, 99, 100, 101, 102, 103, 104, 105, 106, 107, 108, 109, 110, 111, 112, 113] rfl (by decide +kernel)) (goodIn_sub (fun _ h => List.mem_cons_of_mem _ (List.mem_append_left _ (List.mem_append_left _ (List.mem_append_right _ h)))) (by decide +kernel))) (goodIn_sub (fun _ h => List.mem_cons_of_mem _ (List.mem_append_left _ (List.mem_append_right _ h))) (by decide +kernel))) (goodIn_sub (fun _ h => List.mem_cons_of_mem _ (List.mem_append_right _ h)) (by decide +kernel))
set_option maxRecDepth 20000 in
theorem gL_set_X6_set : GoodIn wsL_set (wsV RL 34 RX6 yX6_set wsX6_set) := goodIn_app (goodIn_of _ (by decide +kernel)) ggL_set_X6_set
theorem dL_set_0 : decode cL_set 0 = .ok (.aload_n 3, 1) := by decide +kernel
theorem dL_set_1 : decode cL_set 1 = .ok (.iconst 0, 1) := by decide +kernel
theorem dL_set_2 : decode cL_set 2 = .ok (.aload_n 0, 1) := by decide +kernel
theorem dL_set_3 : decode cL_set 3 = .ok (.iload_n 1, 1) := by decide +kernel
theorem dL_set_4 : decode cL_set 4 = .ok (.iload_n 2, 1) := by decide +kernel
theorem dL_set_5 : decode cL_set 5 = .ok (.invokevirtual 34, 3) := by decide +kernel
theorem dL_set_8 : decode cL_set 8 = .ok (.i2l, 1) := by decide +kernel
theorem dL_set_9 : decode cL_set 9 = .ok (.lastore, 1) := by decide +kernel
theorem dL_set_10 : decode cL_set 10 = .ok (.goto 15, 3) := by decide +kernel
theorem dL_set_13 : decode cL_set 13 = .ok (.astore 4, 2) := by decide +kernel
theorem dL_set_15 : decode cL_set 15 = .ok (.iconst 1, 1) := by decide +kernel
theorem dL_set_16 : decode cL_set 16 = .ok (.ireturn, 1) := by decide +kernel
theorem dL_set_17 : decode cL_set 17 = .ok (.astore 4, 2) := by decide +kernel
theorem dL_set_19 : decode cL_set 19 = .ok (.iconst 2, 1) := by decide +kernel
theorem dL_set_20 : decode cL_set 20 = .ok (.ireturn, 1) := by decide +kernel
theorem dL_set_21 : decode cL_set 21 = .ok (.astore 4, 2) := by decide +kernel
theorem dL_set_23 : decode cL_set 23 = .ok (.iconst 3, 1) := by decide +kernel
theorem dL_set_24 : decode cL_set 24 = .ok (.ireturn, 1) := by decide +kernel
theorem dL_set_25 : decode cL_set 25 = .ok (.iconst 0, 1) := by decide +kernel
theorem dL_set_26 : decode cL_set 26 = .ok (.ireturn, 1) := by decide +kernel
set_option maxRecDepth 20000 in
theorem ggL_serve_X6_serve : GoodIn wsL_serve wsX6_serve := goodIn_ca (goodIn_ca (goodIn_r _ [7, 8, 9, 10, 11, 12, 13, 14, 15, 16, 17, 18, 6, 19, 20, 21, 22, 23, 24, 25, 26, 27, 28, 29, 30, 31, 32, 33, 34, 35, 36, 37, 38, 39, 40, 41, 42, 43, 44, 45, 46, 47, 48, 49, 50, 51, 52, 53, 54, 55, 56, 57, 58, 59, 60, 61, 62, 63, 64, 65, 66, 67, 68, 69, 70, 71, 72, 73, 74, 75, 76, 77, 78, 79, 80, 81, 82, 83, 84, 85, 86, 87, 88, 89, 90, 91, 92, 93, 94, 95, 96, 97, 98, 99, 100, 101, 102, 103, 104, 105, 106, 107, 108, 109, 110, 111, 112, 113, 114, 115, 116, 117, 118, 119, 120, 121, 122, 123, 124, 125, 126, 127, 128, 129, 130, 131, 132, 133, 134, 135, 136, 137, 138, 139, 140, 141, 142, 143, 144, 145, 146, 147, 148, 149, 150, 151, 152, 153, 154, 155, 156, 157, 158, 159, 160, 161, 162, 163, 164, 165, 166, 167, 168, 169, 170, 171, 172, 173, 174, 175, 176, 177] rfl (by decide +kernel)) (goodIn_sub (fun _ h => List.mem_cons_of_mem _ (List.mem_append_left _ (List.mem_append_right _ h))) (by decide +kernel))) (goodIn_sub (fun _ h => List.mem_cons_of_mem _ (List.mem_append_right _ h)) (by decide +kernel))
set_option maxRecDepth 20000 in
theorem gL_serve_X6_serve : GoodIn wsL_serve (wsV RL 37 RX6 yX6_serve wsX6_serve) := goodIn_app (goodIn_of _ (by decide +kernel)) ggL_serve_X6_serve
theorem dL_serve_0 : decode cL_serve 0 = .ok (.aload_n 3, 1) := by decide +kernel
theorem dL_serve_1 : decode cL_serve 1 = .ok (.iconst 0, 1) := by decide +kernel
theorem dL_serve_2 : decode cL_serve 2 = .ok (.aload_n 0, 1) := by decide +kernel
theorem dL_serve_3 : decode cL_serve 3 = .ok (.iload_n 1, 1) := by decide +kernel
theorem dL_serve_4 : decode cL_serve 4 = .ok (.iload_n 2, 1) := by decide +kernel
theorem dL_serve_5 : decode cL_serve 5 = .ok (.invokevirtual 37, 3) := by decide +kernel
theorem dL_serve_8 : decode cL_serve 8 = .ok (.i2l, 1) := by decide +kernel
theorem dL_serve_9 : decode cL_serve 9 = .ok (.lastore, 1) := by decide +kernel
theorem dL_serve_10 : decode cL_serve 10 = .ok (.goto 11, 3) := by decide +kernel
theorem dL_serve_13 : decode cL_serve 13 = .ok (.astore 4, 2) := by decide +kernel
theorem dL_serve_15 : decode cL_serve 15 = .ok (.iconst 1, 1) := by decide +kernel
theorem dL_serve_16 : decode cL_serve 16 = .ok (.ireturn, 1) := by decide +kernel
theorem dL_serve_17 : decode cL_serve 17 = .ok (.astore 4, 2) := by decide +kernel
theorem dL_serve_19 : decode cL_serve 19 = .ok (.iconst 2, 1) := by decide +kernel
theorem dL_serve_20 : decode cL_serve 20 = .ok (.ireturn, 1) := by decide +kernel
theorem dL_serve_21 : decode cL_serve 21 = .ok (.iconst 0, 1) := by decide +kernel
theorem dL_serve_22 : decode cL_serve 22 = .ok (.ireturn, 1) := by decide +kernel
set_option maxRecDepth 20000 in
theorem ggL_drop_X6_drop : GoodIn wsL_drop wsX6_drop := goodIn_ca (goodIn_ca (goodIn_r _ [7, 8, 9, 10, 11, 12, 13, 14, 15, 16, 17, 6, 18, 19, 20, 21, 22, 23, 24, 25, 26, 27, 28, 29, 30, 31, 32, 33, 34, 35, 36, 37, 38, 39, 40, 41, 42, 43, 44, 45, 46, 47, 48, 49, 50, 51, 52, 53, 54, 55, 56, 57, 58, 59, 60, 61, 62, 63, 64, 65, 66, 67, 68, 69, 70, 71, 72, 73, 74, 75, 76, 77, 78, 79, 80, 81, 82, 83, 84, 85, 86, 87, 88, 89, 90, 91, 92, 93, 94, 95, 96, 97, 98, 99, 100, 101, 102, 103, 104, 105, 106, 107, 108, 109, 110, 111, 112, 113, 114, 115, 116, 117, 118, 119, 120, 121, 122, 123, 124, 125, 126, 127, 128, 129, 130, 131, 132, 133, 134, 135, 136, 137, 138] rfl (by decide +kernel)) (goodIn_sub (fun _ h => List.mem_cons_of_mem _ (List.mem_append_left _ (List.mem_append_right _ h))) (by decide +kernel))) (goodIn_sub (fun _ h => List.mem_cons_of_mem _ (List.mem_append_right _ h)) (by decide +kernel))
set_option maxRecDepth 20000 in
theorem gL_drop_X6_drop : GoodIn wsL_drop (wsV RL 40 RX6 yX6_drop wsX6_drop) := goodIn_app (goodIn_of _ (by decide +kernel)) ggL_drop_X6_drop
theorem dL_drop_0 : decode cL_drop 0 = .ok (.aload_n 3, 1) := by decide +kernel
theorem dL_drop_1 : decode cL_drop 1 = .ok (.iconst 0, 1) := by decide +kernel
theorem dL_drop_2 : decode cL_drop 2 = .ok (.aload_n 0, 1) := by decide +kernel
theorem dL_drop_3 : decode cL_drop 3 = .ok (.iload_n 1, 1) := by decide +kernel
theorem dL_drop_4 : decode cL_drop 4 = .ok (.iload_n 2, 1) := by decide +kernel
theorem dL_drop_5 : decode cL_drop 5 = .ok (.invokevirtual 40, 3) := by decide +kernel
theorem dL_drop_8 : decode cL_drop 8 = .ok (.i2l, 1) := by decide +kernel
theorem dL_drop_9 : decode cL_drop 9 = .ok (.lastore, 1) := by decide +kernel
theorem dL_drop_10 : decode cL_drop 10 = .ok (.goto 11, 3) := by decide +kernel
theorem dL_drop_13 : decode cL_drop 13 = .ok (.astore 4, 2) := by decide +kernel
theorem dL_drop_15 : decode cL_drop 15 = .ok (.iconst 1, 1) := by decide +kernel
theorem dL_drop_16 : decode cL_drop 16 = .ok (.ireturn, 1) := by decide +kernel
theorem dL_drop_17 : decode cL_drop 17 = .ok (.astore 4, 2) := by decide +kernel
theorem dL_drop_19 : decode cL_drop 19 = .ok (.iconst 2, 1) := by decide +kernel
theorem dL_drop_20 : decode cL_drop 20 = .ok (.ireturn, 1) := by decide +kernel
theorem dL_drop_21 : decode cL_drop 21 = .ok (.iconst 0, 1) := by decide +kernel
theorem dL_drop_22 : decode cL_drop 22 = .ok (.ireturn, 1) := by decide +kernel
set_option maxRecDepth 20000 in
theorem ggL_exchange_X6_exchange : GoodIn wsL_exchange wsX6_exchange := goodIn_ca (goodIn_ca (goodIn_r _ [7, 8, 9, 10, 11, 12, 13, 14, 15, 16, 6, 17, 18, 19, 20, 21, 22, 23, 24, 25, 26, 27, 28, 29, 30, 31, 32, 33, 34, 35, 36, 37, 38, 39, 40, 41, 42, 43, 44, 45, 46, 47, 48, 49, 50, 51, 52, 53, 54, 55, 56, 57, 58, 59, 60, 61, 62, 63, 64, 65, 66, 67, 68, 69, 70, 71, 72, 73, 74, 75, 76, 77, 78, 79, 80, 81, 82, 83, 84, 85, 86, 87, 88, 89, 90, 91, 92, 93, 94, 95, 96, 97, 98, 99, 100, 101, 102, 103, 104, 105, 106, 107, 108, 109, 110, 111, 112, 113, 114, 115, 116, 117, 118, 119, 120, 121, 122, 123, 124, 125, 126, 127, 128, 129, 130, 131, 132, 133, 134, 135, 136, 137, 138, 139, 140, 141, 142, 143, 144, 145, 146, 147, 148, 149, 150, 151, 152, 153, 154, 155, 156, 157, 158, 159, 160, 161, 162, 163, 164, 165, 166, 167, 168, 169, 170, 171, 172, 173, 174, 175, 176, 177, 178, 179, 180, 181, 182, 183, 184, 185, 186, 187, 188, 189, 190, 191, 192, 193, 194, 195, 196, 197] rfl (by decide +kernel)) (goodIn_sub (fun _ h => List.mem_cons_of_mem _ (List.mem_append_left _ (List.mem_append_right _ h))) (by decide +kernel))) (goodIn_sub (fun _ h => List.mem_cons_of_mem _ (List.mem_append_right _ h)) (by decide +kernel))
set_option maxRecDepth 20000 in
theorem gL_exchange_X6_exchange : GoodIn wsL_exchange (wsV RL 43 RX6 yX6_exchange wsX6_exchange) := goodIn_app (goodIn_of _ (by decide +kernel)) ggL_exchange_X6_exchange
theorem dL_exchange_0 : decode cL_exchange 0 = .ok (.aload_n 3, 1) := by decide +kernel
theorem dL_exchange_1 : decode cL_exchange 1 = .ok (.iconst 0, 1) := by decide +kernel
theorem dL_exchange_2 : decode cL_exchange 2 = .ok (.aload_n 0, 1) := by decide +kernel
theorem dL_exchange_3 : decode cL_exchange 3 = .ok (.iload_n 1, 1) := by decide +kernel
theorem dL_exchange_4 : decode cL_exchange 4 = .ok (.iload_n 2, 1) := by decide +kernel
theorem dL_exchange_5 : decode cL_exchange 5 = .ok (.invokevirtual 43, 3) := by decide +kernel
theorem dL_exchange_8 : decode cL_exchange 8 = .ok (.i2l, 1) := by decide +kernel
theorem dL_exchange_9 : decode cL_exchange 9 = .ok (.lastore, 1) := by decide +kernel
theorem dL_exchange_10 : decode cL_exchange 10 = .ok (.goto 11, 3) := by decide +kernel
theorem dL_exchange_13 : decode cL_exchange 13 = .ok (.astore 4, 2) := by decide +kernel
theorem dL_exchange_15 : decode cL_exchange 15 = .ok (.iconst 1, 1) := by decide +kernel
theorem dL_exchange_16 : decode cL_exchange 16 = .ok (.ireturn, 1) := by decide +kernel
theorem dL_exchange_17 : decode cL_exchange 17 = .ok (.astore 4, 2) := by decide +kernel
theorem dL_exchange_19 : decode cL_exchange 19 = .ok (.iconst 2, 1) := by decide +kernel
theorem dL_exchange_20 : decode cL_exchange 20 = .ok (.ireturn, 1) := by decide +kernel
theorem dL_exchange_21 : decode cL_exchange 21 = .ok (.iconst 0, 1) := by decide +kernel
theorem dL_exchange_22 : decode cL_exchange 22 = .ok (.ireturn, 1) := by decide +kernel
set_option maxRecDepth 20000 in
theorem ggL_fill_X6_fill : GoodIn wsL_fill wsX6_fill := goodIn_ca (goodIn_r _ [6, 7, 8, 9, 10, 11, 12, 13, 14, 5, 15, 16, 17, 18, 19, 20, 21, 22, 23, 24, 25, 26, 27, 28, 29, 30, 31, 32, 33, 34, 35, 36, 37, 38, 39, 40, 41, 42, 43, 44, 45, 46, 47, 48, 49, 50, 51, 52, 53, 54, 55, 56, 57, 58, 59, 60, 61, 62, 63, 64, 65, 66, 67, 68, 69, 70, 71, 72, 73, 74, 75, 76, 77, 78, 79, 80, 81, 82, 83, 84, 85, 86, 87, 88, 89, 90, 91, 92, 93, 94, 95, 96, 97, 98, 99, 100, 101, 102, 103, 104, 105, 106, 107, 108, 109, 110, 111, 112, 113, 114, 115, 116, 117, 118, 119, 120, 121, 122, 123, 124, 125, 126, 127, 128, 129, 130, 131, 132, 133, 134, 135, 136, 137, 138, 139, 140, 141, 142, 143, 144, 145, 146, 147, 148, 149, 150, 151, 152, 153, 154, 155, 156, 157, 158, 159, 160, 161, 162, 163, 164, 165, 166, 167, 168, 169, 170, 171, 172, 173, 174, 175, 176, 177] rfl (by decide +kernel)) (goodIn_sub (fun _ h => List.mem_cons_of_mem _ (List.mem_append_right _ h)) (by decide +kernel))
set_option maxRecDepth 20000 in
theorem gL_fill_X6_fill : GoodIn wsL_fill (wsV RL 46 RX6 yX6_fill wsX6_fill) := goodIn_app (goodIn_of _ (by decide +kernel)) ggL_fill_X6_fill
theorem dL_fill_0 : decode cL_fill 0 = .ok (.aload_n 2, 1) := by decide +kernel
theorem dL_fill_1 : decode cL_fill 1 = .ok (.iconst 0, 1) := by decide +kernel
theorem dL_fill_2 : decode cL_fill 2 = .ok (.aload_n 0, 1) := by decide +kernel
theorem dL_fill_3 : decode cL_fill 3 = .ok (.iload_n 1, 1) := by decide +kernel
theorem dL_fill_4 : decode cL_fill 4 = .ok (.invokevirtual 46, 3) := by decide +kernel
theorem dL_fill_7 : decode cL_fill 7 = .ok (.i2l, 1) := by decide +kernel
theorem dL_fill_8 : decode cL_fill 8 = .ok (.lastore, 1) := by decide +kernel
theorem dL_fill_9 : decode cL_fill 9 = .ok (.goto 6, 3) := by decide +kernel
theorem dL_fill_12 : decode cL_fill 12 = .ok (.astore_n 3, 1) := by decide +kernel
theorem dL_fill_13 : decode cL_fill 13 = .ok (.iconst 1, 1) := by decide +kernel
theorem dL_fill_14 : decode cL_fill 14 = .ok (.ireturn, 1) := by decide +kernel
theorem dL_fill_15 : decode cL_fill 15 = .ok (.iconst 0, 1) := by decide +kernel
theorem dL_fill_16 : decode cL_fill 16 = .ok (.ireturn, 1) := by decide +kernel
set_option maxRecDepth 20000 in
theorem ggL_append_X6_append : GoodIn wsL_append wsX6_append := goodIn_ca (goodIn_ca (goodIn_r _ [7, 8, 9, 10, 11, 12, 13, 14, 15, 6, 16, 17, 18, 19, 20, 21, 22, 23, 24, 25, 26, 27, 28, 29, 30, 31, 32, 33, 34] rfl (by decide +kernel)) (goodIn_sub (fun _ h => List.mem_cons_of_mem _ (List.mem_append_left _ (List.mem_append_right _ h))) (by decide +kernel))) (goodIn_sub (fun _ h => List.mem_cons_of_mem _ (List.mem_append_right _ h)) (by decide +kernel))
set_option maxRecDepth 20000 in
theorem gL_append_X6_append : GoodIn wsL_append (wsV RL 50 RX6 yX6_append wsX6_append) := goodIn_app (goodIn_of _ (by decide +kernel)) ggL_append_X6_append
theorem dL_append_0 : decode cL_append 0 = .ok (.aload_n 2, 1) := by decide +kernel
theorem dL_append_1 : decode cL_append 1 = .ok (.iconst 0, 1) := by decide +kernel
theorem dL_append_2 : decode cL_append 2 = .ok (.aload_n 0, 1) := by decide +kernel
theorem dL_append_3 : decode cL_append 3 = .ok (.iload_n 1, 1) := by decide +kernel
theorem dL_append_4 : decode cL_append 4 = .ok (.invokevirtual 50, 3) := by decide +kernel
theorem dL_append_7 : decode cL_append 7 = .ok (.i2l, 1) := by decide +kernel
theorem dL_append_8 : decode cL_append 8 = .ok (.lastore, 1) := by decide +kernel
theorem dL_append_9 : decode cL_append 9 = .ok (.goto 9, 3) := by decide +kernel
theorem dL_append_12 : decode cL_append 12 = .ok (.astore_n 3, 1) := by decide +kernel
theorem dL_append_13 : decode cL_append 13 = .ok (.iconst 1, 1) := by decide +kernel
theorem dL_append_14 : decode cL_append 14 = .ok (.ireturn, 1) := by decide +kernel
theorem dL_append_15 : decode cL_append 15 = .ok (.astore_n 3, 1) := by decide +kernel
theorem dL_append_16 : decode cL_append 16 = .ok (.iconst 2, 1) := by decide +kernel
theorem dL_append_17 : decode cL_append 17 = .ok (.ireturn, 1) := by decide +kernel
theorem dL_append_18 : decode cL_append 18 = .ok (.iconst 0, 1) := by decide +kernel
theorem dL_append_19 : decode cL_append 19 = .ok (.ireturn, 1) := by decide +kernel
set_option maxRecDepth 20000 in
theorem ggL_read_X6_read : GoodIn wsL_read wsX6_read := goodIn_ca (goodIn_r _ [6, 7, 8, 9, 10, 11, 12, 13, 14, 15, 16, 17, 18, 19, 20, 21, 22, 23, 5, 24, 25, 26, 27, 28, 29, 30, 31, 32, 33, 34, 35, 36, 37, 38, 39, 40, 41, 42, 43, 44, 45, 46, 47, 48, 49, 50, 51, 52, 53, 54, 55, 56, 57, 58, 59, 60, 61, 62, 63, 64, 65, 66, 67, 68, 69, 70, 71, 72, 73, 74, 75, 76, 77, 78, 79, 80, 81, 82, 83, 84, 85, 86, 87, 88, 89, 90, 91, 92, 93, 94, 95, 96, 97, 98, 99, 100, 101, 102, 103, 104, 105, 106, 107, 108, 109, 110, 111, 112, 113, 114, 115, 116, 117, 118, 119, 120, 121, 122, 123, 124, 125, 126, 127, 128, 129, 130, 131, 132, 133, 134, 135, 136, 137, 138, 139, 140, 141, 142, 143, 144, 145, 146, 147, 148, 149, 150, 151, 152, 153, 154, 155, 156, 157, 158, 159, 160, 161, 162, 163, 164, 165, 166, 167, 168, 169, 170, 171, 172, 173, 174, 175, 176, 177, 178, 179, 180, 181, 182, 183, 184, 185, 186, 187, 188, 189, 190, 191, 192, 193, 194, 195, 196, 197, 198, 199, 200, 201, 202, 203, 204, 205] rfl (by decide +kernel)) (goodIn_sub (fun _ h => List.mem_cons_of_mem _ (List.mem_append_right _ h)) (by decide +kernel))
set_option maxRecDepth 20000 in
theorem gL_read_X6_read : GoodIn wsL_read (wsV RL 53 RX6 yX6_read wsX6_read) := goodIn_app (goodIn_of _ (by decide +kernel)) ggL_read_X6_read
theorem dL_read_0 : decode cL_read 0 = .ok (.aload_n 1, 1) := by decide +kernel
theorem dL_read_1 : decode cL_read 1 = .ok (.iconst 0, 1) := by decide +kernel
theorem dL_read_2 : decode cL_read 2 = .ok (.aload_n 0, 1) := by decide +kernel
theorem dL_read_3 : decode cL_read 3 = .ok (.invokevirtual 53, 3) := by decide +kernel
theorem dL_read_6 : decode cL_read 6 = .ok (.i2l, 1) := by decide +kernel
theorem dL_read_7 : decode cL_read 7 = .ok (.lastore, 1) := by decide +kernel
theorem dL_read_8 : decode cL_read 8 = .ok (.goto 6, 3) := by decide +kernel
theorem dL_read_11 : decode cL_read 11 = .ok (.astore_n 2, 1) := by decide +kernel
theorem dL_read_12 : decode cL_read 12 = .ok (.iconst 1, 1) := by decide +kernel
theorem dL_read_13 : decode cL_read 13 = .ok (.ireturn, 1) := by decide +kernel
theorem dL_read_14 : decode cL_read 14 = .ok (.iconst 0, 1) := by decide +kernel
theorem dL_read_15 : decode cL_read 15 = .ok (.ireturn, 1) := by decide +kernel
set_option maxRecDepth 20000 in
theorem ggL_take_X6_take : GoodIn wsL_take wsX6_take := goodIn_ca (goodIn_r _ [6, 7, 8, 9, 10, 11, 12, 13, 5, 14, 15, 16, 17, 18, 19, 20, 21, 22, 23, 24, 25, 26, 27, 28, 29, 30, 31, 32, 33, 34, 35, 36, 37, 38, 39, 40, 41, 42, 43, 44, 45, 46, 47, 48, 49, 50, 51, 52, 53, 54, 55, 56] rfl (by decide +kernel)) (goodIn_sub (fun _ h => List.mem_cons_of_mem _ (List.mem_append_right _ h)) (by decide +kernel))
set_option maxRecDepth 20000 in
theorem gL_take_X6_take : GoodIn wsL_take (wsV RL 56 RX6 yX6_take wsX6_take) := goodIn_app (goodIn_of _ (by decide +kernel)) ggL_take_X6_take
theorem dL_take_0 : decode cL_take 0 = .ok (.aload_n 2, 1) := by decide +kernel
theorem dL_take_1 : decode cL_take 1 = .ok (.iconst 0, 1) := by decide +kernel
theorem dL_take_2 : decode cL_take 2 = .ok (.aload_n 0, 1) := by decide +kernel
theorem dL_take_3 : decode cL_take 3 = .ok (.iload_n 1, 1) := by decide +kernel
theorem dL_take_4 : decode cL_take 4 = .ok (.invokevirtual 56, 3) := by decide +kernel
theorem dL_take_7 : decode cL_take 7 = .ok (.i2l, 1) := by decide +kernel
theorem dL_take_8 : decode cL_take 8 = .ok (.lastore, 1) := by decide +kernel
theorem dL_take_9 : decode cL_take 9 = .ok (.goto 6, 3) := by decide +kernel
theorem dL_take_12 : decode cL_take 12 = .ok (.astore_n 3, 1) := by decide +kernel
theorem dL_take_13 : decode cL_take 13 = .ok (.iconst 1, 1) := by decide +kernel
theorem dL_take_14 : decode cL_take 14 = .ok (.ireturn, 1) := by decide +kernel
theorem dL_take_15 : decode cL_take 15 = .ok (.iconst 0, 1) := by decide +kernel
theorem dL_take_16 : decode cL_take 16 = .ok (.ireturn, 1) := by decide +kernel
set_option maxRecDepth 20000 in
theorem ggL_restore_X6_restore : GoodIn wsL_restore wsX6_restore := goodIn_ca (goodIn_ca (goodIn_r _ [7, 8, 9, 10, 11, 12, 13, 14, 15, 16, 17, 6, 18, 19, 20, 21, 22, 23, 24, 25, 26, 27, 28, 29, 30, 31, 32, 33, 34, 35, 36, 37, 38, 39, 40, 41, 42, 43, 44, 45, 46, 47, 48, 49, 50, 51, 52, 53, 54, 55, 56, 57, 58, 59, 60, 61, 62, 63, 64, 65, 66, 67, 68, 69, 70, 71, 72, 73, 74, 75, 76, 77, 78, 79, 80, 81, 82, 83, 84, 85, 86, 87, 88, 89, 90, 91, 92, 93, 94, 95, 96, 97, 98, 99, 100, 101, 102, 103, 104, 105, 106, 107, 108, 109, 110, 111, 112, 113, 114, 115, 116, 117, 118, 119, 120, 121, 122, 123, 124, 125, 126, 127, 128, 129, 130, 131, 132, 133, 134, 135, 136, 137, 138, 139, 140, 141, 142, 143, 144, 145, 146, 147, 148, 149, 150, 151, 152, 153, 154, 155, 156, 157, 158, 159, 160, 161, 162, 163, 164, 165, 166, 167, 168, 169, 170, 171, 172, 173, 174, 175, 176, 177, 178, 179, 180, 181, 182, 183, 184, 185, 186, 187, 188, 189, 190, 191, 192, 193, 194] rfl (by decide +kernel)) (goodIn_sub (fun _ h => List.mem_cons_of_mem _ (List.mem_append_left _ (List.mem_append_right _ h))) (by decide +kernel))) (goodIn_sub (fun _ h => List.mem_cons_of_mem _ (List.mem_append_right _ h)) (by decide +kernel))
set_option maxRecDepth 20000 in
theorem gL_restore_X6_restore : GoodIn wsL_restore (wsV RL 59 RX6 yX6_restore wsX6_restore) := goodIn_app (goodIn_of _ (by decide +kernel)) ggL_restore_X6_restore
theorem dL_restore_0 : decode cL_restore 0 = .ok (.aload_n 2, 1) := by decide +kernel
theorem dL_restore_1 : decode cL_restore 1 = .ok (.iconst 0, 1) := by decide +kernel
theorem dL_restore_2 : decode cL_restore 2 = .ok (.aload_n 0, 1) := by decide +kernel
theorem dL_restore_3 : decode cL_restore 3 = .ok (.iload_n 1, 1) := by decide +kernel
theorem dL_restore_4 : decode cL_restore 4 = .ok (.invokevirtual 59, 3) := by decide +kernel
theorem dL_restore_7 : decode cL_restore 7 = .ok (.i2l, 1) := by decide +kernel
theorem dL_restore_8 : decode cL_restore 8 = .ok (.lastore, 1) := by decide +kernel
theorem dL_restore_9 : decode cL_restore 9 = .ok (.goto 9, 3) := by decide +kernel
theorem dL_restore_12 : decode cL_restore 12 = .ok (.astore_n 3, 1) := by decide +kernel
theorem dL_restore_13 : decode cL_restore 13 = .ok (.iconst 1, 1) := by decide +kernel
theorem dL_restore_14 : decode cL_restore 14 = .ok (.ireturn, 1) := by decide +kernel
theorem dL_restore_15 : decode cL_restore 15 = .ok (.astore_n 3, 1) := by decide +kernel
theorem dL_restore_16 : decode cL_restore 16 = .ok (.iconst 2, 1) := by decide +kernel
theorem dL_restore_17 : decode cL_restore 17 = .ok (.ireturn, 1) := by decide +kernel
theorem dL_restore_18 : decode cL_restore 18 = .ok (.iconst 0, 1) := by decide +kernel
theorem dL_restore_19 : decode cL_restore 19 = .ok (.ireturn, 1) := by decide +kernel
set_option maxRecDepth 20000 in
theorem ggL_undo_X6_undo : GoodIn wsL_undo wsX6_undo := goodIn_ca (goodIn_r _ [6, 7, 8, 9, 10, 11, 12, 13, 14, 15, 16, 17, 18, 19, 20, 21, 22, 23, 24, 25, 26, 27, 28, 29, 30, 31, 32, 33, 34, 35, 36, 37, 38, 39, 40, 41, 5, 42, 43, 44, 45, 46, 47, 48, 49, 50, 51, 52, 53, 54, 55, 56, 57, 58, 59, 60, 61, 62, 63, 64, 65, 66, 67, 68, 69, 70, 71, 72] rfl (by decide +kernel)) (goodIn_sub (fun _ h => List.mem_cons_of_mem _ (List.mem_append_right _ h)) (by decide +kernel))
set_option maxRecDepth 20000 in
theorem gL_undo_X6_undo : GoodIn wsL_undo (wsV RL 62 RX6 yX6_undo wsX6_undo) := goodIn_app (goodIn_of _ (by decide +kernel)) ggL_undo_X6_undo
theorem dL_undo_0 : decode cL_undo 0 = .ok (.aload_n 1, 1) := by decide +kernel
theorem dL_undo_1 : decode cL_undo 1 = .ok (.iconst 0, 1) := by decide +kernel
theorem dL_undo_2 : decode cL_undo 2 = .ok (.aload_n 0, 1) := by decide +kernel
theorem dL_undo_3 : decode cL_undo 3 = .ok (.invokevirtual 62, 3) := by decide +kernel
theorem dL_undo_6 : decode cL_undo 6 = .ok (.i2l, 1) := by decide +kernel
theorem dL_undo_7 : decode cL_undo 7 = .ok (.lastore, 1) := by decide +kernel
theorem dL_undo_8 : decode cL_undo 8 = .ok (.goto 6, 3) := by decide +kernel
theorem dL_undo_11 : decode cL_undo 11 = .ok (.astore_n 2, 1) := by decide +kernel
theorem dL_undo_12 : decode cL_undo 12 = .ok (.iconst 1, 1) := by decide +kernel
theorem dL_undo_13 : decode cL_undo 13 = .ok (.ireturn, 1) := by decide +kernel
theorem dL_undo_14 : decode cL_undo 14 = .ok (.iconst 0, 1) := by decide +kernel
theorem dL_undo_15 : decode cL_undo 15 = .ok (.ireturn, 1) := by decide +kernel
set_option maxRecDepth 20000 in
theorem ggL_planned_X6_planned : GoodIn wsL_planned wsX6_planned := goodIn_ca (goodIn_r _ [6, 7, 8, 9, 10, 11, 12, 5, 13, 14, 15, 16, 17, 18, 19, 20, 21, 22, 23, 24, 25, 26, 27, 28, 29, 30, 31, 32, 33, 34, 35, 36, 37, 38, 39, 40, 41] rfl (by decide +kernel)) (goodIn_sub (fun _ h => List.mem_cons_of_mem _ (List.mem_append_right _ h)) (by decide +kernel))
set_option maxRecDepth 20000 in
theorem gL_planned_X6_planned : GoodIn wsL_planned (wsV RL 65 RX6 yX6_planned wsX6_planned) := goodIn_app (goodIn_of _ (by decide +kernel)) ggL_planned_X6_planned
theorem dL_planned_0 : decode cL_planned 0 = .ok (.aload_n 3, 1) := by decide +kernel
theorem dL_planned_1 : decode cL_planned 1 = .ok (.iconst 0, 1) := by decide +kernel
theorem dL_planned_2 : decode cL_planned 2 = .ok (.aload_n 0, 1) := by decide +kernel
theorem dL_planned_3 : decode cL_planned 3 = .ok (.iload_n 1, 1) := by decide +kernel
theorem dL_planned_4 : decode cL_planned 4 = .ok (.iload_n 2, 1) := by decide +kernel
theorem dL_planned_5 : decode cL_planned 5 = .ok (.invokevirtual 65, 3) := by decide +kernel
theorem dL_planned_8 : decode cL_planned 8 = .ok (.i2l, 1) := by decide +kernel
theorem dL_planned_9 : decode cL_planned 9 = .ok (.lastore, 1) := by decide +kernel
theorem dL_planned_10 : decode cL_planned 10 = .ok (.goto 7, 3) := by decide +kernel
theorem dL_planned_13 : decode cL_planned 13 = .ok (.astore 4, 2) := by decide +kernel
theorem dL_planned_15 : decode cL_planned 15 = .ok (.iconst 1, 1) := by decide +kernel
theorem dL_planned_16 : decode cL_planned 16 = .ok (.ireturn, 1) := by decide +kernel
theorem dL_planned_17 : decode cL_planned 17 = .ok (.iconst 0, 1) := by decide +kernel
theorem dL_planned_18 : decode cL_planned 18 = .ok (.ireturn, 1) := by decide +kernel
set_option maxRecDepth 20000 in
theorem ggL_dish_X6_dish : GoodIn wsL_dish wsX6_dish := goodIn_ca (goodIn_ca (goodIn_r _ [7, 8, 9, 10, 11, 12, 13, 14, 15, 16, 17, 18, 19, 20, 6, 21, 22, 23, 24, 25, 26, 27, 28, 29, 30, 31, 32, 33, 34, 35, 36, 37, 38, 39, 40, 41, 42, 43, 44, 45, 46, 47, 48, 49, 50, 51, 52, 53, 54, 55, 56, 57, 58, 59, 60, 61, 62, 63, 64, 65, 66, 67, 68, 69, 70, 71, 72, 73, 74, 75, 76, 77, 78, 79, 80, 81, 82, 83, 84, 85, 86, 87, 88, 89, 90, 91, 92, 93, 94, 95, 96, 97, 98, 99, 100, 101, 102, 103, 104, 105, 106, 107, 108, 109, 110, 111] rfl (by decide +kernel)) (goodIn_sub (fun _ h => List.mem_cons_of_mem _ (List.mem_append_left _ (List.mem_append_right _ h))) (by decide +kernel))) (goodIn_sub (fun _ h => List.mem_cons_of_mem _ (List.mem_append_right _ h)) (by decide +kernel))
set_option maxRecDepth 20000 in
theorem gL_dish_X6_dish : GoodIn wsL_dish (wsV RL 68 RX6 yX6_dish wsX6_dish) := goodIn_app (goodIn_of _ (by decide +kernel)) ggL_dish_X6_dish
theorem dL_dish_0 : decode cL_dish 0 = .ok (.aload_n 3, 1) := by decide +kernel
theorem dL_dish_1 : decode cL_dish 1 = .ok (.iconst 0, 1) := by decide +kernel
theorem dL_dish_2 : decode cL_dish 2 = .ok (.aload_n 0, 1) := by decide +kernel
theorem dL_dish_3 : decode cL_dish 3 = .ok (.iload_n 1, 1) := by decide +kernel
theorem dL_dish_4 : decode cL_dish 4 = .ok (.iload_n 2, 1) := by decide +kernel
theorem dL_dish_5 : decode cL_dish 5 = .ok (.invokevirtual 68, 3) := by decide +kernel
theorem dL_dish_8 : decode cL_dish 8 = .ok (.i2l, 1) := by decide +kernel
theorem dL_dish_9 : decode cL_dish 9 = .ok (.lastore, 1) := by decide +kernel
theorem dL_dish_10 : decode cL_dish 10 = .ok (.goto 11, 3) := by decide +kernel
theorem dL_dish_13 : decode cL_dish 13 = .ok (.astore 4, 2) := by decide +kernel
theorem dL_dish_15 : decode cL_dish 15 = .ok (.iconst 1, 1) := by decide +kernel
theorem dL_dish_16 : decode cL_dish 16 = .ok (.ireturn, 1) := by decide +kernel
theorem dL_dish_17 : decode cL_dish 17 = .ok (.astore 4, 2) := by decide +kernel
theorem dL_dish_19 : decode cL_dish 19 = .ok (.iconst 2, 1) := by decide +kernel
theorem dL_dish_20 : decode cL_dish 20 = .ok (.ireturn, 1) := by decide +kernel
theorem dL_dish_21 : decode cL_dish 21 = .ok (.iconst 0, 1) := by decide +kernel
theorem dL_dish_22 : decode cL_dish 22 = .ok (.ireturn, 1) := by decide +kernel
set_option maxRecDepth 20000 in
theorem ggL_guest_X6_guest : GoodIn wsL_guest wsX6_guest := goodIn_ca (goodIn_ca (goodIn_r _ [7, 8, 9, 10, 11, 12, 13, 14, 15, 16, 17, 18, 19, 20, 6, 21, 22, 23, 24, 25, 26, 27, 28, 29, 30, 31, 32, 33, 34, 35, 36, 37, 38, 39, 40, 41, 42, 43, 44, 45, 46, 47, 48, 49, 50, 51, 52, 53, 54, 55, 56, 57, 58, 59, 60, 61, 62, 63, 64, 65] rfl (by decide +kernel)) (goodIn_sub (fun _ h => List.mem_cons_of_mem _ (List.mem_append_left _ (List.mem_append_right _ h))) (by decide +kernel))) (goodIn_sub (fun _ h => List.mem_cons_of_mem _ (List.mem_append_right _ h)) (by decide +kernel))
set_option maxRecDepth 20000 in
theorem gL_guest_X6_guest : GoodIn wsL_guest (wsV RL 71 RX6 yX6_guest wsX6_guest) := goodIn_app (goodIn_of _ (by decide +kernel)) ggL_guest_X6_guest
theorem dL_guest_0 : decode cL_guest 0 = .ok (.aload_n 3, 1) := by decide +kernel
theorem dL_guest_1 : decode cL_guest 1 = .ok (.iconst 0, 1) := by decide +kernel
theorem dL_guest_2 : decode cL_guest 2 = .ok (.aload_n 0, 1) := by decide +kernel
theorem dL_guest_3 : decode cL_guest 3 = .ok (.iload_n 1, 1) := by decide +kernel
theorem dL_guest_4 : decode cL_guest 4 = .ok (.iload_n 2, 1) := by decide +kernel
theorem dL_guest_5 : decode cL_guest 5 = .ok (.invokevirtual 71, 3) := by decide +kernel
theorem dL_guest_8 : decode cL_guest 8 = .ok (.i2l, 1) := by decide +kernel
theorem dL_guest_9 : decode cL_guest 9 = .ok (.lastore, 1) := by decide +kernel
theorem dL_guest_10 : decode cL_guest 10 = .ok (.goto 11, 3) := by decide +kernel
theorem dL_guest_13 : decode cL_guest 13 = .ok (.astore 4, 2) := by decide +kernel
theorem dL_guest_15 : decode cL_guest 15 = .ok (.iconst 1, 1) := by decide +kernel
theorem dL_guest_16 : decode cL_guest 16 = .ok (.ireturn, 1) := by decide +kernel
theorem dL_guest_17 : decode cL_guest 17 = .ok (.astore 4, 2) := by decide +kernel
theorem dL_guest_19 : decode cL_guest 19 = .ok (.iconst 2, 1) := by decide +kernel
theorem dL_guest_20 : decode cL_guest 20 = .ok (.ireturn, 1) := by decide +kernel
theorem dL_guest_21 : decode cL_guest 21 = .ok (.iconst 0, 1) := by decide +kernel
theorem dL_guest_22 : decode cL_guest 22 = .ok (.ireturn, 1) := by decide +kernel
set_option maxRecDepth 20000 in
theorem ggL_day_X6_day : GoodIn wsL_day wsX6_day := goodIn_ca (goodIn_ca (goodIn_r _ [7, 8, 9, 10, 11, 12, 13, 6, 14, 15, 16, 17, 18, 19, 20, 21, 22, 23, 24, 25, 26, 27, 28, 29, 30, 31, 32, 33, 34, 35, 36, 37, 38, 39, 40, 41, 42, 43, 44, 45, 46, 47, 48, 49, 50, 51, 52, 53, 54, 55, 56, 57, 58, 59, 60, 61, 62, 63, 64, 65, 66, 67, 68, 69, 70, 71, 72, 73, 74, 75, 76, 77, 78, 79, 80, 81, 82, 83, 84, 85, 86, 87, 88, 89, 90, 91, 92, 93, 94, 95, 96, 97, 98, 99, 100] rfl (by decide +kernel)) (goodIn_sub (fun _ h => List.mem_cons_of_mem _ (List.mem_append_left _ (List.mem_append_right _ h))) (by decide +kernel))) (goodIn_sub (fun _ h => List.mem_cons_of_mem _ (List.mem_append_right _ h)) (by decide +kernel))
set_option maxRecDepth 20000 in
theorem gL_day_X6_day : GoodIn wsL_day (wsV RL 74 RX6 yX6_day wsX6_day) := goodIn_app (goodIn_of _ (by decide +kernel)) ggL_day_X6_day
theorem dL_day_0 : decode cL_day 0 = .ok (.aload_n 3, 1) := by decide +kernel
theorem dL_day_1 : decode cL_day 1 = .ok (.iconst 0, 1) := by decide +kernel
theorem dL_day_2 : decode cL_day 2 = .ok (.aload_n 0, 1) := by decide +kernel
theorem dL_day_3 : decode cL_day 3 = .ok (.iload_n 1, 1) := by decide +kernel
theorem dL_day_4 : decode cL_day 4 = .ok (.iload_n 2, 1) := by decide +kernel
theorem dL_day_5 : decode cL_day 5 = .ok (.invokevirtual 74, 3) := by decide +kernel
theorem dL_day_8 : decode cL_day 8 = .ok (.i2l, 1) := by decide +kernel
theorem dL_day_9 : decode cL_day 9 = .ok (.lastore, 1) := by decide +kernel
theorem dL_day_10 : decode cL_day 10 = .ok (.goto 11, 3) := by decide +kernel
theorem dL_day_13 : decode cL_day 13 = .ok (.astore 4, 2) := by decide +kernel
theorem dL_day_15 : decode cL_day 15 = .ok (.iconst 1, 1) := by decide +kernel
theorem dL_day_16 : decode cL_day 16 = .ok (.ireturn, 1) := by decide +kernel
theorem dL_day_17 : decode cL_day 17 = .ok (.astore 4, 2) := by decide +kernel
theorem dL_day_19 : decode cL_day 19 = .ok (.iconst 2, 1) := by decide +kernel
theorem dL_day_20 : decode cL_day 20 = .ok (.ireturn, 1) := by decide +kernel
theorem dL_day_21 : decode cL_day 21 = .ok (.iconst 0, 1) := by decide +kernel
theorem dL_day_22 : decode cL_day 22 = .ok (.ireturn, 1) := by decide +kernel
set_option maxRecDepth 20000 in
theorem ggL_source_X6_source : GoodIn wsL_source wsX6_source := goodIn_ca (goodIn_r _ [6, 7, 8, 9, 10, 11, 12, 5, 13, 14, 15, 16, 17, 18, 19, 20, 21, 22, 23, 24, 25, 26, 27, 28, 29, 30, 31, 32, 33, 34, 35, 36, 37, 38, 39, 40, 41, 42, 43, 44, 45, 46, 47, 48, 49, 50, 51, 52, 53, 54, 55, 56, 57, 58, 59, 60, 61, 62, 63, 64, 65, 66, 67, 68, 69, 70, 71, 72, 73, 74, 75, 76, 77, 78, 79, 80, 81, 82] rfl (by decide +kernel)) (goodIn_sub (fun _ h => List.mem_cons_of_mem _ (List.mem_append_right _ h)) (by decide +kernel))
set_option maxRecDepth 20000 in
theorem gL_source_X6_source : GoodIn wsL_source (wsV RL 77 RX6 yX6_source wsX6_source) := goodIn_app (goodIn_of _ (by decide +kernel)) ggL_source_X6_source
theorem dL_source_0 : decode cL_source 0 = .ok (.aload_n 3, 1) := by decide +kernel
theorem dL_source_1 : decode cL_source 1 = .ok (.iconst 0, 1) := by decide +kernel
theorem dL_source_2 : decode cL_source 2 = .ok (.aload_n 0, 1) := by decide +kernel
theorem dL_source_3 : decode cL_source 3 = .ok (.iload_n 1, 1) := by decide +kernel
theorem dL_source_4 : decode cL_source 4 = .ok (.iload_n 2, 1) := by decide +kernel
theorem dL_source_5 : decode cL_source 5 = .ok (.invokevirtual 77, 3) := by decide +kernel
theorem dL_source_8 : decode cL_source 8 = .ok (.i2l, 1) := by decide +kernel
theorem dL_source_9 : decode cL_source 9 = .ok (.lastore, 1) := by decide +kernel
theorem dL_source_10 : decode cL_source 10 = .ok (.goto 7, 3) := by decide +kernel
theorem dL_source_13 : decode cL_source 13 = .ok (.astore 4, 2) := by decide +kernel
theorem dL_source_15 : decode cL_source 15 = .ok (.iconst 1, 1) := by decide +kernel
theorem dL_source_16 : decode cL_source 16 = .ok (.ireturn, 1) := by decide +kernel
theorem dL_source_17 : decode cL_source 17 = .ok (.iconst 0, 1) := by decide +kernel
theorem dL_source_18 : decode cL_source 18 = .ok (.ireturn, 1) := by decide +kernel
set_option maxRecDepth 20000 in
theorem ggL_count_X6_count : GoodIn wsL_count wsX6_count := goodIn_ca (goodIn_r _ [6, 7, 8, 9, 10, 5, 11, 12, 13, 14, 15, 16, 17, 18, 19, 20, 21, 22, 23, 24, 25, 26, 27, 28, 29, 30, 31, 32, 33, 34, 35, 36, 37, 38, 39, 40, 41, 42, 43, 44, 45, 46, 47, 48, 49, 50, 51, 52, 53, 54, 55, 56, 57, 58, 59, 60, 61, 62, 63, 64, 65, 66, 67, 68, 69, 70, 71, 72, 73, 74, 75, 76, 77, 78, 79, 80, 81, 82, 83, 84, 85, 86, 87, 88, 89, 90, 91, 92, 93, 94, 95, 96, 97, 98, 99, 100, 101, 102, 103, 104, 105, 106, 107, 108, 109, 110, 111, 112, 113, 114, 115, 116, 117, 118, 119, 120, 121, 122, 123, 124, 125, 126, 127, 128, 129, 130, 131, 132, 133, 134, 135, 136, 137, 138, 139, 140, 141, 142, 143, 144, 145, 146, 147, 148, 149, 150, 151, 152, 153, 154, 155, 156, 157, 158, 159, 160, 161, 162, 163, 164, 165, 166, 167, 168, 169, 170, 171, 172, 173, 174, 175, 176] rfl (by decide +kernel)) (goodIn_sub (fun _ h => List.mem_cons_of_mem _ (List.mem_append_right _ h)) (by decide +kernel))
set_option maxRecDepth 20000 in
theorem gL_count_X6_count : GoodIn wsL_count (wsV RL 80 RX6 yX6_count wsX6_count) := goodIn_app (goodIn_of _ (by decide +kernel)) ggL_count_X6_count
theorem dL_count_0 : decode cL_count 0 = .ok (.aload_n 2, 1) := by decide +kernel
theorem dL_count_1 : decode cL_count 1 = .ok (.iconst 0, 1) := by decide +kernel
theorem dL_count_2 : decode cL_count 2 = .ok (.aload_n 0, 1) := by decide +kernel
theorem dL_count_3 : decode cL_count 3 = .ok (.iload_n 1, 1) := by decide +kernel
theorem dL_count_4 : decode cL_count 4 = .ok (.invokevirtual 80, 3) := by decide +kernel
theorem dL_count_7 : decode cL_count 7 = .ok (.i2l, 1) := by decide +kernel
theorem dL_count_8 : decode cL_count 8 = .ok (.lastore, 1) := by decide +kernel
theorem dL_count_9 : decode cL_count 9 = .ok (.goto 6, 3) := by decide +kernel
theorem dL_count_12 : decode cL_count 12 = .ok (.astore_n 3, 1) := by decide +kernel
theorem dL_count_13 : decode cL_count 13 = .ok (.iconst 1, 1) := by decide +kernel
theorem dL_count_14 : decode cL_count 14 = .ok (.ireturn, 1) := by decide +kernel
theorem dL_count_15 : decode cL_count 15 = .ok (.iconst 0, 1) := by decide +kernel
theorem dL_count_16 : decode cL_count 16 = .ok (.ireturn, 1) := by decide +kernel
set_option maxRecDepth 20000 in
theorem ggL_setting_X6_setting : GoodIn wsL_setting wsX6_setting := goodIn_ca (goodIn_r _ [6, 7, 8, 9, 10, 11, 12, 5, 13, 14, 15, 16, 17, 18, 19, 20, 21, 22, 23, 24, 25, 26, 27, 28, 29, 30, 31, 32, 33, 34, 35] rfl (by decide +kernel)) (goodIn_sub (fun _ h => List.mem_cons_of_mem _ (List.mem_append_right _ h)) (by decide +kernel))
set_option maxRecDepth 20000 in
theorem gL_setting_X6_setting : GoodIn wsL_setting (wsV RL 83 RX6 yX6_setting wsX6_setting) := goodIn_app (goodIn_of _ (by decide +kernel)) ggL_setting_X6_setting
theorem dL_setting_0 : decode cL_setting 0 = .ok (.aload_n 2, 1) := by decide +kernel
theorem dL_setting_1 : decode cL_setting 1 = .ok (.iconst 0, 1) := by decide +kernel
theorem dL_setting_2 : decode cL_setting 2 = .ok (.aload_n 0, 1) := by decide +kernel
theorem dL_setting_3 : decode cL_setting 3 = .ok (.iload_n 1, 1) := by decide +kernel
theorem dL_setting_4 : decode cL_setting 4 = .ok (.invokevirtual 83, 3) := by decide +kernel
theorem dL_setting_7 : decode cL_setting 7 = .ok (.i2l, 1) := by decide +kernel
theorem dL_setting_8 : decode cL_setting 8 = .ok (.lastore, 1) := by decide +kernel
theorem dL_setting_9 : decode cL_setting 9 = .ok (.goto 6, 3) := by decide +kernel
theorem dL_setting_12 : decode cL_setting 12 = .ok (.astore_n 3, 1) := by decide +kernel
theorem dL_setting_13 : decode cL_setting 13 = .ok (.iconst 1, 1) := by decide +kernel
theorem dL_setting_14 : decode cL_setting 14 = .ok (.ireturn, 1) := by decide +kernel
theorem dL_setting_15 : decode cL_setting 15 = .ok (.iconst 0, 1) := by decide +kernel
theorem dL_setting_16 : decode cL_setting 16 = .ok (.ireturn, 1) := by decide +kernel
set_option maxRecDepth 20000 in
theorem ggL_whyNot_X6_whyNot : GoodIn wsL_whyNot wsX6_whyNot := goodIn_ca (goodIn_r _ [6, 7, 8, 9, 10, 11, 12, 5, 13, 14, 15, 16, 17, 18, 19, 20, 21, 22, 23, 24, 25, 26, 27, 28, 29, 30, 31, 32, 33, 34, 35, 36, 37, 38, 39, 40, 41, 42, 43, 44, 45, 46, 47, 48, 49, 50, 51, 52, 53, 54, 55, 56, 57, 58, 59, 60, 61, 62, 63, 64, 65, 66, 67, 68, 69, 70, 71, 72, 73, 74, 75, 76, 77, 78, 79, 80, 81, 82, 83, 84, 85, 86, 87, 88, 89, 90, 91, 92, 93, 94, 95, 96, 97, 98, 99, 100, 101, 102, 103, 104, 105, 106, 107, 108, 109, 110, 111, 112, 113, 114, 115, 116, 117, 118, 119, 120, 121, 122, 123, 124] rfl (by decide +kernel)) (goodIn_sub (fun _ h => List.mem_cons_of_mem _ (List.mem_append_right _ h)) (by decide +kernel))
set_option maxRecDepth 20000 in
theorem gL_whyNot_X6_whyNot : GoodIn wsL_whyNot (wsV RL 86 RX6 yX6_whyNot wsX6_whyNot) := goodIn_app (goodIn_of _ (by decide +kernel)) ggL_whyNot_X6_whyNot
theorem dL_whyNot_0 : decode cL_whyNot 0 = .ok (.aload 4, 2) := by decide +kernel
theorem dL_whyNot_2 : decode cL_whyNot 2 = .ok (.iconst 0, 1) := by decide +kernel
theorem dL_whyNot_3 : decode cL_whyNot 3 = .ok (.aload_n 0, 1) := by decide +kernel
theorem dL_whyNot_4 : decode cL_whyNot 4 = .ok (.iload_n 1, 1) := by decide +kernel
theorem dL_whyNot_5 : decode cL_whyNot 5 = .ok (.iload_n 2, 1) := by decide +kernel
theorem dL_whyNot_6 : decode cL_whyNot 6 = .ok (.iload_n 3, 1) := by decide +kernel
theorem dL_whyNot_7 : decode cL_whyNot 7 = .ok (.invokevirtual 86, 3) := by decide +kernel
theorem dL_whyNot_10 : decode cL_whyNot 10 = .ok (.i2l, 1) := by decide +kernel
theorem dL_whyNot_11 : decode cL_whyNot 11 = .ok (.lastore, 1) := by decide +kernel
theorem dL_whyNot_12 : decode cL_whyNot 12 = .ok (.goto 7, 3) := by decide +kernel
theorem dL_whyNot_15 : decode cL_whyNot 15 = .ok (.astore 5, 2) := by decide +kernel
theorem dL_whyNot_17 : decode cL_whyNot 17 = .ok (.iconst 1, 1) := by decide +kernel
theorem dL_whyNot_18 : decode cL_whyNot 18 = .ok (.ireturn, 1) := by decide +kernel
theorem dL_whyNot_19 : decode cL_whyNot 19 = .ok (.iconst 0, 1) := by decide +kernel
theorem dL_whyNot_20 : decode cL_whyNot 20 = .ok (.ireturn, 1) := by decide +kernel
set_option maxRecDepth 20000 in
theorem ggL_joyOn_X6_joyOn : GoodIn wsL_joyOn wsX6_joyOn := goodIn_ca (goodIn_r _ [6, 7, 8, 9, 10, 11, 12, 5, 13, 14, 15, 16, 17, 18, 19, 20, 21, 22, 23, 24, 25, 26, 27, 28, 29, 30, 31, 32, 33, 34, 35, 36, 37, 38, 39, 40, 41, 42, 43, 44, 45, 46, 47, 48, 49, 50, 51, 52, 53, 54, 55, 56, 57, 58, 59, 60, 61, 62, 63, 64, 65, 66] rfl (by decide +kernel)) (goodIn_sub (fun _ h => List.mem_cons_of_mem _ (List.mem_append_right _ h)) (by decide +kernel))
set_option maxRecDepth 20000 in
theorem gL_joyOn_X6_joyOn : GoodIn wsL_joyOn (wsV RL 89 RX6 yX6_joyOn wsX6_joyOn) := goodIn_app (goodIn_of _ (by decide +kernel)) ggL_joyOn_X6_joyOn
theorem dL_joyOn_0 : decode cL_joyOn 0 = .ok (.aload_n 3, 1) := by decide +kernel
theorem dL_joyOn_1 : decode cL_joyOn 1 = .ok (.iconst 0, 1) := by decide +kernel
theorem dL_joyOn_2 : decode cL_joyOn 2 = .ok (.aload_n 0, 1) := by decide +kernel
theorem dL_joyOn_3 : decode cL_joyOn 3 = .ok (.iload_n 1, 1) := by decide +kernel
theorem dL_joyOn_4 : decode cL_joyOn 4 = .ok (.iload_n 2, 1) := by decide +kernel
theorem dL_joyOn_5 : decode cL_joyOn 5 = .ok (.invokevirtual 89, 3) := by decide +kernel
theorem dL_joyOn_8 : decode cL_joyOn 8 = .ok (.i2l, 1) := by decide +kernel
theorem dL_joyOn_9 : decode cL_joyOn 9 = .ok (.lastore, 1) := by decide +kernel
theorem dL_joyOn_10 : decode cL_joyOn 10 = .ok (.goto 7, 3) := by decide +kernel
theorem dL_joyOn_13 : decode cL_joyOn 13 = .ok (.astore 4, 2) := by decide +kernel
theorem dL_joyOn_15 : decode cL_joyOn 15 = .ok (.iconst 1, 1) := by decide +kernel
theorem dL_joyOn_16 : decode cL_joyOn 16 = .ok (.ireturn, 1) := by decide +kernel
theorem dL_joyOn_17 : decode cL_joyOn 17 = .ok (.iconst 0, 1) := by decide +kernel
theorem dL_joyOn_18 : decode cL_joyOn 18 = .ok (.ireturn, 1) := by decide +kernel
set_option maxRecDepth 20000 in
theorem ggL_best_X6_best : GoodIn wsL_best wsX6_best := goodIn_ca (goodIn_r _ [6, 7, 8, 9, 10, 11, 5, 12, 13, 14, 15, 16, 17, 18, 19, 20, 21, 22, 23, 24, 25, 26, 27, 28, 29, 30, 31, 32, 33, 34, 35, 36, 37, 38, 39, 40, 41, 42, 43, 44, 45, 46, 47, 48, 49, 50, 51, 52, 53, 54, 55, 56, 57, 58, 59, 60, 61, 62, 63, 64, 65, 66, 67, 68, 69, 70, 71, 72, 73, 74, 75, 76, 77, 78, 79, 80, 81, 82, 83, 84, 85, 86, 87, 88, 89, 90, 91, 92, 93, 94, 95, 96, 97, 98, 99, 100, 101, 102, 103, 104, 105, 106, 107, 108, 109, 110, 111, 112, 113, 114, 115, 116, 117, 118, 119, 120, 121, 122, 123, 124, 125, 126, 127, 128, 129, 130, 131, 132, 133, 134, 135, 136, 137, 138, 139, 140, 141, 142, 143] rfl (by decide +kernel)) (goodIn_sub (fun _ h => List.mem_cons_of_mem _ (List.mem_append_right _ h)) (by decide +kernel))
set_option maxRecDepth 20000 in
theorem gL_best_X6_best : GoodIn wsL_best (wsV RL 92 RX6 yX6_best wsX6_best) := goodIn_app (goodIn_of _ (by decide +kernel)) ggL_best_X6_best
theorem dL_best_0 : decode cL_best 0 = .ok (.aload_n 3, 1) := by decide +kernel
theorem dL_best_1 : decode cL_best 1 = .ok (.iconst 0, 1) := by decide +kernel
theorem dL_best_2 : decode cL_best 2 = .ok (.aload_n 0, 1) := by decide +kernel
theorem dL_best_3 : decode cL_best 3 = .ok (.iload_n 1, 1) := by decide +kernel
theorem dL_best_4 : decode cL_best 4 = .ok (.iload_n 2, 1) := by decide +kernel
theorem dL_best_5 : decode cL_best 5 = .ok (.invokevirtual 92, 3) := by decide +kernel
theorem dL_best_8 : decode cL_best 8 = .ok (.i2l, 1) := by decide +kernel
theorem dL_best_9 : decode cL_best 9 = .ok (.lastore, 1) := by decide +kernel
theorem dL_best_10 : decode cL_best 10 = .ok (.goto 7, 3) := by decide +kernel
theorem dL_best_13 : decode cL_best 13 = .ok (.astore 4, 2) := by decide +kernel
theorem dL_best_15 : decode cL_best 15 = .ok (.iconst 1, 1) := by decide +kernel
theorem dL_best_16 : decode cL_best 16 = .ok (.ireturn, 1) := by decide +kernel
theorem dL_best_17 : decode cL_best 17 = .ok (.iconst 0, 1) := by decide +kernel
theorem dL_best_18 : decode cL_best 18 = .ok (.ireturn, 1) := by decide +kernel
set_option maxRecDepth 20000 in
theorem ggL_gain_X6_gain : GoodIn wsL_gain wsX6_gain := goodIn_ca (goodIn_r _ [6, 7, 8, 9, 10, 11, 12, 13, 5, 14, 15, 16, 17, 18, 19, 20, 21, 22, 23, 24, 25, 26, 27, 28, 29, 30, 31, 32, 33, 34, 35, 36, 37, 38, 39, 40, 41, 42, 43, 44, 45, 46, 47, 48, 49, 50, 51, 52, 53, 54, 55, 56, 57, 58, 59, 60, 61, 62, 63, 64, 65, 66, 67, 68, 69, 70, 71, 72, 73, 74, 75, 76, 77, 78, 79, 80, 81, 82, 83, 84, 85, 86, 87, 88, 89, 90, 91, 92, 93, 94, 95, 96, 97, 98, 99, 100, 101, 102, 103, 104, 105, 106, 107, 108, 109, 110, 111, 112, 113, 114, 115, 116, 117, 118, 119, 120, 121, 122, 123, 124, 125, 126, 127, 128, 129, 130, 131, 132, 133, 134, 135, 136, 137, 138, 139, 140, 141, 142, 143, 144, 145] rfl (by decide +kernel)) (goodIn_sub (fun _ h => List.mem_cons_of_mem _ (List.mem_append_right _ h)) (by decide +kernel))
set_option maxRecDepth 20000 in
theorem gL_gain_X6_gain : GoodIn wsL_gain (wsV RL 95 RX6 yX6_gain wsX6_gain) := goodIn_app (goodIn_of _ (by decide +kernel)) ggL_gain_X6_gain
theorem dL_gain_0 : decode cL_gain 0 = .ok (.aload_n 3, 1) := by decide +kernel
theorem dL_gain_1 : decode cL_gain 1 = .ok (.iconst 0, 1) := by decide +kernel
theorem dL_gain_2 : decode cL_gain 2 = .ok (.aload_n 0, 1) := by decide +kernel
theorem dL_gain_3 : decode cL_gain 3 = .ok (.iload_n 1, 1) := by decide +kernel
theorem dL_gain_4 : decode cL_gain 4 = .ok (.iload_n 2, 1) := by decide +kernel
theorem dL_gain_5 : decode cL_gain 5 = .ok (.invokevirtual 95, 3) := by decide +kernel
theorem dL_gain_8 : decode cL_gain 8 = .ok (.i2l, 1) := by decide +kernel
theorem dL_gain_9 : decode cL_gain 9 = .ok (.lastore, 1) := by decide +kernel
theorem dL_gain_10 : decode cL_gain 10 = .ok (.goto 7, 3) := by decide +kernel
theorem dL_gain_13 : decode cL_gain 13 = .ok (.astore 4, 2) := by decide +kernel
theorem dL_gain_15 : decode cL_gain 15 = .ok (.iconst 1, 1) := by decide +kernel
theorem dL_gain_16 : decode cL_gain 16 = .ok (.ireturn, 1) := by decide +kernel
theorem dL_gain_17 : decode cL_gain 17 = .ok (.iconst 0, 1) := by decide +kernel
theorem dL_gain_18 : decode cL_gain 18 = .ok (.ireturn, 1) := by decide +kernel
set_option maxRecDepth 20000 in
theorem ggL_bestDay_X6_bestDay : GoodIn wsL_bestDay wsX6_bestDay := goodIn_ca (goodIn_r _ [6, 7, 8, 9, 10, 11, 12, 13, 14, 15, 16, 17, 18, 19, 20, 21, 22, 23, 24, 5, 25, 26, 27, 28, 29, 30, 31, 32, 33, 34, 35, 36, 37, 38, 39, 40, 41, 42, 43, 44, 45, 46, 47, 48, 49, 50, 51, 52, 53, 54, 55, 56, 57, 58, 59, 60, 61, 62, 63, 64, 65, 66, 67, 68, 69, 70, 71, 72, 73, 74, 75, 76, 77, 78, 79, 80, 81, 82, 83, 84, 85, 86, 87, 88, 89, 90, 91, 92, 93, 94, 95, 96, 97, 98, 99, 100, 101, 102, 103, 104, 105, 106, 107, 108, 109, 110, 111, 112, 113, 114, 115, 116, 117, 118, 119, 120, 121, 122, 123, 124, 125, 126, 127, 128, 129, 130, 131, 132, 133, 134, 135, 136, 137, 138, 139, 140, 141, 142, 143, 144] rfl (by decide +kernel)) (goodIn_sub (fun _ h => List.mem_cons_of_mem _ (List.mem_append_right _ h)) (by decide +kernel))
set_option maxRecDepth 20000 in
theorem gL_bestDay_X6_bestDay : GoodIn wsL_bestDay (wsV RL 98 RX6 yX6_bestDay wsX6_bestDay) := goodIn_app (goodIn_of _ (by decide +kernel)) ggL_bestDay_X6_bestDay
theorem dL_bestDay_0 : decode cL_bestDay 0 = .ok (.aload_n 2, 1) := by decide +kernel
theorem dL_bestDay_1 : decode cL_bestDay 1 = .ok (.iconst 0, 1) := by decide +kernel
theorem dL_bestDay_2 : decode cL_bestDay 2 = .ok (.aload_n 0, 1) := by decide +kernel
theorem dL_bestDay_3 : decode cL_bestDay 3 = .ok (.iload_n 1, 1) := by decide +kernel
theorem dL_bestDay_4 : decode cL_bestDay 4 = .ok (.invokevirtual 98, 3) := by decide +kernel
theorem dL_bestDay_7 : decode cL_bestDay 7 = .ok (.i2l, 1) := by decide +kernel
theorem dL_bestDay_8 : decode cL_bestDay 8 = .ok (.lastore, 1) := by decide +kernel
theorem dL_bestDay_9 : decode cL_bestDay 9 = .ok (.goto 6, 3) := by decide +kernel
theorem dL_bestDay_12 : decode cL_bestDay 12 = .ok (.astore_n 3, 1) := by decide +kernel
theorem dL_bestDay_13 : decode cL_bestDay 13 = .ok (.iconst 1, 1) := by decide +kernel
theorem dL_bestDay_14 : decode cL_bestDay 14 = .ok (.ireturn, 1) := by decide +kernel
theorem dL_bestDay_15 : decode cL_bestDay 15 = .ok (.iconst 0, 1) := by decide +kernel
theorem dL_bestDay_16 : decode cL_bestDay 16 = .ok (.ireturn, 1) := by decide +kernel
