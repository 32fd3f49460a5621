set_option maxRecDepth 20000 in
theorem ggL_addDish_X6_addDish : GoodIn wsL_addDish wsX6_addDish := goodIn_ca (goodIn_ca (goodIn_r _ [7, 8, 9, 10, 11, 12, 13, 14, 15, 16, 6, 17, 18, 19, 20, 21, 22, 23, 24, 25, 26, 27, 28, 29, 30, 31, 32, 33, 34, 35, 36, 37, 38, 39, 40, 41, 42, 43, 44, 45, 46, 47, 48, 49, 50, 51, 52, 53, 54, 55, 56, 57, 58, 59, 60, 61, 62, 63, 64, 65, 66, 67, 68, 69, 70, 71, 72, 73, 74, 75, 76, 77, 78, 79, 80, 81, 82, 83, 84] (by decide +kernel) (by decide +kernel)) (goodIn_sub (fun _ h => List.mem_cons_of_mem _ (List.mem_append_left _ (List.mem_append_right _ h))) (by decide +kernel))) (goodIn_sub (fun _ h => List.mem_cons_of_mem _ (List.mem_append_right _ h)) (by decide +kernel))
set_option maxRecDepth 20000 in
theorem gL_addDish_X6_addDish : GoodIn wsL_addDish (wsV RL 7 RX6 yX6_addDish wsX6_addDish) := goodIn_app (goodIn_of _ (by decide +kernel)) ggL_addDish_X6_addDish
theorem dL_addDish_0 : decode cL_addDish 0 = .ok (.aload 5, 2) := by decide +kernel
theorem dL_addDish_2 : decode cL_addDish 2 = .ok (.iconst 0, 1) := by decide +kernel
theorem dL_addDish_3 : decode cL_addDish 3 = .ok (.aload_n 0, 1) := by decide +kernel
theorem dL_addDish_4 : decode cL_addDish 4 = .ok (.iload_n 1, 1) := by decide +kernel
theorem dL_addDish_5 : decode cL_addDish 5 = .ok (.iload_n 2, 1) := by decide +kernel
theorem dL_addDish_6 : decode cL_addDish 6 = .ok (.iload_n 3, 1) := by decide +kernel
theorem dL_addDish_7 : decode cL_addDish 7 = .ok (.iload 4, 2) := by decide +kernel
theorem dL_addDish_9 : decode cL_addDish 9 = .ok (.invokevirtual 7, 3) := by decide +kernel
theorem dL_addDish_12 : decode cL_addDish 12 = .ok (.i2l, 1) := by decide +kernel
theorem dL_addDish_13 : decode cL_addDish 13 = .ok (.lastore, 1) := by decide +kernel
theorem dL_addDish_14 : decode cL_addDish 14 = .ok (.goto 11, 3) := by decide +kernel
theorem dL_addDish_17 : decode cL_addDish 17 = .ok (.astore 6, 2) := by decide +kernel
theorem dL_addDish_19 : decode cL_addDish 19 = .ok (.iconst 1, 1) := by decide +kernel
theorem dL_addDish_20 : decode cL_addDish 20 = .ok (.ireturn, 1) := by decide +kernel
theorem dL_addDish_21 : decode cL_addDish 21 = .ok (.astore 6, 2) := by decide +kernel
theorem dL_addDish_23 : decode cL_addDish 23 = .ok (.iconst 2, 1) := by decide +kernel
theorem dL_addDish_24 : decode cL_addDish 24 = .ok (.ireturn, 1) := by decide +kernel
theorem dL_addDish_25 : decode cL_addDish 25 = .ok (.iconst 0, 1) := by decide +kernel
theorem dL_addDish_26 : decode cL_addDish 26 = .ok (.ireturn, 1) := by decide +kernel
set_option maxRecDepth 20000 in
theorem ggL_leave_X6_leave : GoodIn wsL_leave wsX6_leave := goodIn_ca (goodIn_ca (goodIn_ca (goodIn_r _ [8, 9, 10, 11, 12, 13, 14, 15, 16, 17, 18, 19, 20, 21, 22, 23, 24, 25, 26, 27, 7, 28, 29, 30, 31, 32, 33, 34, 35, 36, 37, 38, 39, 40, 41, 42, 43, 44, 45, 46, 47, 48, 49, 50, 51, 52, 53, 54, 55, 56, 57, 58, 59, 60, 61, 62, 63, 64, 65, 66, 67, 68, 69, 70, 71, 72, 73, 74, 75, 76, 77, 78, 79, 80, 81, 82, 83, 84, 85, 86, 87, 88, 89, 90, 91, 92, 93, 94, 95, 96, 97, 98, 99, 100, 101, 102, 103, 104, 105, 106, 107, 108, 109, 110, 111, 112, 113, 114, 115, 116, 117, 118, 119, 120, 121, 122, 123, 124, 125, 126, 127, 128, 129, 130, 131, 132, 133, 134, 135, 136, 137, 138, 139, 140, 141, 142] (by decide +kernel) (by decide +kernel)) (goodIn_sub (fun _ h => List.mem_cons_of_mem _ (List.mem_append_left _ (List.mem_append_left _ (List.mem_append_right _ h)))) (by decide +kernel))) (goodIn_sub (fun _ h => List.mem_cons_of_mem _ (List.mem_append_left _ (List.mem_append_right _ h))) (by decide +kernel))) (goodIn_sub (fun _ h => List.mem_cons_of_mem _ (List.mem_append_right _ h)) (by decide +kernel))
set_option maxRecDepth 20000 in
theorem gL_leave_X6_leave : GoodIn wsL_leave (wsV RL 17 RX6 yX6_leave wsX6_leave) := goodIn_app (goodIn_of _ (by decide +kernel)) ggL_leave_X6_leave
theorem dL_leave_0 : decode cL_leave 0 = .ok (.aload 4, 2) := by decide +kernel
theorem dL_leave_2 : decode cL_leave 2 = .ok (.iconst 0, 1) := by decide +kernel
theorem dL_leave_3 : decode cL_leave 3 = .ok (.aload_n 0, 1) := by decide +kernel
theorem dL_leave_4 : decode cL_leave 4 = .ok (.iload_n 1, 1) := by decide +kernel
theorem dL_leave_5 : decode cL_leave 5 = .ok (.iload_n 2, 1) := by decide +kernel
theorem dL_leave_6 : decode cL_leave 6 = .ok (.iload_n 3, 1) := by decide +kernel
theorem dL_leave_7 : decode cL_leave 7 = .ok (.invokevirtual 17, 3) := by decide +kernel
theorem dL_leave_10 : decode cL_leave 10 = .ok (.i2l, 1) := by decide +kernel
theorem dL_leave_11 : decode cL_leave 11 = .ok (.lastore, 1) := by decide +kernel
theorem dL_leave_12 : decode cL_leave 12 = .ok (.goto 15, 3) := by decide +kernel
theorem dL_leave_15 : decode cL_leave 15 = .ok (.astore 5, 2) := by decide +kernel
theorem dL_leave_17 : decode cL_leave 17 = .ok (.iconst 1, 1) := by decide +kernel
theorem dL_leave_18 : decode cL_leave 18 = .ok (.ireturn, 1) := by decide +kernel
theorem dL_leave_19 : decode cL_leave 19 = .ok (.astore 5, 2) := by decide +kernel
theorem dL_leave_21 : decode cL_leave 21 = .ok (.iconst 2, 1) := by decide +kernel
theorem dL_leave_22 : decode cL_leave 22 = .ok (.ireturn, 1) := by decide +kernel
theorem dL_leave_23 : decode cL_leave 23 = .ok (.astore 5, 2) := by decide +kernel
theorem dL_leave_25 : decode cL_leave 25 = .ok (.iconst 3, 1) := by decide +kernel
theorem dL_leave_26 : decode cL_leave 26 = .ok (.ireturn, 1) := by decide +kernel
theorem dL_leave_27 : decode cL_leave 27 = .ok (.iconst 0, 1) := by decide +kernel
theorem dL_leave_28 : decode cL_leave 28 = .ok (.ireturn, 1) := by decide +kernel
set_option maxRecDepth 20000 in
theorem ggL_addGuest_X6_addGuest : GoodIn wsL_addGuest wsX6_addGuest := goodIn_ca (goodIn_r _ [6, 7, 8, 9, 10, 11, 12, 13, 14, 15, 16, 17, 18, 19, 20, 21, 22, 23, 24, 25, 26, 27, 28, 29, 30, 31, 32, 33, 34, 35, 36, 37, 38, 39, 40, 41, 5, 42, 43, 44, 45, 46, 47, 48, 49, 50, 51, 52, 53, 54, 55, 56, 57, 58, 59, 60, 61, 62, 63, 64, 65, 66, 67, 68, 69, 70, 71, 72, 73, 74, 75, 76, 77, 78] (by decide +kernel) (by decide +kernel)) (goodIn_sub (fun _ h => List.mem_cons_of_mem _ (List.mem_append_right _ h)) (by decide +kernel))
set_option maxRecDepth 20000 in
theorem gL_addGuest_X6_addGuest : GoodIn wsL_addGuest (wsV RL 23 RX6 yX6_addGuest wsX6_addGuest) := goodIn_app (goodIn_of _ (by decide +kernel)) ggL_addGuest_X6_addGuest
theorem dL_addGuest_0 : decode cL_addGuest 0 = .ok (.aload_n 1, 1) := by decide +kernel
theorem dL_addGuest_1 : decode cL_addGuest 1 = .ok (.iconst 0, 1) := by decide +kernel
theorem dL_addGuest_2 : decode cL_addGuest 2 = .ok (.aload_n 0, 1) := by decide +kernel
theorem dL_addGuest_3 : decode cL_addGuest 3 = .ok (.invokevirtual 23, 3) := by decide +kernel
theorem dL_addGuest_6 : decode cL_addGuest 6 = .ok (.i2l, 1) := by decide +kernel
theorem dL_addGuest_7 : decode cL_addGuest 7 = .ok (.lastore, 1) := by decide +kernel
theorem dL_addGuest_8 : decode cL_addGuest 8 = .ok (.goto 6, 3) := by decide +kernel
theorem dL_addGuest_11 : decode cL_addGuest 11 = .ok (.astore_n 2, 1) := by decide +kernel
theorem dL_addGuest_12 : decode cL_addGuest 12 = .ok (.iconst 1, 1) := by decide +kernel
theorem dL_addGuest_13 : decode cL_addGuest 13 = .ok (.ireturn, 1) := by decide +kernel
theorem dL_addGuest_14 : decode cL_addGuest 14 = .ok (.iconst 0, 1) := by decide +kernel
theorem dL_addGuest_15 : decode cL_addGuest 15 = .ok (.ireturn, 1) := by decide +kernel
set_option maxRecDepth 20000 in
theorem ggL_come_X6_come : GoodIn wsL_come wsX6_come := goodIn_ca (goodIn_ca (goodIn_ca (goodIn_r _ [8, 9, 10, 11, 12, 13, 14, 15, 16, 17, 18, 19, 20, 21, 22, 23, 24, 25, 7, 26, 27, 28, 29, 30, 31, 32, 33, 34, 35, 36, 37, 38, 39, 40, 41, 42, 43, 44, 45, 46, 47, 48, 49, 50, 51, 52, 53, 54, 55, 56, 57, 58, 59, 60, 61, 62, 63, 64, 65, 66, 67, 68, 69, 70, 71, 72, 73, 74, 75, 76, 77, 78, 79, 80, 81, 82, 83, 84, 85, 86, 87, 88, 89, 90, 91, 92, 93, 94, 95, 96, 97, 98, 99, 100, 101, 102, 103, 104, 105, 106, 107, 108, 109, 110, 111, 112, 113] (by decide +kernel) (by decide +kernel)) (goodIn_sub (fun _ h => List.mem_cons_of_mem _ (List.mem_append_left _ (List.mem_append_left _ (List.mem_append_right _ h)))) (by decide +kernel))) (goodIn_sub (fun _ h => List.mem_cons_of_mem _ (List.mem_append_left _ (List.mem_append_right _ h))) (by decide +kernel))) (goodIn_sub (fun _ h => List.mem_cons_of_mem _ (List.mem_append_right _ h)) (by decide +kernel))
set_option maxRecDepth 20000 in
theorem gL_come_X6_come : GoodIn wsL_come (wsV RL 27 RX6 yX6_come wsX6_come) := goodIn_app (goodIn_of _ (by decide +kernel)) ggL_come_X6_come
theorem dL_come_0 : decode cL_come 0 = .ok (.aload_n 3, 1) := by decide +kernel
theorem dL_come_1 : decode cL_come 1 = .ok (.iconst 0, 1) := by decide +kernel
theorem dL_come_2 : decode cL_come 2 = .ok (.aload_n 0, 1) := by decide +kernel
theorem dL_come_3 : decode cL_come 3 = .ok (.iload_n 1, 1) := by decide +kernel
theorem dL_come_4 : decode cL_come 4 = .ok (.iload_n 2, 1) := by decide +kernel
theorem dL_come_5 : decode cL_come 5 = .ok (.invokevirtual 27, 3) := by decide +kernel
theorem dL_come_8 : decode cL_come 8 = .ok (.i2l, 1) := by decide +kernel
theorem dL_come_9 : decode cL_come 9 = .ok (.lastore, 1) := by decide +kernel
theorem dL_come_10 : decode cL_come 10 = .ok (.goto 15, 3) := by decide +kernel
theorem dL_come_13 : decode cL_come 13 = .ok (.astore 4, 2) := by decide +kernel
theorem dL_come_15 : decode cL_come 15 = .ok (.iconst 1, 1) := by decide +kernel
theorem dL_come_16 : decode cL_come 16 = .ok (.ireturn, 1) := by decide +kernel
theorem dL_come_17 : decode cL_come 17 = .ok (.astore 4, 2) := by decide +kernel
theorem dL_come_19 : decode cL_come 19 = .ok (.iconst 2, 1) := by decide +kernel
theorem dL_come_20 : decode cL_come 20 = .ok (.ireturn, 1) := by decide +kernel
theorem dL_come_21 : decode cL_come 21 = .ok (.astore 4, 2) := by decide +kernel
theorem dL_come_23 : decode cL_come 23 = .ok (.iconst 3, 1) := by decide +kernel
theorem dL_come_24 : decode cL_come 24 = .ok (.ireturn, 1) := by decide +kernel
theorem dL_come_25 : decode cL_come 25 = .ok (.iconst 0, 1) := by decide +kernel
theorem dL_come_26 : decode cL_come 26 = .ok (.ireturn, 1) := by decide +kernel
set_option maxRecDepth 20000 in
theorem ggL_veto_X6_veto : GoodIn wsL_veto wsX6_veto := goodIn_ca (goodIn_ca (goodIn_ca (goodIn_r _ [8, 9, 10, 11, 12, 13, 14, 15, 16, 17, 18, 19, 20, 21, 22, 23, 24, 25, 7, 26, 27, 28, 29, 30, 31, 32, 33, 34, 35, 36, 37, 38, 39, 40, 41, 42, 43, 44, 45, 46, 47, 48, 49, 50, 51, 52, 53, 54, 55, 56, 57, 58, 59, 60, 61, 62, 63, 64, 65, 66, 67, 68, 69, 70, 71, 72, 73, 74, 75, 76, 77, 78, 79, 80, 81, 82, 83, 84, 85, 86, 87, 88, 89, 90, 91, 92, 93, 94, 95, 96, 97, 98, 99, 100, 101, 102, 103, 104, 105, 106, 107, 108, 109, 110, 111, 112, 113] (by decide +kernel) (by decide +kernel)) (goodIn_sub (fun _ h => List.mem_cons_of_mem _ (List.mem_append_left _ (List.mem_append_left _ (List.mem_append_right _ h)))) (by decide +kernel))) (goodIn_sub (fun _ h => List.mem_cons_of_mem _ (List.mem_append_left _ (List.mem_append_right _ h))) (by decide +kernel))) (goodIn_sub (fun _ h => List.mem_cons_of_mem _ (List.mem_append_right _ h)) (by decide +kernel))
set_option maxRecDepth 20000 in
theorem gL_veto_X6_veto : GoodIn wsL_veto (wsV RL 31 RX6 yX6_veto wsX6_veto) := goodIn_app (goodIn_of _ (by decide +kernel)) ggL_veto_X6_veto
theorem dL_veto_0 : decode cL_veto 0 = .ok (.aload_n 3, 1) := by decide +kernel
theorem dL_veto_1 : decode cL_veto 1 = .ok (.iconst 0, 1) := by decide +kernel
theorem dL_veto_2 : decode cL_veto 2 = .ok (.aload_n 0, 1) := by decide +kernel
theorem dL_veto_3 : decode cL_veto 3 = .ok (.iload_n 1, 1) := by decide +kernel
theorem dL_veto_4 : decode cL_veto 4 = .ok (.iload_n 2, 1) := by decide +kernel
theorem dL_veto_5 : decode cL_veto 5 = .ok (.invokevirtual 31, 3) := by decide +kernel
theorem dL_veto_8 : decode cL_veto 8 = .ok (.i2l, 1) := by decide +kernel
theorem dL_veto_9 : decode cL_veto 9 = .ok (.lastore, 1) := by decide +kernel
theorem dL_veto_10 : decode cL_veto 10 = .ok (.goto 15, 3) := by decide +kernel
theorem dL_veto_13 : decode cL_veto 13 = .ok (.astore 4, 2) := by decide +kernel
theorem dL_veto_15 : decode cL_veto 15 = .ok (.iconst 1, 1) := by decide +kernel
theorem dL_veto_16 : decode cL_veto 16 = .ok (.ireturn, 1) := by decide +kernel
theorem dL_veto_17 : decode cL_veto 17 = .ok (.astore 4, 2) := by decide +kernel
theorem dL_veto_19 : decode cL_veto 19 = .ok (.iconst 2, 1) := by decide +kernel
theorem dL_veto_20 : decode cL_veto 20 = .ok (.ireturn, 1) := by decide +kernel
theorem dL_veto_21 : decode cL_veto 21 = .ok (.astore 4, 2) := by decide +kernel
theorem dL_veto_23 : decode cL_veto 23 = .ok (.iconst 3, 1) := by decide +kernel
theorem dL_veto_24 : decode cL_veto 24 = .ok (.ireturn, 1) := by decide +kernel
theorem dL_veto_25 : decode cL_veto 25 = .ok (.iconst 0, 1) := by decide +kernel
theorem dL_veto_26 : decode cL_veto 26 = .ok (.ireturn, 1) := by decide +kernel
set_option maxRecDepth 20000 in
theorem ggL_set_X6_set : GoodIn wsL_set wsX6_set := goodIn_ca (goodIn_ca (goodIn_ca (goodIn_r _ [8, 9, 10, 11, 12, 13, 14, 15, 16, 17, 18, 19, 7, 20, 21, 22, 23, 24, 25, 26, 27, 28, 29, 30, 31, 32, 33, 34, 35, 36, 37, 38, 39, 40, 41, 42, 43, 44, 45, 46, 47, 48, 49, 50, 51, 52, 53, 54, 55, 56, 57, 58, 59, 60, 61, 62, 63, 64, 65, 66, 67, 68, 69, 70, 71, 72, 73, 74, 75, 76, 77, 78, 79, 80, 81, 82, 83, 84, 85, 86, 87, 88, 89, 90, 91, 92, 93, 94, 95, 96, 97, 98, 99, 100, 101, 102, 103, 104, 105, 106, 107, 108, 109, 110, 111, 112, 113] (by decide +kernel) (by decide +kernel)) (goodIn_sub (fun _ h => List.mem_cons_of_mem _ (List.mem_append_left _ (List.mem_append_left _ (List.mem_append_right _ h)))) (by decide +kernel))) (goodIn_sub (fun _ h => List.mem_cons_of_mem _ (List.mem_append_left _ (List.mem_append_right _ h))) (by decide +kernel))) (goodIn_sub (fun _ h => List.mem_cons_of_mem _ (List.mem_append_right _ h)) (by decide +kernel))
set_option maxRecDepth 20000 in
theorem gL_set_X6_set : GoodIn wsL_set (wsV RL 34 RX6 yX6_set wsX6_set) := goodIn_app (goodIn_of _ (by decide +kernel)) ggL_set_X6_set
theorem dL_set_0 : decode cL_set 0 = .ok (.aload_n 3, 1) := by decide +kernel
theorem dL_set_1 : decode cL_set 1 = .ok (.iconst 0, 1) := by decide +kernel
theorem dL_set_2 : decode cL_set 2 = .ok (.aload_n 0, 1) := by decide +kernel
theorem dL_set_3 : decode cL_set 3 = .ok (.iload_n 1, 1) := by decide +kernel
theorem dL_set_4 : decode cL_set 4 = .ok (.iload_n 2, 1) := by decide +kernel
theorem dL_set_5 : decode cL_set 5 = .ok (.invokevirtual 34, 3) := by decide +kernel
theorem dL_set_8 : decode cL_set 8 = .ok (.i2l, 1) := by decide +kernel
theorem dL_set_9 : decode cL_set 9 = .ok (.lastore, 1) := by decide +kernel
theorem dL_set_10 : decode cL_set 10 = .ok (.goto 15, 3) := by decide +kernel
theorem dL_set_13 : decode cL_set 13 = .ok (.astore 4, 2) := by decide +kernel
theorem dL_set_15 : decode cL_set 15 = .ok (.iconst 1, 1) := by decide +kernel
theorem dL_set_16 : decode cL_set 16 = .ok (.ireturn, 1) := by decide +kernel
theorem dL_set_17 : decode cL_set 17 = .ok (.astore 4, 2) := by decide +kernel
theorem dL_set_19 : decode cL_set 19 = .ok (.iconst 2, 1) := by decide +kernel
theorem dL_set_20 : decode cL_set 20 = .ok (.ireturn, 1) := by decide +kernel
theorem dL_set_21 : decode cL_set 21 = .ok (.astore 4, 2) := by decide +kernel
theorem dL_set_23 : decode cL_set 23 = .ok (.iconst 3, 1) := by decide +kernel
theorem dL_set_24 : decode cL_set 24 = .ok (.ireturn, 1) := by decide +kernel
theorem dL_set_25 : decode cL_set 25 = .ok (.iconst 0, 1) := by decide +kernel
theorem dL_set_26 : decode cL_set 26 = .ok (.ireturn, 1) := by decide +kernel
set_option maxRecDepth 20000 in
theorem ggL_serve_X6_serve : GoodIn wsL_serve wsX6_serve := goodIn_ca (goodIn_ca (goodIn_r _ [7, 8, 9, 10, 11, 12, 13, 14, 15, 16, 17, 18, 6, 19, 20, 21, 22, 23, 24, 25, 26, 27, 28, 29, 30, 31, 32, 33, 34, 35, 36, 37, 38, 39, 40, 41, 42, 43, 44, 45, 46, 47, 48, 49, 50, 51, 52, 53, 54, 55, 56, 57, 58, 59, 60, 61, 62, 63, 64, 65, 66, 67, 68, 69, 70, 71, 72, 73, 74, 75, 76, 77, 78, 79, 80, 81, 82, 83, 84, 85, 86, 87, 88, 89, 90, 91, 92, 93, 94, 95, 96, 97, 98, 99, 100, 101, 102, 103, 104, 105, 106, 107, 108, 109, 110, 111, 112, 113, 114, 115, 116, 117, 118, 119, 120, 121, 122, 123, 124, 125, 126, 127, 128, 129, 130, 131, 132, 133, 134, 135, 136, 137, 138, 139, 140, 141, 142, 143, 144, 145, 146, 147, 148, 149, 150, 151, 152, 153, 154, 155, 156, 157, 158, 159, 160, 161, 162, 163, 164, 165, 166, 167, 168, 169, 170, 171, 172, 173, 174, 175, 176, 177] (by decide +kernel) (by decide +kernel)) (goodIn_sub (fun _ h => List.mem_cons_of_mem _ (List.mem_append_left _ (List.mem_append_right _ h))) (by decide +kernel))) (goodIn_sub (fun _ h => List.mem_cons_of_mem _ (List.mem_append_right _ h)) (by decide +kernel))
set_option maxRecDepth 20000 in
theorem gL_serve_X6_serve : GoodIn wsL_serve (wsV RL 37 RX6 yX6_serve wsX6_serve) := goodIn_app (goodIn_of _ (by decide +kernel)) ggL_serve_X6_serve
theorem dL_serve_0 : decode cL_serve 0 = .ok (.aload_n 3, 1) := by decide +kernel
theorem dL_serve_1 : decode cL_serve 1 = .ok (.iconst 0, 1) := by decide +kernel
theorem dL_serve_2 : decode cL_serve 2 = .ok (.aload_n 0, 1) := by decide +kernel
theorem dL_serve_3 : decode cL_serve 3 = .ok (.iload_n 1, 1) := by decide +kernel
theorem dL_serve_4 : decode cL_serve 4 = .ok (.iload_n 2, 1) := by decide +kernel
theorem dL_serve_5 : decode cL_serve 5 = .ok (.invokevirtual 37, 3) := by decide +kernel
theorem dL_serve_8 : decode cL_serve 8 = .ok (.i2l, 1) := by decide +kernel
theorem dL_serve_9 : decode cL_serve 9 = .ok (.lastore, 1) := by decide +kernel
theorem dL_serve_10 : decode cL_serve 10 = .ok (.goto 11, 3) := by decide +kernel
theorem dL_serve_13 : decode cL_serve 13 = .ok (.astore 4, 2) := by decide +kernel
theorem dL_serve_15 : decode cL_serve 15 = .ok (.iconst 1, 1) := by decide +kernel
theorem dL_serve_16 : decode cL_serve 16 = .ok (.ireturn, 1) := by decide +kernel
theorem dL_serve_17 : decode cL_serve 17 = .ok (.astore 4, 2) := by decide +kernel
theorem dL_serve_19 : decode cL_serve 19 = .ok (.iconst 2, 1) := by decide +kernel
theorem dL_serve_20 : decode cL_serve 20 = .ok (.ireturn, 1) := by decide +kernel
theorem dL_serve_21 : decode cL_serve 21 = .ok (.iconst 0, 1) := by decide +kernel
theorem dL_serve_22 : decode cL_serve 22 = .ok (.ireturn, 1) := by decide +kernel
set_option maxRecDepth 20000 in
theorem ggL_drop_X6_drop : GoodIn wsL_drop wsX6_drop := goodIn_ca (goodIn_ca (goodIn_r _ [7, 8, 9, 10, 11, 12, 13, 14, 15, 16, 17, 6, 18, 19, 20, 21, 22, 23, 24, 25, 26, 27, 28, 29, 30, 31, 32, 33, 34, 35, 36, 37, 38, 39, 40, 41, 42, 43, 44, 45, 46, 47, 48, 49, 50, 51, 52, 53, 54, 55, 56, 57, 58, 59, 60, 61, 62, 63, 64, 65, 66, 67, 68, 69, 70, 71, 72, 73, 74, 75, 76, 77, 78, 79, 80, 81, 82, 83, 84, 85, 86, 87, 88, 89, 90, 91, 92, 93, 94, 95, 96, 97, 98, 99, 100, 101, 102, 103, 104, 105, 106, 107, 108, 109, 110, 111, 112, 113, 114, 115, 116, 117, 118, 119, 120, 121, 122, 123, 124, 125, 126, 127, 128, 129, 130, 131, 132, 133, 134, 135, 136, 137, 138] (by decide +kernel) (by decide +kernel)) (goodIn_sub (fun _ h => List.mem_cons_of_mem _ (List.mem_append_left _ (List.mem_append_right _ h))) (by decide +kernel))) (goodIn_sub (fun _ h => List.mem_cons_of_mem _ (List.mem_append_right _ h)) (by decide +kernel))
set_option maxRecDepth 20000 in
theorem gL_drop_X6_drop : GoodIn wsL_drop (wsV RL 40 RX6 yX6_drop wsX6_drop) := goodIn_app (goodIn_of _ (by decide +kernel)) ggL_drop_X6_drop
theorem dL_drop_0 : decode cL_drop 0 = .ok (.aload_n 3, 1) := by decide +kernel
theorem dL_drop_1 : decode cL_drop 1 = .ok (.iconst 0, 1) := by decide +kernel
theorem dL_drop_2 : decode cL_drop 2 = .ok (.aload_n 0, 1) := by decide +kernel
theorem dL_drop_3 : decode cL_drop 3 = .ok (.iload_n 1, 1) := by decide +kernel
theorem dL_drop_4 : decode cL_drop 4 = .ok (.iload_n 2, 1) := by decide +kernel
theorem dL_drop_5 : decode cL_drop 5 = .ok (.invokevirtual 40, 3) := by decide +kernel
theorem dL_drop_8 : decode cL_drop 8 = .ok (.i2l, 1) := by decide +kernel
theorem dL_drop_9 : decode cL_drop 9 = .ok (.lastore, 1) := by decide +kernel
theorem dL_drop_10 : decode cL_drop 10 = .ok (.goto 11, 3) := by decide +kernel
theorem dL_drop_13 : decode cL_drop 13 = .ok (.astore 4, 2) := by decide +kernel
theorem dL_drop_15 : decode cL_drop 15 = .ok (.iconst 1, 1) := by decide +kernel
theorem dL_drop_16 : decode cL_drop 16 = .ok (.ireturn, 1) := by decide +kernel
theorem dL_drop_17 : decode cL_drop 17 = .ok (.astore 4, 2) := by decide +kernel
theorem dL_drop_19 : decode cL_drop 19 = .ok (.iconst 2, 1) := by decide +kernel
theorem dL_drop_20 : decode cL_drop 20 = .ok (.ireturn, 1) := by decide +kernel
theorem dL_drop_21 : decode cL_drop 21 = .ok (.iconst 0, 1) := by decide +kernel
theorem dL_drop_22 : decode cL_drop 22 = .ok (.ireturn, 1) := by decide +kernel
set_option maxRecDepth 20000 in
theorem ggL_exchange_X6_exchange : GoodIn wsL_exchange wsX6_exchange := goodIn_ca (goodIn_ca (goodIn_r _ [7, 8, 9, 10, 11, 12, 13, 14, 15, 16, 6, 17, 18, 19, 20, 21, 22, 23, 24, 25, 26, 27, 28, 29, 30, 31, 32, 33, 34, 35, 36, 37, 38, 39, 40, 41, 42, 43, 44, 45, 46, 47, 48, 49, 50, 51, 52, 53, 54, 55, 56, 57, 58, 59, 60, 61, 62, 63, 64, 65, 66, 67, 68, 69, 70, 71, 72, 73, 74, 75, 76, 77, 78, 79, 80, 81, 82, 83, 84, 85, 86, 87, 88, 89, 90, 91, 92, 93, 94, 95, 96, 97, 98, 99, 100, 101, 102, 103, 104, 105, 106, 107, 108, 109, 110, 111, 112, 113, 114, 115, 116, 117, 118, 119, 120, 121, 122, 123, 124, 125, 126, 127, 128, 129, 130, 131, 132, 133, 134, 135, 136, 137, 138, 139, 140, 141, 142, 143, 144, 145, 146, 147, 148, 149, 150, 151, 152, 153, 154, 155, 156, 157, 158, 159, 160, 161, 162, 163, 164, 165, 166, 167, 168, 169, 170, 171, 172, 173, 174, 175, 176, 177, 178, 179, 180, 181, 182, 183, 184, 185, 186, 187, 188, 189, 190, 191, 192, 193, 194, 195, 196, 197] (by decide +kernel) (by decide +kernel)) (goodIn_sub (fun _ h => List.mem_cons_of_mem _ (List.mem_append_left _ (List.mem_append_right _ h))) (by decide +kernel))) (goodIn_sub (fun _ h => List.mem_cons_of_mem _ (List.mem_append_right _ h)) (by decide +kernel))
set_option maxRecDepth 20000 in
theorem gL_exchange_X6_exchange : GoodIn wsL_exchange (wsV RL 43 RX6 yX6_exchange wsX6_exchange) := goodIn_app (goodIn_of _ (by decide +kernel)) ggL_exchange_X6_exchange
theorem dL_exchange_0 : decode cL_exchange 0 = .ok (.aload_n 3, 1) := by decide +kernel
theorem dL_exchange_1 : decode cL_exchange 1 = .ok (.iconst 0, 1) := by decide +kernel
theorem dL_exchange_2 : decode cL_exchange 2 = .ok (.aload_n 0, 1) := by decide +kernel
theorem dL_exchange_3 : decode cL_exchange 3 = .ok (.iload_n 1, 1) := by decide +kernel
theorem dL_exchange_4 : decode cL_exchange 4 = .ok (.iload_n 2, 1) := by decide +kernel
theorem dL_exchange_5 : decode cL_exchange 5 = .ok (.invokevirtual 43, 3) := by decide +kernel
theorem dL_exchange_8 : decode cL_exchange 8 = .ok (.i2l, 1) := by decide +kernel
theorem dL_exchange_9 : decode cL_exchange 9 = .ok (.lastore, 1) := by decide +kernel
theorem dL_exchange_10 : decode cL_exchange 10 = .ok (.goto 11, 3) := by decide +kernel
theorem dL_exchange_13 : decode cL_exchange 13 = .ok (.astore 4, 2) := by decide +kernel
theorem dL_exchange_15 : decode cL_exchange 15 = .ok (.iconst 1, 1) := by decide +kernel
theorem dL_exchange_16 : decode cL_exchange 16 = .ok (.ireturn, 1) := by decide +kernel
theorem dL_exchange_17 : decode cL_exchange 17 = .ok (.astore 4, 2) := by decide +kernel
theorem dL_exchange_19 : decode cL_exchange 19 = .ok (.iconst 2, 1) := by decide +kernel
theorem dL_exchange_20 : decode cL_exchange 20 = .ok (.ireturn, 1) := by decide +kernel
theorem dL_exchange_21 : decode cL_exchange 21 = .ok (.iconst 0, 1) := by decide +kernel
theorem dL_exchange_22 : decode cL_exchange 22 = .ok (.ireturn, 1) := by decide +kernel
set_option maxRecDepth 20000 in
theorem ggL_fill_X6_fill : GoodIn wsL_fill wsX6_fill := goodIn_ca (goodIn_r _ [6, 7, 8, 9, 10, 11, 12, 13, 14, 5, 15, 16, 17, 18, 19, 20, 21, 22, 23, 24, 25, 26, 27, 28, 29, 30, 31, 32, 33, 34, 35, 36, 37, 38, 39, 40, 41, 42, 43, 44, 45, 46, 47, 48, 49, 50, 51, 52, 53, 54, 55, 56, 57, 58, 59, 60, 61, 62, 63, 64, 65, 66, 67, 68, 69, 70, 71, 72, 73, 74, 75, 76, 77, 78, 79, 80, 81, 82, 83, 84, 85, 86, 87, 88, 89, 90, 91, 92, 93, 94, 95, 96, 97, 98, 99, 100, 101, 102, 103, 104, 105, 106, 107, 108, 109, 110, 111, 112, 113, 114, 115, 116, 117, 118, 119, 120, 121, 122, 123, 124, 125, 126, 127, 128, 129, 130, 131, 132, 133, 134, 135, 136, 137, 138, 139, 140, 141, 142, 143, 144, 145, 146, 147, 148, 149, 150, 151, 152, 153, 154, 155, 156, 157, 158, 159, 160, 161, 162, 163, 164, 165, 166, 167, 168, 169, 170, 171, 172, 173, 174, 175, 176, 177] (by decide +kernel) (by decide +kernel)) (goodIn_sub (fun _ h => List.mem_cons_of_mem _ (List.mem_append_right _ h)) (by decide +kernel))
set_option maxRecDepth 20000 in
theorem gL_fill_X6_fill : GoodIn wsL_fill (wsV RL 46 RX6 yX6_fill wsX6_fill) := goodIn_app (goodIn_of _ (by decide +kernel)) ggL_fill_X6_fill
theorem dL_fill_0 : decode cL_fill 0 = .ok (.aload_n 2, 1) := by decide +kernel
theorem dL_fill_1 : decode cL_fill 1 = .ok (.iconst 0, 1) := by decide +kernel
theorem dL_fill_2 : decode cL_fill 2 = .ok (.aload_n 0, 1) := by decide +kernel
theorem dL_fill_3 : decode cL_fill 3 = .ok (.iload_n 1, 1) := by decide +kernel
theorem dL_fill_4 : decode cL_fill 4 = .ok (.invokevirtual 46, 3) := by decide +kernel
theorem dL_fill_7 : decode cL_fill 7 = .ok (.i2l, 1) := by decide +kernel
theorem dL_fill_8 : decode cL_fill 8 = .ok (.lastore, 1) := by decide +kernel
theorem dL_fill_9 : decode cL_fill 9 = .ok (.goto 6, 3) := by decide +kernel
theorem dL_fill_12 : decode cL_fill 12 = .ok (.astore_n 3, 1) := by decide +kernel
theorem dL_fill_13 : decode cL_fill 13 = .ok (.iconst 1, 1) := by decide +kernel
theorem dL_fill_14 : decode cL_fill 14 = .ok (.ireturn, 1) := by decide +kernel
theorem dL_fill_15 : decode cL_fill 15 = .ok (.iconst 0, 1) := by decide +kernel
theorem dL_fill_16 : decode cL_fill 16 = .ok (.ireturn, 1) := by decide +kernel
set_option maxRecDepth 20000 in
theorem ggL_append_X6_append : GoodIn wsL_append wsX6_append := goodIn_ca (goodIn_ca (goodIn_r _ [7, 8, 9, 10, 11, 12, 13, 14, 15, 6, 16, 17, 18, 19, 20, 21, 22, 23, 24, 25, 26, 27, 28, 29, 30, 31, 32, 33, 34] (by decide +kernel) (by decide +kernel)) (goodIn_sub (fun _ h => List.mem_cons_of_mem _ (List.mem_append_left _ (List.mem_append_right _ h))) (by decide +kernel))) (goodIn_sub (fun _ h => List.mem_cons_of_mem _ (List.mem_append_right _ h)) (by decide +kernel))
set_option maxRecDepth 20000 in
theorem gL_append_X6_append : GoodIn wsL_append (wsV RL 50 RX6 yX6_append wsX6_append) := goodIn_app (goodIn_of _ (by decide +kernel)) ggL_append_X6_append
theorem dL_append_0 : decode cL_append 0 = .ok (.aload_n 2, 1) := by decide +kernel
theorem dL_append_1 : decode cL_append 1 = .ok (.iconst 0, 1) := by decide +kernel
theorem dL_append_2 : decode cL_append 2 = .ok (.aload_n 0, 1) := by decide +kernel
theorem dL_append_3 : decode cL_append 3 = .ok (.iload_n 1, 1) := by decide +kernel
theorem dL_append_4 : decode cL_append 4 = .ok (.invokevirtual 50, 3) := by decide +kernel
theorem dL_append_7 : decode cL_append 7 = .ok (.i2l, 1) := by decide +kernel
theorem dL_append_8 : decode cL_append 8 = .ok (.lastore, 1) := by decide +kernel
theorem dL_append_9 : decode cL_append 9 = .ok (.goto 9, 3) := by decide +kernel
theorem dL_append_12 : decode cL_append 12 = .ok (.astore_n 3, 1) := by decide +kernel
theorem dL_append_13 : decode cL_append 13 = .ok (.iconst 1, 1) := by decide +kernel
theorem dL_append_14 : decode cL_append 14 = .ok (.ireturn, 1) := by decide +kernel
theorem dL_append_15 : decode cL_append 15 = .ok (.astore_n 3, 1) := by decide +kernel
theorem dL_append_16 : decode cL_append 16 = .ok (.iconst 2, 1) := by decide +kernel
theorem dL_append_17 : decode cL_append 17 = .ok (.ireturn, 1) := by decide +kernel
theorem dL_append_18 : decode cL_append 18 = .ok (.iconst 0, 1) := by decide +kernel
theorem dL_append_19 : decode cL_append 19 = .ok (.ireturn, 1) := by decide +kernel
set_option maxRecDepth 20000 in
theorem ggL_read_X6_read : GoodIn wsL_read wsX6_read := goodIn_ca (goodIn_r _ [6, 7, 8, 9, 10, 11, 12, 13, 14, 15, 16, 17, 18, 19, 20, 21, 22, 23, 5, 24, 25, 26, 27, 28, 29, 30, 31, 32, 33, 34, 35, 36, 37, 38, 39, 40, 41, 42, 43, 44, 45, 46, 47, 48, 49, 50, 51, 52, 53, 54, 55, 56, 57, 58, 59, 60, 61, 62, 63, 64, 65, 66, 67, 68, 69, 70, 71, 72, 73, 74, 75, 76, 77, 78, 79, 80, 81, 82, 83, 84, 85, 86, 87, 88, 89, 90, 91, 92, 93, 94, 95, 96, 97, 98, 99, 100, 101, 102, 103, 104, 105, 106, 107, 108, 109, 110, 111, 112, 113, 114, 115, 116, 117, 118, 119, 120, 121, 122, 123, 124, 125, 126, 127, 128, 129, 130, 131, 132, 133, 134, 135, 136, 137, 138, 139, 140, 141, 142, 143, 144, 145, 146, 147, 148, 149, 150, 151, 152, 153, 154, 155, 156, 157, 158, 159, 160, 161, 162, 163, 164, 165, 166, 167, 168, 169, 170, 171, 172, 173, 174, 175, 176, 177, 178, 179, 180, 181, 182, 183, 184, 185, 186, 187, 188, 189, 190, 191, 192, 193, 194, 195, 196, 197, 198, 199, 200, 201, 202, 203, 204, 205] (by decide +kernel) (by decide +kernel)) (goodIn_sub (fun _ h => List.mem_cons_of_mem _ (List.mem_append_right _ h)) (by decide +kernel))
set_option maxRecDepth 20000 in
theorem gL_read_X6_read : GoodIn wsL_read (wsV RL 53 RX6 yX6_read wsX6_read) := goodIn_app (goodIn_of _ (by decide +kernel)) ggL_read_X6_read
theorem dL_read_0 : decode cL_read 0 = .ok (.aload_n 1, 1) := by decide +kernel
theorem dL_read_1 : decode cL_read 1 = .ok (.iconst 0, 1) := by decide +kernel
theorem dL_read_2 : decode cL_read 2 = .ok (.aload_n 0, 1) := by decide +kernel
theorem dL_read_3 : decode cL_read 3 = .ok (.invokevirtual 53, 3) := by decide +kernel
theorem dL_read_6 : decode cL_read 6 = .ok (.i2l, 1) := by decide +kernel
theorem dL_read_7 : decode cL_read 7 = .ok (.lastore, 1) := by decide +kernel
theorem dL_read_8 : decode cL_read 8 = .ok (.goto 6, 3) := by decide +kernel
theorem dL_read_11 : decode cL_read 11 = .ok (.astore_n 2, 1) := by decide +kernel
theorem dL_read_12 : decode cL_read 12 = .ok (.iconst 1, 1) := by decide +kernel
theorem dL_read_13 : decode cL_read 13 = .ok (.ireturn, 1) := by decide +kernel
theorem dL_read_14 : decode cL_read 14 = .ok (.iconst 0, 1) := by decide +kernel
theorem dL_read_15 : decode cL_read 15 = .ok (.ireturn, 1) := by decide +kernel
set_option maxRecDepth 20000 in
theorem ggL_take_X6_take : GoodIn wsL_take wsX6_take := goodIn_ca (goodIn_r _ [6, 7, 8, 9, 10, 11, 12, 13, 5, 14, 15, 16, 17, 18, 19, 20, 21, 22, 23, 24, 25, 26, 27, 28, 29, 30, 31, 32, 33, 34, 35, 36, 37, 38, 39, 40, 41, 42, 43, 44, 45, 46, 47, 48, 49, 50, 51, 52, 53, 54, 55, 56] (by decide +kernel) (by decide +kernel)) (goodIn_sub (fun _ h => List.mem_cons_of_mem _ (List.mem_append_right _ h)) (by decide +kernel))
set_option maxRecDepth 20000 in
theorem gL_take_X6_take : GoodIn wsL_take (wsV RL 56 RX6 yX6_take wsX6_take) := goodIn_app (goodIn_of _ (by decide +kernel)) ggL_take_X6_take
theorem dL_take_0 : decode cL_take 0 = .ok (.aload_n 2, 1) := by decide +kernel
theorem dL_take_1 : decode cL_take 1 = .ok (.iconst 0, 1) := by decide +kernel
theorem dL_take_2 : decode cL_take 2 = .ok (.aload_n 0, 1) := by decide +kernel
theorem dL_take_3 : decode cL_take 3 = .ok (.iload_n 1, 1) := by decide +kernel
theorem dL_take_4 : decode cL_take 4 = .ok (.invokevirtual 56, 3) := by decide +kernel
theorem dL_take_7 : decode cL_take 7 = .ok (.i2l, 1) := by decide +kernel
theorem dL_take_8 : decode cL_take 8 = .ok (.lastore, 1) := by decide +kernel
theorem dL_take_9 : decode cL_take 9 = .ok (.goto 6, 3) := by decide +kernel
theorem dL_take_12 : decode cL_take 12 = .ok (.astore_n 3, 1) := by decide +kernel
theorem dL_take_13 : decode cL_take 13 = .ok (.iconst 1, 1) := by decide +kernel
theorem dL_take_14 : decode cL_take 14 = .ok (.ireturn, 1) := by decide +kernel
theorem dL_take_15 : decode cL_take 15 = .ok (.iconst 0, 1) := by decide +kernel
theorem dL_take_16 : decode cL_take 16 = .ok (.ireturn, 1) := by decide +kernel
set_option maxRecDepth 20000 in
theorem ggL_restore_X6_restore : GoodIn wsL_restore wsX6_restore := goodIn_ca (goodIn_ca (goodIn_r _ [7, 8, 9, 10, 11, 12, 13, 14, 15, 16, 17, 6, 18, 19, 20, 21, 22, 23, 24, 25, 26, 27, 28, 29, 30, 31, 32, 33, 34, 35, 36, 37, 38, 39, 40, 41, 42, 43, 44, 45, 46, 47, 48, 49, 50, 51, 52, 53, 54, 55, 56, 57, 58, 59, 60, 61, 62, 63, 64, 65, 66, 67, 68, 69, 70, 71, 72, 73, 74, 75, 76, 77, 78, 79, 80, 81, 82, 83, 84, 85, 86, 87, 88, 89, 90, 91, 92, 93, 94, 95, 96, 97, 98, 99, 100, 101, 102, 103, 104, 105, 106, 107, 108, 109, 110, 111, 112, 113, 114, 115, 116, 117, 118, 119, 120, 121, 122, 123, 124, 125, 126, 127, 128, 129, 130, 131, 132, 133, 134, 135, 136, 137, 138, 139, 140, 141, 142, 143, 144, 145, 146, 147, 148, 149, 150, 151, 152, 153, 154, 155, 156, 157, 158, 159, 160, 161, 162, 163, 164, 165, 166, 167, 168, 169, 170, 171, 172, 173, 174, 175, 176, 177, 178, 179, 180, 181, 182, 183, 184, 185, 186, 187, 188, 189, 190, 191, 192, 193, 194] (by decide +kernel) (by decide +kernel)) (goodIn_sub (fun _ h => List.mem_cons_of_mem _ (List.mem_append_left _ (List.mem_append_right _ h))) (by decide +kernel))) (goodIn_sub (fun _ h => List.mem_cons_of_mem _ (List.mem_append_right _ h)) (by decide +kernel))
set_option maxRecDepth 20000 in
theorem gL_restore_X6_restore : GoodIn wsL_restore (wsV RL 59 RX6 yX6_restore wsX6_restore) := goodIn_app (goodIn_of _ (by decide +kernel)) ggL_restore_X6_restore
theorem dL_restore_0 : decode cL_restore 0 = .ok (.aload_n 2, 1) := by decide +kernel
theorem dL_restore_1 : decode cL_restore 1 = .ok (.iconst 0, 1) := by decide +kernel
theorem dL_restore_2 : decode cL_restore 2 = .ok (.aload_n 0, 1) := by decide +kernel
theorem dL_restore_3 : decode cL_restore 3 = .ok (.iload_n 1, 1) := by decide +kernel
theorem dL_restore_4 : decode cL_restore 4 = .ok (.invokevirtual 59, 3) := by decide +kernel
theorem dL_restore_7 : decode cL_restore 7 = .ok (.i2l, 1) := by decide +kernel
theorem dL_restore_8 : decode cL_restore 8 = .ok (.lastore, 1) := by decide +kernel
theorem dL_restore_9 : decode cL_restore 9 = .ok (.goto 9, 3) := by decide +kernel
theorem dL_restore_12 : decode cL_restore 12 = .ok (.astore_n 3, 1) := by decide +kernel
theorem dL_restore_13 : decode cL_restore 13 = .ok (.iconst 1, 1) := by decide +kernel
theorem dL_restore_14 : decode cL_restore 14 = .ok (.ireturn, 1) := by decide +kernel
theorem dL_restore_15 : decode cL_restore 15 = .ok (.astore_n 3, 1) := by decide +kernel
theorem dL_restore_16 : decode cL_restore 16 = .ok (.iconst 2, 1) := by decide +kernel
theorem dL_restore_17 : decode cL_restore 17 = .ok (.ireturn, 1) := by decide +kernel
theorem dL_restore_18 : decode cL_restore 18 = .ok (.iconst 0, 1) := by decide +kernel
theorem dL_restore_19 : decode cL_restore 19 = .ok (.ireturn, 1) := by decide +kernel
set_option maxRecDepth 20000 in
theorem ggL_undo_X6_undo : GoodIn wsL_undo wsX6_undo := goodIn_ca (goodIn_r _ [6, 7, 8, 9, 10, 11, 12, 13, 14, 15, 16, 17, 18, 19, 20, 21, 22, 23, 24, 25, 26, 27, 28, 29, 30, 31, 32, 33, 34, 35, 36, 37, 38, 39, 40, 41, 5, 42, 43, 44, 45, 46, 47, 48, 49, 50, 51, 52, 53, 54, 55, 56, 57, 58, 59, 60, 61, 62, 63, 64, 65, 66, 67, 68, 69, 70, 71, 72] (by decide +kernel) (by decide +kernel)) (goodIn_sub (fun _ h => List.mem_cons_of_mem _ (List.mem_append_right _ h)) (by decide +kernel))
set_option maxRecDepth 20000 in
theorem gL_undo_X6_undo : GoodIn wsL_undo (wsV RL 62 RX6 yX6_undo wsX6_undo) := goodIn_app (goodIn_of _ (by decide +kernel)) ggL_undo_X6_undo
theorem dL_undo_0 : decode cL_undo 0 = .ok (.aload_n 1, 1) := by decide +kernel
theorem dL_undo_1 : decode cL_undo 1 = .ok (.iconst 0, 1) := by decide +kernel
theorem dL_undo_2 : decode cL_undo 2 = .ok (.aload_n 0, 1) := by decide +kernel
theorem dL_undo_3 : decode cL_undo 3 = .ok (.invokevirtual 62, 3) := by decide +kernel
theorem dL_undo_6 : decode cL_undo 6 = .ok (.i2l, 1) := by decide +kernel
theorem dL_undo_7 : decode cL_undo 7 = .ok (.lastore, 1) := by decide +kernel
theorem dL_undo_8 : decode cL_undo 8 = .ok (.goto 6, 3) := by decide +kernel
theorem dL_undo_11 : decode cL_undo 11 = .ok (.astore_n 2, 1) := by decide +kernel
theorem dL_undo_12 : decode cL_undo 12 = .ok (.iconst 1, 1) := by decide +kernel
theorem dL_undo_13 : decode cL_undo 13 = .ok (.ireturn, 1) := by decide +kernel
theorem dL_undo_14 : decode cL_undo 14 = .ok (.iconst 0, 1) := by decide +kernel
theorem dL_undo_15 : decode cL_undo 15 = .ok (.ireturn, 1) := by decide +kernel
set_option maxRecDepth 20000 in
theorem ggL_planned_X6_planned : GoodIn wsL_planned wsX6_planned := goodIn_ca (goodIn_r _ [6, 7, 8, 9, 10, 11, 12, 5, 13, 14, 15, 16, 17, 18, 19, 20, 21, 22, 23, 24, 25, 26, 27, 28, 29, 30, 31, 32, 33, 34, 35, 36, 37, 38, 39, 40, 41] (by decide +kernel) (by decide +kernel)) (goodIn_sub (fun _ h => List.mem_cons_of_mem _ (List.mem_append_right _ h)) (by decide +kernel))
set_option maxRecDepth 20000 in
theorem gL_planned_X6_planned : GoodIn wsL_planned (wsV RL 65 RX6 yX6_planned wsX6_planned) := goodIn_app (goodIn_of _ (by decide +kernel)) ggL_planned_X6_planned
theorem dL_planned_0 : decode cL_planned 0 = .ok (.aload_n 3, 1) := by decide +kernel
theorem dL_planned_1 : decode cL_planned 1 = .ok (.iconst 0, 1) := by decide +kernel
theorem dL_planned_2 : decode cL_planned 2 = .ok (.aload_n 0, 1) := by decide +kernel
theorem dL_planned_3 : decode cL_planned 3 = .ok (.iload_n 1, 1) := by decide +kernel
theorem dL_planned_4 : decode cL_planned 4 = .ok (.iload_n 2, 1) := by decide +kernel
theorem dL_planned_5 : decode cL_planned 5 = .ok (.invokevirtual 65, 3) := by decide +kernel
theorem dL_planned_8 : decode cL_planned 8 = .ok (.i2l, 1) := by decide +kernel
theorem dL_planned_9 : decode cL_planned 9 = .ok (.lastore, 1) := by decide +kernel
theorem dL_planned_10 : decode cL_planned 10 = .ok (.goto 7, 3) := by decide +kernel
theorem dL_planned_13 : decode cL_planned 13 = .ok (.astore 4, 2) := by decide +kernel
theorem dL_planned_15 : decode cL_planned 15 = .ok (.iconst 1, 1) := by decide +kernel
theorem dL_planned_16 : decode cL_planned 16 = .ok (.ireturn, 1) := by decide +kernel
theorem dL_planned_17 : decode cL_planned 17 = .ok (.iconst 0, 1) := by decide +kernel
theorem dL_planned_18 : decode cL_planned 18 = .ok (.ireturn, 1) := by decide +kernel
set_option maxRecDepth 20000 in
theorem ggL_dish_X6_dish : GoodIn wsL_dish wsX6_dish := goodIn_ca (goodIn_ca (goodIn_r _ [7, 8, 9, 10, 11, 12, 13, 14, 15, 16, 17, 18, 19, 20, 6, 21, 22, 23, 24, 25, 26, 27, 28, 29, 30, 31, 32, 33, 34, 35, 36, 37, 38, 39, 40, 41, 42, 43, 44, 45, 46, 47, 48, 49, 50, 51, 52, 53, 54, 55, 56, 57, 58, 59, 60, 61, 62, 63, 64, 65, 66, 67, 68, 69, 70, 71, 72, 73, 74, 75, 76, 77, 78, 79, 80, 81, 82, 83, 84, 85, 86, 87, 88, 89, 90, 91, 92, 93, 94, 95, 96, 97, 98, 99, 100, 101, 102, 103, 104, 105, 106, 107, 108, 109, 110, 111] (by decide +kernel) (by decide +kernel)) (goodIn_sub (fun _ h => List.mem_cons_of_mem _ (List.mem_append_left _ (List.mem_append_right _ h))) (by decide +kernel))) (goodIn_sub (fun _ h => List.mem_cons_of_mem _ (List.mem_append_right _ h)) (by decide +kernel))
set_option maxRecDepth 20000 in
theorem gL_dish_X6_dish : GoodIn wsL_dish (wsV RL 68 RX6 yX6_dish wsX6_dish) := goodIn_app (goodIn_of _ (by decide +kernel)) ggL_dish_X6_dish
theorem dL_dish_0 : decode cL_dish 0 = .ok (.aload_n 3, 1) := by decide +kernel
theorem dL_dish_1 : decode cL_dish 1 = .ok (.iconst 0, 1) := by decide +kernel
theorem dL_dish_2 : decode cL_dish 2 = .ok (.aload_n 0, 1) := by decide +kernel
theorem dL_dish_3 : decode cL_dish 3 = .ok (.iload_n 1, 1) := by decide +kernel
theorem dL_dish_4 : decode cL_dish 4 = .ok (.iload_n 2, 1) := by decide +kernel
theorem dL_dish_5 : decode cL_dish 5 = .ok (.invokevirtual 68, 3) := by decide +kernel
theorem dL_dish_8 : decode cL_dish 8 = .ok (.i2l, 1) := by decide +kernel
theorem dL_dish_9 : decode cL_dish 9 = .ok (.lastore, 1) := by decide +kernel
theorem dL_dish_10 : decode cL_dish 10 = .ok (.goto 11, 3) := by decide +kernel
theorem dL_dish_13 : decode cL_dish 13 = .ok (.astore 4, 2) := by decide +kernel
theorem dL_dish_15 : decode cL_dish 15 = .ok (.iconst 1, 1) := by decide +kernel
theorem dL_dish_16 : decode cL_dish 16 = .ok (.ireturn, 1) := by decide +kernel
theorem dL_dish_17 : decode cL_dish 17 = .ok (.astore 4, 2) := by decide +kernel
theorem dL_dish_19 : decode cL_dish 19 = .ok (.iconst 2, 1) := by decide +kernel
theorem dL_dish_20 : decode cL_dish 20 = .ok (.ireturn, 1) := by decide +kernel
theorem dL_dish_21 : decode cL_dish 21 = .ok (.iconst 0, 1) := by decide +kernel
theorem dL_dish_22 : decode cL_dish 22 = .ok (.ireturn, 1) := by decide +kernel
set_option maxRecDepth 20000 in
theorem ggL_guest_X6_guest : GoodIn wsL_guest wsX6_guest := goodIn_ca (goodIn_ca (goodIn_r _ [7, 8, 9, 10, 11, 12, 13, 14, 15, 16, 17, 18, 19, 20, 6, 21, 22, 23, 24, 25, 26, 27, 28, 29, 30, 31, 32, 33, 34, 35, 36, 37, 38, 39, 40, 41, 42, 43, 44, 45, 46, 47, 48, 49, 50, 51, 52, 53, 54, 55, 56, 57, 58, 59, 60, 61, 62, 63, 64, 65] (by decide +kernel) (by decide +kernel)) (goodIn_sub (fun _ h => List.mem_cons_of_mem _ (List.mem_append_left _ (List.mem_append_right _ h))) (by decide +kernel))) (goodIn_sub (fun _ h => List.mem_cons_of_mem _ (List.mem_append_right _ h)) (by decide +kernel))
set_option maxRecDepth 20000 in
theorem gL_guest_X6_guest : GoodIn wsL_guest (wsV RL 71 RX6 yX6_guest wsX6_guest) := goodIn_app (goodIn_of _ (by decide +kernel)) ggL_guest_X6_guest
theorem dL_guest_0 : decode cL_guest 0 = .ok (.aload_n 3, 1) := by decide +kernel
theorem dL_guest_1 : decode cL_guest 1 = .ok (.iconst 0, 1) := by decide +kernel
theorem dL_guest_2 : decode cL_guest 2 = .ok (.aload_n 0, 1) := by decide +kernel
theorem dL_guest_3 : decode cL_guest 3 = .ok (.iload_n 1, 1) := by decide +kernel
theorem dL_guest_4 : decode cL_guest 4 = .ok (.iload_n 2, 1) := by decide +kernel
theorem dL_guest_5 : decode cL_guest 5 = .ok (.invokevirtual 71, 3) := by decide +kernel
theorem dL_guest_8 : decode cL_guest 8 = .ok (.i2l, 1) := by decide +kernel
theorem dL_guest_9 : decode cL_guest 9 = .ok (.lastore, 1) := by decide +kernel
theorem dL_guest_10 : decode cL_guest 10 = .ok (.goto 11, 3) := by decide +kernel
theorem dL_guest_13 : decode cL_guest 13 = .ok (.astore 4, 2) := by decide +kernel
theorem dL_guest_15 : decode cL_guest 15 = .ok (.iconst 1, 1) := by decide +kernel
theorem dL_guest_16 : decode cL_guest 16 = .ok (.ireturn, 1) := by decide +kernel
theorem dL_guest_17 : decode cL_guest 17 = .ok (.astore 4, 2) := by decide +kernel
theorem dL_guest_19 : decode cL_guest 19 = .ok (.iconst 2, 1) := by decide +kernel
theorem dL_guest_20 : decode cL_guest 20 = .ok (.ireturn, 1) := by decide +kernel
theorem dL_guest_21 : decode cL_guest 21 = .ok (.iconst 0, 1) := by decide +kernel
theorem dL_guest_22 : decode cL_guest 22 = .ok (.ireturn, 1) := by decide +kernel
set_option maxRecDepth 20000 in
theorem ggL_day_X6_day : GoodIn wsL_day wsX6_day := goodIn_ca (goodIn_ca (goodIn_r _ [7, 8, 9, 10, 11, 12, 13, 6, 14, 15, 16, 17, 18, 19, 20, 21, 22, 23, 24, 25, 26, 27, 28, 29, 30, 31, 32, 33, 34, 35, 36, 37, 38, 39, 40, 41, 42, 43, 44, 45, 46, 47, 48, 49, 50, 51, 52, 53, 54, 55, 56, 57, 58, 59, 60, 61, 62, 63, 64, 65, 66, 67, 68, 69, 70, 71, 72, 73, 74, 75, 76, 77, 78, 79, 80, 81, 82, 83, 84, 85, 86, 87, 88, 89, 90, 91, 92, 93, 94, 95, 96, 97, 98, 99, 100] (by decide +kernel) (by decide +kernel)) (goodIn_sub (fun _ h => List.mem_cons_of_mem _ (List.mem_append_left _ (List.mem_append_right _ h))) (by decide +kernel))) (goodIn_sub (fun _ h => List.mem_cons_of_mem _ (List.mem_append_right _ h)) (by decide +kernel))
set_option maxRecDepth 20000 in
theorem gL_day_X6_day : GoodIn wsL_day (wsV RL 74 RX6 yX6_day wsX6_day) := goodIn_app (goodIn_of _ (by decide +kernel)) ggL_day_X6_day
theorem dL_day_0 : decode cL_day 0 = .ok (.aload_n 3, 1) := by decide +kernel
theorem dL_day_1 : decode cL_day 1 = .ok (.iconst 0, 1) := by decide +kernel
theorem dL_day_2 : decode cL_day 2 = .ok (.aload_n 0, 1) := by decide +kernel
theorem dL_day_3 : decode cL_day 3 = .ok (.iload_n 1, 1) := by decide +kernel
theorem dL_day_4 : decode cL_day 4 = .ok (.iload_n 2, 1) := by decide +kernel
theorem dL_day_5 : decode cL_day 5 = .ok (.invokevirtual 74, 3) := by decide +kernel
theorem dL_day_8 : decode cL_day 8 = .ok (.i2l, 1) := by decide +kernel
theorem dL_day_9 : decode cL_day 9 = .ok (.lastore, 1) := by decide +kernel
theorem dL_day_10 : decode cL_day 10 = .ok (.goto 11, 3) := by decide +kernel
theorem dL_day_13 : decode cL_day 13 = .ok (.astore 4, 2) := by decide +kernel
theorem dL_day_15 : decode cL_day 15 = .ok (.iconst 1, 1) := by decide +kernel
theorem dL_day_16 : decode cL_day 16 = .ok (.ireturn, 1) := by decide +kernel
theorem dL_day_17 : decode cL_day 17 = .ok (.astore 4, 2) := by decide +kernel
theorem dL_day_19 : decode cL_day 19 = .ok (.iconst 2, 1) := by decide +kernel
theorem dL_day_20 : decode cL_day 20 = .ok (.ireturn, 1) := by decide +kernel
theorem dL_day_21 : decode cL_day 21 = .ok (.iconst 0, 1) := by decide +kernel
theorem dL_day_22 : decode cL_day 22 = .ok (.ireturn, 1) := by decide +kernel
set_option maxRecDepth 20000 in
theorem ggL_source_X6_source : GoodIn wsL_source wsX6_source := goodIn_ca (goodIn_r _ [6, 7, 8, 9, 10, 11, 12, 5, 13, 14, 15, 16, 17, 18, 19, 20, 21, 22, 23, 24, 25, 26, 27, 28, 29, 30, 31, 32, 33, 34, 35, 36, 37, 38, 39, 40, 41, 42, 43, 44, 45, 46, 47, 48, 49, 50, 51, 52, 53, 54, 55, 56, 57, 58, 59, 60, 61, 62, 63, 64, 65, 66, 67, 68, 69, 70, 71, 72, 73, 74, 75, 76, 77, 78, 79, 80, 81, 82] (by decide +kernel) (by decide +kernel)) (goodIn_sub (fun _ h => List.mem_cons_of_mem _ (List.mem_append_right _ h)) (by decide +kernel))
set_option maxRecDepth 20000 in
theorem gL_source_X6_source : GoodIn wsL_source (wsV RL 77 RX6 yX6_source wsX6_source) := goodIn_app (goodIn_of _ (by decide +kernel)) ggL_source_X6_source
theorem dL_source_0 : decode cL_source 0 = .ok (.aload_n 3, 1) := by decide +kernel
theorem dL_source_1 : decode cL_source 1 = .ok (.iconst 0, 1) := by decide +kernel
theorem dL_source_2 : decode cL_source 2 = .ok (.aload_n 0, 1) := by decide +kernel
theorem dL_source_3 : decode cL_source 3 = .ok (.iload_n 1, 1) := by decide +kernel
theorem dL_source_4 : decode cL_source 4 = .ok (.iload_n 2, 1) := by decide +kernel
theorem dL_source_5 : decode cL_source 5 = .ok (.invokevirtual 77, 3) := by decide +kernel
theorem dL_source_8 : decode cL_source 8 = .ok (.i2l, 1) := by decide +kernel
theorem dL_source_9 : decode cL_source 9 = .ok (.lastore, 1) := by decide +kernel
theorem dL_source_10 : decode cL_source 10 = .ok (.goto 7, 3) := by decide +kernel
theorem dL_source_13 : decode cL_source 13 = .ok (.astore 4, 2) := by decide +kernel
theorem dL_source_15 : decode cL_source 15 = .ok (.iconst 1, 1) := by decide +kernel
theorem dL_source_16 : decode cL_source 16 = .ok (.ireturn, 1) := by decide +kernel
theorem dL_source_17 : decode cL_source 17 = .ok (.iconst 0, 1) := by decide +kernel
theorem dL_source_18 : decode cL_source 18 = .ok (.ireturn, 1) := by decide +kernel
set_option maxRecDepth 20000 in
theorem ggL_count_X6_count : GoodIn wsL_count wsX6_count := goodIn_ca (goodIn_r _ [6, 7, 8, 9, 10, 5, 11, 12, 13, 14, 15, 16, 17, 18, 19, 20, 21, 22, 23, 24, 25, 26, 27, 28, 29, 30, 31, 32, 33, 34, 35, 36, 37, 38, 39, 40, 41, 42, 43, 44, 45, 46, 47, 48, 49, 50, 51, 52, 53, 54, 55, 56, 57, 58, 59, 60, 61, 62, 63, 64, 65, 66, 67, 68, 69, 70, 71, 72, 73, 74, 75, 76, 77, 78, 79, 80, 81, 82, 83, 84, 85, 86, 87, 88, 89, 90, 91, 92, 93, 94, 95, 96, 97, 98, 99, 100, 101, 102, 103, 104, 105, 106, 107, 108, 109, 110, 111, 112, 113, 114, 115, 116, 117, 118, 119, 120, 121, 122, 123, 124, 125, 126, 127, 128, 129, 130, 131, 132, 133, 134, 135, 136, 137, 138, 139, 140, 141, 142, 143, 144, 145, 146, 147, 148, 149, 150, 151, 152, 153, 154, 155, 156, 157, 158, 159, 160, 161, 162, 163, 164, 165, 166, 167, 168, 169, 170, 171, 172, 173, 174, 175, 176] (by decide +kernel) (by decide +kernel)) (goodIn_sub (fun _ h => List.mem_cons_of_mem _ (List.mem_append_right _ h)) (by decide +kernel))
set_option maxRecDepth 20000 in
theorem gL_count_X6_count : GoodIn wsL_count (wsV RL 80 RX6 yX6_count wsX6_count) := goodIn_app (goodIn_of _ (by decide +kernel)) ggL_count_X6_count
theorem dL_count_0 : decode cL_count 0 = .ok (.aload_n 2, 1) := by decide +kernel
theorem dL_count_1 : decode cL_count 1 = .ok (.iconst 0, 1) := by decide +kernel
theorem dL_count_2 : decode cL_count 2 = .ok (.aload_n 0, 1) := by decide +kernel
theorem dL_count_3 : decode cL_count 3 = .ok (.iload_n 1, 1) := by decide +kernel
theorem dL_count_4 : decode cL_count 4 = .ok (.invokevirtual 80, 3) := by decide +kernel
theorem dL_count_7 : decode cL_count 7 = .ok (.i2l, 1) := by decide +kernel
theorem dL_count_8 : decode cL_count 8 = .ok (.lastore, 1) := by decide +kernel
theorem dL_count_9 : decode cL_count 9 = .ok (.goto 6, 3) := by decide +kernel
theorem dL_count_12 : decode cL_count 12 = .ok (.astore_n 3, 1) := by decide +kernel
theorem dL_count_13 : decode cL_count 13 = .ok (.iconst 1, 1) := by decide +kernel
theorem dL_count_14 : decode cL_count 14 = .ok (.ireturn, 1) := by decide +kernel
theorem dL_count_15 : decode cL_count 15 = .ok (.iconst 0, 1) := by decide +kernel
theorem dL_count_16 : decode cL_count 16 = .ok (.ireturn, 1) := by decide +kernel
set_option maxRecDepth 20000 in
theorem ggL_setting_X6_setting : GoodIn wsL_setting wsX6_setting := goodIn_ca (goodIn_r _ [6, 7, 8, 9, 10, 11, 12, 5, 13, 14, 15, 16, 17, 18, 19, 20, 21, 22, 23, 24, 25, 26, 27, 28, 29, 30, 31, 32, 33, 34, 35] (by decide +kernel) (by decide +kernel)) (goodIn_sub (fun _ h => List.mem_cons_of_mem _ (List.mem_append_right _ h)) (by decide +kernel))
set_option maxRecDepth 20000 in
theorem gL_setting_X6_setting : GoodIn wsL_setting (wsV RL 83 RX6 yX6_setting wsX6_setting) := goodIn_app (goodIn_of _ (by decide +kernel)) ggL_setting_X6_setting
theorem dL_setting_0 : decode cL_setting 0 = .ok (.aload_n 2, 1) := by decide +kernel
theorem dL_setting_1 : decode cL_setting 1 = .ok (.iconst 0, 1) := by decide +kernel
theorem dL_setting_2 : decode cL_setting 2 = .ok (.aload_n 0, 1) := by decide +kernel
theorem dL_setting_3 : decode cL_setting 3 = .ok (.iload_n 1, 1) := by decide +kernel
theorem dL_setting_4 : decode cL_setting 4 = .ok (.invokevirtual 83, 3) := by decide +kernel
theorem dL_setting_7 : decode cL_setting 7 = .ok (.i2l, 1) := by decide +kernel
theorem dL_setting_8 : decode cL_setting 8 = .ok (.lastore, 1) := by decide +kernel
theorem dL_setting_9 : decode cL_setting 9 = .ok (.goto 6, 3) := by decide +kernel
theorem dL_setting_12 : decode cL_setting 12 = .ok (.astore_n 3, 1) := by decide +kernel
theorem dL_setting_13 : decode cL_setting 13 = .ok (.iconst 1, 1) := by decide +kernel
theorem dL_setting_14 : decode cL_setting 14 = .ok (.ireturn, 1) := by decide +kernel
theorem dL_setting_15 : decode cL_setting 15 = .ok (.iconst 0, 1) := by decide +kernel
theorem dL_setting_16 : decode cL_setting 16 = .ok (.ireturn, 1) := by decide +kernel
set_option maxRecDepth 20000 in
theorem ggL_whyNot_X6_whyNot : GoodIn wsL_whyNot wsX6_whyNot := goodIn_ca (goodIn_r _ [6, 7, 8, 9, 10, 11, 12, 5, 13, 14, 15, 16, 17, 18, 19, 20, 21, 22, 23, 24, 25, 26, 27, 28, 29, 30, 31, 32, 33, 34, 35, 36, 37, 38, 39, 40, 41, 42, 43, 44, 45, 46, 47, 48, 49, 50, 51, 52, 53, 54, 55, 56, 57, 58, 59, 60, 61, 62, 63, 64, 65, 66, 67, 68, 69, 70, 71, 72, 73, 74, 75, 76, 77, 78, 79, 80, 81, 82, 83, 84, 85, 86, 87, 88, 89, 90, 91, 92, 93, 94, 95, 96, 97, 98, 99, 100, 101, 102, 103, 104, 105, 106, 107, 108, 109, 110, 111, 112, 113, 114, 115, 116, 117, 118, 119, 120, 121, 122, 123, 124] (by decide +kernel) (by decide +kernel)) (goodIn_sub (fun _ h => List.mem_cons_of_mem _ (List.mem_append_right _ h)) (by decide +kernel))
set_option maxRecDepth 20000 in
theorem gL_whyNot_X6_whyNot : GoodIn wsL_whyNot (wsV RL 86 RX6 yX6_whyNot wsX6_whyNot) := goodIn_app (goodIn_of _ (by decide +kernel)) ggL_whyNot_X6_whyNot
theorem dL_whyNot_0 : decode cL_whyNot 0 = .ok (.aload 4, 2) := by decide +kernel
theorem dL_whyNot_2 : decode cL_whyNot 2 = .ok (.iconst 0, 1) := by decide +kernel
theorem dL_whyNot_3 : decode cL_whyNot 3 = .ok (.aload_n 0, 1) := by decide +kernel
theorem dL_whyNot_4 : decode cL_whyNot 4 = .ok (.iload_n 1, 1) := by decide +kernel
theorem dL_whyNot_5 : decode cL_whyNot 5 = .ok (.iload_n 2, 1) := by decide +kernel
theorem dL_whyNot_6 : decode cL_whyNot 6 = .ok (.iload_n 3, 1) := by decide +kernel
theorem dL_whyNot_7 : decode cL_whyNot 7 = .ok (.invokevirtual 86, 3) := by decide +kernel
theorem dL_whyNot_10 : decode cL_whyNot 10 = .ok (.i2l, 1) := by decide +kernel
theorem dL_whyNot_11 : decode cL_whyNot 11 = .ok (.lastore, 1) := by decide +kernel
theorem dL_whyNot_12 : decode cL_whyNot 12 = .ok (.goto 7, 3) := by decide +kernel
theorem dL_whyNot_15 : decode cL_whyNot 15 = .ok (.astore 5, 2) := by decide +kernel
theorem dL_whyNot_17 : decode cL_whyNot 17 = .ok (.iconst 1, 1) := by decide +kernel
theorem dL_whyNot_18 : decode cL_whyNot 18 = .ok (.ireturn, 1) := by decide +kernel
theorem dL_whyNot_19 : decode cL_whyNot 19 = .ok (.iconst 0, 1) := by decide +kernel
theorem dL_whyNot_20 : decode cL_whyNot 20 = .ok (.ireturn, 1) := by decide +kernel
set_option maxRecDepth 20000 in
theorem ggL_joyOn_X6_joyOn : GoodIn wsL_joyOn wsX6_joyOn := goodIn_ca (goodIn_r _ [6, 7, 8, 9, 10, 11, 12, 5, 13, 14, 15, 16, 17, 18, 19, 20, 21, 22, 23, 24, 25, 26, 27, 28, 29, 30, 31, 32, 33, 34, 35, 36, 37, 38, 39, 40, 41, 42, 43, 44, 45, 46, 47, 48, 49, 50, 51, 52, 53, 54, 55, 56, 57, 58, 59, 60, 61, 62, 63, 64, 65, 66] (by decide +kernel) (by decide +kernel)) (goodIn_sub (fun _ h => List.mem_cons_of_mem _ (List.mem_append_right _ h)) (by decide +kernel))
set_option maxRecDepth 20000 in
theorem gL_joyOn_X6_joyOn : GoodIn wsL_joyOn (wsV RL 89 RX6 yX6_joyOn wsX6_joyOn) := goodIn_app (goodIn_of _ (by decide +kernel)) ggL_joyOn_X6_joyOn
theorem dL_joyOn_0 : decode cL_joyOn 0 = .ok (.aload_n 3, 1) := by decide +kernel
theorem dL_joyOn_1 : decode cL_joyOn 1 = .ok (.iconst 0, 1) := by decide +kernel
theorem dL_joyOn_2 : decode cL_joyOn 2 = .ok (.aload_n 0, 1) := by decide +kernel
theorem dL_joyOn_3 : decode cL_joyOn 3 = .ok (.iload_n 1, 1) := by decide +kernel
theorem dL_joyOn_4 : decode cL_joyOn 4 = .ok (.iload_n 2, 1) := by decide +kernel
theorem dL_joyOn_5 : decode cL_joyOn 5 = .ok (.invokevirtual 89, 3) := by decide +kernel
theorem dL_joyOn_8 : decode cL_joyOn 8 = .ok (.i2l, 1) := by decide +kernel
theorem dL_joyOn_9 : decode cL_joyOn 9 = .ok (.lastore, 1) := by decide +kernel
theorem dL_joyOn_10 : decode cL_joyOn 10 = .ok (.goto 7, 3) := by decide +kernel
theorem dL_joyOn_13 : decode cL_joyOn 13 = .ok (.astore 4, 2) := by decide +kernel
theorem dL_joyOn_15 : decode cL_joyOn 15 = .ok (.iconst 1, 1) := by decide +kernel
theorem dL_joyOn_16 : decode cL_joyOn 16 = .ok (.ireturn, 1) := by decide +kernel
theorem dL_joyOn_17 : decode cL_joyOn 17 = .ok (.iconst 0, 1) := by decide +kernel
theorem dL_joyOn_18 : decode cL_joyOn 18 = .ok (.ireturn, 1) := by decide +kernel
set_option maxRecDepth 20000 in
theorem ggL_best_X6_best : GoodIn wsL_best wsX6_best := goodIn_ca (goodIn_r _ [6, 7, 8, 9, 10, 11, 5, 12, 13, 14, 15, 16, 17, 18, 19, 20, 21, 22, 23, 24, 25, 26, 27, 28, 29, 30, 31, 32, 33, 34, 35, 36, 37, 38, 39, 40, 41, 42, 43, 44, 45, 46, 47, 48, 49, 50, 51, 52, 53, 54, 55, 56, 57, 58, 59, 60, 61, 62, 63, 64, 65, 66, 67, 68, 69, 70, 71, 72, 73, 74, 75, 76, 77, 78, 79, 80, 81, 82, 83, 84, 85, 86, 87, 88, 89, 90, 91, 92, 93, 94, 95, 96, 97, 98, 99, 100, 101, 102, 103, 104, 105, 106, 107, 108, 109, 110, 111, 112, 113, 114, 115, 116, 117, 118, 119, 120, 121, 122, 123, 124, 125, 126, 127, 128, 129, 130, 131, 132, 133, 134, 135, 136, 137, 138, 139, 140, 141, 142, 143] (by decide +kernel) (by decide +kernel)) (goodIn_sub (fun _ h => List.mem_cons_of_mem _ (List.mem_append_right _ h)) (by decide +kernel))
set_option maxRecDepth 20000 in
theorem gL_best_X6_best : GoodIn wsL_best (wsV RL 92 RX6 yX6_best wsX6_best) := goodIn_app (goodIn_of _ (by decide +kernel)) ggL_best_X6_best
theorem dL_best_0 : decode cL_best 0 = .ok (.aload_n 3, 1) := by decide +kernel
theorem dL_best_1 : decode cL_best 1 = .ok (.iconst 0, 1) := by decide +kernel
theorem dL_best_2 : decode cL_best 2 = .ok (.aload_n 0, 1) := by decide +kernel
theorem dL_best_3 : decode cL_best 3 = .ok (.iload_n 1, 1) := by decide +kernel
theorem dL_best_4 : decode cL_best 4 = .ok (.iload_n 2, 1) := by decide +kernel
theorem dL_best_5 : decode cL_best 5 = .ok (.invokevirtual 92, 3) := by decide +kernel
theorem dL_best_8 : decode cL_best 8 = .ok (.i2l, 1) := by decide +kernel
theorem dL_best_9 : decode cL_best 9 = .ok (.lastore, 1) := by decide +kernel
theorem dL_best_10 : decode cL_best 10 = .ok (.goto 7, 3) := by decide +kernel
theorem dL_best_13 : decode cL_best 13 = .ok (.astore 4, 2) := by decide +kernel
theorem dL_best_15 : decode cL_best 15 = .ok (.iconst 1, 1) := by decide +kernel
theorem dL_best_16 : decode cL_best 16 = .ok (.ireturn, 1) := by decide +kernel
theorem dL_best_17 : decode cL_best 17 = .ok (.iconst 0, 1) := by decide +kernel
theorem dL_best_18 : decode cL_best 18 = .ok (.ireturn, 1) := by decide +kernel
set_option maxRecDepth 20000 in
theorem ggL_gain_X6_gain : GoodIn wsL_gain wsX6_gain := goodIn_ca (goodIn_r _ [6, 7, 8, 9, 10, 11, 12, 13, 5, 14, 15, 16, 17, 18, 19, 20, 21, 22, 23, 24, 25, 26, 27, 28, 29, 30, 31, 32, 33, 34, 35, 36, 37, 38, 39, 40, 41, 42, 43, 44, 45, 46, 47, 48, 49, 50, 51, 52, 53, 54, 55, 56, 57, 58, 59, 60, 61, 62, 63, 64, 65, 66, 67, 68, 69, 70, 71, 72, 73, 74, 75, 76, 77, 78, 79, 80, 81, 82, 83, 84, 85, 86, 87, 88, 89, 90, 91, 92, 93, 94, 95, 96, 97, 98, 99, 100, 101, 102, 103, 104, 105, 106, 107, 108, 109, 110, 111, 112, 113, 114, 115, 116, 117, 118, 119, 120, 121, 122, 123, 124, 125, 126, 127, 128, 129, 130, 131, 132, 133, 134, 135, 136, 137, 138, 139, 140, 141, 142, 143, 144, 145] (by decide +kernel) (by decide +kernel)) (goodIn_sub (fun _ h => List.mem_cons_of_mem _ (List.mem_append_right _ h)) (by decide +kernel))
set_option maxRecDepth 20000 in
theorem gL_gain_X6_gain : GoodIn wsL_gain (wsV RL 95 RX6 yX6_gain wsX6_gain) := goodIn_app (goodIn_of _ (by decide +kernel)) ggL_gain_X6_gain
theorem dL_gain_0 : decode cL_gain 0 = .ok (.aload_n 3, 1) := by decide +kernel
theorem dL_gain_1 : decode cL_gain 1 = .ok (.iconst 0, 1) := by decide +kernel
theorem dL_gain_2 : decode cL_gain 2 = .ok (.aload_n 0, 1) := by decide +kernel
theorem dL_gain_3 : decode cL_gain 3 = .ok (.iload_n 1, 1) := by decide +kernel
theorem dL_gain_4 : decode cL_gain 4 = .ok (.iload_n 2, 1) := by decide +kernel
theorem dL_gain_5 : decode cL_gain 5 = .ok (.invokevirtual 95, 3) := by decide +kernel
theorem dL_gain_8 : decode cL_gain 8 = .ok (.i2l, 1) := by decide +kernel
theorem dL_gain_9 : decode cL_gain 9 = .ok (.lastore, 1) := by decide +kernel
theorem dL_gain_10 : decode cL_gain 10 = .ok (.goto 7, 3) := by decide +kernel
theorem dL_gain_13 : decode cL_gain 13 = .ok (.astore 4, 2) := by decide +kernel
theorem dL_gain_15 : decode cL_gain 15 = .ok (.iconst 1, 1) := by decide +kernel
theorem dL_gain_16 : decode cL_gain 16 = .ok (.ireturn, 1) := by decide +kernel
theorem dL_gain_17 : decode cL_gain 17 = .ok (.iconst 0, 1) := by decide +kernel
theorem dL_gain_18 : decode cL_gain 18 = .ok (.ireturn, 1) := by decide +kernel
set_option maxRecDepth 20000 in
theorem ggL_bestDay_X6_bestDay : GoodIn wsL_bestDay wsX6_bestDay := goodIn_ca (goodIn_r _ [6, 7, 8, 9, 10, 11, 12, 13, 14, 15, 16, 17, 18, 19, 20, 21, 22, 23, 24, 5, 25, 26, 27, 28, 29, 30, 31, 32, 33, 34, 35, 36, 37, 38, 39, 40, 41, 42, 43, 44, 45, 46, 47, 48, 49, 50, 51, 52, 53, 54, 55, 56, 57, 58, 59, 60, 61, 62, 63, 64, 65, 66, 67, 68, 69, 70, 71, 72, 73, 74, 75, 76, 77, 78, 79, 80, 81, 82, 83, 84, 85, 86, 87, 88, 89, 90, 91, 92, 93, 94, 95, 96, 97, 98, 99, 100, 101, 102, 103, 104, 105, 106, 107, 108, 109, 110, 111, 112, 113, 114, 115, 116, 117, 118, 119, 120, 121, 122, 123, 124, 125, 126, 127, 128, 129, 130, 131, 132, 133, 134, 135, 136, 137, 138, 139, 140, 141, 142, 143, 144] (by decide +kernel) (by decide +kernel)) (goodIn_sub (fun _ h => List.mem_cons_of_mem _ (List.mem_append_right _ h)) (by decide +kernel))
set_option maxRecDepth 20000 in
theorem gL_bestDay_X6_bestDay : GoodIn wsL_bestDay (wsV RL 98 RX6 yX6_bestDay wsX6_bestDay) := goodIn_app (goodIn_of _ (by decide +kernel)) ggL_bestDay_X6_bestDay
theorem dL_bestDay_0 : decode cL_bestDay 0 = .ok (.aload_n 2, 1) := by decide +kernel
theorem dL_bestDay_1 : decode cL_bestDay 1 = .ok (.iconst 0, 1) := by decide +kernel
theorem dL_bestDay_2 : decode cL_bestDay 2 = .ok (.aload_n 0, 1) := by decide +kernel
theorem dL_bestDay_3 : decode cL_bestDay 3 = .ok (.iload_n 1, 1) := by decide +kernel
theorem dL_bestDay_4 : decode cL_bestDay 4 = .ok (.invokevirtual 98, 3) := by decide +kernel
theorem dL_bestDay_7 : decode cL_bestDay 7 = .ok (.i2l, 1) := by decide +kernel
theorem dL_bestDay_8 : decode cL_bestDay 8 = .ok (.lastore, 1) := by decide +kernel
theorem dL_bestDay_9 : decode cL_bestDay 9 = .ok (.goto 6, 3) := by decide +kernel
theorem dL_bestDay_12 : decode cL_bestDay 12 = .ok (.astore_n 3, 1) := by decide +kernel
theorem dL_bestDay_13 : decode cL_bestDay 13 = .ok (.iconst 1, 1) := by decide +kernel
theorem dL_bestDay_14 : decode cL_bestDay 14 = .ok (.ireturn, 1) := by decide +kernel
theorem dL_bestDay_15 : decode cL_bestDay 15 = .ok (.iconst 0, 1) := by decide +kernel
theorem dL_bestDay_16 : decode cL_bestDay 16 = .ok (.ireturn, 1) := by decide +kernel
set_option maxRecDepth 20000 in
theorem ggL_law_X6_init : GoodIn wsL_law wsX6_init := goodIn_r _ [9, 10, 11, 12, 13, 14, 15, 16, 17, 18, 19, 20, 21, 22, 23, 24, 25, 26, 27, 28, 29, 30, 31, 32, 33, 34, 35, 36, 37, 38, 39, 40, 41, 42, 43, 44, 45, 46, 47, 48, 49, 50, 51, 52, 53, 54, 55, 56, 57, 58, 59, 2, 60, 61, 62, 63, 64, 65, 66, 67, 68, 69, 70, 71, 72, 73, 74, 75, 76, 77, 78, 79, 80, 81, 82, 83, 84, 85, 86, 87, 88, 89, 90, 91, 92, 93, 94, 1113, 1114, 1115, 1116, 1117, 1118, 1119, 1120, 1121, 1122, 1123, 1124, 1091, 1092, 1093, 1094, 1095, 1096, 1097, 1125, 1126, 1127, 1128, 1129, 1130, 1131, 1132, 1133, 1134, 1135] (by decide +kernel) (by decide +kernel)
set_option maxRecDepth 20000 in
theorem gL_law_X6_init : GoodIn wsL_law (wsX6_init) := ggL_law_X6_init
set_option maxRecDepth 20000 in
theorem ggL_law_X7_init : GoodIn wsL_law wsX7_init := goodIn_r _ [97, 98, 11, 12, 43, 99, 100, 101, 102, 103, 104, 105, 106, 1098, 1099, 1100, 1101, 1102, 1103, 1104, 1105, 1106, 1107, 1108, 1109, 1110, 1111, 1112] (by decide +kernel) (by decide +kernel)
set_option maxRecDepth 20000 in
theorem gL_law_X7_init : GoodIn wsL_law (wsX7_init) := ggL_law_X7_init
set_option maxRecDepth 20000 in
theorem ggL_law_L_addDish : GoodIn wsL_law wsL_addDish := goodIn_ca (goodIn_ca (goodIn_r _ [110, 111, 112, 113, 114, 115, 2, 116, 117, 118, 119, 120, 16, 121, 29, 122, 123, 124, 125, 126, 127, 28, 128, 80, 79, 129, 130, 131, 132, 78, 133, 134, 135, 15, 136, 42, 44, 45, 46, 47, 48, 49, 50, 51, 52, 53, 54, 137, 138, 139, 140, 141, 142, 143, 144, 145, 146, 147, 148, 149, 150, 59, 60, 1091, 1092, 1093, 1094, 1095, 1096, 1097, 1113, 1114, 1115, 1116, 1117, 1118, 1119, 1120, 1121, 1122, 1123, 1124, 1129, 1130, 1131] (by decide +kernel) (by decide +kernel)) (goodIn_sub (fun _ h => List.mem_append_left _ (List.mem_append_left _ (List.mem_append_right _ h))) (by decide +kernel))) (goodIn_sub (fun _ h => List.mem_append_left _ (List.mem_append_right _ h)) (by decide +kernel))
set_option maxRecDepth 20000 in
theorem gL_law_L_addDish : GoodIn wsL_law (va_wsS RL 105 yL_addDish wsL_addDish) := goodIn_app (goodIn_of _ (by decide +kernel)) ggL_law_L_addDish
set_option maxRecDepth 20000 in
theorem ggL_law_X7_addDish : GoodIn wsL_law wsX7_addDish := goodIn_r _ [154, 99, 155, 156, 157, 5, 158, 159, 160, 161, 162, 163, 164, 165, 166, 100, 1098, 1099, 1100, 1101, 1102, 1103, 1104, 1105, 1106, 1107, 1108, 1109, 1110, 1111, 1112] (by decide +kernel) (by decide +kernel)
set_option maxRecDepth 20000 in
theorem gL_law_X7_addDish : GoodIn wsL_law (wsV RL 110 RX7 yX7_addDish wsX7_addDish) := goodIn_app (goodIn_of _ (by decide +kernel)) ggL_law_X7_addDish
set_option maxRecDepth 20000 in
theorem ggL_law_X7_thrown : GoodIn wsL_law wsX7_thrown := goodIn_r _ [170, 155, 1098, 1099, 1100, 1101, 1102, 1103, 1104, 1105, 1106, 1107, 1108, 1109, 1110, 1111, 1112] (by decide +kernel) (by decide +kernel)
set_option maxRecDepth 20000 in
theorem gL_law_X7_thrown : GoodIn wsL_law (wsV RL 111 RX7 yX7_thrown wsX7_thrown) := goodIn_app (goodIn_of _ (by decide +kernel)) ggL_law_X7_thrown
set_option maxRecDepth 20000 in
theorem ggL_law_L_leave : GoodIn wsL_law wsL_leave := goodIn_ca (goodIn_ca (goodIn_ca (goodIn_r _ [173, 174, 111, 112, 175, 176, 177, 2, 178, 179, 180, 117, 118, 119, 120, 16, 17, 181, 182, 21, 183, 184, 185, 15, 186, 42, 122, 123, 124, 187, 134, 135, 136, 44, 45, 46, 47, 48, 49, 50, 51, 52, 53, 54, 137, 138, 139, 140, 141, 142, 143, 144, 145, 146, 188, 59, 60, 189, 190, 191, 20, 192, 193, 194, 195, 196, 197, 198, 199, 200, 201, 65, 66, 202, 56, 57, 58, 203, 204, 205, 206, 207, 208, 209, 210, 211, 212, 213, 214, 215, 216, 217, 218, 219, 220, 221, 222, 223, 224, 225, 226, 227, 228, 229, 230, 29, 125, 126, 127, 28, 128, 80, 79, 129, 130, 131, 132, 78, 133, 1091, 1092, 1093, 1094, 1095, 1096, 1097, 1113, 1114, 1115, 1116, 1117, 1118, 1119, 1120, 1121, 1122, 1123, 1124, 1125, 1126, 1129, 1130, 1131] (by decide +kernel) (by decide +kernel)) (goodIn_sub (fun _ h => List.mem_append_right _ h) (by decide +kernel))) (goodIn_sub (fun _ h => List.mem_append_left _ (List.mem_append_left _ (List.mem_append_right _ h))) (by decide +kernel))) (goodIn_sub (fun _ h => List.mem_append_left _ (List.mem_append_right _ h)) (by decide +kernel))
set_option maxRecDepth 20000 in
theorem gL_law_L_leave : GoodIn wsL_law (va_wsS RL 114 yL_leave wsL_leave) := goodIn_app (goodIn_of _ (by decide +kernel)) ggL_law_L_leave
set_option maxRecDepth 20000 in
theorem ggL_law_X7_leave : GoodIn wsL_law wsX7_leave := goodIn_r _ [234, 155, 235, 236, 237, 5, 238, 99, 159, 160, 161, 239, 240, 241, 242, 243, 244, 245, 246, 247, 248, 249, 250, 251, 252, 253, 254, 104, 105, 255, 256, 257, 258, 259, 260, 261, 262, 263, 264, 265, 266, 267, 268, 269, 270, 271, 272, 273, 274, 162, 163, 164, 165, 166, 100, 1098, 1099, 1100, 1101, 1102, 1103, 1104, 1105, 1106, 1107, 1108, 1109, 1110, 1111, 1112] (by decide +kernel) (by decide +kernel)
set_option maxRecDepth 20000 in
theorem gL_law_X7_leave : GoodIn wsL_law (wsV RL 117 RX7 yX7_leave wsX7_leave) := goodIn_app (goodIn_of _ (by decide +kernel)) ggL_law_X7_leave
set_option maxRecDepth 20000 in
theorem ggL_law_L_addGuest : GoodIn wsL_law wsL_addGuest := goodIn_ca (goodIn_r _ [277, 112, 278, 279, 280, 2, 281, 119, 120, 16, 282, 29, 125, 126, 127, 28, 128, 80, 79, 129, 130, 131, 132, 78, 133, 134, 135, 15, 136, 42, 44, 45, 46, 47, 48, 49, 50, 51, 52, 53, 54, 137, 138, 139, 140, 141, 142, 143, 144, 145, 146, 283, 284, 285, 286, 59, 60, 1091, 1092, 1093, 1094, 1095, 1096, 1097, 1113, 1114, 1115, 1116, 1117, 1118, 1119, 1120, 1121, 1122, 1123, 1124, 1129, 1130, 1131] (by decide +kernel) (by decide +kernel)) (goodIn_sub (fun _ h => List.mem_append_left _ (List.mem_append_right _ h)) (by decide +kernel))
set_option maxRecDepth 20000 in
theorem gL_law_L_addGuest : GoodIn wsL_law (va_wsS RL 118 yL_addGuest wsL_addGuest) := goodIn_app (goodIn_of _ (by decide +kernel)) ggL_law_L_addGuest
set_option maxRecDepth 20000 in
theorem ggL_law_X7_addGuest : GoodIn wsL_law wsX7_addGuest := goodIn_r _ [290, 99, 155, 162, 163, 164, 5, 165, 166, 100, 1098, 1099, 1100, 1101, 1102, 1103, 1104, 1105, 1106, 1107, 1108, 1109, 1110, 1111, 1112] (by decide +kernel) (by decide +kernel)
set_option maxRecDepth 20000 in
theorem gL_law_X7_addGuest : GoodIn wsL_law (wsV RL 121 RX7 yX7_addGuest wsX7_addGuest) := goodIn_app (goodIn_of _ (by decide +kernel)) ggL_law_X7_addGuest
set_option maxRecDepth 20000 in
theorem ggL_law_L_come : GoodIn wsL_law wsL_come := goodIn_ca (goodIn_ca (goodIn_ca (goodIn_r _ [293, 174, 111, 112, 294, 295, 296, 2, 297, 179, 180, 117, 118, 119, 120, 16, 17, 298, 299, 300, 301, 15, 302, 50, 122, 123, 124, 187, 134, 135, 136, 42, 44, 45, 46, 47, 48, 49, 51, 52, 53, 54, 137, 138, 139, 140, 141, 142, 143, 144, 145, 146, 188, 59, 60, 303, 304, 305, 306, 207, 208, 307, 308, 309, 310, 311, 312, 313, 314, 315, 316, 317, 318, 226, 227, 228, 229, 230, 29, 125, 126, 127, 28, 128, 80, 79, 129, 130, 131, 132, 78, 133, 1091, 1092, 1093, 1094, 1095, 1096, 1097, 1113, 1114, 1115, 1116, 1117, 1118, 1119, 1120, 1121, 1122, 1123, 1124, 1129, 1130, 1131] (by decide +kernel) (by decide +kernel)) (goodIn_sub (fun _ h => List.mem_append_right _ h) (by decide +kernel))) (goodIn_sub (fun _ h => List.mem_append_left _ (List.mem_append_left _ (List.mem_append_right _ h))) (by decide +kernel))) (goodIn_sub (fun _ h => List.mem_append_left _ (List.mem_append_right _ h)) (by decide +kernel))
set_option maxRecDepth 20000 in
theorem gL_law_L_come : GoodIn wsL_law (va_wsS RL 122 yL_come wsL_come) := goodIn_app (goodIn_of _ (by decide +kernel)) ggL_law_L_come
set_option maxRecDepth 20000 in
theorem ggL_law_X7_come : GoodIn wsL_law wsX7_come := goodIn_r _ [322, 323, 324, 325, 5, 326, 155, 99, 327, 328, 329, 330, 159, 160, 161, 331, 332, 333, 334, 335, 336, 337, 338, 339, 340, 341, 342, 343, 344, 345, 346, 347, 348, 349, 350, 351, 352, 353, 243, 244, 245, 246, 162, 163, 164, 165, 166, 100, 1098, 1099, 1100, 1101, 1102, 1103, 1104, 1105, 1106, 1107, 1108, 1109, 1110, 1111, 1112] (by decide +kernel) (by decide +kernel)
set_option maxRecDepth 20000 in
theorem gL_law_X7_come : GoodIn wsL_law (wsV RL 125 RX7 yX7_come wsX7_come) := goodIn_app (goodIn_of _ (by decide +kernel)) ggL_law_X7_come
set_option maxRecDepth 20000 in
theorem ggL_law_L_veto : GoodIn wsL_law wsL_veto := goodIn_ca (goodIn_ca (goodIn_ca (goodIn_r _ [356, 174, 111, 112, 357, 358, 359, 2, 360, 179, 180, 117, 118, 119, 120, 16, 17, 361, 299, 300, 301, 15, 302, 50, 122, 123, 124, 187, 134, 135, 136, 42, 44, 45, 46, 47, 48, 49, 51, 52, 53, 54, 137, 138, 139, 140, 141, 142, 143, 144, 145, 146, 188, 59, 60, 303, 304, 305, 306, 207, 208, 307, 308, 309, 310, 311, 312, 313, 314, 315, 316, 317, 318, 226, 227, 228, 229, 230, 29, 125, 126, 127, 28, 128, 80, 79, 129, 130, 131, 132, 78, 133, 1091, 1092, 1093, 1094, 1095, 1096, 1097, 1113, 1114, 1115, 1116, 1117, 1118, 1119, 1120, 1121, 1122, 1123, 1124, 1129, 1130, 1131] (by decide +kernel) (by decide +kernel)) (goodIn_sub (fun _ h => List.mem_append_right _ h) (by decide +kernel))) (goodIn_sub (fun _ h => List.mem_append_left _ (List.mem_append_left _ (List.mem_append_right _ h))) (by decide +kernel))) (goodIn_sub (fun _ h => List.mem_append_left _ (List.mem_append_right _ h)) (by decide +kernel))
set_option maxRecDepth 20000 in
theorem gL_law_L_veto : GoodIn wsL_law (va_wsS RL 126 yL_veto wsL_veto) := goodIn_app (goodIn_of _ (by decide +kernel)) ggL_law_L_veto
set_option maxRecDepth 20000 in
theorem ggL_law_X7_veto : GoodIn wsL_law wsX7_veto := goodIn_r _ [365, 323, 324, 325, 5, 326, 155, 99, 327, 328, 329, 330, 159, 160, 161, 331, 332, 333, 334, 335, 336, 337, 338, 339, 340, 341, 342, 343, 344, 345, 346, 347, 348, 349, 350, 351, 352, 353, 243, 244, 245, 246, 162, 163, 164, 165, 166, 100, 1098, 1099, 1100, 1101, 1102, 1103, 1104, 1105, 1106, 1107, 1108, 1109, 1110, 1111, 1112] (by decide +kernel) (by decide +kernel)
set_option maxRecDepth 20000 in
theorem gL_law_X7_veto : GoodIn wsL_law (wsV RL 128 RX7 yX7_veto wsX7_veto) := goodIn_app (goodIn_of _ (by decide +kernel)) ggL_law_X7_veto
set_option maxRecDepth 20000 in
theorem ggL_law_L_set : GoodIn wsL_law wsL_set := goodIn_ca (goodIn_ca (goodIn_ca (goodIn_r _ [368, 174, 111, 112, 369, 370, 371, 2, 372, 179, 180, 117, 118, 119, 120, 17, 16, 373, 122, 123, 124, 374, 375, 376, 377, 378, 379, 187, 134, 135, 15, 136, 42, 44, 45, 46, 47, 48, 49, 50, 51, 52, 53, 54, 137, 138, 139, 140, 141, 142, 143, 144, 145, 146, 188, 59, 60, 380, 381, 382, 383, 384, 385, 386, 387, 388, 389, 390, 391, 215, 216, 207, 208, 226, 227, 228, 229, 230, 29, 125, 126, 127, 28, 128, 80, 79, 129, 130, 131, 132, 78, 133, 1091, 1092, 1093, 1094, 1095, 1096, 1097, 1113, 1114, 1115, 1116, 1117, 1118, 1119, 1120, 1121, 1122, 1123, 1124, 1129, 1130, 1131] (by decide +kernel) (by decide +kernel)) (goodIn_sub (fun _ h => List.mem_append_right _ h) (by decide +kernel))) (goodIn_sub (fun _ h => List.mem_append_left _ (List.mem_append_left _ (List.mem_append_right _ h))) (by decide +kernel))) (goodIn_sub (fun _ h => List.mem_append_left _ (List.mem_append_right _ h)) (by decide +kernel))
set_option maxRecDepth 20000 in
theorem gL_law_L_set : GoodIn wsL_law (va_wsS RL 129 yL_set wsL_set) := goodIn_app (goodIn_of _ (by decide +kernel)) ggL_law_L_set
set_option maxRecDepth 20000 in
theorem ggL_law_X7_set : GoodIn wsL_law wsX7_set := goodIn_r _ [395, 155, 99, 396, 397, 5, 398, 159, 160, 161, 399, 400, 401, 402, 403, 404, 405, 406, 407, 408, 409, 410, 411, 412, 413, 414, 415, 416, 417, 243, 244, 245, 246, 162, 163, 164, 165, 166, 100, 1098, 1099, 1100, 1101, 1102, 1103, 1104, 1105, 1106, 1107, 1108, 1109, 1110, 1111, 1112] (by decide +kernel) (by decide +kernel)
set_option maxRecDepth 20000 in
theorem gL_law_X7_set : GoodIn wsL_law (wsV RL 131 RX7 yX7_set wsX7_set) := goodIn_app (goodIn_of _ (by decide +kernel)) ggL_law_X7_set
set_option maxRecDepth 20000 in
theorem ggL_law_L_serve : GoodIn wsL_law wsL_serve := goodIn_ca (goodIn_ca (goodIn_r _ [420, 174, 112, 421, 422, 423, 2, 424, 179, 180, 119, 120, 16, 425, 25, 29, 426, 427, 428, 429, 183, 184, 185, 15, 186, 42, 226, 207, 208, 430, 431, 432, 24, 433, 71, 434, 435, 436, 437, 72, 215, 216, 438, 308, 309, 310, 46, 311, 312, 313, 314, 50, 52, 315, 316, 317, 318, 51, 439, 385, 386, 387, 388, 389, 390, 391, 54, 45, 440, 441, 442, 20, 443, 214, 203, 204, 205, 206, 48, 198, 199, 200, 201, 65, 66, 202, 56, 57, 58, 59, 60, 209, 210, 211, 212, 213, 217, 218, 219, 220, 221, 222, 141, 223, 224, 225, 125, 126, 127, 28, 128, 80, 79, 129, 130, 131, 132, 78, 133, 134, 135, 136, 44, 47, 49, 53, 137, 138, 139, 140, 142, 143, 144, 145, 146, 444, 188, 445, 446, 447, 448, 449, 450, 451, 452, 453, 454, 455, 456, 457, 458, 459, 1091, 1092, 1093, 1094, 1095, 1096, 1097, 1113, 1114, 1115, 1116, 1117, 1118, 1119, 1120, 1121, 1122, 1123, 1124, 1127, 1128, 1125, 1126, 1129, 1130, 1131] (by decide +kernel) (by decide +kernel)) (goodIn_sub (fun _ h => List.mem_append_right _ h) (by decide +kernel))) (goodIn_sub (fun _ h => List.mem_append_left _ (List.mem_append_right _ h)) (by decide +kernel))
set_option maxRecDepth 20000 in
theorem gL_law_L_serve : GoodIn wsL_law (va_wsS RL 132 yL_serve wsL_serve) := goodIn_app (goodIn_of _ (by decide +kernel)) ggL_law_L_serve
set_option maxRecDepth 20000 in
theorem ggL_law_X7_serve : GoodIn wsL_law wsX7_serve := goodIn_r _ [463, 155, 464, 465, 5, 466, 159, 160, 161, 235, 236, 237, 238, 99, 467, 468, 469, 470, 243, 244, 245, 246, 471, 472, 473, 474, 414, 415, 416, 417, 343, 344, 345, 346, 347, 348, 349, 350, 335, 336, 337, 338, 351, 352, 353, 406, 407, 408, 409, 410, 411, 412, 413, 475, 476, 477, 478, 479, 480, 481, 482, 251, 252, 253, 254, 104, 105, 255, 256, 257, 258, 259, 260, 261, 262, 263, 264, 265, 266, 267, 268, 269, 270, 271, 272, 273, 274, 162, 163, 164, 165, 166, 100, 483, 484, 485, 486, 1098, 1099, 1100, 1101, 1102, 1103, 1104, 1105, 1106, 1107, 1108, 1109, 1110, 1111, 1112] (by decide +kernel) (by decide +kernel)
set_option maxRecDepth 20000 in
theorem gL_law_X7_serve : GoodIn wsL_law (wsV RL 134 RX7 yX7_serve wsX7_serve) := goodIn_app (goodIn_of _ (by decide +kernel)) ggL_law_X7_serve
set_option maxRecDepth 20000 in
theorem ggL_law_L_drop : GoodIn wsL_law wsL_drop := goodIn_ca (goodIn_ca (goodIn_r _ [489, 174, 112, 490, 491, 492, 2, 493, 179, 180, 119, 120, 16, 426, 17, 21, 427, 428, 429, 494, 495, 496, 444, 215, 216, 226, 207, 208, 187, 134, 135, 15, 136, 42, 44, 45, 46, 47, 48, 49, 50, 51, 52, 53, 54, 137, 138, 139, 140, 141, 142, 143, 144, 145, 146, 188, 59, 60, 189, 190, 191, 20, 192, 193, 194, 195, 196, 197, 198, 199, 200, 201, 65, 66, 202, 56, 57, 58, 203, 204, 205, 206, 209, 210, 211, 212, 213, 214, 217, 218, 219, 220, 221, 222, 223, 224, 225, 227, 228, 229, 230, 29, 125, 126, 127, 28, 128, 80, 79, 129, 130, 131, 132, 78, 133, 1091, 1092, 1093, 1094, 1095, 1096, 1097, 1113, 1114, 1115, 1116, 1117, 1118, 1119, 1120, 1121, 1122, 1123, 1124, 1125, 1126, 1129, 1130, 1131] (by decide +kernel) (by decide +kernel)) (goodIn_sub (fun _ h => List.mem_append_right _ h) (by decide +kernel))) (goodIn_sub (fun _ h => List.mem_append_left _ (List.mem_append_right _ h)) (by decide +kernel))
set_option maxRecDepth 20000 in
theorem gL_law_L_drop : GoodIn wsL_law (va_wsS RL 135 yL_drop wsL_drop) := goodIn_app (goodIn_of _ (by decide +kernel)) ggL_law_L_drop
set_option maxRecDepth 20000 in
theorem ggL_law_X7_drop : GoodIn wsL_law wsX7_drop := goodIn_r _ [500, 155, 464, 465, 5, 466, 159, 160, 161, 156, 157, 158, 414, 415, 416, 417, 99, 475, 476, 477, 478, 479, 480, 481, 482, 251, 252, 253, 254, 104, 105, 255, 256, 257, 258, 243, 244, 245, 246, 259, 260, 261, 262, 263, 264, 265, 266, 267, 268, 269, 270, 271, 272, 273, 274, 162, 163, 164, 165, 166, 100, 1098, 1099, 1100, 1101, 1102, 1103, 1104, 1105, 1106, 1107, 1108, 1109, 1110, 1111, 1112] (by decide +kernel) (by decide +kernel)
set_option maxRecDepth 20000 in
theorem gL_law_X7_drop : GoodIn wsL_law (wsV RL 137 RX7 yX7_drop wsX7_drop) := goodIn_app (goodIn_of _ (by decide +kernel)) ggL_law_X7_drop
set_option maxRecDepth 20000 in
theorem ggL_law_L_exchange : GoodIn wsL_law wsL_exchange := goodIn_ca (goodIn_ca (goodIn_r _ [503, 174, 112, 504, 505, 506, 2, 507, 179, 180, 119, 120, 17, 16, 25, 427, 428, 429, 187, 134, 135, 15, 136, 42, 44, 45, 46, 47, 48, 49, 50, 51, 52, 53, 54, 137, 138, 139, 140, 141, 142, 143, 144, 145, 146, 508, 509, 510, 511, 215, 216, 207, 208, 59, 60, 512, 513, 514, 515, 21, 303, 304, 305, 306, 307, 308, 309, 310, 311, 312, 313, 314, 315, 316, 317, 318, 380, 381, 382, 383, 384, 385, 386, 387, 388, 389, 390, 391, 189, 190, 191, 20, 192, 193, 194, 195, 196, 197, 198, 199, 200, 201, 65, 66, 202, 56, 57, 58, 203, 204, 205, 206, 209, 210, 211, 212, 213, 214, 217, 218, 219, 220, 221, 222, 223, 224, 225, 227, 228, 229, 230, 29, 125, 126, 127, 28, 128, 80, 79, 129, 130, 131, 132, 78, 133, 516, 517, 518, 24, 519, 520, 521, 522, 523, 71, 434, 524, 446, 447, 448, 449, 450, 451, 452, 453, 437, 454, 455, 456, 457, 458, 459, 1091, 1092, 1093, 1094, 1095, 1096, 1097, 1113, 1114, 1115, 1116, 1117, 1118, 1119, 1120, 1121, 1122, 1123, 1124, 1125, 1126, 1129, 1130, 1131, 1127, 1128] (by decide +kernel) (by decide +kernel)) (goodIn_sub (fun _ h => List.mem_append_right _ h) (by decide +kernel))) (goodIn_sub (fun _ h => List.mem_append_left _ (List.mem_append_right _ h)) (by decide +kernel))
set_option maxRecDepth 20000 in
theorem gL_law_L_exchange : GoodIn wsL_law (va_wsS RL 138 yL_exchange wsL_exchange) := goodIn_app (goodIn_of _ (by decide +kernel)) ggL_law_L_exchange
set_option maxRecDepth 20000 in
theorem ggL_law_X7_exchange : GoodIn wsL_law wsX7_exchange := goodIn_r _ [528, 155, 464, 465, 5, 466, 159, 160, 161, 529, 530, 531, 532, 533, 534, 535, 536, 414, 415, 416, 417, 99, 479, 480, 481, 482, 537, 538, 539, 540, 339, 340, 341, 342, 343, 344, 345, 346, 347, 348, 349, 350, 335, 336, 337, 338, 351, 352, 353, 243, 244, 245, 246, 402, 403, 404, 405, 406, 407, 408, 409, 410, 411, 412, 413, 251, 252, 253, 254, 104, 105, 255, 256, 257, 258, 259, 260, 261, 262, 263, 264, 265, 266, 267, 268, 269, 270, 271, 272, 273, 274, 162, 163, 164, 165, 166, 100, 541, 542, 543, 544, 545, 546, 547, 548, 483, 484, 485, 486, 1098, 1099, 1100, 1101, 1102, 1103, 1104, 1105, 1106, 1107, 1108, 1109, 1110, 1111, 1112] (by decide +kernel) (by decide +kernel)
set_option maxRecDepth 20000 in
theorem gL_law_X7_exchange : GoodIn wsL_law (wsV RL 140 RX7 yX7_exchange wsX7_exchange) := goodIn_app (goodIn_of _ (by decide +kernel)) ggL_law_X7_exchange
set_option maxRecDepth 20000 in
theorem ggL_law_L_fill : GoodIn wsL_law wsL_fill := goodIn_ca (goodIn_r _ [551, 174, 552, 553, 554, 2, 555, 179, 180, 29, 16, 25, 426, 427, 428, 429, 125, 126, 127, 28, 128, 80, 79, 129, 130, 131, 132, 78, 133, 134, 135, 15, 136, 42, 44, 45, 46, 47, 48, 49, 50, 51, 52, 53, 54, 137, 138, 139, 140, 141, 142, 143, 144, 145, 146, 556, 557, 558, 24, 559, 71, 560, 561, 431, 432, 433, 434, 435, 436, 437, 72, 215, 216, 207, 208, 438, 308, 309, 310, 311, 312, 313, 314, 315, 316, 317, 318, 439, 385, 386, 387, 388, 389, 390, 391, 440, 441, 442, 20, 443, 214, 203, 204, 205, 206, 198, 199, 200, 201, 65, 66, 202, 56, 57, 58, 59, 60, 209, 210, 211, 212, 213, 217, 218, 219, 220, 221, 222, 223, 224, 225, 562, 563, 564, 565, 524, 446, 447, 448, 449, 450, 451, 452, 453, 454, 455, 456, 457, 458, 459, 444, 188, 1091, 1092, 1093, 1094, 1095, 1096, 1097, 1113, 1114, 1115, 1116, 1117, 1118, 1119, 1120, 1121, 1122, 1123, 1124, 1129, 1130, 1131, 1127, 1128, 1125, 1126] (by decide +kernel) (by decide +kernel)) (goodIn_sub (fun _ h => List.mem_append_right _ h) (by decide +kernel))
set_option maxRecDepth 20000 in
theorem gL_law_L_fill : GoodIn wsL_law (va_wsS RL 141 yL_fill wsL_fill) := goodIn_app (goodIn_of _ (by decide +kernel)) ggL_law_L_fill
set_option maxRecDepth 20000 in
theorem ggL_law_X7_fill : GoodIn wsL_law wsX7_fill := goodIn_r _ [569, 155, 464, 465, 5, 466, 159, 160, 161, 162, 163, 164, 165, 166, 100, 99, 570, 571, 572, 573, 471, 472, 473, 474, 414, 415, 416, 417, 243, 244, 245, 246, 343, 344, 345, 346, 347, 348, 349, 350, 335, 336, 337, 338, 351, 352, 353, 406, 407, 408, 409, 410, 411, 412, 413, 475, 476, 477, 478, 479, 480, 481, 482, 251, 252, 253, 254, 104, 105, 255, 256, 257, 258, 259, 260, 261, 262, 263, 264, 265, 266, 267, 268, 269, 270, 271, 272, 273, 274, 483, 484, 485, 486, 1098, 1099, 1100, 1101, 1102, 1103, 1104, 1105, 1106, 1107, 1108, 1109, 1110, 1111, 1112] (by decide +kernel) (by decide +kernel)
set_option maxRecDepth 20000 in
theorem gL_law_X7_fill : GoodIn wsL_law (wsV RL 144 RX7 yX7_fill wsX7_fill) := goodIn_app (goodIn_of _ (by decide +kernel)) ggL_law_X7_fill
set_option maxRecDepth 20000 in
theorem ggL_law_X6_clear : GoodIn wsL_law wsX6_clear := goodIn_r _ [577, 16, 29, 426, 578, 579, 580, 15, 581, 582, 583, 584, 585, 54, 207, 2, 208, 125, 126, 127, 28, 128, 80, 79, 129, 130, 131, 132, 78, 133, 134, 135, 136, 42, 44, 45, 46, 47, 48, 49, 50, 51, 52, 53, 137, 138, 139, 140, 141, 142, 143, 144, 145, 146, 586, 56, 57, 58, 1091, 1092, 1093, 1094, 1095, 1096, 1097, 1113, 1114, 1115, 1116, 1117, 1118, 1119, 1120, 1121, 1122, 1123, 1124, 1129, 1130, 1131] (by decide +kernel) (by decide +kernel)
set_option maxRecDepth 20000 in
theorem gL_law_X6_clear : GoodIn wsL_law (wsV RL 145 RX6 yX6_clear wsX6_clear) := goodIn_app (goodIn_of _ (by decide +kernel)) ggL_law_X6_clear
set_option maxRecDepth 20000 in
theorem ggL_law_X7_clear : GoodIn wsL_law wsX7_clear := goodIn_r _ [590, 155, 99, 162, 163, 164, 5, 165, 166, 100, 591, 592, 593, 594, 1098, 1099, 1100, 1101, 1102, 1103, 1104, 1105, 1106, 1107, 1108, 1109, 1110, 1111, 1112] (by decide +kernel) (by decide +kernel)
set_option maxRecDepth 20000 in
theorem gL_law_X7_clear : GoodIn wsL_law (wsV RL 148 RX7 yX7_clear wsX7_clear) := goodIn_app (goodIn_of _ (by decide +kernel)) ggL_law_X7_clear
set_option maxRecDepth 20000 in
theorem ggL_law_L_append : GoodIn wsL_law wsL_append := goodIn_ca (goodIn_ca (goodIn_r _ [597, 111, 112, 598, 599, 600, 2, 601, 117, 118, 119, 120, 37, 602, 122, 123, 124, 603, 604, 605, 36, 606, 93, 94, 59, 60, 1091, 1092, 1093, 1094, 1095, 1096, 1097, 1134, 1135] (by decide +kernel) (by decide +kernel)) (goodIn_sub (fun _ h => List.mem_append_left _ (List.mem_append_left _ (List.mem_append_right _ h))) (by decide +kernel))) (goodIn_sub (fun _ h => List.mem_append_left _ (List.mem_append_right _ h)) (by decide +kernel))
set_option maxRecDepth 20000 in
theorem gL_law_L_append : GoodIn wsL_law (va_wsS RL 149 yL_append wsL_append) := goodIn_app (goodIn_of _ (by decide +kernel)) ggL_law_L_append
set_option maxRecDepth 20000 in
theorem ggL_law_X7_append : GoodIn wsL_law wsX7_append := goodIn_r _ [610, 611, 155, 103, 159, 160, 5, 161, 1098, 1099, 1100, 1101, 1102, 1103, 1104, 1105, 1106, 1107, 1108, 1109, 1110, 1111, 1112] (by decide +kernel) (by decide +kernel)
set_option maxRecDepth 20000 in
theorem gL_law_X7_append : GoodIn wsL_law (wsV RL 151 RX7 yX7_append wsX7_append) := goodIn_app (goodIn_of _ (by decide +kernel)) ggL_law_X7_append
set_option maxRecDepth 20000 in
theorem ggL_law_X6_clearBuffer : GoodIn wsL_law wsX6_clearBuffer := goodIn_r _ [615, 37, 602, 616, 617, 618, 36, 619, 94, 1091, 1092, 1093, 1094, 1095, 1096, 1097, 1134, 1135] (by decide +kernel) (by decide +kernel)
set_option maxRecDepth 20000 in
theorem gL_law_X6_clearBuffer : GoodIn wsL_law (wsV RL 152 RX6 yX6_clearBuffer wsX6_clearBuffer) := goodIn_app (goodIn_of _ (by decide +kernel)) ggL_law_X6_clearBuffer
set_option maxRecDepth 20000 in
theorem ggL_law_X7_clearBuffer : GoodIn wsL_law wsX7_clearBuffer := goodIn_r _ [623, 155, 611, 1098, 1099, 1100, 1101, 1102, 1103, 1104, 1105, 1106, 1107, 1108, 1109, 1110, 1111, 1112] (by decide +kernel) (by decide +kernel)
set_option maxRecDepth 20000 in
theorem gL_law_X7_clearBuffer : GoodIn wsL_law (wsV RL 155 RX7 yX7_clearBuffer wsX7_clearBuffer) := goodIn_app (goodIn_of _ (by decide +kernel)) ggL_law_X7_clearBuffer
set_option maxRecDepth 20000 in
theorem ggL_law_X6_firstError : GoodIn wsL_law wsX6_firstError := goodIn_r _ [627, 37, 628, 629, 630, 36, 631, 94, 93, 207, 2, 208, 632, 633, 634, 635, 636, 637, 123, 124, 638, 639, 640, 1091, 1092, 1093, 1094, 1095, 1096, 1097, 1134, 1135] (by decide +kernel) (by decide +kernel)
set_option maxRecDepth 20000 in
theorem gL_law_X6_firstError : GoodIn wsL_law (wsV RL 156 RX6 yX6_firstError wsX6_firstError) := goodIn_app (goodIn_of _ (by decide +kernel)) ggL_law_X6_firstError
set_option maxRecDepth 20000 in
theorem ggL_law_X7_firstError : GoodIn wsL_law wsX7_firstError := goodIn_r _ [644, 155, 645, 646, 647, 5, 648, 649, 650, 611, 103, 651, 652, 653, 654, 655, 106, 159, 160, 161, 656, 657, 658, 659, 464, 465, 466, 1098, 1099, 1100, 1101, 1102, 1103, 1104, 1105, 1106, 1107, 1108, 1109, 1110, 1111, 1112] (by decide +kernel) (by decide +kernel)
set_option maxRecDepth 20000 in
theorem gL_law_X7_firstError : GoodIn wsL_law (wsV RL 159 RX7 yX7_firstError wsX7_firstError) := goodIn_app (goodIn_of _ (by decide +kernel)) ggL_law_X7_firstError
set_option maxRecDepth 20000 in
theorem ggL_law_L_read : GoodIn wsL_law wsL_read := goodIn_ca (goodIn_r _ [662, 111, 663, 664, 665, 2, 666, 117, 118, 37, 29, 16, 667, 668, 669, 36, 670, 94, 93, 671, 629, 630, 631, 207, 208, 632, 633, 634, 635, 636, 637, 123, 124, 638, 639, 640, 125, 126, 127, 28, 128, 80, 79, 129, 130, 131, 132, 78, 133, 134, 135, 15, 136, 42, 44, 45, 46, 47, 48, 49, 50, 51, 52, 53, 54, 137, 138, 139, 140, 141, 142, 143, 144, 145, 146, 672, 673, 674, 675, 676, 677, 678, 679, 680, 681, 682, 683, 684, 685, 686, 687, 688, 689, 690, 691, 425, 25, 426, 183, 184, 185, 186, 226, 430, 431, 432, 24, 433, 71, 434, 435, 436, 437, 72, 215, 216, 438, 308, 309, 310, 311, 312, 313, 314, 315, 316, 317, 318, 439, 385, 386, 387, 388, 389, 390, 391, 440, 441, 442, 20, 443, 214, 203, 204, 205, 206, 198, 199, 200, 201, 65, 66, 202, 56, 57, 58, 59, 60, 209, 210, 211, 212, 213, 217, 218, 219, 220, 221, 222, 223, 224, 225, 444, 188, 616, 617, 618, 619, 1091, 1092, 1093, 1094, 1095, 1096, 1097, 1134, 1135, 1129, 1130, 1131, 1113, 1114, 1115, 1116, 1117, 1118, 1119, 1120, 1121, 1122, 1123, 1124, 1127, 1128, 1125, 1126] (by decide +kernel) (by decide +kernel)) (goodIn_sub (fun _ h => List.mem_append_left _ (List.mem_append_left _ (List.mem_append_right _ h))) (by decide +kernel))
set_option maxRecDepth 20000 in
theorem gL_law_L_read : GoodIn wsL_law (va_wsS RL 160 yL_read wsL_read) := goodIn_app (goodIn_of _ (by decide +kernel)) ggL_law_L_read
set_option maxRecDepth 20000 in
theorem ggL_law_X7_read : GoodIn wsL_law wsX7_read := goodIn_r _ [695, 611, 650, 155, 649, 645, 646, 647, 5, 648, 103, 651, 652, 653, 654, 655, 106, 159, 160, 161, 656, 657, 658, 659, 464, 465, 466, 162, 163, 164, 165, 166, 100, 99, 696, 697, 698, 699, 235, 236, 237, 238, 467, 468, 469, 470, 243, 244, 245, 246, 471, 472, 473, 474, 414, 415, 416, 417, 343, 344, 345, 346, 347, 348, 349, 350, 335, 336, 337, 338, 351, 352, 353, 406, 407, 408, 409, 410, 411, 412, 413, 475, 476, 477, 478, 479, 480, 481, 482, 251, 252, 253, 254, 104, 105, 255, 256, 257, 258, 259, 260, 261, 262, 263, 264, 265, 266, 267, 268, 269, 270, 271, 272, 273, 274, 1098, 1099, 1100, 1101, 1102, 1103, 1104, 1105, 1106, 1107, 1108, 1109, 1110, 1111, 1112] (by decide +kernel) (by decide +kernel)
set_option maxRecDepth 20000 in
theorem gL_law_X7_read : GoodIn wsL_law (wsV RL 162 RX7 yX7_read wsX7_read) := goodIn_app (goodIn_of _ (by decide +kernel)) ggL_law_X7_read
set_option maxRecDepth 20000 in
theorem ggL_law_L_take : GoodIn wsL_law wsL_take := goodIn_ca (goodIn_r _ [702, 174, 703, 704, 705, 2, 706, 179, 180, 33, 16, 426, 122, 123, 124, 707, 708, 709, 32, 710, 86, 88, 207, 208, 59, 60, 578, 579, 580, 15, 581, 582, 583, 584, 585, 54, 1091, 1092, 1093, 1094, 1095, 1096, 1097, 1113, 1114, 1115, 1116, 1117, 1118, 1119, 1120, 1121, 1122, 1123, 1124, 1132, 1133] (by decide +kernel) (by decide +kernel)) (goodIn_sub (fun _ h => List.mem_append_right _ h) (by decide +kernel))
set_option maxRecDepth 20000 in
theorem gL_law_L_take : GoodIn wsL_law (va_wsS RL 163 yL_take wsL_take) := goodIn_app (goodIn_of _ (by decide +kernel)) ggL_law_L_take
set_option maxRecDepth 20000 in
theorem ggL_law_X7_take : GoodIn wsL_law wsX7_take := goodIn_r _ [714, 155, 102, 101, 99, 715, 716, 5, 717, 159, 160, 161, 591, 592, 593, 594, 1098, 1099, 1100, 1101, 1102, 1103, 1104, 1105, 1106, 1107, 1108, 1109, 1110, 1111, 1112] (by decide +kernel) (by decide +kernel)
set_option maxRecDepth 20000 in
theorem gL_law_X7_take : GoodIn wsL_law (wsV RL 165 RX7 yX7_take wsX7_take) := goodIn_app (goodIn_of _ (by decide +kernel)) ggL_law_X7_take
set_option maxRecDepth 20000 in
theorem ggL_law_L_restore : GoodIn wsL_law wsL_restore := goodIn_ca (goodIn_ca (goodIn_r _ [720, 174, 112, 721, 722, 723, 2, 724, 179, 180, 119, 120, 33, 17, 16, 426, 122, 123, 124, 725, 726, 727, 32, 728, 88, 187, 134, 135, 15, 136, 42, 44, 45, 46, 47, 48, 49, 50, 51, 52, 53, 54, 137, 138, 139, 140, 141, 142, 143, 144, 145, 146, 729, 730, 731, 732, 86, 207, 208, 59, 60, 733, 734, 735, 736, 737, 184, 185, 186, 512, 513, 514, 515, 21, 303, 304, 305, 306, 307, 308, 309, 310, 311, 312, 313, 314, 315, 316, 317, 318, 380, 381, 382, 383, 384, 385, 386, 387, 388, 389, 390, 391, 215, 216, 189, 190, 191, 20, 192, 193, 194, 195, 196, 197, 198, 199, 200, 201, 65, 66, 202, 56, 57, 58, 203, 204, 205, 206, 209, 210, 211, 212, 213, 214, 217, 218, 219, 220, 221, 222, 223, 224, 225, 227, 228, 229, 230, 29, 125, 126, 127, 28, 128, 80, 79, 129, 130, 131, 132, 78, 133, 578, 579, 580, 581, 582, 583, 584, 585, 1091, 1092, 1093, 1094, 1095, 1096, 1097, 1113, 1114, 1115, 1116, 1117, 1118, 1119, 1120, 1121, 1122, 1123, 1124, 1132, 1133, 1125, 1126, 1129, 1130, 1131] (by decide +kernel) (by decide +kernel)) (goodIn_sub (fun _ h => List.mem_append_right _ h) (by decide +kernel))) (goodIn_sub (fun _ h => List.mem_append_left _ (List.mem_append_right _ h)) (by decide +kernel))
set_option maxRecDepth 20000 in
theorem gL_law_L_restore : GoodIn wsL_law (va_wsS RL 166 yL_restore wsL_restore) := goodIn_app (goodIn_of _ (by decide +kernel)) ggL_law_L_restore
set_option maxRecDepth 20000 in
theorem ggL_law_X7_restore : GoodIn wsL_law wsX7_restore := goodIn_r _ [741, 155, 102, 99, 101, 715, 716, 5, 717, 159, 160, 161, 742, 743, 744, 745, 746, 747, 748, 749, 235, 236, 237, 238, 243, 244, 245, 246, 750, 751, 752, 753, 537, 538, 539, 540, 339, 340, 341, 342, 343, 344, 345, 346, 347, 348, 349, 350, 335, 336, 337, 338, 351, 352, 353, 402, 403, 404, 405, 406, 407, 408, 409, 410, 411, 412, 413, 414, 415, 416, 417, 251, 252, 253, 254, 104, 105, 255, 256, 257, 258, 259, 260, 261, 262, 263, 264, 265, 266, 267, 268, 269, 270, 271, 272, 273, 274, 162, 163, 164, 165, 166, 100, 591, 592, 593, 594, 1098, 1099, 1100, 1101, 1102, 1103, 1104, 1105, 1106, 1107, 1108, 1109, 1110, 1111, 1112] (by decide +kernel) (by decide +kernel)
set_option maxRecDepth 20000 in
theorem gL_law_X7_restore : GoodIn wsL_law (wsV RL 168 RX7 yX7_restore wsX7_restore) := goodIn_app (goodIn_of _ (by decide +kernel)) ggL_law_X7_restore
set_option maxRecDepth 20000 in
theorem ggL_law_L_undo : GoodIn wsL_law wsL_undo := goodIn_ca (goodIn_r _ [756, 112, 757, 758, 759, 2, 760, 119, 120, 29, 761, 16, 762, 763, 764, 28, 765, 80, 129, 130, 131, 132, 79, 78, 133, 134, 135, 15, 136, 42, 44, 45, 46, 47, 48, 49, 50, 51, 52, 53, 54, 137, 138, 139, 140, 141, 142, 143, 144, 145, 146, 1091, 1092, 1093, 1094, 1095, 1096, 1097, 1129, 1130, 1131, 1113, 1114, 1115, 1116, 1117, 1118, 1119, 1120, 1121, 1122, 1123, 1124] (by decide +kernel) (by decide +kernel)) (goodIn_sub (fun _ h => List.mem_append_left _ (List.mem_append_right _ h)) (by decide +kernel))
set_option maxRecDepth 20000 in
theorem gL_law_L_undo : GoodIn wsL_law (va_wsS RL 169 yL_undo wsL_undo) := goodIn_app (goodIn_of _ (by decide +kernel)) ggL_law_L_undo
set_option maxRecDepth 20000 in
theorem ggL_law_X7_undo : GoodIn wsL_law wsX7_undo := goodIn_r _ [769, 166, 155, 99, 100, 1098, 1099, 1100, 1101, 1102, 1103, 1104, 1105, 1106, 1107, 1108, 1109, 1110, 1111, 1112] (by decide +kernel) (by decide +kernel)
set_option maxRecDepth 20000 in
theorem gL_law_X7_undo : GoodIn wsL_law (wsV RL 171 RX7 yX7_undo wsX7_undo) := goodIn_app (goodIn_of _ (by decide +kernel)) ggL_law_X7_undo
set_option maxRecDepth 20000 in
theorem ggL_law_L_planned : GoodIn wsL_law wsL_planned := goodIn_ca (goodIn_r _ [772, 174, 773, 774, 775, 2, 776, 179, 180, 16, 426, 427, 428, 429, 494, 495, 496, 444, 215, 216, 226, 207, 208, 1091, 1092, 1093, 1094, 1095, 1096, 1097, 1113, 1114, 1115, 1116, 1117, 1118, 1119, 1120, 1121, 1122, 1123, 1124] (by decide +kernel) (by decide +kernel)) (goodIn_sub (fun _ h => List.mem_append_right _ h) (by decide +kernel))
set_option maxRecDepth 20000 in
theorem gL_law_L_planned : GoodIn wsL_law (va_wsS RL 172 yL_planned wsL_planned) := goodIn_app (goodIn_of _ (by decide +kernel)) ggL_law_L_planned
set_option maxRecDepth 20000 in
theorem ggL_law_X7_planned : GoodIn wsL_law wsX7_planned := goodIn_r _ [780, 155, 464, 465, 5, 466, 159, 160, 161, 156, 157, 158, 414, 415, 416, 417, 99, 1098, 1099, 1100, 1101, 1102, 1103, 1104, 1105, 1106, 1107, 1108, 1109, 1110, 1111, 1112] (by decide +kernel) (by decide +kernel)
set_option maxRecDepth 20000 in
theorem gL_law_X7_planned : GoodIn wsL_law (wsV RL 174 RX7 yX7_planned wsX7_planned) := goodIn_app (goodIn_of _ (by decide +kernel)) ggL_law_X7_planned
set_option maxRecDepth 20000 in
theorem ggL_law_L_dish : GoodIn wsL_law wsL_dish := goodIn_ca (goodIn_ca (goodIn_r _ [783, 174, 111, 784, 785, 786, 2, 787, 179, 180, 117, 118, 16, 183, 184, 185, 15, 186, 42, 122, 123, 124, 788, 789, 790, 791, 425, 792, 793, 794, 181, 182, 21, 226, 207, 208, 795, 204, 205, 206, 48, 796, 583, 584, 585, 54, 797, 798, 799, 20, 800, 193, 194, 195, 196, 197, 198, 199, 200, 201, 65, 66, 202, 56, 57, 58, 203, 209, 210, 211, 212, 213, 214, 215, 216, 217, 218, 219, 220, 221, 222, 141, 223, 224, 225, 59, 60, 801, 802, 803, 804, 1091, 1092, 1093, 1094, 1095, 1096, 1097, 1113, 1114, 1115, 1116, 1117, 1118, 1119, 1120, 1121, 1122, 1123, 1124, 1125, 1126] (by decide +kernel) (by decide +kernel)) (goodIn_sub (fun _ h => List.mem_append_right _ h) (by decide +kernel))) (goodIn_sub (fun _ h => List.mem_append_left _ (List.mem_append_left _ (List.mem_append_right _ h))) (by decide +kernel))
set_option maxRecDepth 20000 in
theorem gL_law_L_dish : GoodIn wsL_law (va_wsS RL 175 yL_dish wsL_dish) := goodIn_app (goodIn_of _ (by decide +kernel)) ggL_law_L_dish
set_option maxRecDepth 20000 in
theorem ggL_law_X7_dish : GoodIn wsL_law wsX7_dish := goodIn_r _ [808, 155, 235, 236, 237, 5, 238, 99, 159, 160, 161, 809, 810, 811, 812, 255, 256, 257, 258, 243, 244, 245, 246, 813, 814, 815, 816, 105, 251, 252, 253, 254, 104, 259, 260, 261, 262, 263, 264, 265, 266, 267, 268, 269, 270, 271, 272, 273, 274, 1098, 1099, 1100, 1101, 1102, 1103, 1104, 1105, 1106, 1107, 1108, 1109, 1110, 1111, 1112] (by decide +kernel) (by decide +kernel)
set_option maxRecDepth 20000 in
theorem gL_law_X7_dish : GoodIn wsL_law (wsV RL 177 RX7 yX7_dish wsX7_dish) := goodIn_app (goodIn_of _ (by decide +kernel)) ggL_law_X7_dish
set_option maxRecDepth 20000 in
theorem ggL_law_L_guest : GoodIn wsL_law wsL_guest := goodIn_ca (goodIn_ca (goodIn_r _ [819, 174, 111, 820, 821, 822, 2, 823, 179, 180, 117, 118, 16, 299, 300, 301, 15, 302, 50, 122, 123, 124, 824, 825, 826, 827, 298, 361, 226, 207, 208, 828, 829, 830, 831, 315, 316, 317, 318, 51, 832, 833, 834, 835, 54, 215, 216, 1091, 1092, 1093, 1094, 1095, 1096, 1097, 1113, 1114, 1115, 1116, 1117, 1118, 1119, 1120, 1121, 1122, 1123, 1124] (by decide +kernel) (by decide +kernel)) (goodIn_sub (fun _ h => List.mem_append_right _ h) (by decide +kernel))) (goodIn_sub (fun _ h => List.mem_append_left _ (List.mem_append_left _ (List.mem_append_right _ h))) (by decide +kernel))
set_option maxRecDepth 20000 in
theorem gL_law_L_guest : GoodIn wsL_law (va_wsS RL 178 yL_guest wsL_guest) := goodIn_app (goodIn_of _ (by decide +kernel)) ggL_law_L_guest
set_option maxRecDepth 20000 in
theorem ggL_law_X7_guest : GoodIn wsL_law wsX7_guest := goodIn_r _ [839, 155, 327, 328, 329, 5, 330, 99, 159, 160, 161, 840, 841, 842, 843, 335, 336, 337, 338, 351, 352, 353, 844, 845, 846, 847, 414, 415, 416, 417, 848, 849, 850, 1098, 1099, 1100, 1101, 1102, 1103, 1104, 1105, 1106, 1107, 1108, 1109, 1110, 1111, 1112] (by decide +kernel) (by decide +kernel)
set_option maxRecDepth 20000 in
theorem gL_law_X7_guest : GoodIn wsL_law (wsV RL 180 RX7 yX7_guest wsX7_guest) := goodIn_app (goodIn_of _ (by decide +kernel)) ggL_law_X7_guest
set_option maxRecDepth 20000 in
theorem ggL_law_L_day : GoodIn wsL_law wsL_day := goodIn_ca (goodIn_ca (goodIn_r _ [853, 174, 111, 854, 855, 856, 2, 857, 179, 180, 117, 118, 427, 428, 429, 122, 123, 124, 858, 859, 860, 861, 16, 25, 862, 833, 834, 15, 835, 54, 215, 216, 207, 208, 863, 389, 390, 391, 45, 864, 521, 522, 24, 523, 71, 434, 524, 446, 447, 448, 449, 450, 451, 452, 453, 437, 454, 222, 141, 223, 455, 456, 457, 458, 459, 865, 312, 313, 314, 50, 52, 315, 316, 317, 318, 51, 866, 867, 868, 869, 1091, 1092, 1093, 1094, 1095, 1096, 1097, 1113, 1114, 1115, 1116, 1117, 1118, 1119, 1120, 1121, 1122, 1123, 1124, 1127, 1128] (by decide +kernel) (by decide +kernel)) (goodIn_sub (fun _ h => List.mem_append_right _ h) (by decide +kernel))) (goodIn_sub (fun _ h => List.mem_append_left _ (List.mem_append_left _ (List.mem_append_right _ h))) (by decide +kernel))
set_option maxRecDepth 20000 in
theorem gL_law_L_day : GoodIn wsL_law (va_wsS RL 181 yL_day wsL_day) := goodIn_app (goodIn_of _ (by decide +kernel)) ggL_law_L_day
set_option maxRecDepth 20000 in
theorem ggL_law_X7_day : GoodIn wsL_law wsX7_day := goodIn_r _ [873, 155, 464, 465, 5, 466, 159, 160, 161, 874, 875, 876, 877, 844, 845, 846, 847, 414, 415, 416, 417, 99, 848, 849, 850, 410, 411, 412, 413, 243, 244, 245, 246, 545, 546, 547, 548, 483, 484, 485, 486, 347, 348, 349, 350, 335, 336, 337, 338, 351, 352, 353, 878, 879, 880, 881, 1098, 1099, 1100, 1101, 1102, 1103, 1104, 1105, 1106, 1107, 1108, 1109, 1110, 1111, 1112] (by decide +kernel) (by decide +kernel)
set_option maxRecDepth 20000 in
theorem gL_law_X7_day : GoodIn wsL_law (wsV RL 183 RX7 yX7_day wsX7_day) := goodIn_app (goodIn_of _ (by decide +kernel)) ggL_law_X7_day
set_option maxRecDepth 20000 in
theorem ggL_law_L_source : GoodIn wsL_law wsL_source := goodIn_ca (goodIn_r _ [884, 174, 885, 886, 887, 2, 888, 179, 180, 21, 16, 427, 428, 429, 494, 495, 496, 444, 215, 216, 889, 890, 891, 20, 892, 214, 65, 207, 208, 198, 199, 200, 201, 66, 202, 56, 57, 58, 203, 204, 205, 15, 206, 42, 48, 209, 210, 211, 212, 213, 217, 218, 219, 220, 221, 222, 141, 223, 224, 225, 59, 60, 1091, 1092, 1093, 1094, 1095, 1096, 1097, 1113, 1114, 1115, 1116, 1117, 1118, 1119, 1120, 1121, 1122, 1123, 1124, 1125, 1126] (by decide +kernel) (by decide +kernel)) (goodIn_sub (fun _ h => List.mem_append_right _ h) (by decide +kernel))
set_option maxRecDepth 20000 in
theorem gL_law_L_source : GoodIn wsL_law (va_wsS RL 184 yL_source wsL_source) := goodIn_app (goodIn_of _ (by decide +kernel)) ggL_law_L_source
set_option maxRecDepth 20000 in
theorem ggL_law_X7_source : GoodIn wsL_law wsX7_source := goodIn_r _ [896, 155, 464, 465, 5, 466, 159, 160, 161, 156, 157, 158, 897, 898, 899, 900, 104, 251, 252, 253, 254, 105, 99, 255, 256, 257, 258, 243, 244, 245, 246, 259, 260, 261, 262, 263, 264, 265, 266, 267, 268, 269, 270, 271, 272, 273, 274, 1098, 1099, 1100, 1101, 1102, 1103, 1104, 1105, 1106, 1107, 1108, 1109, 1110, 1111, 1112] (by decide +kernel) (by decide +kernel)
set_option maxRecDepth 20000 in
theorem gL_law_X7_source : GoodIn wsL_law (wsV RL 186 RX7 yX7_source wsX7_source) := goodIn_app (goodIn_of _ (by decide +kernel)) ggL_law_X7_source
set_option maxRecDepth 20000 in
theorem ggL_law_L_count : GoodIn wsL_law wsL_count := goodIn_ca (goodIn_r _ [903, 111, 904, 905, 906, 2, 907, 117, 118, 122, 123, 124, 908, 909, 910, 911, 16, 121, 282, 25, 21, 33, 29, 761, 578, 579, 580, 15, 581, 582, 583, 584, 585, 54, 207, 208, 516, 517, 518, 24, 519, 520, 521, 522, 523, 71, 434, 215, 216, 524, 446, 447, 448, 449, 450, 451, 452, 453, 437, 454, 222, 141, 223, 455, 456, 457, 458, 459, 912, 913, 914, 915, 384, 385, 386, 387, 388, 389, 390, 391, 45, 916, 917, 918, 919, 48, 920, 921, 922, 20, 923, 197, 193, 194, 195, 196, 198, 199, 200, 201, 65, 66, 202, 56, 57, 58, 203, 204, 205, 206, 42, 209, 210, 211, 212, 213, 214, 217, 218, 219, 220, 221, 224, 225, 59, 60, 801, 802, 803, 804, 924, 925, 926, 927, 832, 833, 834, 835, 928, 929, 930, 931, 32, 932, 933, 726, 727, 728, 88, 1091, 1092, 1093, 1094, 1095, 1096, 1097, 1113, 1114, 1115, 1116, 1117, 1118, 1119, 1120, 1121, 1122, 1123, 1124, 1129, 1130, 1131, 1127, 1128, 1125, 1126, 1132, 1133] (by decide +kernel) (by decide +kernel)) (goodIn_sub (fun _ h => List.mem_append_left _ (List.mem_append_left _ (List.mem_append_right _ h))) (by decide +kernel))
set_option maxRecDepth 20000 in
theorem gL_law_L_count : GoodIn wsL_law (va_wsS RL 187 yL_count wsL_count) := goodIn_app (goodIn_of _ (by decide +kernel)) ggL_law_L_count
set_option maxRecDepth 20000 in
theorem ggL_law_X7_count : GoodIn wsL_law wsX7_count := goodIn_r _ [937, 155, 159, 160, 5, 161, 938, 939, 940, 941, 99, 102, 166, 591, 592, 593, 594, 541, 542, 543, 544, 545, 546, 547, 548, 414, 415, 416, 417, 483, 484, 485, 486, 243, 244, 245, 246, 942, 943, 944, 945, 406, 407, 408, 409, 410, 411, 412, 413, 946, 947, 948, 949, 105, 251, 252, 253, 254, 104, 255, 256, 257, 258, 259, 260, 261, 262, 263, 264, 265, 266, 267, 268, 269, 270, 271, 272, 273, 274, 950, 951, 952, 953, 844, 845, 846, 847, 848, 849, 850, 1098, 1099, 1100, 1101, 1102, 1103, 1104, 1105, 1106, 1107, 1108, 1109, 1110, 1111, 1112] (by decide +kernel) (by decide +kernel)
set_option maxRecDepth 20000 in
theorem gL_law_X7_count : GoodIn wsL_law (wsV RL 189 RX7 yX7_count wsX7_count) := goodIn_app (goodIn_of _ (by decide +kernel)) ggL_law_X7_count
set_option maxRecDepth 20000 in
theorem ggL_law_L_setting : GoodIn wsL_law wsL_setting := goodIn_ca (goodIn_r _ [956, 174, 957, 958, 959, 2, 960, 179, 180, 16, 373, 122, 123, 124, 226, 207, 208, 1091, 1092, 1093, 1094, 1095, 1096, 1097, 1113, 1114, 1115, 1116, 1117, 1118, 1119, 1120, 1121, 1122, 1123, 1124] (by decide +kernel) (by decide +kernel)) (goodIn_sub (fun _ h => List.mem_append_right _ h) (by decide +kernel))
set_option maxRecDepth 20000 in
theorem gL_law_L_setting : GoodIn wsL_law (va_wsS RL 190 yL_setting wsL_setting) := goodIn_app (goodIn_of _ (by decide +kernel)) ggL_law_L_setting
set_option maxRecDepth 20000 in
theorem ggL_law_X7_setting : GoodIn wsL_law wsX7_setting := goodIn_r _ [964, 155, 99, 396, 397, 5, 398, 159, 160, 161, 1098, 1099, 1100, 1101, 1102, 1103, 1104, 1105, 1106, 1107, 1108, 1109, 1110, 1111, 1112] (by decide +kernel) (by decide +kernel)
set_option maxRecDepth 20000 in
theorem gL_law_X7_setting : GoodIn wsL_law (wsV RL 192 RX7 yX7_setting wsX7_setting) := goodIn_app (goodIn_of _ (by decide +kernel)) ggL_law_X7_setting
set_option maxRecDepth 20000 in
theorem ggL_law_L_whyNot : GoodIn wsL_law wsL_whyNot := goodIn_ca (goodIn_r _ [967, 174, 968, 969, 970, 2, 971, 179, 180, 16, 25, 427, 428, 429, 494, 495, 496, 183, 184, 185, 15, 186, 42, 430, 431, 432, 24, 433, 71, 434, 435, 436, 437, 72, 215, 216, 207, 208, 438, 308, 309, 310, 46, 311, 312, 313, 314, 50, 52, 315, 316, 317, 318, 51, 439, 385, 386, 387, 388, 389, 390, 391, 54, 45, 440, 441, 442, 20, 443, 214, 203, 204, 205, 206, 48, 198, 199, 200, 201, 65, 66, 202, 56, 57, 58, 59, 60, 209, 210, 211, 212, 213, 217, 218, 219, 220, 221, 222, 141, 223, 224, 225, 1091, 1092, 1093, 1094, 1095, 1096, 1097, 1113, 1114, 1115, 1116, 1117, 1118, 1119, 1120, 1121, 1122, 1123, 1124, 1127, 1128, 1125, 1126] (by decide +kernel) (by decide +kernel)) (goodIn_sub (fun _ h => List.mem_append_right _ h) (by decide +kernel))
set_option maxRecDepth 20000 in
theorem gL_law_L_whyNot : GoodIn wsL_law (va_wsS RL 193 yL_whyNot wsL_whyNot) := goodIn_app (goodIn_of _ (by decide +kernel)) ggL_law_L_whyNot
set_option maxRecDepth 20000 in
theorem ggL_law_X7_whyNot : GoodIn wsL_law wsX7_whyNot := goodIn_r _ [975, 155, 464, 465, 5, 466, 159, 160, 161, 156, 157, 158, 235, 236, 237, 238, 99, 471, 472, 473, 474, 414, 415, 416, 417, 243, 244, 245, 246, 343, 344, 345, 346, 347, 348, 349, 350, 335, 336, 337, 338, 351, 352, 353, 406, 407, 408, 409, 410, 411, 412, 413, 475, 476, 477, 478, 479, 480, 481, 482, 251, 252, 253, 254, 104, 105, 255, 256, 257, 258, 259, 260, 261, 262, 263, 264, 265, 266, 267, 268, 269, 270, 271, 272, 273, 274, 1098, 1099, 1100, 1101, 1102, 1103, 1104, 1105, 1106, 1107, 1108, 1109, 1110, 1111, 1112] (by decide +kernel) (by decide +kernel)
set_option maxRecDepth 20000 in
theorem gL_law_X7_whyNot : GoodIn wsL_law (wsV RL 195 RX7 yX7_whyNot wsX7_whyNot) := goodIn_app (goodIn_of _ (by decide +kernel)) ggL_law_X7_whyNot
set_option maxRecDepth 20000 in
theorem ggL_law_L_joyOn : GoodIn wsL_law wsL_joyOn := goodIn_ca (goodIn_r _ [978, 174, 979, 980, 981, 2, 982, 179, 180, 16, 25, 427, 428, 429, 183, 184, 185, 15, 186, 42, 445, 446, 447, 24, 448, 449, 450, 451, 452, 71, 453, 437, 454, 222, 141, 223, 434, 207, 208, 215, 216, 455, 456, 457, 458, 459, 1091, 1092, 1093, 1094, 1095, 1096, 1097, 1113, 1114, 1115, 1116, 1117, 1118, 1119, 1120, 1121, 1122, 1123, 1124, 1127, 1128] (by decide +kernel) (by decide +kernel)) (goodIn_sub (fun _ h => List.mem_append_right _ h) (by decide +kernel))
set_option maxRecDepth 20000 in
theorem gL_law_L_joyOn : GoodIn wsL_law (va_wsS RL 196 yL_joyOn wsL_joyOn) := goodIn_app (goodIn_of _ (by decide +kernel)) ggL_law_L_joyOn
set_option maxRecDepth 20000 in
theorem ggL_law_X7_joyOn : GoodIn wsL_law wsX7_joyOn := goodIn_r _ [986, 155, 464, 465, 5, 466, 159, 160, 161, 235, 236, 237, 238, 99, 483, 484, 485, 486, 243, 244, 245, 246, 1098, 1099, 1100, 1101, 1102, 1103, 1104, 1105, 1106, 1107, 1108, 1109, 1110, 1111, 1112] (by decide +kernel) (by decide +kernel)
set_option maxRecDepth 20000 in
theorem gL_law_X7_joyOn : GoodIn wsL_law (wsV RL 198 RX7 yX7_joyOn wsX7_joyOn) := goodIn_app (goodIn_of _ (by decide +kernel)) ggL_law_X7_joyOn
set_option maxRecDepth 20000 in
theorem ggL_law_L_best : GoodIn wsL_law wsL_best := goodIn_ca (goodIn_r _ [989, 174, 990, 991, 992, 2, 993, 179, 180, 25, 427, 428, 429, 494, 495, 496, 556, 557, 558, 24, 559, 71, 560, 561, 431, 432, 433, 434, 435, 436, 437, 72, 215, 216, 207, 208, 438, 308, 309, 15, 310, 46, 311, 312, 313, 314, 50, 52, 315, 316, 317, 318, 51, 439, 385, 386, 387, 388, 389, 390, 391, 54, 45, 440, 441, 442, 20, 443, 214, 203, 204, 205, 206, 42, 48, 198, 199, 200, 201, 65, 66, 202, 56, 57, 58, 59, 60, 209, 210, 211, 212, 213, 217, 218, 219, 220, 221, 222, 141, 223, 224, 225, 562, 563, 564, 565, 524, 446, 447, 448, 449, 450, 451, 452, 453, 454, 455, 456, 457, 458, 459, 1091, 1092, 1093, 1094, 1095, 1096, 1097, 1127, 1128, 1113, 1114, 1115, 1116, 1117, 1118, 1119, 1120, 1121, 1122, 1123, 1124, 1125, 1126] (by decide +kernel) (by decide +kernel)) (goodIn_sub (fun _ h => List.mem_append_right _ h) (by decide +kernel))
set_option maxRecDepth 20000 in
theorem gL_law_L_best : GoodIn wsL_law (va_wsS RL 199 yL_best wsL_best) := goodIn_app (goodIn_of _ (by decide +kernel)) ggL_law_L_best
set_option maxRecDepth 20000 in
theorem ggL_law_X7_best : GoodIn wsL_law wsX7_best := goodIn_r _ [997, 155, 464, 465, 5, 466, 159, 160, 161, 156, 157, 158, 570, 571, 572, 573, 99, 471, 472, 473, 474, 414, 415, 416, 417, 243, 244, 245, 246, 343, 344, 345, 346, 347, 348, 349, 350, 335, 336, 337, 338, 351, 352, 353, 406, 407, 408, 409, 410, 411, 412, 413, 475, 476, 477, 478, 479, 480, 481, 482, 251, 252, 253, 254, 104, 105, 255, 256, 257, 258, 259, 260, 261, 262, 263, 264, 265, 266, 267, 268, 269, 270, 271, 272, 273, 274, 483, 484, 485, 486, 1098, 1099, 1100, 1101, 1102, 1103, 1104, 1105, 1106, 1107, 1108, 1109, 1110, 1111, 1112] (by decide +kernel) (by decide +kernel)
set_option maxRecDepth 20000 in
theorem gL_law_X7_best : GoodIn wsL_law (wsV RL 201 RX7 yX7_best wsX7_best) := goodIn_app (goodIn_of _ (by decide +kernel)) ggL_law_X7_best
set_option maxRecDepth 20000 in
theorem ggL_law_L_gain : GoodIn wsL_law wsL_gain := goodIn_ca (goodIn_r _ [1000, 174, 1001, 1002, 1003, 2, 1004, 179, 180, 16, 25, 425, 427, 428, 429, 183, 184, 185, 15, 186, 42, 226, 207, 208, 430, 431, 432, 24, 433, 71, 434, 435, 436, 437, 72, 215, 216, 438, 308, 309, 310, 46, 311, 312, 313, 314, 50, 52, 315, 316, 317, 318, 51, 439, 385, 386, 387, 388, 389, 390, 391, 54, 45, 440, 441, 442, 20, 443, 214, 203, 204, 205, 206, 48, 198, 199, 200, 201, 65, 66, 202, 56, 57, 58, 59, 60, 209, 210, 211, 212, 213, 217, 218, 219, 220, 221, 222, 141, 223, 224, 225, 1005, 1006, 1007, 1008, 453, 1009, 140, 142, 524, 446, 447, 448, 449, 450, 451, 452, 454, 455, 456, 457, 458, 459, 1091, 1092, 1093, 1094, 1095, 1096, 1097, 1113, 1114, 1115, 1116, 1117, 1118, 1119, 1120, 1121, 1122, 1123, 1124, 1127, 1128, 1125, 1126] (by decide +kernel) (by decide +kernel)) (goodIn_sub (fun _ h => List.mem_append_right _ h) (by decide +kernel))
set_option maxRecDepth 20000 in
theorem gL_law_L_gain : GoodIn wsL_law (va_wsS RL 202 yL_gain wsL_gain) := goodIn_app (goodIn_of _ (by decide +kernel)) ggL_law_L_gain
set_option maxRecDepth 20000 in
theorem ggL_law_X7_gain : GoodIn wsL_law wsX7_gain := goodIn_r _ [1013, 155, 464, 465, 5, 466, 159, 160, 161, 235, 236, 237, 238, 99, 467, 468, 469, 470, 243, 244, 245, 246, 471, 472, 473, 474, 414, 415, 416, 417, 343, 344, 345, 346, 347, 348, 349, 350, 335, 336, 337, 338, 351, 352, 353, 406, 407, 408, 409, 410, 411, 412, 413, 475, 476, 477, 478, 479, 480, 481, 482, 251, 252, 253, 254, 104, 105, 255, 256, 257, 258, 259, 260, 261, 262, 263, 264, 265, 266, 267, 268, 269, 270, 271, 272, 273, 274, 1014, 1015, 1016, 1017, 541, 542, 543, 544, 545, 546, 547, 548, 483, 484, 485, 486, 1098, 1099, 1100, 1101, 1102, 1103, 1104, 1105, 1106, 1107, 1108, 1109, 1110, 1111, 1112] (by decide +kernel) (by decide +kernel)
set_option maxRecDepth 20000 in
theorem gL_law_X7_gain : GoodIn wsL_law (wsV RL 204 RX7 yX7_gain wsX7_gain) := goodIn_app (goodIn_of _ (by decide +kernel)) ggL_law_X7_gain
set_option maxRecDepth 20000 in
theorem ggL_law_L_bestDay : GoodIn wsL_law wsL_bestDay := goodIn_ca (goodIn_r _ [1020, 174, 1021, 1022, 1023, 2, 1024, 179, 180, 16, 25, 183, 184, 185, 15, 186, 42, 1025, 1026, 1027, 24, 1028, 71, 435, 207, 208, 561, 431, 432, 433, 434, 436, 437, 72, 215, 216, 438, 308, 309, 310, 46, 311, 312, 313, 314, 50, 52, 315, 316, 317, 318, 51, 439, 385, 386, 387, 388, 389, 390, 391, 54, 45, 440, 441, 442, 20, 443, 214, 203, 204, 205, 206, 48, 198, 199, 200, 201, 65, 66, 202, 56, 57, 58, 59, 60, 209, 210, 211, 212, 213, 217, 218, 219, 220, 221, 222, 141, 223, 224, 225, 1029, 1006, 1007, 1008, 453, 1009, 140, 142, 524, 446, 447, 448, 449, 450, 451, 452, 454, 455, 456, 457, 458, 459, 1091, 1092, 1093, 1094, 1095, 1096, 1097, 1113, 1114, 1115, 1116, 1117, 1118, 1119, 1120, 1121, 1122, 1123, 1124, 1127, 1128, 1125, 1126] (by decide +kernel) (by decide +kernel)) (goodIn_sub (fun _ h => List.mem_append_right _ h) (by decide +kernel))
set_option maxRecDepth 20000 in
theorem gL_law_L_bestDay : GoodIn wsL_law (va_wsS RL 205 yL_bestDay wsL_bestDay) := goodIn_app (goodIn_of _ (by decide +kernel)) ggL_law_L_bestDay
set_option maxRecDepth 20000 in
theorem ggL_law_X7_bestDay : GoodIn wsL_law wsX7_bestDay := goodIn_r _ [1033, 155, 235, 236, 237, 5, 238, 99, 159, 160, 161, 1034, 1035, 1036, 1037, 467, 468, 469, 470, 243, 244, 245, 246, 471, 472, 473, 474, 414, 415, 416, 417, 343, 344, 345, 346, 347, 348, 349, 350, 335, 336, 337, 338, 351, 352, 353, 406, 407, 408, 409, 410, 411, 412, 413, 475, 476, 477, 478, 479, 480, 481, 482, 251, 252, 253, 254, 104, 105, 255, 256, 257, 258, 259, 260, 261, 262, 263, 264, 265, 266, 267, 268, 269, 270, 271, 272, 273, 274, 1014, 1015, 1016, 1017, 541, 542, 543, 544, 545, 546, 547, 548, 483, 484, 485, 486, 1098, 1099, 1100, 1101, 1102, 1103, 1104, 1105, 1106, 1107, 1108, 1109, 1110, 1111, 1112] (by decide +kernel) (by decide +kernel)
set_option maxRecDepth 20000 in
theorem gL_law_X7_bestDay : GoodIn wsL_law (wsV RL 207 RX7 yX7_bestDay wsX7_bestDay) := goodIn_app (goodIn_of _ (by decide +kernel)) ggL_law_X7_bestDay
set_option maxRecDepth 20000 in
theorem ggL_law_X6_usedShare : GoodIn wsL_law wsX6_usedShare := goodIn_r _ [1041, 16, 21, 916, 917, 918, 15, 919, 48, 54, 207, 2, 208, 920, 921, 922, 20, 923, 197, 193, 194, 195, 196, 198, 199, 200, 201, 65, 66, 202, 56, 57, 58, 203, 204, 205, 206, 42, 209, 210, 211, 212, 213, 214, 215, 216, 217, 218, 219, 220, 221, 222, 141, 223, 224, 225, 59, 60, 801, 802, 803, 804, 1091, 1092, 1093, 1094, 1095, 1096, 1097, 1113, 1114, 1115, 1116, 1117, 1118, 1119, 1120, 1121, 1122, 1123, 1124, 1125, 1126] (by decide +kernel) (by decide +kernel)
set_option maxRecDepth 20000 in
theorem gL_law_X6_usedShare : GoodIn wsL_law (wsV RL 208 RX6 yX6_usedShare wsX6_usedShare) := goodIn_app (goodIn_of _ (by decide +kernel)) ggL_law_X6_usedShare
set_option maxRecDepth 20000 in
theorem ggL_law_X7_usedShare : GoodIn wsL_law wsX7_usedShare := goodIn_r _ [1045, 155, 1046, 1047, 1048, 5, 1049, 946, 947, 948, 949, 105, 251, 252, 253, 254, 104, 99, 255, 256, 257, 258, 243, 244, 245, 246, 259, 260, 261, 262, 263, 264, 265, 266, 267, 268, 269, 270, 271, 272, 273, 274, 1098, 1099, 1100, 1101, 1102, 1103, 1104, 1105, 1106, 1107, 1108, 1109, 1110, 1111, 1112] (by decide +kernel) (by decide +kernel)
set_option maxRecDepth 20000 in
theorem gL_law_X7_usedShare : GoodIn wsL_law (wsV RL 212 RX7 yX7_usedShare wsX7_usedShare) := goodIn_app (goodIn_of _ (by decide +kernel)) ggL_law_X7_usedShare
set_option maxRecDepth 20000 in
theorem ggL_law_X6_digest : GoodIn wsL_law wsX6_digest := goodIn_r _ [1053, 1054, 1055, 16, 373, 121, 25, 282, 426, 21, 37, 602, 1056, 908, 909, 910, 2, 911, 33, 29, 761, 578, 579, 580, 15, 581, 582, 583, 584, 585, 54, 207, 208, 516, 517, 518, 24, 519, 520, 521, 522, 523, 71, 434, 215, 216, 524, 446, 447, 448, 449, 450, 451, 452, 453, 437, 454, 222, 141, 223, 455, 456, 457, 458, 459, 912, 913, 914, 915, 384, 385, 386, 387, 388, 389, 390, 391, 45, 916, 917, 918, 919, 48, 920, 921, 922, 20, 923, 197, 193, 194, 195, 196, 198, 199, 200, 201, 65, 66, 202, 56, 57, 58, 203, 204, 205, 206, 42, 209, 210, 211, 212, 213, 214, 217, 218, 219, 220, 221, 224, 225, 59, 60, 801, 802, 803, 804, 924, 925, 926, 927, 832, 833, 834, 835, 928, 929, 930, 931, 32, 932, 933, 726, 727, 728, 88, 226, 788, 789, 790, 791, 425, 792, 793, 794, 181, 182, 795, 796, 797, 798, 799, 800, 1025, 1026, 1027, 1028, 435, 561, 431, 432, 433, 436, 72, 438, 308, 309, 310, 46, 311, 312, 313, 314, 50, 52, 315, 316, 317, 318, 51, 439, 440, 441, 442, 443, 1029, 1006, 1007, 1008, 1009, 140, 142, 824, 825, 826, 827, 298, 361, 828, 829, 830, 831, 858, 859, 860, 861, 862, 863, 864, 865, 866, 867, 868, 869, 444, 889, 890, 891, 892, 556, 557, 558, 559, 560, 562, 563, 564, 565, 1057, 1039, 1040, 1041, 1058, 1059, 1060, 1061, 1062, 1063, 1091, 1092, 1093, 1094, 1095, 1096, 1097, 1113, 1114, 1115, 1116, 1117, 1118, 1119, 1120, 1121, 1122, 1123, 1124, 1134, 1135, 1129, 1130, 1131, 1127, 1128, 1125, 1126, 1132, 1133] (by decide +kernel) (by decide +kernel)
set_option maxRecDepth 20000 in
theorem gL_law_X6_digest : GoodIn wsL_law (wsV RL 213 RX6 yX6_digest wsX6_digest) := goodIn_app (goodIn_of _ (by decide +kernel)) ggL_law_X6_digest
set_option maxRecDepth 20000 in
theorem ggL_law_X7_digest : GoodIn wsL_law wsX7_digest := goodIn_r _ [1067, 155, 1068, 1069, 99, 611, 103, 938, 939, 940, 5, 941, 102, 166, 591, 592, 593, 594, 541, 542, 543, 544, 545, 546, 547, 548, 414, 415, 416, 417, 483, 484, 485, 486, 243, 244, 245, 246, 942, 943, 944, 945, 406, 407, 408, 409, 410, 411, 412, 413, 946, 947, 948, 949, 105, 251, 252, 253, 254, 104, 255, 256, 257, 258, 259, 260, 261, 262, 263, 264, 265, 266, 267, 268, 269, 270, 271, 272, 273, 274, 950, 951, 952, 953, 844, 845, 846, 847, 848, 849, 850, 1070, 1071, 1072, 1073, 1074, 809, 810, 811, 812, 813, 814, 815, 816, 1034, 1035, 1036, 1037, 467, 468, 469, 470, 471, 472, 473, 474, 343, 344, 345, 346, 347, 348, 349, 350, 335, 336, 337, 338, 351, 352, 353, 475, 476, 477, 478, 479, 480, 481, 482, 1014, 1015, 1016, 1017, 840, 841, 842, 843, 1075, 1076, 1077, 1078, 874, 875, 876, 877, 878, 879, 880, 881, 897, 898, 899, 900, 570, 571, 572, 573, 1046, 1047, 1048, 1049, 1079, 1080, 1081, 1082, 1083, 1084, 1085, 1086, 1087, 1088, 1089, 1090, 1098, 1099, 1100, 1101, 1102, 1103, 1104, 1105, 1106, 1107, 1108, 1109, 1110, 1111, 1112] (by decide +kernel) (by decide +kernel)
set_option maxRecDepth 20000 in
theorem gL_law_X7_digest : GoodIn wsL_law (wsV RL 217 RX7 yX7_digest wsX7_digest) := goodIn_app (goodIn_of _ (by decide +kernel)) ggL_law_X7_digest
