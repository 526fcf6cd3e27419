def wsL_law : List Cond := wsL_law0 ++ (vx_atS RX2 40 "java/lang/IllegalStateException" ["java/lang/RuntimeException", "java/lang/Exception"]).filter goodWord ++ (vx_atS RX2 59 "java/lang/IllegalArgumentException" ["java/lang/RuntimeException", "java/lang/Exception"]).filter goodWord ++ (vx_atS RX2 266 "java/lang/IndexOutOfBoundsException" ["java/lang/RuntimeException", "java/lang/Exception"]).filter goodWord
set_option maxRecDepth 20000 in
theorem wsL_law_in0 : ∀ w ∈ wsL_law0, w ∈ lw_tbl := fun w h => (goodIn_p wsL_law0 [68, 71, 76, 122, 688, 488, 508, 293, 297, 225, 260, 302, 306, 191, 311, 315, 245, 322, 326, 329, 333, 758, 762, 766, 754, 517, 374, 539, 544, 770, 774, 778, 781, 785, 551, 470, 789, 793, 558, 797, 567, 572, 207, 211, 215, 218, 222, 801, 805, 809, 812, 816, 820, 824, 580, 584, 589, 188, 242, 594, 598, 602, 828, 832, 609, 233, 238, 249, 253, 257, 265, 836, 840, 845, 168, 849, 853, 172, 857, 176, 861, 180, 865, 869, 184, 873, 877, 195, 881, 199, 885, 203, 889, 370, 893, 446, 897, 450, 454, 901, 905, 466, 909, 475, 913, 480, 917, 921, 641, 925, 648, 929, 458, 933, 659, 663, 669, 937, 941, 945, 676, 949, 953, 683, 957, 229, 961, 965, 969, 269, 273, 973, 977, 981, 280, 277, 986, 284, 289, 990, 994, 337, 998, 341, 346, 353, 366, 462, 1002, 1006] (by decide +kernel) (by decide +kernel) w h).1
theorem wsL_law_x0 : ∀ w ∈ (vx_atS RX2 40 "java/lang/IllegalStateException" ["java/lang/RuntimeException", "java/lang/Exception"]).filter goodWord, w ∈ lw_tbl := by decide +kernel
theorem wsL_law_x1 : ∀ w ∈ (vx_atS RX2 59 "java/lang/IllegalArgumentException" ["java/lang/RuntimeException", "java/lang/Exception"]).filter goodWord, w ∈ lw_tbl := by decide +kernel
theorem wsL_law_x2 : ∀ w ∈ (vx_atS RX2 266 "java/lang/IndexOutOfBoundsException" ["java/lang/RuntimeException", "java/lang/Exception"]).filter goodWord, w ∈ lw_tbl := by decide +kernel
theorem wsL_law_in : ∀ w ∈ wsL_law, w ∈ lw_tbl := fun w h => (List.mem_append.mp h).elim (fun h => (List.mem_append.mp h).elim (fun h => (List.mem_append.mp h).elim (fun h => wsL_law_in0 w h) (fun h => wsL_law_x0 w h)) (fun h => wsL_law_x1 w h)) (fun h => wsL_law_x2 w h)
theorem inlX0 : ∀ w ∈ wsX00, w ∈ wsL_law := fun _ h => List.mem_append_left _ (List.mem_append_left _ (List.mem_append_left _ (List.mem_append_left _ (List.mem_append_left _ (List.mem_append_right _ h)))))
theorem inX0 : ∀ w ∈ wsX00, w ∈ lw_tbl := fun w h => wsL_law_in w (inlX0 w h)
theorem inlX1 : ∀ w ∈ wsX10, w ∈ wsL_law := fun _ h => List.mem_append_left _ (List.mem_append_left _ (List.mem_append_left _ (List.mem_append_left _ (List.mem_append_right _ h))))
theorem inX1 : ∀ w ∈ wsX10, w ∈ lw_tbl := fun w h => wsL_law_in w (inlX1 w h)
theorem inlX2 : ∀ w ∈ wsX20, w ∈ wsL_law := fun _ h => List.mem_append_left _ (List.mem_append_left _ (List.mem_append_left _ (List.mem_append_left _ (List.mem_append_left _ (List.mem_append_left _ (List.mem_append_left _ (List.mem_append_right _ h)))))))
theorem inX2 : ∀ w ∈ wsX20, w ∈ lw_tbl := fun w h => wsL_law_in w (inlX2 w h)
theorem inlX3 : ∀ w ∈ wsX30, w ∈ wsL_law := fun _ h => List.mem_append_left _ (List.mem_append_left _ (List.mem_append_left _ (List.mem_append_left _ (List.mem_append_left _ (List.mem_append_left _ (List.mem_append_right _ h))))))
theorem inX3 : ∀ w ∈ wsX30, w ∈ lw_tbl := fun w h => wsL_law_in w (inlX3 w h)
theorem inJ9 : ∀ w ∈ wsJ90, w ∈ lw_tbl := by decide +kernel
theorem inJ0 : ∀ w ∈ wsJ00, w ∈ lw_tbl := by decide +kernel
theorem inJ10 : ∀ w ∈ wsJ100, w ∈ lw_tbl := by decide +kernel
set_option maxRecDepth 20000 in
theorem ggL_addRoom_X2_addRoom : GoodIn wsL_addRoom wsX2_addRoom := goodIn_ca (goodIn_r _ [6, 7, 8, 9, 10, 11, 12, 13, 14, 15, 16, 17, 18, 19, 20, 21, 22, 23, 24, 25, 26, 27, 28, 29, 30, 31, 32, 33, 34, 35, 36, 37, 38, 39, 40, 41, 5, 42, 43, 44, 45, 46, 47, 48, 49, 50, 51, 52, 53, 54, 55, 56, 57, 58, 59, 60, 61, 62, 63, 64, 65, 66, 67, 68, 69, 70, 71, 72, 73, 74, 75, 76, 77, 78, 79, 80, 81, 82, 83, 84, 85, 86, 87, 88, 89, 90, 91, 92, 93, 94, 95, 96, 97, 98, 99, 100, 101, 102, 103, 104, 105] (by decide +kernel) (by decide +kernel)) (goodIn_sub (fun _ h => List.mem_cons_of_mem _ (List.mem_append_right _ h)) (by decide +kernel))
set_option maxRecDepth 20000 in
theorem gL_addRoom_X2_addRoom : GoodIn wsL_addRoom (wsV RL 7 RX2 yX2_addRoom wsX2_addRoom) := goodIn_app (goodIn_of _ (by decide +kernel)) ggL_addRoom_X2_addRoom
theorem dL_addRoom_0 : decode cL_addRoom 0 = .ok (.aload_n 2, 1) := by decide +kernel
theorem dL_addRoom_1 : decode cL_addRoom 1 = .ok (.iconst 0, 1) := by decide +kernel
theorem dL_addRoom_2 : decode cL_addRoom 2 = .ok (.aload_n 0, 1) := by decide +kernel
theorem dL_addRoom_3 : decode cL_addRoom 3 = .ok (.iload_n 1, 1) := by decide +kernel
theorem dL_addRoom_4 : decode cL_addRoom 4 = .ok (.invokevirtual 7, 3) := by decide +kernel
theorem dL_addRoom_7 : decode cL_addRoom 7 = .ok (.i2l, 1) := by decide +kernel
theorem dL_addRoom_8 : decode cL_addRoom 8 = .ok (.lastore, 1) := by decide +kernel
theorem dL_addRoom_9 : decode cL_addRoom 9 = .ok (.goto 6, 3) := by decide +kernel
theorem dL_addRoom_12 : decode cL_addRoom 12 = .ok (.astore_n 3, 1) := by decide +kernel
theorem dL_addRoom_13 : decode cL_addRoom 13 = .ok (.iconst 1, 1) := by decide +kernel
theorem dL_addRoom_14 : decode cL_addRoom 14 = .ok (.ireturn, 1) := by decide +kernel
theorem dL_addRoom_15 : decode cL_addRoom 15 = .ok (.iconst 0, 1) := by decide +kernel
theorem dL_addRoom_16 : decode cL_addRoom 16 = .ok (.ireturn, 1) := by decide +kernel
set_option maxRecDepth 20000 in
theorem ggL_addDoor_X2_addDoor : GoodIn wsL_addDoor wsX2_addDoor := goodIn_ca (goodIn_ca (goodIn_ca (goodIn_r _ [8, 9, 10, 11, 12, 13, 14, 15, 16, 17, 18, 7, 19, 20, 21, 22, 23, 24, 25, 26, 27, 28, 29, 30, 31, 32, 33, 34, 35, 36, 37, 38, 39, 40, 41, 42, 43, 44, 45, 46, 47, 48, 49, 50, 51, 52, 53, 54, 55, 56, 57, 58, 59, 60, 61, 62, 63, 64, 65, 66, 67, 68, 69, 70, 71, 72, 73, 74, 75, 76, 77, 78, 79, 80, 81, 82, 83, 84, 85, 86, 87, 88, 89, 90, 91, 92, 93, 94, 95, 96, 97, 98, 99, 100, 101, 102, 103, 104, 105, 106, 107, 108, 109, 110, 111, 112, 113, 114, 115, 116, 117, 118, 119, 120, 121] (by decide +kernel) (by decide +kernel)) (goodIn_sub (fun _ h => List.mem_cons_of_mem _ (List.mem_append_left _ (List.mem_append_left _ (List.mem_append_right _ h)))) (by decide +kernel))) (goodIn_sub (fun _ h => List.mem_cons_of_mem _ (List.mem_append_left _ (List.mem_append_right _ h))) (by decide +kernel))) (goodIn_sub (fun _ h => List.mem_cons_of_mem _ (List.mem_append_right _ h)) (by decide +kernel))
set_option maxRecDepth 20000 in
theorem gL_addDoor_X2_addDoor : GoodIn wsL_addDoor (wsV RL 15 RX2 yX2_addDoor wsX2_addDoor) := goodIn_app (goodIn_of _ (by decide +kernel)) ggL_addDoor_X2_addDoor
theorem dL_addDoor_0 : decode cL_addDoor 0 = .ok (.aload 5, 2) := by decide +kernel
theorem dL_addDoor_2 : decode cL_addDoor 2 = .ok (.iconst 0, 1) := by decide +kernel
theorem dL_addDoor_3 : decode cL_addDoor 3 = .ok (.aload_n 0, 1) := by decide +kernel
theorem dL_addDoor_4 : decode cL_addDoor 4 = .ok (.iload_n 1, 1) := by decide +kernel
theorem dL_addDoor_5 : decode cL_addDoor 5 = .ok (.iload_n 2, 1) := by decide +kernel
theorem dL_addDoor_6 : decode cL_addDoor 6 = .ok (.iload_n 3, 1) := by decide +kernel
theorem dL_addDoor_7 : decode cL_addDoor 7 = .ok (.iload 4, 2) := by decide +kernel
theorem dL_addDoor_9 : decode cL_addDoor 9 = .ok (.invokevirtual 15, 3) := by decide +kernel
theorem dL_addDoor_12 : decode cL_addDoor 12 = .ok (.i2l, 1) := by decide +kernel
theorem dL_addDoor_13 : decode cL_addDoor 13 = .ok (.lastore, 1) := by decide +kernel
theorem dL_addDoor_14 : decode cL_addDoor 14 = .ok (.goto 15, 3) := by decide +kernel
theorem dL_addDoor_17 : decode cL_addDoor 17 = .ok (.astore 6, 2) := by decide +kernel
theorem dL_addDoor_19 : decode cL_addDoor 19 = .ok (.iconst 1, 1) := by decide +kernel
theorem dL_addDoor_20 : decode cL_addDoor 20 = .ok (.ireturn, 1) := by decide +kernel
theorem dL_addDoor_21 : decode cL_addDoor 21 = .ok (.astore 6, 2) := by decide +kernel
theorem dL_addDoor_23 : decode cL_addDoor 23 = .ok (.iconst 2, 1) := by decide +kernel
theorem dL_addDoor_24 : decode cL_addDoor 24 = .ok (.ireturn, 1) := by decide +kernel
theorem dL_addDoor_25 : decode cL_addDoor 25 = .ok (.astore 6, 2) := by decide +kernel
theorem dL_addDoor_27 : decode cL_addDoor 27 = .ok (.iconst 3, 1) := by decide +kernel
theorem dL_addDoor_28 : decode cL_addDoor 28 = .ok (.ireturn, 1) := by decide +kernel
theorem dL_addDoor_29 : decode cL_addDoor 29 = .ok (.iconst 0, 1) := by decide +kernel
theorem dL_addDoor_30 : decode cL_addDoor 30 = .ok (.ireturn, 1) := by decide +kernel
set_option maxRecDepth 20000 in
theorem ggL_turnLock_X2_turnLock : GoodIn wsL_turnLock wsX2_turnLock := goodIn_ca (goodIn_r _ [6, 7, 8, 9, 10, 11, 12, 5, 13, 14, 15, 16, 17, 18, 19, 20, 21, 22, 23, 24, 25, 26, 27, 28, 29, 30, 31, 32, 33, 34, 35, 36, 37, 38, 39, 40, 41, 42, 43, 44, 45, 46, 47, 48, 49, 50, 51, 52, 53, 54, 55, 56, 57, 58, 59, 60, 61, 62, 63, 64, 65, 66, 67, 68, 69, 70, 71, 72, 73, 74, 75, 76, 77, 78, 79, 80, 81, 82, 83, 84, 85, 86, 87, 88, 89, 90, 91, 92, 93, 94, 95, 96, 97, 98, 99, 100, 101, 102, 103, 104] (by decide +kernel) (by decide +kernel)) (goodIn_sub (fun _ h => List.mem_cons_of_mem _ (List.mem_append_right _ h)) (by decide +kernel))
set_option maxRecDepth 20000 in
theorem gL_turnLock_X2_turnLock : GoodIn wsL_turnLock (wsV RL 23 RX2 yX2_turnLock wsX2_turnLock) := goodIn_app (goodIn_of _ (by decide +kernel)) ggL_turnLock_X2_turnLock
theorem dL_turnLock_0 : decode cL_turnLock 0 = .ok (.aload_n 2, 1) := by decide +kernel
theorem dL_turnLock_1 : decode cL_turnLock 1 = .ok (.iconst 0, 1) := by decide +kernel
theorem dL_turnLock_2 : decode cL_turnLock 2 = .ok (.aload_n 0, 1) := by decide +kernel
theorem dL_turnLock_3 : decode cL_turnLock 3 = .ok (.iload_n 1, 1) := by decide +kernel
theorem dL_turnLock_4 : decode cL_turnLock 4 = .ok (.invokevirtual 23, 3) := by decide +kernel
theorem dL_turnLock_7 : decode cL_turnLock 7 = .ok (.ifCond .eq 7, 3) := by decide +kernel
theorem dL_turnLock_10 : decode cL_turnLock 10 = .ok (.lconst 1, 1) := by decide +kernel
theorem dL_turnLock_11 : decode cL_turnLock 11 = .ok (.goto 4, 3) := by decide +kernel
theorem dL_turnLock_14 : decode cL_turnLock 14 = .ok (.lconst 0, 1) := by decide +kernel
theorem dL_turnLock_15 : decode cL_turnLock 15 = .ok (.lastore, 1) := by decide +kernel
theorem dL_turnLock_16 : decode cL_turnLock 16 = .ok (.goto 6, 3) := by decide +kernel
theorem dL_turnLock_19 : decode cL_turnLock 19 = .ok (.astore_n 3, 1) := by decide +kernel
theorem dL_turnLock_20 : decode cL_turnLock 20 = .ok (.iconst 1, 1) := by decide +kernel
theorem dL_turnLock_21 : decode cL_turnLock 21 = .ok (.ireturn, 1) := by decide +kernel
theorem dL_turnLock_22 : decode cL_turnLock 22 = .ok (.iconst 0, 1) := by decide +kernel
theorem dL_turnLock_23 : decode cL_turnLock 23 = .ok (.ireturn, 1) := by decide +kernel
set_option maxRecDepth 20000 in
theorem ggL_putCheese_X2_putCheese : GoodIn wsL_putCheese wsX2_putCheese := goodIn_ca (goodIn_ca (goodIn_ca (goodIn_r _ [8, 9, 10, 11, 12, 13, 14, 15, 16, 17, 7, 18, 19, 20, 21, 22, 23, 24, 25, 26, 27, 28, 29, 30, 31, 32, 33, 34, 35, 36, 37, 38, 39] (by decide +kernel) (by decide +kernel)) (goodIn_sub (fun _ h => List.mem_cons_of_mem _ (List.mem_append_left _ (List.mem_append_left _ (List.mem_append_right _ h)))) (by decide +kernel))) (goodIn_sub (fun _ h => List.mem_cons_of_mem _ (List.mem_append_left _ (List.mem_append_right _ h))) (by decide +kernel))) (goodIn_sub (fun _ h => List.mem_cons_of_mem _ (List.mem_append_right _ h)) (by decide +kernel))
set_option maxRecDepth 20000 in
theorem gL_putCheese_X2_putCheese : GoodIn wsL_putCheese (wsV RL 27 RX2 yX2_putCheese wsX2_putCheese) := goodIn_app (goodIn_of _ (by decide +kernel)) ggL_putCheese_X2_putCheese
theorem dL_putCheese_0 : decode cL_putCheese 0 = .ok (.aload_n 3, 1) := by decide +kernel
theorem dL_putCheese_1 : decode cL_putCheese 1 = .ok (.iconst 0, 1) := by decide +kernel
theorem dL_putCheese_2 : decode cL_putCheese 2 = .ok (.aload_n 0, 1) := by decide +kernel
theorem dL_putCheese_3 : decode cL_putCheese 3 = .ok (.iload_n 1, 1) := by decide +kernel
theorem dL_putCheese_4 : decode cL_putCheese 4 = .ok (.iload_n 2, 1) := by decide +kernel
theorem dL_putCheese_5 : decode cL_putCheese 5 = .ok (.invokevirtual 27, 3) := by decide +kernel
theorem dL_putCheese_8 : decode cL_putCheese 8 = .ok (.i2l, 1) := by decide +kernel
theorem dL_putCheese_9 : decode cL_putCheese 9 = .ok (.lastore, 1) := by decide +kernel
theorem dL_putCheese_10 : decode cL_putCheese 10 = .ok (.goto 15, 3) := by decide +kernel
theorem dL_putCheese_13 : decode cL_putCheese 13 = .ok (.astore 4, 2) := by decide +kernel
theorem dL_putCheese_15 : decode cL_putCheese 15 = .ok (.iconst 1, 1) := by decide +kernel
theorem dL_putCheese_16 : decode cL_putCheese 16 = .ok (.ireturn, 1) := by decide +kernel
theorem dL_putCheese_17 : decode cL_putCheese 17 = .ok (.astore 4, 2) := by decide +kernel
theorem dL_putCheese_19 : decode cL_putCheese 19 = .ok (.iconst 2, 1) := by decide +kernel
theorem dL_putCheese_20 : decode cL_putCheese 20 = .ok (.ireturn, 1) := by decide +kernel
theorem dL_putCheese_21 : decode cL_putCheese 21 = .ok (.astore 4, 2) := by decide +kernel
theorem dL_putCheese_23 : decode cL_putCheese 23 = .ok (.iconst 3, 1) := by decide +kernel
theorem dL_putCheese_24 : decode cL_putCheese 24 = .ok (.ireturn, 1) := by decide +kernel
theorem dL_putCheese_25 : decode cL_putCheese 25 = .ok (.iconst 0, 1) := by decide +kernel
theorem dL_putCheese_26 : decode cL_putCheese 26 = .ok (.ireturn, 1) := by decide +kernel
set_option maxRecDepth 20000 in
theorem ggL_begin_X2_begin : GoodIn wsL_begin wsX2_begin := goodIn_ca (goodIn_ca (goodIn_r _ [7, 8, 9, 10, 11, 12, 13, 14, 15, 16, 17, 18, 6, 19, 20, 21, 22, 23, 24, 25, 26, 27, 28, 29, 30, 31, 32, 33, 34, 35, 36, 37, 38, 39, 40, 41, 42, 43, 44, 45, 46, 47, 48, 49, 50, 51, 52, 53, 54, 55, 56, 57, 58, 59, 60, 61, 62, 63, 64, 65, 66, 67, 68, 69, 70, 71, 72, 73, 74, 75, 76] (by decide +kernel) (by decide +kernel)) (goodIn_sub (fun _ h => List.mem_cons_of_mem _ (List.mem_append_left _ (List.mem_append_right _ h))) (by decide +kernel))) (goodIn_sub (fun _ h => List.mem_cons_of_mem _ (List.mem_append_right _ h)) (by decide +kernel))
set_option maxRecDepth 20000 in
theorem gL_begin_X2_begin : GoodIn wsL_begin (wsV RL 31 RX2 yX2_begin wsX2_begin) := goodIn_app (goodIn_of _ (by decide +kernel)) ggL_begin_X2_begin
theorem dL_begin_0 : decode cL_begin 0 = .ok (.aload_n 3, 1) := by decide +kernel
theorem dL_begin_1 : decode cL_begin 1 = .ok (.iconst 0, 1) := by decide +kernel
theorem dL_begin_2 : decode cL_begin 2 = .ok (.aload_n 0, 1) := by decide +kernel
theorem dL_begin_3 : decode cL_begin 3 = .ok (.iload_n 1, 1) := by decide +kernel
theorem dL_begin_4 : decode cL_begin 4 = .ok (.iload_n 2, 1) := by decide +kernel
theorem dL_begin_5 : decode cL_begin 5 = .ok (.invokevirtual 31, 3) := by decide +kernel
theorem dL_begin_8 : decode cL_begin 8 = .ok (.i2l, 1) := by decide +kernel
theorem dL_begin_9 : decode cL_begin 9 = .ok (.lastore, 1) := by decide +kernel
theorem dL_begin_10 : decode cL_begin 10 = .ok (.goto 11, 3) := by decide +kernel
theorem dL_begin_13 : decode cL_begin 13 = .ok (.astore 4, 2) := by decide +kernel
theorem dL_begin_15 : decode cL_begin 15 = .ok (.iconst 1, 1) := by decide +kernel
theorem dL_begin_16 : decode cL_begin 16 = .ok (.ireturn, 1) := by decide +kernel
theorem dL_begin_17 : decode cL_begin 17 = .ok (.astore 4, 2) := by decide +kernel
theorem dL_begin_19 : decode cL_begin 19 = .ok (.iconst 2, 1) := by decide +kernel
theorem dL_begin_20 : decode cL_begin 20 = .ok (.ireturn, 1) := by decide +kernel
theorem dL_begin_21 : decode cL_begin 21 = .ok (.iconst 0, 1) := by decide +kernel
theorem dL_begin_22 : decode cL_begin 22 = .ok (.ireturn, 1) := by decide +kernel
set_option maxRecDepth 20000 in
theorem ggL_go_X2_go : GoodIn wsL_go wsX2_go := goodIn_ca (goodIn_ca (goodIn_r _ [7, 8, 9, 10, 11, 12, 13, 14, 6, 15, 16, 17, 18, 19, 20, 21, 22, 23, 24, 25, 26, 27, 28, 29, 30, 31, 32, 33, 34, 35, 36, 37, 38, 39, 40, 41, 42, 43, 44, 45, 46, 47, 48, 49, 50, 51, 52, 53, 54, 55, 56, 57, 58, 59, 60, 61, 62, 63, 64, 65, 66, 67, 68, 69, 70, 71, 72, 73, 74, 75, 76, 77, 78, 79, 80, 81, 82, 83, 84, 85, 86, 87, 88, 89, 90, 91, 92, 93] (by decide +kernel) (by decide +kernel)) (goodIn_sub (fun _ h => List.mem_cons_of_mem _ (List.mem_append_left _ (List.mem_append_right _ h))) (by decide +kernel))) (goodIn_sub (fun _ h => List.mem_cons_of_mem _ (List.mem_append_right _ h)) (by decide +kernel))
set_option maxRecDepth 20000 in
theorem gL_go_X2_go : GoodIn wsL_go (wsV RL 34 RX2 yX2_go wsX2_go) := goodIn_app (goodIn_of _ (by decide +kernel)) ggL_go_X2_go
theorem dL_go_0 : decode cL_go 0 = .ok (.aload_n 2, 1) := by decide +kernel
theorem dL_go_1 : decode cL_go 1 = .ok (.iconst 0, 1) := by decide +kernel
theorem dL_go_2 : decode cL_go 2 = .ok (.aload_n 0, 1) := by decide +kernel
theorem dL_go_3 : decode cL_go 3 = .ok (.iload_n 1, 1) := by decide +kernel
theorem dL_go_4 : decode cL_go 4 = .ok (.invokevirtual 34, 3) := by decide +kernel
theorem dL_go_7 : decode cL_go 7 = .ok (.ifCond .eq 7, 3) := by decide +kernel
theorem dL_go_10 : decode cL_go 10 = .ok (.lconst 1, 1) := by decide +kernel
theorem dL_go_11 : decode cL_go 11 = .ok (.goto 4, 3) := by decide +kernel
theorem dL_go_14 : decode cL_go 14 = .ok (.lconst 0, 1) := by decide +kernel
theorem dL_go_15 : decode cL_go 15 = .ok (.lastore, 1) := by decide +kernel
theorem dL_go_16 : decode cL_go 16 = .ok (.goto 9, 3) := by decide +kernel
theorem dL_go_19 : decode cL_go 19 = .ok (.astore_n 3, 1) := by decide +kernel
theorem dL_go_20 : decode cL_go 20 = .ok (.iconst 1, 1) := by decide +kernel
theorem dL_go_21 : decode cL_go 21 = .ok (.ireturn, 1) := by decide +kernel
theorem dL_go_22 : decode cL_go 22 = .ok (.astore_n 3, 1) := by decide +kernel
theorem dL_go_23 : decode cL_go 23 = .ok (.iconst 2, 1) := by decide +kernel
theorem dL_go_24 : decode cL_go 24 = .ok (.ireturn, 1) := by decide +kernel
theorem dL_go_25 : decode cL_go 25 = .ok (.iconst 0, 1) := by decide +kernel
theorem dL_go_26 : decode cL_go 26 = .ok (.ireturn, 1) := by decide +kernel
set_option maxRecDepth 20000 in
theorem ggL_play_X2_play : GoodIn wsL_play wsX2_play := goodIn_ca (goodIn_ca (goodIn_r _ [7, 8, 9, 10, 11, 12, 13, 6, 14, 15, 16, 17, 18, 19, 20, 21, 22, 23, 24, 25, 26, 27, 28, 29, 30, 31, 32, 33, 34, 35, 36, 37, 38, 39, 40, 41, 42, 43, 44, 45, 46, 47, 48, 49, 50, 51, 52, 53, 54, 55, 56, 57, 58, 59, 60, 61, 62, 63, 64, 65, 66, 67, 68, 69, 70, 71, 72, 73, 74, 75, 76, 77, 78, 79, 80, 81, 82, 83, 84, 85, 86, 87, 88, 89, 90, 91, 92, 93, 94, 95, 96, 97, 98, 99, 100, 101, 102, 103, 104, 105, 106, 107, 108, 109, 110, 111, 112, 113, 114, 115, 116, 117, 118, 119, 120, 121] (by decide +kernel) (by decide +kernel)) (goodIn_sub (fun _ h => List.mem_cons_of_mem _ (List.mem_append_left _ (List.mem_append_right _ h))) (by decide +kernel))) (goodIn_sub (fun _ h => List.mem_cons_of_mem _ (List.mem_append_right _ h)) (by decide +kernel))
set_option maxRecDepth 20000 in
theorem gL_play_X2_play : GoodIn wsL_play (wsV RL 37 RX2 yX2_play wsX2_play) := goodIn_app (goodIn_of _ (by decide +kernel)) ggL_play_X2_play
theorem dL_play_0 : decode cL_play 0 = .ok (.aload_n 2, 1) := by decide +kernel
theorem dL_play_1 : decode cL_play 1 = .ok (.iconst 0, 1) := by decide +kernel
theorem dL_play_2 : decode cL_play 2 = .ok (.aload_n 0, 1) := by decide +kernel
theorem dL_play_3 : decode cL_play 3 = .ok (.iload_n 1, 1) := by decide +kernel
theorem dL_play_4 : decode cL_play 4 = .ok (.invokevirtual 37, 3) := by decide +kernel
theorem dL_play_7 : decode cL_play 7 = .ok (.i2l, 1) := by decide +kernel
theorem dL_play_8 : decode cL_play 8 = .ok (.lastore, 1) := by decide +kernel
theorem dL_play_9 : decode cL_play 9 = .ok (.goto 9, 3) := by decide +kernel
theorem dL_play_12 : decode cL_play 12 = .ok (.astore_n 3, 1) := by decide +kernel
theorem dL_play_13 : decode cL_play 13 = .ok (.iconst 1, 1) := by decide +kernel
theorem dL_play_14 : decode cL_play 14 = .ok (.ireturn, 1) := by decide +kernel
theorem dL_play_15 : decode cL_play 15 = .ok (.astore_n 3, 1) := by decide +kernel
theorem dL_play_16 : decode cL_play 16 = .ok (.iconst 2, 1) := by decide +kernel
theorem dL_play_17 : decode cL_play 17 = .ok (.ireturn, 1) := by decide +kernel
theorem dL_play_18 : decode cL_play 18 = .ok (.iconst 0, 1) := by decide +kernel
theorem dL_play_19 : decode cL_play 19 = .ok (.ireturn, 1) := by decide +kernel
set_option maxRecDepth 20000 in
theorem ggL_isSafe_X2_isSafe : GoodIn wsL_isSafe wsX2_isSafe := goodIn_ca (goodIn_r _ [6, 7, 8, 9, 10, 11, 5, 12, 13, 14, 15, 16, 17, 18, 19, 20, 21, 22, 23, 24, 25, 26, 27, 28, 29, 30, 31, 32, 33] (by decide +kernel) (by decide +kernel)) (goodIn_sub (fun _ h => List.mem_cons_of_mem _ (List.mem_append_right _ h)) (by decide +kernel))
set_option maxRecDepth 20000 in
theorem gL_isSafe_X2_isSafe : GoodIn wsL_isSafe (wsV RL 41 RX2 yX2_isSafe wsX2_isSafe) := goodIn_app (goodIn_of _ (by decide +kernel)) ggL_isSafe_X2_isSafe
theorem dL_isSafe_0 : decode cL_isSafe 0 = .ok (.aload_n 2, 1) := by decide +kernel
theorem dL_isSafe_1 : decode cL_isSafe 1 = .ok (.iconst 0, 1) := by decide +kernel
theorem dL_isSafe_2 : decode cL_isSafe 2 = .ok (.aload_n 0, 1) := by decide +kernel
theorem dL_isSafe_3 : decode cL_isSafe 3 = .ok (.iload_n 1, 1) := by decide +kernel
theorem dL_isSafe_4 : decode cL_isSafe 4 = .ok (.invokevirtual 41, 3) := by decide +kernel
theorem dL_isSafe_7 : decode cL_isSafe 7 = .ok (.ifCond .eq 7, 3) := by decide +kernel
theorem dL_isSafe_10 : decode cL_isSafe 10 = .ok (.lconst 1, 1) := by decide +kernel
theorem dL_isSafe_11 : decode cL_isSafe 11 = .ok (.goto 4, 3) := by decide +kernel
theorem dL_isSafe_14 : decode cL_isSafe 14 = .ok (.lconst 0, 1) := by decide +kernel
theorem dL_isSafe_15 : decode cL_isSafe 15 = .ok (.lastore, 1) := by decide +kernel
theorem dL_isSafe_16 : decode cL_isSafe 16 = .ok (.goto 6, 3) := by decide +kernel
theorem dL_isSafe_19 : decode cL_isSafe 19 = .ok (.astore_n 3, 1) := by decide +kernel
theorem dL_isSafe_20 : decode cL_isSafe 20 = .ok (.iconst 1, 1) := by decide +kernel
theorem dL_isSafe_21 : decode cL_isSafe 21 = .ok (.ireturn, 1) := by decide +kernel
theorem dL_isSafe_22 : decode cL_isSafe 22 = .ok (.iconst 0, 1) := by decide +kernel
theorem dL_isSafe_23 : decode cL_isSafe 23 = .ok (.ireturn, 1) := by decide +kernel
set_option maxRecDepth 20000 in
theorem ggL_cheeseIn_X2_cheeseIn : GoodIn wsL_cheeseIn wsX2_cheeseIn := goodIn_ca (goodIn_r _ [6, 7, 8, 9, 10, 11, 5, 12, 13, 14, 15, 16, 17, 18, 19, 20, 21, 22, 23, 24, 25, 26, 27, 28, 29, 30, 31, 32, 33] (by decide +kernel) (by decide +kernel)) (goodIn_sub (fun _ h => List.mem_cons_of_mem _ (List.mem_append_right _ h)) (by decide +kernel))
set_option maxRecDepth 20000 in
theorem gL_cheeseIn_X2_cheeseIn : GoodIn wsL_cheeseIn (wsV RL 44 RX2 yX2_cheeseIn wsX2_cheeseIn) := goodIn_app (goodIn_of _ (by decide +kernel)) ggL_cheeseIn_X2_cheeseIn
theorem dL_cheeseIn_0 : decode cL_cheeseIn 0 = .ok (.aload_n 2, 1) := by decide +kernel
theorem dL_cheeseIn_1 : decode cL_cheeseIn 1 = .ok (.iconst 0, 1) := by decide +kernel
theorem dL_cheeseIn_2 : decode cL_cheeseIn 2 = .ok (.aload_n 0, 1) := by decide +kernel
theorem dL_cheeseIn_3 : decode cL_cheeseIn 3 = .ok (.iload_n 1, 1) := by decide +kernel
theorem dL_cheeseIn_4 : decode cL_cheeseIn 4 = .ok (.invokevirtual 44, 3) := by decide +kernel
theorem dL_cheeseIn_7 : decode cL_cheeseIn 7 = .ok (.i2l, 1) := by decide +kernel
theorem dL_cheeseIn_8 : decode cL_cheeseIn 8 = .ok (.lastore, 1) := by decide +kernel
theorem dL_cheeseIn_9 : decode cL_cheeseIn 9 = .ok (.goto 6, 3) := by decide +kernel
theorem dL_cheeseIn_12 : decode cL_cheeseIn 12 = .ok (.astore_n 3, 1) := by decide +kernel
theorem dL_cheeseIn_13 : decode cL_cheeseIn 13 = .ok (.iconst 1, 1) := by decide +kernel
theorem dL_cheeseIn_14 : decode cL_cheeseIn 14 = .ok (.ireturn, 1) := by decide +kernel
theorem dL_cheeseIn_15 : decode cL_cheeseIn 15 = .ok (.iconst 0, 1) := by decide +kernel
theorem dL_cheeseIn_16 : decode cL_cheeseIn 16 = .ok (.ireturn, 1) := by decide +kernel
set_option maxRecDepth 20000 in
theorem ggL_doorsOf_X2_doorsOf : GoodIn wsL_doorsOf wsX2_doorsOf := goodIn_ca (goodIn_r _ [6, 7, 8, 9, 10, 5, 11, 12, 13, 14, 15, 16, 17, 18, 19, 20, 21, 22, 23, 24, 25, 26, 27, 28, 29, 30, 31, 32, 33, 34, 35, 36, 37, 38, 39, 40, 41] (by decide +kernel) (by decide +kernel)) (goodIn_sub (fun _ h => List.mem_cons_of_mem _ (List.mem_append_right _ h)) (by decide +kernel))
set_option maxRecDepth 20000 in
theorem gL_doorsOf_X2_doorsOf : GoodIn wsL_doorsOf (wsV RL 47 RX2 yX2_doorsOf wsX2_doorsOf) := goodIn_app (goodIn_of _ (by decide +kernel)) ggL_doorsOf_X2_doorsOf
theorem dL_doorsOf_0 : decode cL_doorsOf 0 = .ok (.aload_n 2, 1) := by decide +kernel
theorem dL_doorsOf_1 : decode cL_doorsOf 1 = .ok (.iconst 0, 1) := by decide +kernel
theorem dL_doorsOf_2 : decode cL_doorsOf 2 = .ok (.aload_n 0, 1) := by decide +kernel
theorem dL_doorsOf_3 : decode cL_doorsOf 3 = .ok (.iload_n 1, 1) := by decide +kernel
theorem dL_doorsOf_4 : decode cL_doorsOf 4 = .ok (.invokevirtual 47, 3) := by decide +kernel
theorem dL_doorsOf_7 : decode cL_doorsOf 7 = .ok (.i2l, 1) := by decide +kernel
theorem dL_doorsOf_8 : decode cL_doorsOf 8 = .ok (.lastore, 1) := by decide +kernel
theorem dL_doorsOf_9 : decode cL_doorsOf 9 = .ok (.goto 6, 3) := by decide +kernel
theorem dL_doorsOf_12 : decode cL_doorsOf 12 = .ok (.astore_n 3, 1) := by decide +kernel
theorem dL_doorsOf_13 : decode cL_doorsOf 13 = .ok (.iconst 1, 1) := by decide +kernel
theorem dL_doorsOf_14 : decode cL_doorsOf 14 = .ok (.ireturn, 1) := by decide +kernel
theorem dL_doorsOf_15 : decode cL_doorsOf 15 = .ok (.iconst 0, 1) := by decide +kernel
theorem dL_doorsOf_16 : decode cL_doorsOf 16 = .ok (.ireturn, 1) := by decide +kernel
set_option maxRecDepth 20000 in
theorem ggL_isLocked_X2_isLocked : GoodIn wsL_isLocked wsX2_isLocked := goodIn_ca (goodIn_r _ [6, 7, 8, 9, 10, 11, 5, 12, 13, 14, 15, 16, 17, 18, 19, 20, 21, 22, 23, 24, 25, 26, 27, 28, 29, 30, 31, 32, 33] (by decide +kernel) (by decide +kernel)) (goodIn_sub (fun _ h => List.mem_cons_of_mem _ (List.mem_append_right _ h)) (by decide +kernel))
set_option maxRecDepth 20000 in
theorem gL_isLocked_X2_isLocked : GoodIn wsL_isLocked (wsV RL 50 RX2 yX2_isLocked wsX2_isLocked) := goodIn_app (goodIn_of _ (by decide +kernel)) ggL_isLocked_X2_isLocked
theorem dL_isLocked_0 : decode cL_isLocked 0 = .ok (.aload_n 2, 1) := by decide +kernel
theorem dL_isLocked_1 : decode cL_isLocked 1 = .ok (.iconst 0, 1) := by decide +kernel
theorem dL_isLocked_2 : decode cL_isLocked 2 = .ok (.aload_n 0, 1) := by decide +kernel
theorem dL_isLocked_3 : decode cL_isLocked 3 = .ok (.iload_n 1, 1) := by decide +kernel
theorem dL_isLocked_4 : decode cL_isLocked 4 = .ok (.invokevirtual 50, 3) := by decide +kernel
theorem dL_isLocked_7 : decode cL_isLocked 7 = .ok (.ifCond .eq 7, 3) := by decide +kernel
theorem dL_isLocked_10 : decode cL_isLocked 10 = .ok (.lconst 1, 1) := by decide +kernel
theorem dL_isLocked_11 : decode cL_isLocked 11 = .ok (.goto 4, 3) := by decide +kernel
theorem dL_isLocked_14 : decode cL_isLocked 14 = .ok (.lconst 0, 1) := by decide +kernel
theorem dL_isLocked_15 : decode cL_isLocked 15 = .ok (.lastore, 1) := by decide +kernel
theorem dL_isLocked_16 : decode cL_isLocked 16 = .ok (.goto 6, 3) := by decide +kernel
theorem dL_isLocked_19 : decode cL_isLocked 19 = .ok (.astore_n 3, 1) := by decide +kernel
theorem dL_isLocked_20 : decode cL_isLocked 20 = .ok (.iconst 1, 1) := by decide +kernel
theorem dL_isLocked_21 : decode cL_isLocked 21 = .ok (.ireturn, 1) := by decide +kernel
theorem dL_isLocked_22 : decode cL_isLocked 22 = .ok (.iconst 0, 1) := by decide +kernel
theorem dL_isLocked_23 : decode cL_isLocked 23 = .ok (.ireturn, 1) := by decide +kernel
set_option maxRecDepth 20000 in
theorem ggL_isOpen_X2_isOpen : GoodIn wsL_isOpen wsX2_isOpen := goodIn_ca (goodIn_r _ [6, 7, 8, 9, 10, 5, 11, 12, 13, 14, 15, 16, 17, 18, 19, 20, 21, 22, 23, 24, 25, 26, 27, 28, 29, 30, 31, 32, 33, 34, 35, 36, 37, 38, 39, 40, 41, 42, 43, 44, 45, 46, 47, 48, 49] (by decide +kernel) (by decide +kernel)) (goodIn_sub (fun _ h => List.mem_cons_of_mem _ (List.mem_append_right _ h)) (by decide +kernel))
set_option maxRecDepth 20000 in
theorem gL_isOpen_X2_isOpen : GoodIn wsL_isOpen (wsV RL 53 RX2 yX2_isOpen wsX2_isOpen) := goodIn_app (goodIn_of _ (by decide +kernel)) ggL_isOpen_X2_isOpen
theorem dL_isOpen_0 : decode cL_isOpen 0 = .ok (.aload_n 2, 1) := by decide +kernel
theorem dL_isOpen_1 : decode cL_isOpen 1 = .ok (.iconst 0, 1) := by decide +kernel
theorem dL_isOpen_2 : decode cL_isOpen 2 = .ok (.aload_n 0, 1) := by decide +kernel
theorem dL_isOpen_3 : decode cL_isOpen 3 = .ok (.iload_n 1, 1) := by decide +kernel
theorem dL_isOpen_4 : decode cL_isOpen 4 = .ok (.invokevirtual 53, 3) := by decide +kernel
theorem dL_isOpen_7 : decode cL_isOpen 7 = .ok (.ifCond .eq 7, 3) := by decide +kernel
theorem dL_isOpen_10 : decode cL_isOpen 10 = .ok (.lconst 1, 1) := by decide +kernel
theorem dL_isOpen_11 : decode cL_isOpen 11 = .ok (.goto 4, 3) := by decide +kernel
theorem dL_isOpen_14 : decode cL_isOpen 14 = .ok (.lconst 0, 1) := by decide +kernel
theorem dL_isOpen_15 : decode cL_isOpen 15 = .ok (.lastore, 1) := by decide +kernel
theorem dL_isOpen_16 : decode cL_isOpen 16 = .ok (.goto 6, 3) := by decide +kernel
theorem dL_isOpen_19 : decode cL_isOpen 19 = .ok (.astore_n 3, 1) := by decide +kernel
theorem dL_isOpen_20 : decode cL_isOpen 20 = .ok (.iconst 1, 1) := by decide +kernel
theorem dL_isOpen_21 : decode cL_isOpen 21 = .ok (.ireturn, 1) := by decide +kernel
theorem dL_isOpen_22 : decode cL_isOpen 22 = .ok (.iconst 0, 1) := by decide +kernel
theorem dL_isOpen_23 : decode cL_isOpen 23 = .ok (.ireturn, 1) := by decide +kernel
set_option maxRecDepth 20000 in
theorem ggL_turnsUntilOpen_X2_turnsUntilOpen : GoodIn wsL_turnsUntilOpen wsX2_turnsUntilOpen := goodIn_ca (goodIn_r _ [6, 7, 8, 9, 10, 5, 11, 12, 13, 14, 15, 16, 17, 18, 19, 20, 21, 22, 23, 24, 25, 26, 27, 28, 29, 30, 31, 32, 33, 34, 35, 36, 37, 38, 39, 40, 41, 42, 43, 44, 45, 46, 47, 48, 49] (by decide +kernel) (by decide +kernel)) (goodIn_sub (fun _ h => List.mem_cons_of_mem _ (List.mem_append_right _ h)) (by decide +kernel))
set_option maxRecDepth 20000 in
theorem gL_turnsUntilOpen_X2_turnsUntilOpen : GoodIn wsL_turnsUntilOpen (wsV RL 56 RX2 yX2_turnsUntilOpen wsX2_turnsUntilOpen) := goodIn_app (goodIn_of _ (by decide +kernel)) ggL_turnsUntilOpen_X2_turnsUntilOpen
theorem dL_turnsUntilOpen_0 : decode cL_turnsUntilOpen 0 = .ok (.aload_n 2, 1) := by decide +kernel
theorem dL_turnsUntilOpen_1 : decode cL_turnsUntilOpen 1 = .ok (.iconst 0, 1) := by decide +kernel
theorem dL_turnsUntilOpen_2 : decode cL_turnsUntilOpen 2 = .ok (.aload_n 0, 1) := by decide +kernel
theorem dL_turnsUntilOpen_3 : decode cL_turnsUntilOpen 3 = .ok (.iload_n 1, 1) := by decide +kernel
theorem dL_turnsUntilOpen_4 : decode cL_turnsUntilOpen 4 = .ok (.invokevirtual 56, 3) := by decide +kernel
theorem dL_turnsUntilOpen_7 : decode cL_turnsUntilOpen 7 = .ok (.i2l, 1) := by decide +kernel
theorem dL_turnsUntilOpen_8 : decode cL_turnsUntilOpen 8 = .ok (.lastore, 1) := by decide +kernel
theorem dL_turnsUntilOpen_9 : decode cL_turnsUntilOpen 9 = .ok (.goto 6, 3) := by decide +kernel
theorem dL_turnsUntilOpen_12 : decode cL_turnsUntilOpen 12 = .ok (.astore_n 3, 1) := by decide +kernel
theorem dL_turnsUntilOpen_13 : decode cL_turnsUntilOpen 13 = .ok (.iconst 1, 1) := by decide +kernel
theorem dL_turnsUntilOpen_14 : decode cL_turnsUntilOpen 14 = .ok (.ireturn, 1) := by decide +kernel
theorem dL_turnsUntilOpen_15 : decode cL_turnsUntilOpen 15 = .ok (.iconst 0, 1) := by decide +kernel
theorem dL_turnsUntilOpen_16 : decode cL_turnsUntilOpen 16 = .ok (.ireturn, 1) := by decide +kernel
set_option maxRecDepth 20000 in
theorem ggL_doorBetween_X2_doorBetween : GoodIn wsL_doorBetween wsX2_doorBetween := goodIn_ca (goodIn_r _ [6, 7, 8, 9, 10, 5, 11, 12, 13, 14, 15, 16, 17, 18, 19, 20, 21, 22, 23, 24, 25, 26, 27, 28, 29, 30, 31, 32, 33, 34, 35, 36, 37, 38, 39, 40] (by decide +kernel) (by decide +kernel)) (goodIn_sub (fun _ h => List.mem_cons_of_mem _ (List.mem_append_right _ h)) (by decide +kernel))
set_option maxRecDepth 20000 in
theorem gL_doorBetween_X2_doorBetween : GoodIn wsL_doorBetween (wsV RL 59 RX2 yX2_doorBetween wsX2_doorBetween) := goodIn_app (goodIn_of _ (by decide +kernel)) ggL_doorBetween_X2_doorBetween
theorem dL_doorBetween_0 : decode cL_doorBetween 0 = .ok (.aload_n 3, 1) := by decide +kernel
theorem dL_doorBetween_1 : decode cL_doorBetween 1 = .ok (.iconst 0, 1) := by decide +kernel
theorem dL_doorBetween_2 : decode cL_doorBetween 2 = .ok (.aload_n 0, 1) := by decide +kernel
theorem dL_doorBetween_3 : decode cL_doorBetween 3 = .ok (.iload_n 1, 1) := by decide +kernel
theorem dL_doorBetween_4 : decode cL_doorBetween 4 = .ok (.iload_n 2, 1) := by decide +kernel
theorem dL_doorBetween_5 : decode cL_doorBetween 5 = .ok (.invokevirtual 59, 3) := by decide +kernel
theorem dL_doorBetween_8 : decode cL_doorBetween 8 = .ok (.i2l, 1) := by decide +kernel
theorem dL_doorBetween_9 : decode cL_doorBetween 9 = .ok (.lastore, 1) := by decide +kernel
theorem dL_doorBetween_10 : decode cL_doorBetween 10 = .ok (.goto 7, 3) := by decide +kernel
theorem dL_doorBetween_13 : decode cL_doorBetween 13 = .ok (.astore 4, 2) := by decide +kernel
theorem dL_doorBetween_15 : decode cL_doorBetween 15 = .ok (.iconst 1, 1) := by decide +kernel
theorem dL_doorBetween_16 : decode cL_doorBetween 16 = .ok (.ireturn, 1) := by decide +kernel
theorem dL_doorBetween_17 : decode cL_doorBetween 17 = .ok (.iconst 0, 1) := by decide +kernel
theorem dL_doorBetween_18 : decode cL_doorBetween 18 = .ok (.ireturn, 1) := by decide +kernel
set_option maxRecDepth 20000 in
theorem ggL_isWayOpen_X2_isWayOpen : GoodIn wsL_isWayOpen wsX2_isWayOpen := goodIn_ca (goodIn_r _ [6, 7, 8, 9, 10, 5, 11, 12, 13, 14, 15, 16, 17, 18, 19, 20, 21, 22, 23, 24, 25, 26, 27, 28, 29, 30, 31, 32, 33, 34, 35, 36, 37, 38, 39, 40, 41, 42, 43, 44, 45, 46, 47, 48, 49, 50, 51, 52, 53, 54, 55, 56] (by decide +kernel) (by decide +kernel)) (goodIn_sub (fun _ h => List.mem_cons_of_mem _ (List.mem_append_right _ h)) (by decide +kernel))
set_option maxRecDepth 20000 in
theorem gL_isWayOpen_X2_isWayOpen : GoodIn wsL_isWayOpen (wsV RL 62 RX2 yX2_isWayOpen wsX2_isWayOpen) := goodIn_app (goodIn_of _ (by decide +kernel)) ggL_isWayOpen_X2_isWayOpen
theorem dL_isWayOpen_0 : decode cL_isWayOpen 0 = .ok (.aload_n 3, 1) := by decide +kernel
theorem dL_isWayOpen_1 : decode cL_isWayOpen 1 = .ok (.iconst 0, 1) := by decide +kernel
theorem dL_isWayOpen_2 : decode cL_isWayOpen 2 = .ok (.aload_n 0, 1) := by decide +kernel
theorem dL_isWayOpen_3 : decode cL_isWayOpen 3 = .ok (.iload_n 1, 1) := by decide +kernel
theorem dL_isWayOpen_4 : decode cL_isWayOpen 4 = .ok (.iload_n 2, 1) := by decide +kernel
theorem dL_isWayOpen_5 : decode cL_isWayOpen 5 = .ok (.invokevirtual 62, 3) := by decide +kernel
theorem dL_isWayOpen_8 : decode cL_isWayOpen 8 = .ok (.ifCond .eq 7, 3) := by decide +kernel
theorem dL_isWayOpen_11 : decode cL_isWayOpen 11 = .ok (.lconst 1, 1) := by decide +kernel
theorem dL_isWayOpen_12 : decode cL_isWayOpen 12 = .ok (.goto 4, 3) := by decide +kernel
theorem dL_isWayOpen_15 : decode cL_isWayOpen 15 = .ok (.lconst 0, 1) := by decide +kernel
theorem dL_isWayOpen_16 : decode cL_isWayOpen 16 = .ok (.lastore, 1) := by decide +kernel
theorem dL_isWayOpen_17 : decode cL_isWayOpen 17 = .ok (.goto 7, 3) := by decide +kernel
theorem dL_isWayOpen_20 : decode cL_isWayOpen 20 = .ok (.astore 4, 2) := by decide +kernel
theorem dL_isWayOpen_22 : decode cL_isWayOpen 22 = .ok (.iconst 1, 1) := by decide +kernel
theorem dL_isWayOpen_23 : decode cL_isWayOpen 23 = .ok (.ireturn, 1) := by decide +kernel
theorem dL_isWayOpen_24 : decode cL_isWayOpen 24 = .ok (.iconst 0, 1) := by decide +kernel
theorem dL_isWayOpen_25 : decode cL_isWayOpen 25 = .ok (.ireturn, 1) := by decide +kernel
set_option maxRecDepth 20000 in
theorem ggL_distance_X2_distance : GoodIn wsL_distance wsX2_distance := goodIn_ca (goodIn_r _ [6, 7, 8, 9, 10, 5, 11, 12, 13, 14, 15, 16, 17, 18, 19, 20, 21, 22, 23, 24, 25, 26, 27, 28, 29, 30, 31, 32, 33, 34, 35, 36, 37, 38, 39, 40, 41, 42, 43, 44, 45, 46, 47, 48, 49] (by decide +kernel) (by decide +kernel)) (goodIn_sub (fun _ h => List.mem_cons_of_mem _ (List.mem_append_right _ h)) (by decide +kernel))
set_option maxRecDepth 20000 in
theorem gL_distance_X2_distance : GoodIn wsL_distance (wsV RL 66 RX2 yX2_distance wsX2_distance) := goodIn_app (goodIn_of _ (by decide +kernel)) ggL_distance_X2_distance
theorem dL_distance_0 : decode cL_distance 0 = .ok (.aload_n 3, 1) := by decide +kernel
theorem dL_distance_1 : decode cL_distance 1 = .ok (.iconst 0, 1) := by decide +kernel
theorem dL_distance_2 : decode cL_distance 2 = .ok (.aload_n 0, 1) := by decide +kernel
theorem dL_distance_3 : decode cL_distance 3 = .ok (.iload_n 1, 1) := by decide +kernel
theorem dL_distance_4 : decode cL_distance 4 = .ok (.iload_n 2, 1) := by decide +kernel
theorem dL_distance_5 : decode cL_distance 5 = .ok (.invokevirtual 66, 3) := by decide +kernel
theorem dL_distance_8 : decode cL_distance 8 = .ok (.i2l, 1) := by decide +kernel
theorem dL_distance_9 : decode cL_distance 9 = .ok (.lastore, 1) := by decide +kernel
theorem dL_distance_10 : decode cL_distance 10 = .ok (.goto 7, 3) := by decide +kernel
theorem dL_distance_13 : decode cL_distance 13 = .ok (.astore 4, 2) := by decide +kernel
theorem dL_distance_15 : decode cL_distance 15 = .ok (.iconst 1, 1) := by decide +kernel
theorem dL_distance_16 : decode cL_distance 16 = .ok (.ireturn, 1) := by decide +kernel
theorem dL_distance_17 : decode cL_distance 17 = .ok (.iconst 0, 1) := by decide +kernel
theorem dL_distance_18 : decode cL_distance 18 = .ok (.ireturn, 1) := by decide +kernel
set_option maxRecDepth 20000 in
theorem ggL_catArrives_X2_catArrives : GoodIn wsL_catArrives wsX2_catArrives := goodIn_ca (goodIn_ca (goodIn_r _ [7, 8, 9, 10, 11, 6, 12, 13, 14, 15, 16, 17, 18, 19, 20, 21, 22, 23, 24, 25, 26, 27, 28, 29, 30, 31, 32, 33, 34, 35, 36, 37, 38, 39, 40, 41, 42, 43, 44, 45, 46, 47, 48, 49, 50, 51, 52, 53, 54, 55, 56, 57, 58, 59, 60, 61, 62, 63, 64, 65, 66, 67, 68, 69, 70, 71, 72, 73, 74, 75, 76, 77] (by decide +kernel) (by decide +kernel)) (goodIn_sub (fun _ h => List.mem_cons_of_mem _ (List.mem_append_left _ (List.mem_append_right _ h))) (by decide +kernel))) (goodIn_sub (fun _ h => List.mem_cons_of_mem _ (List.mem_append_right _ h)) (by decide +kernel))
set_option maxRecDepth 20000 in
theorem gL_catArrives_X2_catArrives : GoodIn wsL_catArrives (wsV RL 69 RX2 yX2_catArrives wsX2_catArrives) := goodIn_app (goodIn_of _ (by decide +kernel)) ggL_catArrives_X2_catArrives
theorem dL_catArrives_0 : decode cL_catArrives 0 = .ok (.aload_n 2, 1) := by decide +kernel
theorem dL_catArrives_1 : decode cL_catArrives 1 = .ok (.iconst 0, 1) := by decide +kernel
theorem dL_catArrives_2 : decode cL_catArrives 2 = .ok (.aload_n 0, 1) := by decide +kernel
theorem dL_catArrives_3 : decode cL_catArrives 3 = .ok (.iload_n 1, 1) := by decide +kernel
theorem dL_catArrives_4 : decode cL_catArrives 4 = .ok (.invokevirtual 69, 3) := by decide +kernel
theorem dL_catArrives_7 : decode cL_catArrives 7 = .ok (.i2l, 1) := by decide +kernel
theorem dL_catArrives_8 : decode cL_catArrives 8 = .ok (.lastore, 1) := by decide +kernel
theorem dL_catArrives_9 : decode cL_catArrives 9 = .ok (.goto 9, 3) := by decide +kernel
theorem dL_catArrives_12 : decode cL_catArrives 12 = .ok (.astore_n 3, 1) := by decide +kernel
theorem dL_catArrives_13 : decode cL_catArrives 13 = .ok (.iconst 1, 1) := by decide +kernel
theorem dL_catArrives_14 : decode cL_catArrives 14 = .ok (.ireturn, 1) := by decide +kernel
theorem dL_catArrives_15 : decode cL_catArrives 15 = .ok (.astore_n 3, 1) := by decide +kernel
theorem dL_catArrives_16 : decode cL_catArrives 16 = .ok (.iconst 2, 1) := by decide +kernel
theorem dL_catArrives_17 : decode cL_catArrives 17 = .ok (.ireturn, 1) := by decide +kernel
theorem dL_catArrives_18 : decode cL_catArrives 18 = .ok (.iconst 0, 1) := by decide +kernel
theorem dL_catArrives_19 : decode cL_catArrives 19 = .ok (.ireturn, 1) := by decide +kernel
set_option maxRecDepth 20000 in
theorem ggL_mouseArrives_X2_mouseArrives : GoodIn wsL_mouseArrives wsX2_mouseArrives := goodIn_ca (goodIn_ca (goodIn_r _ [7, 8, 9, 10, 11, 6, 12, 13, 14, 15, 16, 17, 18, 19, 20, 21, 22, 23, 24, 25, 26, 27, 28, 29, 30, 31, 32, 33, 34, 35, 36, 37, 38, 39, 40, 41, 42, 43, 44, 45, 46, 47, 48, 49, 50, 51, 52, 53, 54, 55, 56, 57, 58, 59, 60, 61, 62, 63, 64, 65, 66, 67, 68, 69, 70, 71, 72, 73, 74, 75, 76, 77] (by decide +kernel) (by decide +kernel)) (goodIn_sub (fun _ h => List.mem_cons_of_mem _ (List.mem_append_left _ (List.mem_append_right _ h))) (by decide +kernel))) (goodIn_sub (fun _ h => List.mem_cons_of_mem _ (List.mem_append_right _ h)) (by decide +kernel))
set_option maxRecDepth 20000 in
theorem gL_mouseArrives_X2_mouseArrives : GoodIn wsL_mouseArrives (wsV RL 72 RX2 yX2_mouseArrives wsX2_mouseArrives) := goodIn_app (goodIn_of _ (by decide +kernel)) ggL_mouseArrives_X2_mouseArrives
theorem dL_mouseArrives_0 : decode cL_mouseArrives 0 = .ok (.aload_n 2, 1) := by decide +kernel
theorem dL_mouseArrives_1 : decode cL_mouseArrives 1 = .ok (.iconst 0, 1) := by decide +kernel
theorem dL_mouseArrives_2 : decode cL_mouseArrives 2 = .ok (.aload_n 0, 1) := by decide +kernel
theorem dL_mouseArrives_3 : decode cL_mouseArrives 3 = .ok (.iload_n 1, 1) := by decide +kernel
theorem dL_mouseArrives_4 : decode cL_mouseArrives 4 = .ok (.invokevirtual 72, 3) := by decide +kernel
theorem dL_mouseArrives_7 : decode cL_mouseArrives 7 = .ok (.i2l, 1) := by decide +kernel
theorem dL_mouseArrives_8 : decode cL_mouseArrives 8 = .ok (.lastore, 1) := by decide +kernel
theorem dL_mouseArrives_9 : decode cL_mouseArrives 9 = .ok (.goto 9, 3) := by decide +kernel
theorem dL_mouseArrives_12 : decode cL_mouseArrives 12 = .ok (.astore_n 3, 1) := by decide +kernel
theorem dL_mouseArrives_13 : decode cL_mouseArrives 13 = .ok (.iconst 1, 1) := by decide +kernel
theorem dL_mouseArrives_14 : decode cL_mouseArrives 14 = .ok (.ireturn, 1) := by decide +kernel
theorem dL_mouseArrives_15 : decode cL_mouseArrives 15 = .ok (.astore_n 3, 1) := by decide +kernel
theorem dL_mouseArrives_16 : decode cL_mouseArrives 16 = .ok (.iconst 2, 1) := by decide +kernel
theorem dL_mouseArrives_17 : decode cL_mouseArrives 17 = .ok (.ireturn, 1) := by decide +kernel
theorem dL_mouseArrives_18 : decode cL_mouseArrives 18 = .ok (.iconst 0, 1) := by decide +kernel
theorem dL_mouseArrives_19 : decode cL_mouseArrives 19 = .ok (.ireturn, 1) := by decide +kernel
set_option maxRecDepth 20000 in
theorem ggL_turnsFrom_X2_turnsFrom : GoodIn wsL_turnsFrom wsX2_turnsFrom := goodIn_ca (goodIn_ca (goodIn_r _ [7, 8, 9, 10, 6, 11, 12, 13, 14, 15, 16, 17, 18, 19, 20, 21, 22, 23, 24, 25, 26, 27, 28, 29, 30, 31, 32, 33, 34, 35, 36, 37, 38, 39, 40, 41, 42, 43, 44, 45, 46, 47, 48, 49, 50, 51, 52, 53, 54, 55, 56, 57, 58, 59, 60, 61, 62, 63, 64, 65, 66, 67] (by decide +kernel) (by decide +kernel)) (goodIn_sub (fun _ h => List.mem_cons_of_mem _ (List.mem_append_left _ (List.mem_append_right _ h))) (by decide +kernel))) (goodIn_sub (fun _ h => List.mem_cons_of_mem _ (List.mem_append_right _ h)) (by decide +kernel))
set_option maxRecDepth 20000 in
theorem gL_turnsFrom_X2_turnsFrom : GoodIn wsL_turnsFrom (wsV RL 75 RX2 yX2_turnsFrom wsX2_turnsFrom) := goodIn_app (goodIn_of _ (by decide +kernel)) ggL_turnsFrom_X2_turnsFrom
theorem dL_turnsFrom_0 : decode cL_turnsFrom 0 = .ok (.aload_n 3, 1) := by decide +kernel
theorem dL_turnsFrom_1 : decode cL_turnsFrom 1 = .ok (.iconst 0, 1) := by decide +kernel
theorem dL_turnsFrom_2 : decode cL_turnsFrom 2 = .ok (.aload_n 0, 1) := by decide +kernel
theorem dL_turnsFrom_3 : decode cL_turnsFrom 3 = .ok (.iload_n 1, 1) := by decide +kernel
theorem dL_turnsFrom_4 : decode cL_turnsFrom 4 = .ok (.iload_n 2, 1) := by decide +kernel
theorem dL_turnsFrom_5 : decode cL_turnsFrom 5 = .ok (.invokevirtual 75, 3) := by decide +kernel
theorem dL_turnsFrom_8 : decode cL_turnsFrom 8 = .ok (.i2l, 1) := by decide +kernel
theorem dL_turnsFrom_9 : decode cL_turnsFrom 9 = .ok (.lastore, 1) := by decide +kernel
theorem dL_turnsFrom_10 : decode cL_turnsFrom 10 = .ok (.goto 11, 3) := by decide +kernel
theorem dL_turnsFrom_13 : decode cL_turnsFrom 13 = .ok (.astore 4, 2) := by decide +kernel
theorem dL_turnsFrom_15 : decode cL_turnsFrom 15 = .ok (.iconst 1, 1) := by decide +kernel
theorem dL_turnsFrom_16 : decode cL_turnsFrom 16 = .ok (.ireturn, 1) := by decide +kernel
theorem dL_turnsFrom_17 : decode cL_turnsFrom 17 = .ok (.astore 4, 2) := by decide +kernel
theorem dL_turnsFrom_19 : decode cL_turnsFrom 19 = .ok (.iconst 2, 1) := by decide +kernel
theorem dL_turnsFrom_20 : decode cL_turnsFrom 20 = .ok (.ireturn, 1) := by decide +kernel
theorem dL_turnsFrom_21 : decode cL_turnsFrom 21 = .ok (.iconst 0, 1) := by decide +kernel
theorem dL_turnsFrom_22 : decode cL_turnsFrom 22 = .ok (.ireturn, 1) := by decide +kernel
set_option maxRecDepth 20000 in
theorem ggL_law_X2_init : GoodIn wsL_law wsX2_init := goodIn_r _ [9, 10, 11, 12, 13, 14, 15, 16, 17, 18, 19, 20, 21, 22, 23, 24, 25, 26, 27, 28, 29, 30, 31, 32, 33, 34, 35, 36, 37, 38, 39, 40, 41, 42, 783, 784, 785, 786, 787, 788, 789, 790, 791, 754, 755, 756, 757, 758, 759, 760, 761, 762, 792, 793, 794, 795] (by decide +kernel) (by decide +kernel)
set_option maxRecDepth 20000 in
theorem gL_law_X2_init : GoodIn wsL_law (wsX2_init) := ggL_law_X2_init
set_option maxRecDepth 20000 in
theorem ggL_law_X3_init : GoodIn wsL_law wsX3_init := goodIn_r _ [45, 46, 11, 12, 27, 47, 29, 48, 49, 50, 51, 52, 53, 54, 763, 764, 765, 766, 767, 768, 769, 770, 771, 772, 773, 774, 775, 776, 777, 778, 779, 780, 781, 782] (by decide +kernel) (by decide +kernel)
set_option maxRecDepth 20000 in
theorem gL_law_X3_init : GoodIn wsL_law (wsX3_init) := ggL_law_X3_init
set_option maxRecDepth 20000 in
theorem ggL_law_L_addRoom : GoodIn wsL_law wsL_addRoom := goodIn_ca (goodIn_r _ [58, 59, 60, 61, 62, 2, 63, 64, 65, 16, 66, 20, 67, 68, 69, 15, 70, 28, 71, 72, 73, 74, 19, 75, 40, 41, 76, 77, 78, 79, 80, 81, 82, 83, 39, 84, 85, 86, 87, 88, 89, 90, 91, 92, 93, 94, 95, 35, 33, 34, 96, 97, 98, 99, 100, 101, 102, 103, 104, 105, 106, 42, 107, 108, 109, 110, 111, 112, 113, 114, 115, 116, 117, 118, 119, 120, 121, 122, 123, 124, 125, 126, 127, 128, 754, 755, 756, 757, 758, 759, 760, 761, 762, 783, 784, 785, 786, 787, 788, 789, 790, 791, 792, 793, 794, 795] (by decide +kernel) (by decide +kernel)) (goodIn_sub (fun _ h => List.mem_append_left _ (List.mem_append_left _ (List.mem_append_right _ h))) (by decide +kernel))
set_option maxRecDepth 20000 in
theorem gL_law_L_addRoom : GoodIn wsL_law (va_wsS RL 82 yL_addRoom wsL_addRoom) := goodIn_app (goodIn_of _ (by decide +kernel)) ggL_law_L_addRoom
set_option maxRecDepth 20000 in
theorem ggL_law_X3_addRoom : GoodIn wsL_law wsX3_addRoom := goodIn_r _ [132, 133, 47, 134, 135, 136, 5, 137, 138, 139, 140, 141, 142, 763, 764, 765, 766, 767, 768, 769, 770, 771, 772, 773, 774, 775, 776, 777, 778, 779, 780, 781, 782] (by decide +kernel) (by decide +kernel)
set_option maxRecDepth 20000 in
theorem gL_law_X3_addRoom : GoodIn wsL_law (wsV RL 87 RX3 yX3_addRoom wsX3_addRoom) := goodIn_app (goodIn_of _ (by decide +kernel)) ggL_law_X3_addRoom
set_option maxRecDepth 20000 in
theorem ggL_law_X3_thrown : GoodIn wsL_law wsX3_thrown := goodIn_r _ [146, 138, 763, 764, 765, 766, 767, 768, 769, 770, 771, 772, 773, 774, 775, 776, 777, 778, 779, 780, 781, 782] (by decide +kernel) (by decide +kernel)
set_option maxRecDepth 20000 in
theorem gL_law_X3_thrown : GoodIn wsL_law (wsV RL 88 RX3 yX3_thrown wsX3_thrown) := goodIn_app (goodIn_of _ (by decide +kernel)) ggL_law_X3_thrown
set_option maxRecDepth 20000 in
theorem ggL_law_L_addDoor : GoodIn wsL_law wsL_addDoor := goodIn_ca (goodIn_ca (goodIn_ca (goodIn_r _ [149, 150, 151, 59, 152, 153, 154, 2, 155, 156, 157, 64, 65, 16, 158, 20, 159, 160, 161, 162, 163, 164, 66, 165, 166, 167, 15, 168, 169, 31, 32, 170, 171, 172, 173, 33, 34, 72, 73, 74, 19, 75, 40, 41, 76, 77, 78, 79, 80, 81, 82, 83, 39, 84, 85, 86, 87, 88, 89, 90, 91, 92, 93, 94, 95, 35, 96, 97, 98, 99, 100, 101, 102, 103, 104, 105, 106, 42, 107, 108, 109, 110, 111, 112, 113, 114, 115, 116, 117, 118, 119, 120, 121, 122, 123, 124, 125, 126, 127, 128, 754, 755, 756, 757, 758, 759, 760, 761, 762, 783, 784, 785, 786, 787, 788, 789, 790, 791, 792, 793, 794, 795] (by decide +kernel) (by decide +kernel)) (goodIn_sub (fun _ h => List.mem_append_left _ (List.mem_append_right _ h)) (by decide +kernel))) (goodIn_sub (fun _ h => List.mem_append_left _ (List.mem_append_left _ (List.mem_append_right _ h))) (by decide +kernel))) (goodIn_sub (fun _ h => List.mem_append_right _ h) (by decide +kernel))
set_option maxRecDepth 20000 in
theorem gL_law_L_addDoor : GoodIn wsL_law (va_wsS RL 92 yL_addDoor wsL_addDoor) := goodIn_app (goodIn_of _ (by decide +kernel)) ggL_law_L_addDoor
set_option maxRecDepth 20000 in
theorem ggL_law_X3_addDoor : GoodIn wsL_law wsX3_addDoor := goodIn_r _ [177, 178, 49, 50, 51, 52, 179, 180, 181, 5, 182, 133, 183, 184, 185, 186, 187, 188, 189, 134, 135, 136, 137, 138, 139, 140, 141, 142, 190, 191, 192, 193, 763, 764, 765, 766, 767, 768, 769, 770, 771, 772, 773, 774, 775, 776, 777, 778, 779, 780, 781, 782] (by decide +kernel) (by decide +kernel)
set_option maxRecDepth 20000 in
theorem gL_law_X3_addDoor : GoodIn wsL_law (wsV RL 95 RX3 yX3_addDoor wsX3_addDoor) := goodIn_app (goodIn_of _ (by decide +kernel)) ggL_law_X3_addDoor
set_option maxRecDepth 20000 in
theorem ggL_law_L_turnLock : GoodIn wsL_law wsL_turnLock := goodIn_ca (goodIn_r _ [196, 150, 197, 198, 199, 2, 200, 16, 201, 20, 202, 203, 204, 205, 163, 164, 158, 72, 73, 74, 19, 75, 40, 41, 76, 77, 78, 79, 80, 81, 82, 83, 39, 84, 85, 86, 87, 88, 89, 90, 91, 92, 93, 94, 15, 95, 35, 33, 34, 96, 97, 98, 99, 100, 101, 102, 103, 104, 105, 106, 42, 107, 108, 109, 110, 111, 112, 113, 114, 115, 116, 117, 118, 119, 120, 121, 122, 123, 124, 125, 126, 127, 128, 754, 755, 756, 757, 758, 759, 760, 761, 762, 783, 784, 785, 786, 787, 788, 789, 790, 791, 792, 793, 794, 795] (by decide +kernel) (by decide +kernel)) (goodIn_sub (fun _ h => List.mem_append_right _ h) (by decide +kernel))
set_option maxRecDepth 20000 in
theorem gL_law_L_turnLock : GoodIn wsL_law (va_wsS RL 96 yL_turnLock wsL_turnLock) := goodIn_app (goodIn_of _ (by decide +kernel)) ggL_law_L_turnLock
set_option maxRecDepth 20000 in
theorem ggL_law_X3_turnLock : GoodIn wsL_law wsX3_turnLock := goodIn_r _ [209, 53, 210, 211, 212, 5, 213, 178, 187, 188, 189, 134, 135, 136, 137, 138, 139, 140, 141, 142, 763, 764, 765, 766, 767, 768, 769, 770, 771, 772, 773, 774, 775, 776, 777, 778, 779, 780, 781, 782] (by decide +kernel) (by decide +kernel)
set_option maxRecDepth 20000 in
theorem gL_law_X3_turnLock : GoodIn wsL_law (wsV RL 99 RX3 yX3_turnLock wsX3_turnLock) := goodIn_app (goodIn_of _ (by decide +kernel)) ggL_law_X3_turnLock
set_option maxRecDepth 20000 in
theorem ggL_law_L_putCheese : GoodIn wsL_law wsL_putCheese := goodIn_ca (goodIn_ca (goodIn_ca (goodIn_r _ [216, 150, 151, 59, 217, 218, 219, 2, 220, 156, 157, 64, 65, 16, 221, 159, 160, 161, 162, 163, 164, 66, 754, 755, 756, 757, 758, 759, 760, 761, 762, 783, 784, 785, 786, 787, 788, 789, 790, 791] (by decide +kernel) (by decide +kernel)) (goodIn_sub (fun _ h => List.mem_append_left _ (List.mem_append_right _ h)) (by decide +kernel))) (goodIn_sub (fun _ h => List.mem_append_left _ (List.mem_append_left _ (List.mem_append_right _ h))) (by decide +kernel))) (goodIn_sub (fun _ h => List.mem_append_right _ h) (by decide +kernel))
set_option maxRecDepth 20000 in
theorem gL_law_L_putCheese : GoodIn wsL_law (va_wsS RL 100 yL_putCheese wsL_putCheese) := goodIn_app (goodIn_of _ (by decide +kernel)) ggL_law_L_putCheese
set_option maxRecDepth 20000 in
theorem ggL_law_X3_putCheese : GoodIn wsL_law wsX3_putCheese := goodIn_r _ [225, 48, 183, 184, 185, 5, 186, 133, 187, 188, 189, 134, 135, 136, 137, 138, 139, 140, 141, 142, 763, 764, 765, 766, 767, 768, 769, 770, 771, 772, 773, 774, 775, 776, 777, 778, 779, 780, 781, 782] (by decide +kernel) (by decide +kernel)
set_option maxRecDepth 20000 in
theorem gL_law_X3_putCheese : GoodIn wsL_law (wsV RL 103 RX3 yX3_putCheese wsX3_putCheese) := goodIn_app (goodIn_of _ (by decide +kernel)) ggL_law_X3_putCheese
set_option maxRecDepth 20000 in
theorem ggL_law_L_begin : GoodIn wsL_law wsL_begin := goodIn_ca (goodIn_ca (goodIn_r _ [228, 150, 151, 229, 230, 231, 2, 232, 156, 157, 22, 23, 233, 234, 235, 236, 159, 160, 161, 162, 163, 164, 16, 66, 237, 238, 239, 240, 241, 242, 243, 244, 245, 246, 247, 248, 249, 20, 250, 251, 252, 253, 254, 255, 256, 257, 258, 259, 260, 19, 261, 42, 87, 88, 89, 754, 755, 756, 757, 758, 759, 760, 761, 762, 783, 784, 785, 786, 787, 788, 789, 790, 791, 792, 793, 794, 795] (by decide +kernel) (by decide +kernel)) (goodIn_sub (fun _ h => List.mem_append_left _ (List.mem_append_right _ h)) (by decide +kernel))) (goodIn_sub (fun _ h => List.mem_append_right _ h) (by decide +kernel))
set_option maxRecDepth 20000 in
theorem gL_law_L_begin : GoodIn wsL_law (va_wsS RL 104 yL_begin wsL_begin) := goodIn_app (goodIn_of _ (by decide +kernel)) ggL_law_L_begin
set_option maxRecDepth 20000 in
theorem ggL_law_X3_begin : GoodIn wsL_law wsX3_begin := goodIn_r _ [265, 47, 266, 267, 268, 269, 270, 271, 179, 180, 181, 5, 182, 133, 183, 184, 185, 186, 187, 188, 189, 134, 135, 136, 137, 138, 139, 140, 141, 142, 272, 273, 274, 275, 54, 276, 277, 278, 279, 27, 280, 281, 282, 283, 284, 285, 286, 190, 191, 192, 193, 178, 49, 50, 287, 288, 289, 290, 53, 51, 52, 291, 292, 293, 294, 763, 764, 765, 766, 767, 768, 769, 770, 771, 772, 773, 774, 775, 776, 777, 778, 779, 780, 781, 782] (by decide +kernel) (by decide +kernel)
set_option maxRecDepth 20000 in
theorem gL_law_X3_begin : GoodIn wsL_law (wsV RL 106 RX3 yX3_begin wsX3_begin) := goodIn_app (goodIn_of _ (by decide +kernel)) ggL_law_X3_begin
set_option maxRecDepth 20000 in
theorem ggL_law_L_go : GoodIn wsL_law wsL_go := goodIn_ca (goodIn_ca (goodIn_r _ [297, 150, 59, 298, 299, 300, 2, 301, 64, 65, 20, 236, 159, 160, 161, 162, 163, 164, 16, 66, 302, 303, 304, 305, 250, 251, 252, 253, 233, 254, 255, 256, 257, 306, 307, 308, 309, 22, 23, 310, 311, 312, 313, 314, 101, 102, 315, 316, 317, 19, 318, 39, 87, 88, 89, 112, 113, 319, 320, 321, 322, 323, 324, 325, 326, 235, 327, 328, 329, 330, 221, 234, 754, 755, 756, 757, 758, 759, 760, 761, 762, 783, 784, 785, 786, 787, 788, 789, 790, 791, 792, 793, 794, 795] (by decide +kernel) (by decide +kernel)) (goodIn_sub (fun _ h => List.mem_append_left _ (List.mem_append_left _ (List.mem_append_right _ h))) (by decide +kernel))) (goodIn_sub (fun _ h => List.mem_append_right _ h) (by decide +kernel))
set_option maxRecDepth 20000 in
theorem gL_law_L_go : GoodIn wsL_law (va_wsS RL 107 yL_go wsL_go) := goodIn_app (goodIn_of _ (by decide +kernel)) ggL_law_L_go
set_option maxRecDepth 20000 in
theorem ggL_law_X3_go : GoodIn wsL_law wsX3_go := goodIn_r _ [334, 267, 266, 269, 270, 47, 268, 183, 184, 185, 5, 186, 133, 187, 188, 189, 134, 135, 136, 137, 138, 139, 140, 141, 142, 283, 284, 285, 286, 190, 191, 192, 193, 178, 49, 50, 287, 288, 289, 290, 53, 51, 52, 335, 336, 337, 338, 48, 271, 763, 764, 765, 766, 767, 768, 769, 770, 771, 772, 773, 774, 775, 776, 777, 778, 779, 780, 781, 782] (by decide +kernel) (by decide +kernel)
set_option maxRecDepth 20000 in
theorem gL_law_X3_go : GoodIn wsL_law (wsV RL 109 RX3 yX3_go wsX3_go) := goodIn_app (goodIn_of _ (by decide +kernel)) ggL_law_X3_go
set_option maxRecDepth 20000 in
theorem ggL_law_L_play : GoodIn wsL_law wsL_play := goodIn_ca (goodIn_ca (goodIn_r _ [341, 151, 59, 342, 343, 344, 2, 345, 156, 157, 236, 302, 303, 304, 305, 64, 65, 346, 347, 348, 349, 310, 311, 312, 313, 233, 314, 101, 102, 350, 351, 352, 353, 23, 16, 66, 20, 22, 250, 251, 252, 253, 254, 255, 256, 257, 315, 316, 317, 19, 318, 39, 87, 88, 89, 112, 113, 258, 259, 260, 261, 42, 354, 355, 356, 357, 358, 359, 360, 361, 362, 363, 364, 15, 365, 90, 91, 366, 367, 368, 369, 169, 31, 32, 35, 319, 320, 321, 322, 323, 324, 325, 326, 235, 327, 328, 329, 330, 221, 234, 754, 755, 756, 757, 758, 759, 760, 761, 762, 783, 784, 785, 786, 787, 788, 789, 790, 791, 792, 793, 794, 795] (by decide +kernel) (by decide +kernel)) (goodIn_sub (fun _ h => List.mem_append_left _ (List.mem_append_right _ h)) (by decide +kernel))) (goodIn_sub (fun _ h => List.mem_append_left _ (List.mem_append_left _ (List.mem_append_right _ h))) (by decide +kernel))
set_option maxRecDepth 20000 in
theorem gL_law_L_play : GoodIn wsL_law (va_wsS RL 110 yL_play wsL_play) := goodIn_app (goodIn_of _ (by decide +kernel)) ggL_law_L_play
set_option maxRecDepth 20000 in
theorem ggL_law_X3_play : GoodIn wsL_law wsX3_play := goodIn_r _ [373, 267, 187, 188, 5, 189, 134, 135, 136, 137, 138, 139, 140, 141, 142, 374, 375, 376, 377, 378, 133, 266, 269, 270, 47, 54, 276, 277, 278, 279, 27, 280, 281, 282, 283, 284, 285, 286, 190, 191, 192, 193, 178, 49, 50, 287, 288, 289, 290, 53, 51, 52, 291, 292, 293, 294, 379, 380, 381, 382, 335, 336, 337, 338, 268, 48, 271, 763, 764, 765, 766, 767, 768, 769, 770, 771, 772, 773, 774, 775, 776, 777, 778, 779, 780, 781, 782] (by decide +kernel) (by decide +kernel)
set_option maxRecDepth 20000 in
theorem gL_law_X3_play : GoodIn wsL_law (wsV RL 112 RX3 yX3_play wsX3_play) := goodIn_app (goodIn_of _ (by decide +kernel)) ggL_law_X3_play
set_option maxRecDepth 20000 in
theorem ggL_law_X2_turn : GoodIn wsL_law wsX2_turn := goodIn_r _ [386, 233, 754, 755, 756, 757, 758, 759, 760, 761, 762] (by decide +kernel) (by decide +kernel)
set_option maxRecDepth 20000 in
theorem gL_law_X2_turn : GoodIn wsL_law (wsV RL 113 RX2 yX2_turn wsX2_turn) := goodIn_app (goodIn_of _ (by decide +kernel)) ggL_law_X2_turn
set_option maxRecDepth 20000 in
theorem ggL_law_X3_turn : GoodIn wsL_law wsX3_turn := goodIn_r _ [390, 266, 391, 392, 393, 5, 394, 138, 763, 764, 765, 766, 767, 768, 769, 770, 771, 772, 773, 774, 775, 776, 777, 778, 779, 780, 781, 782] (by decide +kernel) (by decide +kernel)
set_option maxRecDepth 20000 in
theorem gL_law_X3_turn : GoodIn wsL_law (wsV RL 116 RX3 yX3_turn wsX3_turn) := goodIn_app (goodIn_of _ (by decide +kernel)) ggL_law_X3_turn
set_option maxRecDepth 20000 in
theorem ggL_law_X2_rooms : GoodIn wsL_law wsX2_rooms := goodIn_r _ [398, 16, 66, 754, 755, 756, 757, 758, 759, 760, 761, 762, 783, 784, 785, 786, 787, 788, 789, 790, 791] (by decide +kernel) (by decide +kernel)
set_option maxRecDepth 20000 in
theorem gL_law_X2_rooms : GoodIn wsL_law (wsV RL 117 RX2 yX2_rooms wsX2_rooms) := goodIn_app (goodIn_of _ (by decide +kernel)) ggL_law_X2_rooms
set_option maxRecDepth 20000 in
theorem ggL_law_X3_rooms : GoodIn wsL_law wsX3_rooms := goodIn_r _ [402, 133, 391, 392, 393, 5, 394, 138, 763, 764, 765, 766, 767, 768, 769, 770, 771, 772, 773, 774, 775, 776, 777, 778, 779, 780, 781, 782] (by decide +kernel) (by decide +kernel)
set_option maxRecDepth 20000 in
theorem gL_law_X3_rooms : GoodIn wsL_law (wsV RL 120 RX3 yX3_rooms wsX3_rooms) := goodIn_app (goodIn_of _ (by decide +kernel)) ggL_law_X3_rooms
set_option maxRecDepth 20000 in
theorem ggL_law_X2_doors : GoodIn wsL_law wsX2_doors := goodIn_r _ [406, 16, 158, 754, 755, 756, 757, 758, 759, 760, 761, 762, 783, 784, 785, 786, 787, 788, 789, 790, 791] (by decide +kernel) (by decide +kernel)
set_option maxRecDepth 20000 in
theorem gL_law_X2_doors : GoodIn wsL_law (wsV RL 121 RX2 yX2_doors wsX2_doors) := goodIn_app (goodIn_of _ (by decide +kernel)) ggL_law_X2_doors
set_option maxRecDepth 20000 in
theorem ggL_law_X3_doors : GoodIn wsL_law wsX3_doors := goodIn_r _ [410, 178, 391, 392, 393, 5, 394, 138, 763, 764, 765, 766, 767, 768, 769, 770, 771, 772, 773, 774, 775, 776, 777, 778, 779, 780, 781, 782] (by decide +kernel) (by decide +kernel)
set_option maxRecDepth 20000 in
theorem gL_law_X3_doors : GoodIn wsL_law (wsV RL 124 RX3 yX3_doors wsX3_doors) := goodIn_app (goodIn_of _ (by decide +kernel)) ggL_law_X3_doors
set_option maxRecDepth 20000 in
theorem ggL_law_X2_isOn : GoodIn wsL_law wsX2_isOn := goodIn_r _ [414, 236, 754, 755, 756, 757, 758, 759, 760, 761, 762] (by decide +kernel) (by decide +kernel)
set_option maxRecDepth 20000 in
theorem gL_law_X2_isOn : GoodIn wsL_law (wsV RL 125 RX2 yX2_isOn wsX2_isOn) := goodIn_app (goodIn_of _ (by decide +kernel)) ggL_law_X2_isOn
set_option maxRecDepth 20000 in
theorem ggL_law_X3_isOn : GoodIn wsL_law wsX3_isOn := goodIn_r _ [418, 267, 419, 420, 421, 5, 422, 138, 763, 764, 765, 766, 767, 768, 769, 770, 771, 772, 773, 774, 775, 776, 777, 778, 779, 780, 781, 782] (by decide +kernel) (by decide +kernel)
set_option maxRecDepth 20000 in
theorem gL_law_X3_isOn : GoodIn wsL_law (wsV RL 129 RX3 yX3_isOn wsX3_isOn) := goodIn_app (goodIn_of _ (by decide +kernel)) ggL_law_X3_isOn
set_option maxRecDepth 20000 in
theorem ggL_law_X2_isCaught : GoodIn wsL_law wsX2_isCaught := goodIn_r _ [426, 235, 754, 755, 756, 757, 758, 759, 760, 761, 762] (by decide +kernel) (by decide +kernel)
set_option maxRecDepth 20000 in
theorem gL_law_X2_isCaught : GoodIn wsL_law (wsV RL 130 RX2 yX2_isCaught wsX2_isCaught) := goodIn_app (goodIn_of _ (by decide +kernel)) ggL_law_X2_isCaught
set_option maxRecDepth 20000 in
theorem ggL_law_X3_isCaught : GoodIn wsL_law wsX3_isCaught := goodIn_r _ [430, 268, 419, 420, 421, 5, 422, 138, 763, 764, 765, 766, 767, 768, 769, 770, 771, 772, 773, 774, 775, 776, 777, 778, 779, 780, 781, 782] (by decide +kernel) (by decide +kernel)
set_option maxRecDepth 20000 in
theorem gL_law_X3_isCaught : GoodIn wsL_law (wsV RL 133 RX3 yX3_isCaught wsX3_isCaught) := goodIn_app (goodIn_of _ (by decide +kernel)) ggL_law_X3_isCaught
set_option maxRecDepth 20000 in
theorem ggL_law_X2_isCatsTurn : GoodIn wsL_law wsX2_isCatsTurn := goodIn_r _ [313, 233, 314, 101, 2, 102, 754, 755, 756, 757, 758, 759, 760, 761, 762] (by decide +kernel) (by decide +kernel)
set_option maxRecDepth 20000 in
theorem gL_law_X2_isCatsTurn : GoodIn wsL_law (wsV RL 134 RX2 yX2_isCatsTurn wsX2_isCatsTurn) := goodIn_app (goodIn_of _ (by decide +kernel)) ggL_law_X2_isCatsTurn
set_option maxRecDepth 20000 in
theorem ggL_law_X3_isCatsTurn : GoodIn wsL_law wsX3_isCatsTurn := goodIn_r _ [435, 266, 419, 420, 421, 5, 422, 138, 763, 764, 765, 766, 767, 768, 769, 770, 771, 772, 773, 774, 775, 776, 777, 778, 779, 780, 781, 782] (by decide +kernel) (by decide +kernel)
set_option maxRecDepth 20000 in
theorem gL_law_X3_isCatsTurn : GoodIn wsL_law (wsV RL 137 RX3 yX3_isCatsTurn wsX3_isCatsTurn) := goodIn_app (goodIn_of _ (by decide +kernel)) ggL_law_X3_isCatsTurn
set_option maxRecDepth 20000 in
theorem ggL_law_X2_catIn : GoodIn wsL_law wsX2_catIn := goodIn_r _ [439, 22, 754, 755, 756, 757, 758, 759, 760, 761, 762] (by decide +kernel) (by decide +kernel)
set_option maxRecDepth 20000 in
theorem gL_law_X2_catIn : GoodIn wsL_law (wsV RL 138 RX2 yX2_catIn wsX2_catIn) := goodIn_app (goodIn_of _ (by decide +kernel)) ggL_law_X2_catIn
set_option maxRecDepth 20000 in
theorem ggL_law_X3_catIn : GoodIn wsL_law wsX3_catIn := goodIn_r _ [443, 267, 269, 391, 392, 393, 5, 394, 138, 763, 764, 765, 766, 767, 768, 769, 770, 771, 772, 773, 774, 775, 776, 777, 778, 779, 780, 781, 782] (by decide +kernel) (by decide +kernel)
set_option maxRecDepth 20000 in
theorem gL_law_X3_catIn : GoodIn wsL_law (wsV RL 141 RX3 yX3_catIn wsX3_catIn) := goodIn_app (goodIn_of _ (by decide +kernel)) ggL_law_X3_catIn
set_option maxRecDepth 20000 in
theorem ggL_law_X2_mouseIn : GoodIn wsL_law wsX2_mouseIn := goodIn_r _ [447, 23, 754, 755, 756, 757, 758, 759, 760, 761, 762] (by decide +kernel) (by decide +kernel)
set_option maxRecDepth 20000 in
theorem gL_law_X2_mouseIn : GoodIn wsL_law (wsV RL 142 RX2 yX2_mouseIn wsX2_mouseIn) := goodIn_app (goodIn_of _ (by decide +kernel)) ggL_law_X2_mouseIn
set_option maxRecDepth 20000 in
theorem ggL_law_X3_mouseIn : GoodIn wsL_law wsX3_mouseIn := goodIn_r _ [451, 267, 270, 391, 392, 393, 5, 394, 138, 763, 764, 765, 766, 767, 768, 769, 770, 771, 772, 773, 774, 775, 776, 777, 778, 779, 780, 781, 782] (by decide +kernel) (by decide +kernel)
set_option maxRecDepth 20000 in
theorem gL_law_X3_mouseIn : GoodIn wsL_law (wsV RL 145 RX3 yX3_mouseIn wsX3_mouseIn) := goodIn_app (goodIn_of _ (by decide +kernel)) ggL_law_X3_mouseIn
set_option maxRecDepth 20000 in
theorem ggL_law_X2_eaten : GoodIn wsL_law wsX2_eaten := goodIn_r _ [455, 234, 754, 755, 756, 757, 758, 759, 760, 761, 762] (by decide +kernel) (by decide +kernel)
set_option maxRecDepth 20000 in
theorem gL_law_X2_eaten : GoodIn wsL_law (wsV RL 146 RX2 yX2_eaten wsX2_eaten) := goodIn_app (goodIn_of _ (by decide +kernel)) ggL_law_X2_eaten
set_option maxRecDepth 20000 in
theorem ggL_law_X3_eaten : GoodIn wsL_law wsX3_eaten := goodIn_r _ [459, 271, 391, 392, 393, 5, 394, 138, 763, 764, 765, 766, 767, 768, 769, 770, 771, 772, 773, 774, 775, 776, 777, 778, 779, 780, 781, 782] (by decide +kernel) (by decide +kernel)
set_option maxRecDepth 20000 in
theorem gL_law_X3_eaten : GoodIn wsL_law (wsV RL 149 RX3 yX3_eaten wsX3_eaten) := goodIn_app (goodIn_of _ (by decide +kernel)) ggL_law_X3_eaten
set_option maxRecDepth 20000 in
theorem ggL_law_L_isSafe : GoodIn wsL_law wsL_isSafe := goodIn_ca (goodIn_r _ [462, 150, 463, 464, 465, 2, 466, 16, 241, 159, 160, 161, 162, 163, 164, 66, 754, 755, 756, 757, 758, 759, 760, 761, 762, 783, 784, 785, 786, 787, 788, 789, 790, 791] (by decide +kernel) (by decide +kernel)) (goodIn_sub (fun _ h => List.mem_append_right _ h) (by decide +kernel))
set_option maxRecDepth 20000 in
theorem gL_law_L_isSafe : GoodIn wsL_law (va_wsS RL 150 yL_isSafe wsL_isSafe) := goodIn_app (goodIn_of _ (by decide +kernel)) ggL_law_L_isSafe
set_option maxRecDepth 20000 in
theorem ggL_law_X3_isSafe : GoodIn wsL_law wsX3_isSafe := goodIn_r _ [470, 47, 183, 184, 185, 5, 186, 133, 187, 188, 189, 134, 135, 136, 137, 138, 139, 140, 141, 142, 763, 764, 765, 766, 767, 768, 769, 770, 771, 772, 773, 774, 775, 776, 777, 778, 779, 780, 781, 782] (by decide +kernel) (by decide +kernel)
set_option maxRecDepth 20000 in
theorem gL_law_X3_isSafe : GoodIn wsL_law (wsV RL 152 RX3 yX3_isSafe wsX3_isSafe) := goodIn_app (goodIn_of _ (by decide +kernel)) ggL_law_X3_isSafe
set_option maxRecDepth 20000 in
theorem ggL_law_L_cheeseIn : GoodIn wsL_law wsL_cheeseIn := goodIn_ca (goodIn_r _ [473, 150, 474, 475, 476, 2, 477, 16, 221, 159, 160, 161, 162, 163, 164, 66, 754, 755, 756, 757, 758, 759, 760, 761, 762, 783, 784, 785, 786, 787, 788, 789, 790, 791] (by decide +kernel) (by decide +kernel)) (goodIn_sub (fun _ h => List.mem_append_right _ h) (by decide +kernel))
set_option maxRecDepth 20000 in
theorem gL_law_L_cheeseIn : GoodIn wsL_law (va_wsS RL 153 yL_cheeseIn wsL_cheeseIn) := goodIn_app (goodIn_of _ (by decide +kernel)) ggL_law_L_cheeseIn
set_option maxRecDepth 20000 in
theorem ggL_law_X3_cheeseIn : GoodIn wsL_law wsX3_cheeseIn := goodIn_r _ [481, 48, 183, 184, 185, 5, 186, 133, 187, 188, 189, 134, 135, 136, 137, 138, 139, 140, 141, 142, 763, 764, 765, 766, 767, 768, 769, 770, 771, 772, 773, 774, 775, 776, 777, 778, 779, 780, 781, 782] (by decide +kernel) (by decide +kernel)
set_option maxRecDepth 20000 in
theorem gL_law_X3_cheeseIn : GoodIn wsL_law (wsV RL 155 RX3 yX3_cheeseIn wsX3_cheeseIn) := goodIn_app (goodIn_of _ (by decide +kernel)) ggL_law_X3_cheeseIn
set_option maxRecDepth 20000 in
theorem ggL_law_L_doorsOf : GoodIn wsL_law wsL_doorsOf := goodIn_ca (goodIn_r _ [484, 150, 485, 486, 487, 2, 488, 16, 159, 160, 161, 162, 163, 164, 66, 489, 490, 491, 15, 492, 169, 35, 31, 32, 754, 755, 756, 757, 758, 759, 760, 761, 762, 783, 784, 785, 786, 787, 788, 789, 790, 791] (by decide +kernel) (by decide +kernel)) (goodIn_sub (fun _ h => List.mem_append_right _ h) (by decide +kernel))
set_option maxRecDepth 20000 in
theorem gL_law_L_doorsOf : GoodIn wsL_law (va_wsS RL 156 yL_doorsOf wsL_doorsOf) := goodIn_app (goodIn_of _ (by decide +kernel)) ggL_law_L_doorsOf
set_option maxRecDepth 20000 in
theorem ggL_law_X3_doorsOf : GoodIn wsL_law wsX3_doorsOf := goodIn_r _ [496, 183, 184, 185, 5, 186, 133, 187, 188, 189, 134, 135, 136, 137, 138, 139, 140, 141, 142, 497, 498, 499, 500, 178, 53, 49, 50, 763, 764, 765, 766, 767, 768, 769, 770, 771, 772, 773, 774, 775, 776, 777, 778, 779, 780, 781, 782] (by decide +kernel) (by decide +kernel)
set_option maxRecDepth 20000 in
theorem gL_law_X3_doorsOf : GoodIn wsL_law (wsV RL 158 RX3 yX3_doorsOf wsX3_doorsOf) := goodIn_app (goodIn_of _ (by decide +kernel)) ggL_law_X3_doorsOf
set_option maxRecDepth 20000 in
theorem ggL_law_L_isLocked : GoodIn wsL_law wsL_isLocked := goodIn_ca (goodIn_r _ [503, 150, 504, 505, 506, 2, 507, 16, 201, 202, 203, 204, 205, 163, 164, 158, 754, 755, 756, 757, 758, 759, 760, 761, 762, 783, 784, 785, 786, 787, 788, 789, 790, 791] (by decide +kernel) (by decide +kernel)) (goodIn_sub (fun _ h => List.mem_append_right _ h) (by decide +kernel))
set_option maxRecDepth 20000 in
theorem gL_law_L_isLocked : GoodIn wsL_law (va_wsS RL 159 yL_isLocked wsL_isLocked) := goodIn_app (goodIn_of _ (by decide +kernel)) ggL_law_L_isLocked
set_option maxRecDepth 20000 in
theorem ggL_law_X3_isLocked : GoodIn wsL_law wsX3_isLocked := goodIn_r _ [511, 53, 210, 211, 212, 5, 213, 178, 187, 188, 189, 134, 135, 136, 137, 138, 139, 140, 141, 142, 763, 764, 765, 766, 767, 768, 769, 770, 771, 772, 773, 774, 775, 776, 777, 778, 779, 780, 781, 782] (by decide +kernel) (by decide +kernel)
set_option maxRecDepth 20000 in
theorem gL_law_X3_isLocked : GoodIn wsL_law (wsV RL 161 RX3 yX3_isLocked wsX3_isLocked) := goodIn_app (goodIn_of _ (by decide +kernel)) ggL_law_X3_isLocked
set_option maxRecDepth 20000 in
theorem ggL_law_L_isOpen : GoodIn wsL_law wsL_isOpen := goodIn_ca (goodIn_r _ [514, 150, 515, 516, 517, 2, 518, 16, 202, 203, 204, 205, 163, 164, 158, 250, 251, 252, 253, 233, 254, 255, 256, 257, 519, 93, 94, 15, 95, 35, 33, 34, 754, 755, 756, 757, 758, 759, 760, 761, 762, 783, 784, 785, 786, 787, 788, 789, 790, 791] (by decide +kernel) (by decide +kernel)) (goodIn_sub (fun _ h => List.mem_append_right _ h) (by decide +kernel))
set_option maxRecDepth 20000 in
theorem gL_law_L_isOpen : GoodIn wsL_law (va_wsS RL 162 yL_isOpen wsL_isOpen) := goodIn_app (goodIn_of _ (by decide +kernel)) ggL_law_L_isOpen
set_option maxRecDepth 20000 in
theorem ggL_law_X3_isOpen : GoodIn wsL_law wsX3_isOpen := goodIn_r _ [523, 266, 210, 211, 212, 5, 213, 178, 187, 188, 189, 134, 135, 136, 137, 138, 139, 140, 141, 142, 287, 288, 289, 290, 53, 51, 52, 763, 764, 765, 766, 767, 768, 769, 770, 771, 772, 773, 774, 775, 776, 777, 778, 779, 780, 781, 782] (by decide +kernel) (by decide +kernel)
set_option maxRecDepth 20000 in
theorem gL_law_X3_isOpen : GoodIn wsL_law (wsV RL 164 RX3 yX3_isOpen wsX3_isOpen) := goodIn_app (goodIn_of _ (by decide +kernel)) ggL_law_X3_isOpen
set_option maxRecDepth 20000 in
theorem ggL_law_L_turnsUntilOpen : GoodIn wsL_law wsL_turnsUntilOpen := goodIn_ca (goodIn_r _ [526, 150, 527, 528, 529, 2, 530, 16, 202, 203, 204, 205, 163, 164, 158, 250, 251, 252, 253, 233, 254, 255, 256, 257, 519, 93, 94, 15, 95, 35, 33, 34, 754, 755, 756, 757, 758, 759, 760, 761, 762, 783, 784, 785, 786, 787, 788, 789, 790, 791] (by decide +kernel) (by decide +kernel)) (goodIn_sub (fun _ h => List.mem_append_right _ h) (by decide +kernel))
set_option maxRecDepth 20000 in
theorem gL_law_L_turnsUntilOpen : GoodIn wsL_law (va_wsS RL 165 yL_turnsUntilOpen wsL_turnsUntilOpen) := goodIn_app (goodIn_of _ (by decide +kernel)) ggL_law_L_turnsUntilOpen
set_option maxRecDepth 20000 in
theorem ggL_law_X3_turnsUntilOpen : GoodIn wsL_law wsX3_turnsUntilOpen := goodIn_r _ [534, 210, 211, 212, 5, 213, 178, 187, 188, 189, 134, 135, 136, 137, 138, 139, 140, 141, 142, 535, 536, 537, 538, 53, 266, 287, 288, 289, 290, 51, 52, 763, 764, 765, 766, 767, 768, 769, 770, 771, 772, 773, 774, 775, 776, 777, 778, 779, 780, 781, 782] (by decide +kernel) (by decide +kernel)
set_option maxRecDepth 20000 in
theorem gL_law_X3_turnsUntilOpen : GoodIn wsL_law (wsV RL 167 RX3 yX3_turnsUntilOpen wsX3_turnsUntilOpen) := goodIn_app (goodIn_of _ (by decide +kernel)) ggL_law_X3_turnsUntilOpen
set_option maxRecDepth 20000 in
theorem ggL_law_L_doorBetween : GoodIn wsL_law wsL_doorBetween := goodIn_ca (goodIn_r _ [541, 150, 542, 543, 544, 2, 545, 16, 159, 160, 161, 162, 163, 164, 66, 165, 166, 167, 15, 168, 169, 31, 32, 754, 755, 756, 757, 758, 759, 760, 761, 762, 783, 784, 785, 786, 787, 788, 789, 790, 791] (by decide +kernel) (by decide +kernel)) (goodIn_sub (fun _ h => List.mem_append_right _ h) (by decide +kernel))
set_option maxRecDepth 20000 in
theorem gL_law_L_doorBetween : GoodIn wsL_law (va_wsS RL 168 yL_doorBetween wsL_doorBetween) := goodIn_app (goodIn_of _ (by decide +kernel)) ggL_law_L_doorBetween
set_option maxRecDepth 20000 in
theorem ggL_law_X3_doorBetween : GoodIn wsL_law wsX3_doorBetween := goodIn_r _ [549, 179, 180, 181, 5, 182, 133, 183, 184, 185, 186, 187, 188, 189, 134, 135, 136, 137, 138, 139, 140, 141, 142, 190, 191, 192, 193, 178, 49, 50, 763, 764, 765, 766, 767, 768, 769, 770, 771, 772, 773, 774, 775, 776, 777, 778, 779, 780, 781, 782] (by decide +kernel) (by decide +kernel)
set_option maxRecDepth 20000 in
theorem gL_law_X3_doorBetween : GoodIn wsL_law (wsV RL 170 RX3 yX3_doorBetween wsX3_doorBetween) := goodIn_app (goodIn_of _ (by decide +kernel)) ggL_law_X3_doorBetween
set_option maxRecDepth 20000 in
theorem ggL_law_L_isWayOpen : GoodIn wsL_law wsL_isWayOpen := goodIn_ca (goodIn_r _ [552, 150, 553, 554, 555, 2, 556, 16, 159, 160, 161, 162, 163, 164, 66, 165, 166, 167, 15, 168, 169, 31, 32, 250, 251, 252, 253, 233, 254, 255, 256, 257, 519, 93, 94, 95, 35, 33, 34, 754, 755, 756, 757, 758, 759, 760, 761, 762, 783, 784, 785, 786, 787, 788, 789, 790, 791] (by decide +kernel) (by decide +kernel)) (goodIn_sub (fun _ h => List.mem_append_right _ h) (by decide +kernel))
set_option maxRecDepth 20000 in
theorem gL_law_L_isWayOpen : GoodIn wsL_law (va_wsS RL 171 yL_isWayOpen wsL_isWayOpen) := goodIn_app (goodIn_of _ (by decide +kernel)) ggL_law_L_isWayOpen
set_option maxRecDepth 20000 in
theorem ggL_law_X3_isWayOpen : GoodIn wsL_law wsX3_isWayOpen := goodIn_r _ [560, 266, 179, 180, 181, 5, 182, 133, 183, 184, 185, 186, 187, 188, 189, 134, 135, 136, 137, 138, 139, 140, 141, 142, 190, 191, 192, 193, 178, 49, 50, 287, 288, 289, 290, 53, 51, 52, 763, 764, 765, 766, 767, 768, 769, 770, 771, 772, 773, 774, 775, 776, 777, 778, 779, 780, 781, 782] (by decide +kernel) (by decide +kernel)
set_option maxRecDepth 20000 in
theorem gL_law_X3_isWayOpen : GoodIn wsL_law (wsV RL 173 RX3 yX3_isWayOpen wsX3_isWayOpen) := goodIn_app (goodIn_of _ (by decide +kernel)) ggL_law_X3_isWayOpen
set_option maxRecDepth 20000 in
theorem ggL_law_L_distance : GoodIn wsL_law wsL_distance := goodIn_ca (goodIn_r _ [563, 150, 564, 565, 566, 2, 567, 16, 159, 160, 161, 162, 163, 164, 66, 362, 363, 364, 15, 365, 90, 91, 112, 113, 366, 367, 368, 369, 169, 31, 32, 35, 754, 755, 756, 757, 758, 759, 760, 761, 762, 783, 784, 785, 786, 787, 788, 789, 790, 791] (by decide +kernel) (by decide +kernel)) (goodIn_sub (fun _ h => List.mem_append_right _ h) (by decide +kernel))
set_option maxRecDepth 20000 in
theorem gL_law_L_distance : GoodIn wsL_law (va_wsS RL 174 yL_distance wsL_distance) := goodIn_app (goodIn_of _ (by decide +kernel)) ggL_law_L_distance
set_option maxRecDepth 20000 in
theorem ggL_law_X3_distance : GoodIn wsL_law wsX3_distance := goodIn_r _ [571, 179, 180, 181, 5, 182, 133, 183, 184, 185, 186, 187, 188, 189, 134, 135, 136, 137, 138, 139, 140, 141, 142, 379, 380, 381, 382, 27, 53, 190, 191, 192, 193, 178, 49, 50, 763, 764, 765, 766, 767, 768, 769, 770, 771, 772, 773, 774, 775, 776, 777, 778, 779, 780, 781, 782] (by decide +kernel) (by decide +kernel)
set_option maxRecDepth 20000 in
theorem gL_law_X3_distance : GoodIn wsL_law (wsV RL 176 RX3 yX3_distance wsX3_distance) := goodIn_app (goodIn_of _ (by decide +kernel)) ggL_law_X3_distance
set_option maxRecDepth 20000 in
theorem ggL_law_L_catArrives : GoodIn wsL_law wsL_catArrives := goodIn_ca (goodIn_ca (goodIn_r _ [574, 150, 59, 575, 576, 577, 2, 578, 22, 159, 160, 161, 162, 163, 164, 16, 66, 302, 303, 304, 305, 64, 65, 236, 579, 580, 581, 582, 20, 583, 90, 91, 584, 112, 113, 250, 251, 252, 253, 233, 254, 255, 256, 257, 314, 101, 102, 585, 586, 587, 19, 588, 39, 87, 88, 89, 754, 755, 756, 757, 758, 759, 760, 761, 762, 783, 784, 785, 786, 787, 788, 789, 790, 791, 792, 793, 794, 795] (by decide +kernel) (by decide +kernel)) (goodIn_sub (fun _ h => List.mem_append_right _ h) (by decide +kernel))) (goodIn_sub (fun _ h => List.mem_append_left _ (List.mem_append_left _ (List.mem_append_right _ h))) (by decide +kernel))
set_option maxRecDepth 20000 in
theorem gL_law_L_catArrives : GoodIn wsL_law (va_wsS RL 177 yL_catArrives wsL_catArrives) := goodIn_app (goodIn_of _ (by decide +kernel)) ggL_law_L_catArrives
set_option maxRecDepth 20000 in
theorem ggL_law_X3_catArrives : GoodIn wsL_law wsX3_catArrives := goodIn_r _ [592, 269, 593, 594, 595, 5, 596, 267, 183, 184, 185, 186, 133, 187, 188, 189, 134, 135, 136, 137, 138, 139, 140, 141, 142, 597, 598, 599, 600, 27, 266, 47, 283, 284, 285, 286, 190, 191, 192, 193, 178, 49, 50, 287, 288, 289, 290, 53, 51, 52, 763, 764, 765, 766, 767, 768, 769, 770, 771, 772, 773, 774, 775, 776, 777, 778, 779, 780, 781, 782] (by decide +kernel) (by decide +kernel)
set_option maxRecDepth 20000 in
theorem gL_law_X3_catArrives : GoodIn wsL_law (wsV RL 179 RX3 yX3_catArrives wsX3_catArrives) := goodIn_app (goodIn_of _ (by decide +kernel)) ggL_law_X3_catArrives
set_option maxRecDepth 20000 in
theorem ggL_law_L_mouseArrives : GoodIn wsL_law wsL_mouseArrives := goodIn_ca (goodIn_ca (goodIn_r _ [603, 150, 59, 604, 605, 606, 2, 607, 23, 159, 160, 161, 162, 163, 164, 16, 66, 302, 303, 304, 305, 64, 65, 236, 579, 580, 581, 582, 20, 583, 90, 91, 584, 112, 113, 250, 251, 252, 253, 233, 254, 255, 256, 257, 314, 101, 102, 585, 586, 587, 19, 588, 39, 87, 88, 89, 754, 755, 756, 757, 758, 759, 760, 761, 762, 783, 784, 785, 786, 787, 788, 789, 790, 791, 792, 793, 794, 795] (by decide +kernel) (by decide +kernel)) (goodIn_sub (fun _ h => List.mem_append_right _ h) (by decide +kernel))) (goodIn_sub (fun _ h => List.mem_append_left _ (List.mem_append_left _ (List.mem_append_right _ h))) (by decide +kernel))
set_option maxRecDepth 20000 in
theorem gL_law_L_mouseArrives : GoodIn wsL_law (va_wsS RL 180 yL_mouseArrives wsL_mouseArrives) := goodIn_app (goodIn_of _ (by decide +kernel)) ggL_law_L_mouseArrives
set_option maxRecDepth 20000 in
theorem ggL_law_X3_mouseArrives : GoodIn wsL_law wsX3_mouseArrives := goodIn_r _ [611, 270, 593, 594, 595, 5, 596, 267, 183, 184, 185, 186, 133, 187, 188, 189, 134, 135, 136, 137, 138, 139, 140, 141, 142, 597, 598, 599, 600, 27, 266, 47, 283, 284, 285, 286, 190, 191, 192, 193, 178, 49, 50, 287, 288, 289, 290, 53, 51, 52, 763, 764, 765, 766, 767, 768, 769, 770, 771, 772, 773, 774, 775, 776, 777, 778, 779, 780, 781, 782] (by decide +kernel) (by decide +kernel)
set_option maxRecDepth 20000 in
theorem gL_law_X3_mouseArrives : GoodIn wsL_law (wsV RL 182 RX3 yX3_mouseArrives wsX3_mouseArrives) := goodIn_app (goodIn_of _ (by decide +kernel)) ggL_law_X3_mouseArrives
set_option maxRecDepth 20000 in
theorem ggL_law_X2_turnsToCatch : GoodIn wsL_law wsX2_turnsToCatch := goodIn_r _ [245, 236, 22, 23, 246, 247, 248, 2, 249, 20, 250, 251, 252, 253, 233, 254, 255, 256, 257, 258, 259, 260, 19, 261, 42, 87, 88, 89, 754, 755, 756, 757, 758, 759, 760, 761, 762, 792, 793, 794, 795] (by decide +kernel) (by decide +kernel)
set_option maxRecDepth 20000 in
theorem gL_law_X2_turnsToCatch : GoodIn wsL_law (wsV RL 183 RX2 yX2_turnsToCatch wsX2_turnsToCatch) := goodIn_app (goodIn_of _ (by decide +kernel)) ggL_law_X2_turnsToCatch
set_option maxRecDepth 20000 in
theorem ggL_law_X3_turnsToCatch : GoodIn wsL_law wsX3_turnsToCatch := goodIn_r _ [616, 272, 273, 274, 5, 275, 267, 54, 266, 269, 270, 276, 277, 278, 279, 27, 133, 47, 280, 281, 282, 283, 284, 285, 286, 190, 191, 192, 193, 178, 49, 50, 287, 288, 289, 290, 53, 51, 52, 291, 292, 293, 294, 391, 392, 393, 394, 138, 763, 764, 765, 766, 767, 768, 769, 770, 771, 772, 773, 774, 775, 776, 777, 778, 779, 780, 781, 782] (by decide +kernel) (by decide +kernel)
set_option maxRecDepth 20000 in
theorem gL_law_X3_turnsToCatch : GoodIn wsL_law (wsV RL 186 RX3 yX3_turnsToCatch wsX3_turnsToCatch) := goodIn_app (goodIn_of _ (by decide +kernel)) ggL_law_X3_turnsToCatch
set_option maxRecDepth 20000 in
theorem ggL_law_L_turnsFrom : GoodIn wsL_law wsL_turnsFrom := goodIn_ca (goodIn_ca (goodIn_r _ [619, 150, 151, 620, 621, 622, 2, 623, 159, 160, 161, 162, 163, 164, 16, 66, 237, 238, 239, 240, 156, 157, 241, 246, 247, 248, 249, 20, 250, 251, 252, 253, 233, 254, 255, 256, 257, 258, 259, 260, 19, 261, 42, 87, 88, 89, 754, 755, 756, 757, 758, 759, 760, 761, 762, 783, 784, 785, 786, 787, 788, 789, 790, 791, 792, 793, 794, 795] (by decide +kernel) (by decide +kernel)) (goodIn_sub (fun _ h => List.mem_append_right _ h) (by decide +kernel))) (goodIn_sub (fun _ h => List.mem_append_left _ (List.mem_append_right _ h)) (by decide +kernel))
set_option maxRecDepth 20000 in
theorem gL_law_L_turnsFrom : GoodIn wsL_law (va_wsS RL 187 yL_turnsFrom wsL_turnsFrom) := goodIn_app (goodIn_of _ (by decide +kernel)) ggL_law_L_turnsFrom
set_option maxRecDepth 20000 in
theorem ggL_law_X3_turnsFrom : GoodIn wsL_law wsX3_turnsFrom := goodIn_r _ [627, 47, 54, 266, 179, 180, 181, 5, 182, 133, 183, 184, 185, 186, 187, 188, 189, 134, 135, 136, 137, 138, 139, 140, 141, 142, 276, 277, 278, 279, 27, 280, 281, 282, 283, 284, 285, 286, 190, 191, 192, 193, 178, 49, 50, 287, 288, 289, 290, 53, 51, 52, 291, 292, 293, 294, 763, 764, 765, 766, 767, 768, 769, 770, 771, 772, 773, 774, 775, 776, 777, 778, 779, 780, 781, 782] (by decide +kernel) (by decide +kernel)
set_option maxRecDepth 20000 in
theorem gL_law_X3_turnsFrom : GoodIn wsL_law (wsV RL 189 RX3 yX3_turnsFrom wsX3_turnsFrom) := goodIn_app (goodIn_of _ (by decide +kernel)) ggL_law_X3_turnsFrom
set_option maxRecDepth 20000 in
theorem ggL_law_X2_safeNow : GoodIn wsL_law wsX2_safeNow := goodIn_r _ [631, 236, 16, 66, 22, 246, 247, 248, 2, 249, 20, 250, 251, 252, 253, 233, 254, 255, 256, 257, 258, 259, 260, 19, 261, 42, 87, 88, 89, 754, 755, 756, 757, 758, 759, 760, 761, 762, 783, 784, 785, 786, 787, 788, 789, 790, 791, 792, 793, 794, 795] (by decide +kernel) (by decide +kernel)
set_option maxRecDepth 20000 in
theorem gL_law_X2_safeNow : GoodIn wsL_law (wsV RL 190 RX2 yX2_safeNow wsX2_safeNow) := goodIn_app (goodIn_of _ (by decide +kernel)) ggL_law_X2_safeNow
set_option maxRecDepth 20000 in
theorem ggL_law_X3_safeNow : GoodIn wsL_law wsX3_safeNow := goodIn_r _ [635, 636, 637, 638, 5, 639, 267, 133, 54, 266, 269, 276, 277, 278, 279, 27, 47, 280, 281, 282, 283, 284, 285, 286, 190, 191, 192, 193, 178, 49, 50, 287, 288, 289, 290, 53, 51, 52, 291, 292, 293, 294, 391, 392, 393, 394, 138, 763, 764, 765, 766, 767, 768, 769, 770, 771, 772, 773, 774, 775, 776, 777, 778, 779, 780, 781, 782] (by decide +kernel) (by decide +kernel)
set_option maxRecDepth 20000 in
theorem gL_law_X3_safeNow : GoodIn wsL_law (wsV RL 193 RX3 yX3_safeNow wsX3_safeNow) := goodIn_app (goodIn_of _ (by decide +kernel)) ggL_law_X3_safeNow
set_option maxRecDepth 20000 in
theorem ggL_law_X2_bestGo : GoodIn wsL_law wsX2_bestGo := goodIn_r _ [349, 236, 310, 311, 312, 2, 313, 233, 314, 101, 102, 350, 351, 352, 353, 23, 16, 66, 20, 22, 250, 251, 252, 253, 254, 255, 256, 257, 315, 316, 317, 19, 318, 39, 87, 88, 89, 112, 113, 258, 259, 260, 261, 42, 354, 355, 356, 357, 358, 359, 360, 361, 362, 363, 364, 15, 365, 90, 91, 366, 367, 368, 369, 169, 31, 32, 35, 754, 755, 756, 757, 758, 759, 760, 761, 762, 783, 784, 785, 786, 787, 788, 789, 790, 791, 792, 793, 794, 795] (by decide +kernel) (by decide +kernel)
set_option maxRecDepth 20000 in
theorem gL_law_X2_bestGo : GoodIn wsL_law (wsV RL 194 RX2 yX2_bestGo wsX2_bestGo) := goodIn_app (goodIn_of _ (by decide +kernel)) ggL_law_X2_bestGo
set_option maxRecDepth 20000 in
theorem ggL_law_X3_bestGo : GoodIn wsL_law wsX3_bestGo := goodIn_r _ [644, 374, 375, 376, 5, 377, 267, 378, 133, 266, 269, 270, 47, 54, 276, 277, 278, 279, 27, 280, 281, 282, 283, 284, 285, 286, 190, 191, 192, 193, 178, 49, 50, 287, 288, 289, 290, 53, 51, 52, 291, 292, 293, 294, 379, 380, 381, 382, 391, 392, 393, 394, 138, 763, 764, 765, 766, 767, 768, 769, 770, 771, 772, 773, 774, 775, 776, 777, 778, 779, 780, 781, 782] (by decide +kernel) (by decide +kernel)
set_option maxRecDepth 20000 in
theorem gL_law_X3_bestGo : GoodIn wsL_law (wsV RL 197 RX3 yX3_bestGo wsX3_bestGo) := goodIn_app (goodIn_of _ (by decide +kernel)) ggL_law_X3_bestGo
set_option maxRecDepth 20000 in
theorem ggL_law_X2_pairsCaught : GoodIn wsL_law wsX2_pairsCaught := goodIn_r _ [648, 649, 650, 651, 2, 652, 16, 66, 246, 247, 248, 249, 20, 250, 251, 252, 253, 233, 254, 255, 256, 257, 258, 259, 260, 19, 261, 42, 87, 88, 89, 754, 755, 756, 757, 758, 759, 760, 761, 762, 783, 784, 785, 786, 787, 788, 789, 790, 791, 792, 793, 794, 795] (by decide +kernel) (by decide +kernel)
set_option maxRecDepth 20000 in
theorem gL_law_X2_pairsCaught : GoodIn wsL_law (wsV RL 198 RX2 yX2_pairsCaught wsX2_pairsCaught) := goodIn_app (goodIn_of _ (by decide +kernel)) ggL_law_X2_pairsCaught
set_option maxRecDepth 20000 in
theorem ggL_law_X3_pairsCaught : GoodIn wsL_law wsX3_pairsCaught := goodIn_r _ [656, 657, 658, 659, 5, 660, 661, 662, 663, 664, 665, 666, 667, 133, 54, 266, 47, 668, 669, 670, 671, 276, 277, 278, 279, 27, 280, 281, 282, 283, 284, 285, 286, 190, 191, 192, 193, 178, 49, 50, 287, 288, 289, 290, 53, 51, 52, 291, 292, 293, 294, 391, 392, 393, 394, 138, 763, 764, 765, 766, 767, 768, 769, 770, 771, 772, 773, 774, 775, 776, 777, 778, 779, 780, 781, 782] (by decide +kernel) (by decide +kernel)
set_option maxRecDepth 20000 in
theorem gL_law_X3_pairsCaught : GoodIn wsL_law (wsV RL 201 RX3 yX3_pairsCaught wsX3_pairsCaught) := goodIn_app (goodIn_of _ (by decide +kernel)) ggL_law_X3_pairsCaught
set_option maxRecDepth 20000 in
theorem ggL_law_X2_longestChase : GoodIn wsL_law wsX2_longestChase := goodIn_r _ [675, 676, 669, 670, 671, 649, 650, 651, 2, 652, 16, 66, 246, 247, 248, 249, 20, 250, 251, 252, 253, 233, 254, 255, 256, 257, 258, 259, 260, 19, 261, 42, 87, 88, 89, 754, 755, 756, 757, 758, 759, 760, 761, 762, 783, 784, 785, 786, 787, 788, 789, 790, 791, 792, 793, 794, 795] (by decide +kernel) (by decide +kernel)
set_option maxRecDepth 20000 in
theorem gL_law_X2_longestChase : GoodIn wsL_law (wsV RL 202 RX2 yX2_longestChase wsX2_longestChase) := goodIn_app (goodIn_of _ (by decide +kernel)) ggL_law_X2_longestChase
set_option maxRecDepth 20000 in
theorem ggL_law_X3_longestChase : GoodIn wsL_law wsX3_longestChase := goodIn_r _ [680, 657, 658, 659, 5, 660, 661, 662, 663, 664, 665, 666, 667, 133, 54, 266, 47, 668, 669, 670, 671, 276, 277, 278, 279, 27, 280, 281, 282, 283, 284, 285, 286, 190, 191, 192, 193, 178, 49, 50, 287, 288, 289, 290, 53, 51, 52, 291, 292, 293, 294, 391, 392, 393, 394, 138, 763, 764, 765, 766, 767, 768, 769, 770, 771, 772, 773, 774, 775, 776, 777, 778, 779, 780, 781, 782] (by decide +kernel) (by decide +kernel)
set_option maxRecDepth 20000 in
theorem gL_law_X3_longestChase : GoodIn wsL_law (wsV RL 205 RX3 yX3_longestChase wsX3_longestChase) := goodIn_app (goodIn_of _ (by decide +kernel)) ggL_law_X3_longestChase
set_option maxRecDepth 20000 in
theorem ggL_law_X2_bestDoorToLock : GoodIn wsL_law wsX2_bestDoorToLock := goodIn_r _ [684, 16, 158, 201, 242, 243, 244, 2, 245, 236, 22, 23, 246, 247, 248, 249, 20, 250, 251, 252, 253, 233, 254, 255, 256, 257, 258, 259, 260, 19, 261, 42, 87, 88, 89, 685, 686, 687, 688, 21, 72, 73, 74, 75, 40, 41, 76, 77, 78, 79, 80, 81, 82, 83, 39, 84, 85, 86, 90, 91, 92, 93, 94, 15, 95, 35, 33, 34, 96, 97, 98, 99, 100, 101, 102, 103, 104, 105, 106, 107, 108, 109, 110, 111, 112, 113, 114, 115, 116, 117, 118, 119, 120, 121, 122, 123, 124, 125, 126, 127, 128, 754, 755, 756, 757, 758, 759, 760, 761, 762, 783, 784, 785, 786, 787, 788, 789, 790, 791, 792, 793, 794, 795] (by decide +kernel) (by decide +kernel)
set_option maxRecDepth 20000 in
theorem gL_law_X2_bestDoorToLock : GoodIn wsL_law (wsV RL 206 RX2 yX2_bestDoorToLock wsX2_bestDoorToLock) := goodIn_app (goodIn_of _ (by decide +kernel)) ggL_law_X2_bestDoorToLock
set_option maxRecDepth 20000 in
theorem ggL_law_X3_bestDoorToLock : GoodIn wsL_law wsX3_bestDoorToLock := goodIn_r _ [692, 693, 694, 695, 5, 696, 267, 178, 53, 272, 273, 274, 275, 54, 266, 269, 270, 276, 277, 278, 279, 27, 133, 47, 280, 281, 282, 283, 284, 285, 286, 190, 191, 192, 193, 49, 50, 287, 288, 289, 290, 51, 52, 291, 292, 293, 294, 391, 392, 393, 394, 138, 763, 764, 765, 766, 767, 768, 769, 770, 771, 772, 773, 774, 775, 776, 777, 778, 779, 780, 781, 782] (by decide +kernel) (by decide +kernel)
set_option maxRecDepth 20000 in
theorem gL_law_X3_bestDoorToLock : GoodIn wsL_law (wsV RL 209 RX3 yX3_bestDoorToLock wsX3_bestDoorToLock) := goodIn_app (goodIn_of _ (by decide +kernel)) ggL_law_X3_bestDoorToLock
set_option maxRecDepth 20000 in
theorem ggL_law_X2_meanTurns : GoodIn wsL_law wsX2_meanTurns := goodIn_r _ [700, 649, 650, 651, 2, 652, 16, 66, 246, 247, 248, 249, 20, 250, 251, 252, 253, 233, 254, 255, 256, 257, 258, 259, 260, 19, 261, 42, 87, 88, 89, 754, 755, 756, 757, 758, 759, 760, 761, 762, 783, 784, 785, 786, 787, 788, 789, 790, 791, 792, 793, 794, 795] (by decide +kernel) (by decide +kernel)
set_option maxRecDepth 20000 in
theorem gL_law_X2_meanTurns : GoodIn wsL_law (wsV RL 210 RX2 yX2_meanTurns wsX2_meanTurns) := goodIn_app (goodIn_of _ (by decide +kernel)) ggL_law_X2_meanTurns
set_option maxRecDepth 20000 in
theorem ggL_law_X3_meanTurns : GoodIn wsL_law wsX3_meanTurns := goodIn_r _ [704, 138, 661, 667, 663, 664, 665, 5, 666, 662, 133, 54, 266, 47, 668, 669, 670, 671, 276, 277, 278, 279, 27, 280, 281, 282, 283, 284, 285, 286, 190, 191, 192, 193, 178, 49, 50, 287, 288, 289, 290, 53, 51, 52, 291, 292, 293, 294, 763, 764, 765, 766, 767, 768, 769, 770, 771, 772, 773, 774, 775, 776, 777, 778, 779, 780, 781, 782] (by decide +kernel) (by decide +kernel)
set_option maxRecDepth 20000 in
theorem gL_law_X3_meanTurns : GoodIn wsL_law (wsV RL 214 RX3 yX3_meanTurns wsX3_meanTurns) := goodIn_app (goodIn_of _ (by decide +kernel)) ggL_law_X3_meanTurns
set_option maxRecDepth 20000 in
theorem ggL_law_X2_digest : GoodIn wsL_law wsX2_digest := goodIn_ca (goodIn_r _ [708, 709, 710, 384, 385, 2, 386, 233, 711, 712, 713, 714, 715, 396, 397, 398, 16, 66, 716, 404, 405, 406, 158, 717, 412, 413, 414, 236, 718, 719, 720, 721, 424, 425, 426, 235, 722, 437, 438, 439, 22, 723, 445, 446, 447, 23, 724, 453, 454, 455, 234, 242, 243, 244, 245, 246, 247, 248, 249, 20, 250, 251, 252, 253, 254, 255, 256, 257, 258, 259, 260, 19, 261, 42, 87, 88, 89, 725, 629, 630, 631, 346, 347, 348, 349, 310, 311, 312, 313, 314, 101, 102, 350, 351, 352, 353, 315, 316, 317, 318, 39, 112, 113, 354, 355, 356, 357, 358, 359, 360, 361, 362, 363, 364, 15, 365, 90, 91, 366, 367, 368, 369, 169, 31, 32, 35, 726, 646, 647, 648, 649, 650, 651, 652, 727, 673, 674, 675, 676, 669, 670, 671, 728, 682, 683, 684, 201, 685, 686, 687, 688, 21, 72, 73, 74, 75, 40, 41, 76, 77, 78, 79, 80, 81, 82, 83, 84, 85, 86, 92, 93, 94, 95, 33, 34, 96, 97, 98, 99, 100, 103, 104, 105, 106, 107, 108, 109, 110, 111, 114, 115, 116, 117, 118, 119, 120, 121, 122, 123, 124, 125, 126, 127, 128, 729, 730, 731, 732, 733, 464, 465, 466, 241, 159, 160, 161, 162, 163, 164, 734, 475, 476, 477, 221, 735, 486, 487, 488, 489, 490, 491, 492, 736, 565, 566, 567, 737, 738, 739, 740, 741, 505, 506, 507, 202, 203, 204, 205, 742, 516, 517, 518, 519, 743, 528, 529, 530, 754, 755, 756, 757, 758, 759, 760, 761, 762, 783, 784, 785, 786, 787, 788, 789, 790, 791, 792, 793, 794, 795] (by decide +kernel) (by decide +kernel)) (goodIn_sub (fun _ h => List.mem_append_right _ h) (by decide +kernel))
set_option maxRecDepth 20000 in
theorem gL_law_X2_digest : GoodIn wsL_law (wsV RL 215 RX2 yX2_digest wsX2_digest) := goodIn_app (goodIn_of _ (by decide +kernel)) ggL_law_X2_digest
set_option maxRecDepth 20000 in
theorem ggL_law_X3_digest : GoodIn wsL_law wsX3_digest := goodIn_r _ [747, 138, 748, 266, 133, 178, 267, 268, 269, 749, 270, 271, 47, 48, 53, 750, 751, 5, 752, 753, 272, 273, 274, 275, 54, 276, 277, 278, 279, 27, 280, 281, 282, 283, 284, 285, 286, 190, 191, 192, 193, 49, 50, 287, 288, 289, 290, 51, 52, 291, 292, 293, 294, 636, 637, 638, 639, 374, 375, 376, 377, 378, 379, 380, 381, 382, 657, 658, 659, 660, 661, 662, 663, 664, 665, 666, 667, 668, 669, 670, 671, 693, 694, 695, 696, 497, 498, 499, 500, 535, 536, 537, 538, 763, 764, 765, 766, 767, 768, 769, 770, 771, 772, 773, 774, 775, 776, 777, 778, 779, 780, 781, 782] (by decide +kernel) (by decide +kernel)
set_option maxRecDepth 20000 in
theorem gL_law_X3_digest : GoodIn wsL_law (wsV RL 219 RX3 yX3_digest wsX3_digest) := goodIn_app (goodIn_of _ (by decide +kernel)) ggL_law_X3_digest
theorem dL_law_0 : decode cL_law 0 = .ok (.new 8, 3) := by decide +kernel
theorem dL_law_3 : decode cL_law 3 = .ok (.dup, 1) := by decide +kernel
theorem dL_law_4 : decode cL_law 4 = .ok (.invokespecial 78, 3) := by decide +kernel
theorem dL_law_7 : decode cL_law 7 = .ok (.astore_n 1, 1) := by decide +kernel
theorem dL_law_8 : decode cL_law 8 = .ok (.new 79, 3) := by decide +kernel
theorem dL_law_11 : decode cL_law 11 = .ok (.dup, 1) := by decide +kernel
theorem dL_law_12 : decode cL_law 12 = .ok (.invokespecial 81, 3) := by decide +kernel
theorem dL_law_15 : decode cL_law 15 = .ok (.astore_n 2, 1) := by decide +kernel
theorem dL_law_16 : decode cL_law 16 = .ok (.iconst 1, 1) := by decide +kernel
theorem dL_law_17 : decode cL_law 17 = .ok (.newarray .long, 2) := by decide +kernel
theorem dL_law_19 : decode cL_law 19 = .ok (.astore_n 3, 1) := by decide +kernel
theorem dL_law_20 : decode cL_law 20 = .ok (.iconst 0, 1) := by decide +kernel
theorem dL_law_21 : decode cL_law 21 = .ok (.istore 4, 2) := by decide +kernel
theorem dL_law_23 : decode cL_law 23 = .ok (.iload 4, 2) := by decide +kernel
theorem dL_law_25 : decode cL_law 25 = .ok (.aload_n 0, 1) := by decide +kernel
theorem dL_law_26 : decode cL_law 26 = .ok (.arraylength, 1) := by decide +kernel
theorem dL_law_27 : decode cL_law 27 = .ok (.iconst 5, 1) := by decide +kernel
theorem dL_law_28 : decode cL_law 28 = .ok (.isub, 1) := by decide +kernel
theorem dL_law_29 : decode cL_law 29 = .ok (.if_icmp .gt 1653, 3) := by decide +kernel
theorem dL_law_32 : decode cL_law 32 = .ok (.aload_n 0, 1) := by decide +kernel
theorem dL_law_33 : decode cL_law 33 = .ok (.iload 4, 2) := by decide +kernel
theorem dL_law_35 : decode cL_law 35 = .ok (.iaload, 1) := by decide +kernel
theorem dL_law_36 : decode cL_law 36 = .ok (.bipush 63, 2) := by decide +kernel
theorem dL_law_38 : decode cL_law 38 = .ok (.iand, 1) := by decide +kernel
theorem dL_law_39 : decode cL_law 39 = .ok (.tableswitch 1637 0 35 #[157, 229, 321, 384, 452, 520, 583, 639, 652, 665, 678, 691, 704, 717, 730, 743, 756, 819, 875, 931, 994, 1057, 1113, 1181, 1256, 1324, 1380, 1436, 1449, 1517, 1530, 1543, 1556, 1569, 1582, 1623], 157) := by decide +kernel
theorem dL_law_196 : decode cL_law 196 = .ok (.aload_n 1, 1) := by decide +kernel
theorem dL_law_197 : decode cL_law 197 = .ok (.aload_n 0, 1) := by decide +kernel
theorem dL_law_198 : decode cL_law 198 = .ok (.iload 4, 2) := by decide +kernel
theorem dL_law_200 : decode cL_law 200 = .ok (.iconst 1, 1) := by decide +kernel
theorem dL_law_201 : decode cL_law 201 = .ok (.iadd, 1) := by decide +kernel
theorem dL_law_202 : decode cL_law 202 = .ok (.iaload, 1) := by decide +kernel
theorem dL_law_203 : decode cL_law 203 = .ok (.ifCond .eq 7, 3) := by decide +kernel
theorem dL_law_206 : decode cL_law 206 = .ok (.iconst 1, 1) := by decide +kernel
theorem dL_law_207 : decode cL_law 207 = .ok (.goto 4, 3) := by decide +kernel
theorem dL_law_210 : decode cL_law 210 = .ok (.iconst 0, 1) := by decide +kernel
theorem dL_law_211 : decode cL_law 211 = .ok (.aload_n 3, 1) := by decide +kernel
theorem dL_law_212 : decode cL_law 212 = .ok (.invokestatic 82, 3) := by decide +kernel
theorem dL_law_215 : decode cL_law 215 = .ok (.istore 5, 2) := by decide +kernel
theorem dL_law_217 : decode cL_law 217 = .ok (.aload_n 2, 1) := by decide +kernel
theorem dL_law_218 : decode cL_law 218 = .ok (.aload_n 0, 1) := by decide +kernel
theorem dL_law_219 : decode cL_law 219 = .ok (.iload 4, 2) := by decide +kernel
theorem dL_law_221 : decode cL_law 221 = .ok (.iconst 1, 1) := by decide +kernel
theorem dL_law_222 : decode cL_law 222 = .ok (.iadd, 1) := by decide +kernel
theorem dL_law_223 : decode cL_law 223 = .ok (.iaload, 1) := by decide +kernel
theorem dL_law_224 : decode cL_law 224 = .ok (.ifCond .eq 7, 3) := by decide +kernel
theorem dL_law_227 : decode cL_law 227 = .ok (.iconst 1, 1) := by decide +kernel
theorem dL_law_228 : decode cL_law 228 = .ok (.goto 4, 3) := by decide +kernel
theorem dL_law_231 : decode cL_law 231 = .ok (.iconst 0, 1) := by decide +kernel
theorem dL_law_232 : decode cL_law 232 = .ok (.invokevirtual 87, 3) := by decide +kernel
theorem dL_law_235 : decode cL_law 235 = .ok (.istore 6, 2) := by decide +kernel
theorem dL_law_237 : decode cL_law 237 = .ok (.aload_n 2, 1) := by decide +kernel
theorem dL_law_238 : decode cL_law 238 = .ok (.invokevirtual 88, 3) := by decide +kernel
theorem dL_law_241 : decode cL_law 241 = .ok (.iload 5, 2) := by decide +kernel
theorem dL_law_243 : decode cL_law 243 = .ok (.if_icmp .eq 5, 3) := by decide +kernel
theorem dL_law_246 : decode cL_law 246 = .ok (.iconst 0, 1) := by decide +kernel
theorem dL_law_247 : decode cL_law 247 = .ok (.ireturn, 1) := by decide +kernel
theorem dL_law_248 : decode cL_law 248 = .ok (.iload 5, 2) := by decide +kernel
theorem dL_law_250 : decode cL_law 250 = .ok (.ifCond .ne 15, 3) := by decide +kernel
theorem dL_law_253 : decode cL_law 253 = .ok (.aload_n 3, 1) := by decide +kernel
theorem dL_law_254 : decode cL_law 254 = .ok (.iconst 0, 1) := by decide +kernel
theorem dL_law_255 : decode cL_law 255 = .ok (.laload, 1) := by decide +kernel
theorem dL_law_256 : decode cL_law 256 = .ok (.iload 6, 2) := by decide +kernel
theorem dL_law_258 : decode cL_law 258 = .ok (.i2l, 1) := by decide +kernel
theorem dL_law_259 : decode cL_law 259 = .ok (.lcmp, 1) := by decide +kernel
theorem dL_law_260 : decode cL_law 260 = .ok (.ifCond .eq 5, 3) := by decide +kernel
theorem dL_law_263 : decode cL_law 263 = .ok (.iconst 0, 1) := by decide +kernel
theorem dL_law_264 : decode cL_law 264 = .ok (.ireturn, 1) := by decide +kernel
theorem dL_law_265 : decode cL_law 265 = .ok (.goto 1411, 3) := by decide +kernel
theorem dL_law_268 : decode cL_law 268 = .ok (.aload_n 1, 1) := by decide +kernel
theorem dL_law_269 : decode cL_law 269 = .ok (.aload_n 0, 1) := by decide +kernel
theorem dL_law_270 : decode cL_law 270 = .ok (.iload 4, 2) := by decide +kernel
theorem dL_law_272 : decode cL_law 272 = .ok (.iconst 1, 1) := by decide +kernel
theorem dL_law_273 : decode cL_law 273 = .ok (.iadd, 1) := by decide +kernel
theorem dL_law_274 : decode cL_law 274 = .ok (.iaload, 1) := by decide +kernel
theorem dL_law_275 : decode cL_law 275 = .ok (.aload_n 0, 1) := by decide +kernel
theorem dL_law_276 : decode cL_law 276 = .ok (.iload 4, 2) := by decide +kernel
theorem dL_law_278 : decode cL_law 278 = .ok (.iconst 2, 1) := by decide +kernel
theorem dL_law_279 : decode cL_law 279 = .ok (.iadd, 1) := by decide +kernel
theorem dL_law_280 : decode cL_law 280 = .ok (.iaload, 1) := by decide +kernel
theorem dL_law_281 : decode cL_law 281 = .ok (.aload_n 0, 1) := by decide +kernel
theorem dL_law_282 : decode cL_law 282 = .ok (.iload 4, 2) := by decide +kernel
theorem dL_law_284 : decode cL_law 284 = .ok (.iconst 3, 1) := by decide +kernel
theorem dL_law_285 : decode cL_law 285 = .ok (.iadd, 1) := by decide +kernel
theorem dL_law_286 : decode cL_law 286 = .ok (.iaload, 1) := by decide +kernel
theorem dL_law_287 : decode cL_law 287 = .ok (.aload_n 0, 1) := by decide +kernel
theorem dL_law_288 : decode cL_law 288 = .ok (.iload 4, 2) := by decide +kernel
theorem dL_law_290 : decode cL_law 290 = .ok (.iconst 4, 1) := by decide +kernel
theorem dL_law_291 : decode cL_law 291 = .ok (.iadd, 1) := by decide +kernel
theorem dL_law_292 : decode cL_law 292 = .ok (.iaload, 1) := by decide +kernel
theorem dL_law_293 : decode cL_law 293 = .ok (.aload_n 3, 1) := by decide +kernel
theorem dL_law_294 : decode cL_law 294 = .ok (.invokestatic 92, 3) := by decide +kernel
theorem dL_law_297 : decode cL_law 297 = .ok (.istore 5, 2) := by decide +kernel
theorem dL_law_299 : decode cL_law 299 = .ok (.aload_n 2, 1) := by decide +kernel
theorem dL_law_300 : decode cL_law 300 = .ok (.aload_n 0, 1) := by decide +kernel
theorem dL_law_301 : decode cL_law 301 = .ok (.iload 4, 2) := by decide +kernel
theorem dL_law_303 : decode cL_law 303 = .ok (.iconst 1, 1) := by decide +kernel
theorem dL_law_304 : decode cL_law 304 = .ok (.iadd, 1) := by decide +kernel
theorem dL_law_305 : decode cL_law 305 = .ok (.iaload, 1) := by decide +kernel
theorem dL_law_306 : decode cL_law 306 = .ok (.aload_n 0, 1) := by decide +kernel
theorem dL_law_307 : decode cL_law 307 = .ok (.iload 4, 2) := by decide +kernel
theorem dL_law_309 : decode cL_law 309 = .ok (.iconst 2, 1) := by decide +kernel
theorem dL_law_310 : decode cL_law 310 = .ok (.iadd, 1) := by decide +kernel
theorem dL_law_311 : decode cL_law 311 = .ok (.iaload, 1) := by decide +kernel
theorem dL_law_312 : decode cL_law 312 = .ok (.aload_n 0, 1) := by decide +kernel
theorem dL_law_313 : decode cL_law 313 = .ok (.iload 4, 2) := by decide +kernel
theorem dL_law_315 : decode cL_law 315 = .ok (.iconst 3, 1) := by decide +kernel
theorem dL_law_316 : decode cL_law 316 = .ok (.iadd, 1) := by decide +kernel
theorem dL_law_317 : decode cL_law 317 = .ok (.iaload, 1) := by decide +kernel
theorem dL_law_318 : decode cL_law 318 = .ok (.aload_n 0, 1) := by decide +kernel
theorem dL_law_319 : decode cL_law 319 = .ok (.iload 4, 2) := by decide +kernel
theorem dL_law_321 : decode cL_law 321 = .ok (.iconst 4, 1) := by decide +kernel
theorem dL_law_322 : decode cL_law 322 = .ok (.iadd, 1) := by decide +kernel
theorem dL_law_323 : decode cL_law 323 = .ok (.iaload, 1) := by decide +kernel
theorem dL_law_324 : decode cL_law 324 = .ok (.invokevirtual 95, 3) := by decide +kernel
theorem dL_law_327 : decode cL_law 327 = .ok (.istore 6, 2) := by decide +kernel
theorem dL_law_329 : decode cL_law 329 = .ok (.aload_n 2, 1) := by decide +kernel
theorem dL_law_330 : decode cL_law 330 = .ok (.invokevirtual 88, 3) := by decide +kernel
theorem dL_law_333 : decode cL_law 333 = .ok (.iload 5, 2) := by decide +kernel
theorem dL_law_335 : decode cL_law 335 = .ok (.if_icmp .eq 5, 3) := by decide +kernel
theorem dL_law_338 : decode cL_law 338 = .ok (.iconst 0, 1) := by decide +kernel
theorem dL_law_339 : decode cL_law 339 = .ok (.ireturn, 1) := by decide +kernel
theorem dL_law_340 : decode cL_law 340 = .ok (.iload 5, 2) := by decide +kernel
theorem dL_law_342 : decode cL_law 342 = .ok (.ifCond .ne 15, 3) := by decide +kernel
theorem dL_law_345 : decode cL_law 345 = .ok (.aload_n 3, 1) := by decide +kernel
theorem dL_law_346 : decode cL_law 346 = .ok (.iconst 0, 1) := by decide +kernel
theorem dL_law_347 : decode cL_law 347 = .ok (.laload, 1) := by decide +kernel
theorem dL_law_348 : decode cL_law 348 = .ok (.iload 6, 2) := by decide +kernel
theorem dL_law_350 : decode cL_law 350 = .ok (.i2l, 1) := by decide +kernel
theorem dL_law_351 : decode cL_law 351 = .ok (.lcmp, 1) := by decide +kernel
theorem dL_law_352 : decode cL_law 352 = .ok (.ifCond .eq 5, 3) := by decide +kernel
theorem dL_law_355 : decode cL_law 355 = .ok (.iconst 0, 1) := by decide +kernel
theorem dL_law_356 : decode cL_law 356 = .ok (.ireturn, 1) := by decide +kernel
theorem dL_law_357 : decode cL_law 357 = .ok (.goto 1319, 3) := by decide +kernel
theorem dL_law_360 : decode cL_law 360 = .ok (.aload_n 1, 1) := by decide +kernel
theorem dL_law_361 : decode cL_law 361 = .ok (.aload_n 0, 1) := by decide +kernel
theorem dL_law_362 : decode cL_law 362 = .ok (.iload 4, 2) := by decide +kernel
theorem dL_law_364 : decode cL_law 364 = .ok (.iconst 1, 1) := by decide +kernel
theorem dL_law_365 : decode cL_law 365 = .ok (.iadd, 1) := by decide +kernel
theorem dL_law_366 : decode cL_law 366 = .ok (.iaload, 1) := by decide +kernel
theorem dL_law_367 : decode cL_law 367 = .ok (.aload_n 3, 1) := by decide +kernel
theorem dL_law_368 : decode cL_law 368 = .ok (.invokestatic 96, 3) := by decide +kernel
theorem dL_law_371 : decode cL_law 371 = .ok (.istore 5, 2) := by decide +kernel
theorem dL_law_373 : decode cL_law 373 = .ok (.aload_n 2, 1) := by decide +kernel
theorem dL_law_374 : decode cL_law 374 = .ok (.aload_n 0, 1) := by decide +kernel
theorem dL_law_375 : decode cL_law 375 = .ok (.iload 4, 2) := by decide +kernel
theorem dL_law_377 : decode cL_law 377 = .ok (.iconst 1, 1) := by decide +kernel
theorem dL_law_378 : decode cL_law 378 = .ok (.iadd, 1) := by decide +kernel
theorem dL_law_379 : decode cL_law 379 = .ok (.iaload, 1) := by decide +kernel
theorem dL_law_380 : decode cL_law 380 = .ok (.invokevirtual 99, 3) := by decide +kernel
theorem dL_law_383 : decode cL_law 383 = .ok (.istore 6, 2) := by decide +kernel
theorem dL_law_385 : decode cL_law 385 = .ok (.aload_n 2, 1) := by decide +kernel
theorem dL_law_386 : decode cL_law 386 = .ok (.invokevirtual 88, 3) := by decide +kernel
theorem dL_law_389 : decode cL_law 389 = .ok (.iload 5, 2) := by decide +kernel
theorem dL_law_391 : decode cL_law 391 = .ok (.if_icmp .eq 5, 3) := by decide +kernel
theorem dL_law_394 : decode cL_law 394 = .ok (.iconst 0, 1) := by decide +kernel
theorem dL_law_395 : decode cL_law 395 = .ok (.ireturn, 1) := by decide +kernel
theorem dL_law_396 : decode cL_law 396 = .ok (.iload 5, 2) := by decide +kernel
theorem dL_law_398 : decode cL_law 398 = .ok (.ifCond .ne 22, 3) := by decide +kernel
theorem dL_law_401 : decode cL_law 401 = .ok (.aload_n 3, 1) := by decide +kernel
theorem dL_law_402 : decode cL_law 402 = .ok (.iconst 0, 1) := by decide +kernel
theorem dL_law_403 : decode cL_law 403 = .ok (.laload, 1) := by decide +kernel
theorem dL_law_404 : decode cL_law 404 = .ok (.iload 6, 2) := by decide +kernel
theorem dL_law_406 : decode cL_law 406 = .ok (.ifCond .eq 7, 3) := by decide +kernel
theorem dL_law_409 : decode cL_law 409 = .ok (.lconst 1, 1) := by decide +kernel
theorem dL_law_410 : decode cL_law 410 = .ok (.goto 4, 3) := by decide +kernel
theorem dL_law_413 : decode cL_law 413 = .ok (.lconst 0, 1) := by decide +kernel
theorem dL_law_414 : decode cL_law 414 = .ok (.lcmp, 1) := by decide +kernel
theorem dL_law_415 : decode cL_law 415 = .ok (.ifCond .eq 5, 3) := by decide +kernel
theorem dL_law_418 : decode cL_law 418 = .ok (.iconst 0, 1) := by decide +kernel
theorem dL_law_419 : decode cL_law 419 = .ok (.ireturn, 1) := by decide +kernel
theorem dL_law_420 : decode cL_law 420 = .ok (.goto 1256, 3) := by decide +kernel
theorem dL_law_423 : decode cL_law 423 = .ok (.aload_n 1, 1) := by decide +kernel
theorem dL_law_424 : decode cL_law 424 = .ok (.aload_n 0, 1) := by decide +kernel
theorem dL_law_425 : decode cL_law 425 = .ok (.iload 4, 2) := by decide +kernel
theorem dL_law_427 : decode cL_law 427 = .ok (.iconst 1, 1) := by decide +kernel
theorem dL_law_428 : decode cL_law 428 = .ok (.iadd, 1) := by decide +kernel
theorem dL_law_429 : decode cL_law 429 = .ok (.iaload, 1) := by decide +kernel
theorem dL_law_430 : decode cL_law 430 = .ok (.aload_n 0, 1) := by decide +kernel
theorem dL_law_431 : decode cL_law 431 = .ok (.iload 4, 2) := by decide +kernel
theorem dL_law_433 : decode cL_law 433 = .ok (.iconst 2, 1) := by decide +kernel
theorem dL_law_434 : decode cL_law 434 = .ok (.iadd, 1) := by decide +kernel
theorem dL_law_435 : decode cL_law 435 = .ok (.iaload, 1) := by decide +kernel
theorem dL_law_436 : decode cL_law 436 = .ok (.aload_n 3, 1) := by decide +kernel
theorem dL_law_437 : decode cL_law 437 = .ok (.invokestatic 100, 3) := by decide +kernel
theorem dL_law_440 : decode cL_law 440 = .ok (.istore 5, 2) := by decide +kernel
theorem dL_law_442 : decode cL_law 442 = .ok (.aload_n 2, 1) := by decide +kernel
theorem dL_law_443 : decode cL_law 443 = .ok (.aload_n 0, 1) := by decide +kernel
theorem dL_law_444 : decode cL_law 444 = .ok (.iload 4, 2) := by decide +kernel
theorem dL_law_446 : decode cL_law 446 = .ok (.iconst 1, 1) := by decide +kernel
theorem dL_law_447 : decode cL_law 447 = .ok (.iadd, 1) := by decide +kernel
theorem dL_law_448 : decode cL_law 448 = .ok (.iaload, 1) := by decide +kernel
theorem dL_law_449 : decode cL_law 449 = .ok (.aload_n 0, 1) := by decide +kernel
theorem dL_law_450 : decode cL_law 450 = .ok (.iload 4, 2) := by decide +kernel
theorem dL_law_452 : decode cL_law 452 = .ok (.iconst 2, 1) := by decide +kernel
theorem dL_law_453 : decode cL_law 453 = .ok (.iadd, 1) := by decide +kernel
theorem dL_law_454 : decode cL_law 454 = .ok (.iaload, 1) := by decide +kernel
theorem dL_law_455 : decode cL_law 455 = .ok (.invokevirtual 103, 3) := by decide +kernel
theorem dL_law_458 : decode cL_law 458 = .ok (.istore 6, 2) := by decide +kernel
theorem dL_law_460 : decode cL_law 460 = .ok (.aload_n 2, 1) := by decide +kernel
theorem dL_law_461 : decode cL_law 461 = .ok (.invokevirtual 88, 3) := by decide +kernel
theorem dL_law_464 : decode cL_law 464 = .ok (.iload 5, 2) := by decide +kernel
theorem dL_law_466 : decode cL_law 466 = .ok (.if_icmp .eq 5, 3) := by decide +kernel
theorem dL_law_469 : decode cL_law 469 = .ok (.iconst 0, 1) := by decide +kernel
theorem dL_law_470 : decode cL_law 470 = .ok (.ireturn, 1) := by decide +kernel
theorem dL_law_471 : decode cL_law 471 = .ok (.iload 5, 2) := by decide +kernel
theorem dL_law_473 : decode cL_law 473 = .ok (.ifCond .ne 15, 3) := by decide +kernel
theorem dL_law_476 : decode cL_law 476 = .ok (.aload_n 3, 1) := by decide +kernel
theorem dL_law_477 : decode cL_law 477 = .ok (.iconst 0, 1) := by decide +kernel
theorem dL_law_478 : decode cL_law 478 = .ok (.laload, 1) := by decide +kernel
theorem dL_law_479 : decode cL_law 479 = .ok (.iload 6, 2) := by decide +kernel
theorem dL_law_481 : decode cL_law 481 = .ok (.i2l, 1) := by decide +kernel
theorem dL_law_482 : decode cL_law 482 = .ok (.lcmp, 1) := by decide +kernel
theorem dL_law_483 : decode cL_law 483 = .ok (.ifCond .eq 5, 3) := by decide +kernel
theorem dL_law_486 : decode cL_law 486 = .ok (.iconst 0, 1) := by decide +kernel
theorem dL_law_487 : decode cL_law 487 = .ok (.ireturn, 1) := by decide +kernel
theorem dL_law_488 : decode cL_law 488 = .ok (.goto 1188, 3) := by decide +kernel
theorem dL_law_491 : decode cL_law 491 = .ok (.aload_n 1, 1) := by decide +kernel
theorem dL_law_492 : decode cL_law 492 = .ok (.aload_n 0, 1) := by decide +kernel
theorem dL_law_493 : decode cL_law 493 = .ok (.iload 4, 2) := by decide +kernel
theorem dL_law_495 : decode cL_law 495 = .ok (.iconst 1, 1) := by decide +kernel
theorem dL_law_496 : decode cL_law 496 = .ok (.iadd, 1) := by decide +kernel
theorem dL_law_497 : decode cL_law 497 = .ok (.iaload, 1) := by decide +kernel
theorem dL_law_498 : decode cL_law 498 = .ok (.aload_n 0, 1) := by decide +kernel
theorem dL_law_499 : decode cL_law 499 = .ok (.iload 4, 2) := by decide +kernel
theorem dL_law_501 : decode cL_law 501 = .ok (.iconst 2, 1) := by decide +kernel
theorem dL_law_502 : decode cL_law 502 = .ok (.iadd, 1) := by decide +kernel
theorem dL_law_503 : decode cL_law 503 = .ok (.iaload, 1) := by decide +kernel
theorem dL_law_504 : decode cL_law 504 = .ok (.aload_n 3, 1) := by decide +kernel
theorem dL_law_505 : decode cL_law 505 = .ok (.invokestatic 104, 3) := by decide +kernel
theorem dL_law_508 : decode cL_law 508 = .ok (.istore 5, 2) := by decide +kernel
theorem dL_law_510 : decode cL_law 510 = .ok (.aload_n 2, 1) := by decide +kernel
theorem dL_law_511 : decode cL_law 511 = .ok (.aload_n 0, 1) := by decide +kernel
theorem dL_law_512 : decode cL_law 512 = .ok (.iload 4, 2) := by decide +kernel
theorem dL_law_514 : decode cL_law 514 = .ok (.iconst 1, 1) := by decide +kernel
theorem dL_law_515 : decode cL_law 515 = .ok (.iadd, 1) := by decide +kernel
theorem dL_law_516 : decode cL_law 516 = .ok (.iaload, 1) := by decide +kernel
theorem dL_law_517 : decode cL_law 517 = .ok (.aload_n 0, 1) := by decide +kernel
theorem dL_law_518 : decode cL_law 518 = .ok (.iload 4, 2) := by decide +kernel
theorem dL_law_520 : decode cL_law 520 = .ok (.iconst 2, 1) := by decide +kernel
theorem dL_law_521 : decode cL_law 521 = .ok (.iadd, 1) := by decide +kernel
theorem dL_law_522 : decode cL_law 522 = .ok (.iaload, 1) := by decide +kernel
theorem dL_law_523 : decode cL_law 523 = .ok (.invokevirtual 106, 3) := by decide +kernel
theorem dL_law_526 : decode cL_law 526 = .ok (.istore 6, 2) := by decide +kernel
theorem dL_law_528 : decode cL_law 528 = .ok (.aload_n 2, 1) := by decide +kernel
theorem dL_law_529 : decode cL_law 529 = .ok (.invokevirtual 88, 3) := by decide +kernel
theorem dL_law_532 : decode cL_law 532 = .ok (.iload 5, 2) := by decide +kernel
theorem dL_law_534 : decode cL_law 534 = .ok (.if_icmp .eq 5, 3) := by decide +kernel
theorem dL_law_537 : decode cL_law 537 = .ok (.iconst 0, 1) := by decide +kernel
theorem dL_law_538 : decode cL_law 538 = .ok (.ireturn, 1) := by decide +kernel
theorem dL_law_539 : decode cL_law 539 = .ok (.iload 5, 2) := by decide +kernel
theorem dL_law_541 : decode cL_law 541 = .ok (.ifCond .ne 15, 3) := by decide +kernel
theorem dL_law_544 : decode cL_law 544 = .ok (.aload_n 3, 1) := by decide +kernel
theorem dL_law_545 : decode cL_law 545 = .ok (.iconst 0, 1) := by decide +kernel
theorem dL_law_546 : decode cL_law 546 = .ok (.laload, 1) := by decide +kernel
theorem dL_law_547 : decode cL_law 547 = .ok (.iload 6, 2) := by decide +kernel
theorem dL_law_549 : decode cL_law 549 = .ok (.i2l, 1) := by decide +kernel
theorem dL_law_550 : decode cL_law 550 = .ok (.lcmp, 1) := by decide +kernel
theorem dL_law_551 : decode cL_law 551 = .ok (.ifCond .eq 5, 3) := by decide +kernel
theorem dL_law_554 : decode cL_law 554 = .ok (.iconst 0, 1) := by decide +kernel
theorem dL_law_555 : decode cL_law 555 = .ok (.ireturn, 1) := by decide +kernel
theorem dL_law_556 : decode cL_law 556 = .ok (.goto 1120, 3) := by decide +kernel
theorem dL_law_559 : decode cL_law 559 = .ok (.aload_n 1, 1) := by decide +kernel
theorem dL_law_560 : decode cL_law 560 = .ok (.aload_n 0, 1) := by decide +kernel
theorem dL_law_561 : decode cL_law 561 = .ok (.iload 4, 2) := by decide +kernel
theorem dL_law_563 : decode cL_law 563 = .ok (.iconst 1, 1) := by decide +kernel
theorem dL_law_564 : decode cL_law 564 = .ok (.iadd, 1) := by decide +kernel
theorem dL_law_565 : decode cL_law 565 = .ok (.iaload, 1) := by decide +kernel
theorem dL_law_566 : decode cL_law 566 = .ok (.aload_n 3, 1) := by decide +kernel
theorem dL_law_567 : decode cL_law 567 = .ok (.invokestatic 107, 3) := by decide +kernel
theorem dL_law_570 : decode cL_law 570 = .ok (.istore 5, 2) := by decide +kernel
theorem dL_law_572 : decode cL_law 572 = .ok (.aload_n 2, 1) := by decide +kernel
theorem dL_law_573 : decode cL_law 573 = .ok (.aload_n 0, 1) := by decide +kernel
theorem dL_law_574 : decode cL_law 574 = .ok (.iload 4, 2) := by decide +kernel
theorem dL_law_576 : decode cL_law 576 = .ok (.iconst 1, 1) := by decide +kernel
theorem dL_law_577 : decode cL_law 577 = .ok (.iadd, 1) := by decide +kernel
theorem dL_law_578 : decode cL_law 578 = .ok (.iaload, 1) := by decide +kernel
theorem dL_law_579 : decode cL_law 579 = .ok (.invokevirtual 109, 3) := by decide +kernel
theorem dL_law_582 : decode cL_law 582 = .ok (.istore 6, 2) := by decide +kernel
theorem dL_law_584 : decode cL_law 584 = .ok (.aload_n 2, 1) := by decide +kernel
theorem dL_law_585 : decode cL_law 585 = .ok (.invokevirtual 88, 3) := by decide +kernel
theorem dL_law_588 : decode cL_law 588 = .ok (.iload 5, 2) := by decide +kernel
theorem dL_law_590 : decode cL_law 590 = .ok (.if_icmp .eq 5, 3) := by decide +kernel
theorem dL_law_593 : decode cL_law 593 = .ok (.iconst 0, 1) := by decide +kernel
theorem dL_law_594 : decode cL_law 594 = .ok (.ireturn, 1) := by decide +kernel
theorem dL_law_595 : decode cL_law 595 = .ok (.iload 5, 2) := by decide +kernel
theorem dL_law_597 : decode cL_law 597 = .ok (.ifCond .ne 22, 3) := by decide +kernel
theorem dL_law_600 : decode cL_law 600 = .ok (.aload_n 3, 1) := by decide +kernel
theorem dL_law_601 : decode cL_law 601 = .ok (.iconst 0, 1) := by decide +kernel
theorem dL_law_602 : decode cL_law 602 = .ok (.laload, 1) := by decide +kernel
theorem dL_law_603 : decode cL_law 603 = .ok (.iload 6, 2) := by decide +kernel
theorem dL_law_605 : decode cL_law 605 = .ok (.ifCond .eq 7, 3) := by decide +kernel
theorem dL_law_608 : decode cL_law 608 = .ok (.lconst 1, 1) := by decide +kernel
theorem dL_law_609 : decode cL_law 609 = .ok (.goto 4, 3) := by decide +kernel
theorem dL_law_612 : decode cL_law 612 = .ok (.lconst 0, 1) := by decide +kernel
theorem dL_law_613 : decode cL_law 613 = .ok (.lcmp, 1) := by decide +kernel
theorem dL_law_614 : decode cL_law 614 = .ok (.ifCond .eq 5, 3) := by decide +kernel
theorem dL_law_617 : decode cL_law 617 = .ok (.iconst 0, 1) := by decide +kernel
theorem dL_law_618 : decode cL_law 618 = .ok (.ireturn, 1) := by decide +kernel
theorem dL_law_619 : decode cL_law 619 = .ok (.goto 1057, 3) := by decide +kernel
theorem dL_law_622 : decode cL_law 622 = .ok (.aload_n 1, 1) := by decide +kernel
theorem dL_law_623 : decode cL_law 623 = .ok (.aload_n 0, 1) := by decide +kernel
theorem dL_law_624 : decode cL_law 624 = .ok (.iload 4, 2) := by decide +kernel
theorem dL_law_626 : decode cL_law 626 = .ok (.iconst 1, 1) := by decide +kernel
theorem dL_law_627 : decode cL_law 627 = .ok (.iadd, 1) := by decide +kernel
theorem dL_law_628 : decode cL_law 628 = .ok (.iaload, 1) := by decide +kernel
theorem dL_law_629 : decode cL_law 629 = .ok (.aload_n 3, 1) := by decide +kernel
theorem dL_law_630 : decode cL_law 630 = .ok (.invokestatic 110, 3) := by decide +kernel
theorem dL_law_633 : decode cL_law 633 = .ok (.istore 5, 2) := by decide +kernel
theorem dL_law_635 : decode cL_law 635 = .ok (.aload_n 2, 1) := by decide +kernel
theorem dL_law_636 : decode cL_law 636 = .ok (.aload_n 0, 1) := by decide +kernel
theorem dL_law_637 : decode cL_law 637 = .ok (.iload 4, 2) := by decide +kernel
theorem dL_law_639 : decode cL_law 639 = .ok (.iconst 1, 1) := by decide +kernel
theorem dL_law_640 : decode cL_law 640 = .ok (.iadd, 1) := by decide +kernel
theorem dL_law_641 : decode cL_law 641 = .ok (.iaload, 1) := by decide +kernel
theorem dL_law_642 : decode cL_law 642 = .ok (.invokevirtual 112, 3) := by decide +kernel
theorem dL_law_645 : decode cL_law 645 = .ok (.istore 6, 2) := by decide +kernel
theorem dL_law_647 : decode cL_law 647 = .ok (.aload_n 2, 1) := by decide +kernel
theorem dL_law_648 : decode cL_law 648 = .ok (.invokevirtual 88, 3) := by decide +kernel
theorem dL_law_651 : decode cL_law 651 = .ok (.iload 5, 2) := by decide +kernel
theorem dL_law_653 : decode cL_law 653 = .ok (.if_icmp .eq 5, 3) := by decide +kernel
theorem dL_law_656 : decode cL_law 656 = .ok (.iconst 0, 1) := by decide +kernel
theorem dL_law_657 : decode cL_law 657 = .ok (.ireturn, 1) := by decide +kernel
theorem dL_law_658 : decode cL_law 658 = .ok (.iload 5, 2) := by decide +kernel
theorem dL_law_660 : decode cL_law 660 = .ok (.ifCond .ne 15, 3) := by decide +kernel
theorem dL_law_663 : decode cL_law 663 = .ok (.aload_n 3, 1) := by decide +kernel
theorem dL_law_664 : decode cL_law 664 = .ok (.iconst 0, 1) := by decide +kernel
theorem dL_law_665 : decode cL_law 665 = .ok (.laload, 1) := by decide +kernel
theorem dL_law_666 : decode cL_law 666 = .ok (.iload 6, 2) := by decide +kernel
theorem dL_law_668 : decode cL_law 668 = .ok (.i2l, 1) := by decide +kernel
theorem dL_law_669 : decode cL_law 669 = .ok (.lcmp, 1) := by decide +kernel
theorem dL_law_670 : decode cL_law 670 = .ok (.ifCond .eq 5, 3) := by decide +kernel
theorem dL_law_673 : decode cL_law 673 = .ok (.iconst 0, 1) := by decide +kernel
theorem dL_law_674 : decode cL_law 674 = .ok (.ireturn, 1) := by decide +kernel
theorem dL_law_675 : decode cL_law 675 = .ok (.goto 1001, 3) := by decide +kernel
theorem dL_law_678 : decode cL_law 678 = .ok (.aload_n 1, 1) := by decide +kernel
theorem dL_law_679 : decode cL_law 679 = .ok (.invokevirtual 113, 3) := by decide +kernel
theorem dL_law_682 : decode cL_law 682 = .ok (.aload_n 2, 1) := by decide +kernel
theorem dL_law_683 : decode cL_law 683 = .ok (.invokevirtual 116, 3) := by decide +kernel
theorem dL_law_686 : decode cL_law 686 = .ok (.if_icmp .eq 990, 3) := by decide +kernel
theorem dL_law_689 : decode cL_law 689 = .ok (.iconst 0, 1) := by decide +kernel
theorem dL_law_690 : decode cL_law 690 = .ok (.ireturn, 1) := by decide +kernel
theorem dL_law_691 : decode cL_law 691 = .ok (.aload_n 1, 1) := by decide +kernel
theorem dL_law_692 : decode cL_law 692 = .ok (.invokevirtual 117, 3) := by decide +kernel
theorem dL_law_695 : decode cL_law 695 = .ok (.aload_n 2, 1) := by decide +kernel
theorem dL_law_696 : decode cL_law 696 = .ok (.invokevirtual 120, 3) := by decide +kernel
theorem dL_law_699 : decode cL_law 699 = .ok (.if_icmp .eq 977, 3) := by decide +kernel
theorem dL_law_702 : decode cL_law 702 = .ok (.iconst 0, 1) := by decide +kernel
theorem dL_law_703 : decode cL_law 703 = .ok (.ireturn, 1) := by decide +kernel
theorem dL_law_704 : decode cL_law 704 = .ok (.aload_n 1, 1) := by decide +kernel
theorem dL_law_705 : decode cL_law 705 = .ok (.invokevirtual 121, 3) := by decide +kernel
theorem dL_law_708 : decode cL_law 708 = .ok (.aload_n 2, 1) := by decide +kernel
theorem dL_law_709 : decode cL_law 709 = .ok (.invokevirtual 124, 3) := by decide +kernel
theorem dL_law_712 : decode cL_law 712 = .ok (.if_icmp .eq 964, 3) := by decide +kernel
theorem dL_law_715 : decode cL_law 715 = .ok (.iconst 0, 1) := by decide +kernel
theorem dL_law_716 : decode cL_law 716 = .ok (.ireturn, 1) := by decide +kernel
theorem dL_law_717 : decode cL_law 717 = .ok (.aload_n 1, 1) := by decide +kernel
theorem dL_law_718 : decode cL_law 718 = .ok (.invokevirtual 125, 3) := by decide +kernel
theorem dL_law_721 : decode cL_law 721 = .ok (.aload_n 2, 1) := by decide +kernel
theorem dL_law_722 : decode cL_law 722 = .ok (.invokevirtual 129, 3) := by decide +kernel
theorem dL_law_725 : decode cL_law 725 = .ok (.if_icmp .eq 951, 3) := by decide +kernel
theorem dL_law_728 : decode cL_law 728 = .ok (.iconst 0, 1) := by decide +kernel
theorem dL_law_729 : decode cL_law 729 = .ok (.ireturn, 1) := by decide +kernel
theorem dL_law_730 : decode cL_law 730 = .ok (.aload_n 1, 1) := by decide +kernel
theorem dL_law_731 : decode cL_law 731 = .ok (.invokevirtual 130, 3) := by decide +kernel
theorem dL_law_734 : decode cL_law 734 = .ok (.aload_n 2, 1) := by decide +kernel
theorem dL_law_735 : decode cL_law 735 = .ok (.invokevirtual 133, 3) := by decide +kernel
theorem dL_law_738 : decode cL_law 738 = .ok (.if_icmp .eq 938, 3) := by decide +kernel
theorem dL_law_741 : decode cL_law 741 = .ok (.iconst 0, 1) := by decide +kernel
theorem dL_law_742 : decode cL_law 742 = .ok (.ireturn, 1) := by decide +kernel
theorem dL_law_743 : decode cL_law 743 = .ok (.aload_n 1, 1) := by decide +kernel
theorem dL_law_744 : decode cL_law 744 = .ok (.invokevirtual 134, 3) := by decide +kernel
theorem dL_law_747 : decode cL_law 747 = .ok (.aload_n 2, 1) := by decide +kernel
theorem dL_law_748 : decode cL_law 748 = .ok (.invokevirtual 137, 3) := by decide +kernel
theorem dL_law_751 : decode cL_law 751 = .ok (.if_icmp .eq 925, 3) := by decide +kernel
theorem dL_law_754 : decode cL_law 754 = .ok (.iconst 0, 1) := by decide +kernel
theorem dL_law_755 : decode cL_law 755 = .ok (.ireturn, 1) := by decide +kernel
theorem dL_law_756 : decode cL_law 756 = .ok (.aload_n 1, 1) := by decide +kernel
theorem dL_law_757 : decode cL_law 757 = .ok (.invokevirtual 138, 3) := by decide +kernel
theorem dL_law_760 : decode cL_law 760 = .ok (.aload_n 2, 1) := by decide +kernel
theorem dL_law_761 : decode cL_law 761 = .ok (.invokevirtual 141, 3) := by decide +kernel
theorem dL_law_764 : decode cL_law 764 = .ok (.if_icmp .eq 912, 3) := by decide +kernel
theorem dL_law_767 : decode cL_law 767 = .ok (.iconst 0, 1) := by decide +kernel
theorem dL_law_768 : decode cL_law 768 = .ok (.ireturn, 1) := by decide +kernel
theorem dL_law_769 : decode cL_law 769 = .ok (.aload_n 1, 1) := by decide +kernel
theorem dL_law_770 : decode cL_law 770 = .ok (.invokevirtual 142, 3) := by decide +kernel
theorem dL_law_773 : decode cL_law 773 = .ok (.aload_n 2, 1) := by decide +kernel
theorem dL_law_774 : decode cL_law 774 = .ok (.invokevirtual 145, 3) := by decide +kernel
theorem dL_law_777 : decode cL_law 777 = .ok (.if_icmp .eq 899, 3) := by decide +kernel
theorem dL_law_780 : decode cL_law 780 = .ok (.iconst 0, 1) := by decide +kernel
theorem dL_law_781 : decode cL_law 781 = .ok (.ireturn, 1) := by decide +kernel
theorem dL_law_782 : decode cL_law 782 = .ok (.aload_n 1, 1) := by decide +kernel
theorem dL_law_783 : decode cL_law 783 = .ok (.invokevirtual 146, 3) := by decide +kernel
theorem dL_law_786 : decode cL_law 786 = .ok (.aload_n 2, 1) := by decide +kernel
theorem dL_law_787 : decode cL_law 787 = .ok (.invokevirtual 149, 3) := by decide +kernel
theorem dL_law_790 : decode cL_law 790 = .ok (.if_icmp .eq 886, 3) := by decide +kernel
theorem dL_law_793 : decode cL_law 793 = .ok (.iconst 0, 1) := by decide +kernel
theorem dL_law_794 : decode cL_law 794 = .ok (.ireturn, 1) := by decide +kernel
theorem dL_law_795 : decode cL_law 795 = .ok (.aload_n 1, 1) := by decide +kernel
theorem dL_law_796 : decode cL_law 796 = .ok (.aload_n 0, 1) := by decide +kernel
theorem dL_law_797 : decode cL_law 797 = .ok (.iload 4, 2) := by decide +kernel
theorem dL_law_799 : decode cL_law 799 = .ok (.iconst 1, 1) := by decide +kernel
theorem dL_law_800 : decode cL_law 800 = .ok (.iadd, 1) := by decide +kernel
theorem dL_law_801 : decode cL_law 801 = .ok (.iaload, 1) := by decide +kernel
theorem dL_law_802 : decode cL_law 802 = .ok (.aload_n 3, 1) := by decide +kernel
theorem dL_law_803 : decode cL_law 803 = .ok (.invokestatic 150, 3) := by decide +kernel
theorem dL_law_806 : decode cL_law 806 = .ok (.istore 5, 2) := by decide +kernel
theorem dL_law_808 : decode cL_law 808 = .ok (.aload_n 2, 1) := by decide +kernel
theorem dL_law_809 : decode cL_law 809 = .ok (.aload_n 0, 1) := by decide +kernel
theorem dL_law_810 : decode cL_law 810 = .ok (.iload 4, 2) := by decide +kernel
theorem dL_law_812 : decode cL_law 812 = .ok (.iconst 1, 1) := by decide +kernel
theorem dL_law_813 : decode cL_law 813 = .ok (.iadd, 1) := by decide +kernel
theorem dL_law_814 : decode cL_law 814 = .ok (.iaload, 1) := by decide +kernel
theorem dL_law_815 : decode cL_law 815 = .ok (.invokevirtual 152, 3) := by decide +kernel
theorem dL_law_818 : decode cL_law 818 = .ok (.istore 6, 2) := by decide +kernel
theorem dL_law_820 : decode cL_law 820 = .ok (.aload_n 2, 1) := by decide +kernel
theorem dL_law_821 : decode cL_law 821 = .ok (.invokevirtual 88, 3) := by decide +kernel
theorem dL_law_824 : decode cL_law 824 = .ok (.iload 5, 2) := by decide +kernel
theorem dL_law_826 : decode cL_law 826 = .ok (.if_icmp .eq 5, 3) := by decide +kernel
theorem dL_law_829 : decode cL_law 829 = .ok (.iconst 0, 1) := by decide +kernel
theorem dL_law_830 : decode cL_law 830 = .ok (.ireturn, 1) := by decide +kernel
theorem dL_law_831 : decode cL_law 831 = .ok (.iload 5, 2) := by decide +kernel
theorem dL_law_833 : decode cL_law 833 = .ok (.ifCond .ne 22, 3) := by decide +kernel
theorem dL_law_836 : decode cL_law 836 = .ok (.aload_n 3, 1) := by decide +kernel
theorem dL_law_837 : decode cL_law 837 = .ok (.iconst 0, 1) := by decide +kernel
theorem dL_law_838 : decode cL_law 838 = .ok (.laload, 1) := by decide +kernel
theorem dL_law_839 : decode cL_law 839 = .ok (.iload 6, 2) := by decide +kernel
theorem dL_law_841 : decode cL_law 841 = .ok (.ifCond .eq 7, 3) := by decide +kernel
theorem dL_law_844 : decode cL_law 844 = .ok (.lconst 1, 1) := by decide +kernel
theorem dL_law_845 : decode cL_law 845 = .ok (.goto 4, 3) := by decide +kernel
theorem dL_law_848 : decode cL_law 848 = .ok (.lconst 0, 1) := by decide +kernel
theorem dL_law_849 : decode cL_law 849 = .ok (.lcmp, 1) := by decide +kernel
theorem dL_law_850 : decode cL_law 850 = .ok (.ifCond .eq 5, 3) := by decide +kernel
theorem dL_law_853 : decode cL_law 853 = .ok (.iconst 0, 1) := by decide +kernel
theorem dL_law_854 : decode cL_law 854 = .ok (.ireturn, 1) := by decide +kernel
theorem dL_law_855 : decode cL_law 855 = .ok (.goto 821, 3) := by decide +kernel
theorem dL_law_858 : decode cL_law 858 = .ok (.aload_n 1, 1) := by decide +kernel
theorem dL_law_859 : decode cL_law 859 = .ok (.aload_n 0, 1) := by decide +kernel
theorem dL_law_860 : decode cL_law 860 = .ok (.iload 4, 2) := by decide +kernel
theorem dL_law_862 : decode cL_law 862 = .ok (.iconst 1, 1) := by decide +kernel
theorem dL_law_863 : decode cL_law 863 = .ok (.iadd, 1) := by decide +kernel
theorem dL_law_864 : decode cL_law 864 = .ok (.iaload, 1) := by decide +kernel
theorem dL_law_865 : decode cL_law 865 = .ok (.aload_n 3, 1) := by decide +kernel
theorem dL_law_866 : decode cL_law 866 = .ok (.invokestatic 153, 3) := by decide +kernel
theorem dL_law_869 : decode cL_law 869 = .ok (.istore 5, 2) := by decide +kernel
theorem dL_law_871 : decode cL_law 871 = .ok (.aload_n 2, 1) := by decide +kernel
theorem dL_law_872 : decode cL_law 872 = .ok (.aload_n 0, 1) := by decide +kernel
theorem dL_law_873 : decode cL_law 873 = .ok (.iload 4, 2) := by decide +kernel
theorem dL_law_875 : decode cL_law 875 = .ok (.iconst 1, 1) := by decide +kernel
theorem dL_law_876 : decode cL_law 876 = .ok (.iadd, 1) := by decide +kernel
theorem dL_law_877 : decode cL_law 877 = .ok (.iaload, 1) := by decide +kernel
theorem dL_law_878 : decode cL_law 878 = .ok (.invokevirtual 155, 3) := by decide +kernel
theorem dL_law_881 : decode cL_law 881 = .ok (.istore 6, 2) := by decide +kernel
theorem dL_law_883 : decode cL_law 883 = .ok (.aload_n 2, 1) := by decide +kernel
theorem dL_law_884 : decode cL_law 884 = .ok (.invokevirtual 88, 3) := by decide +kernel
theorem dL_law_887 : decode cL_law 887 = .ok (.iload 5, 2) := by decide +kernel
theorem dL_law_889 : decode cL_law 889 = .ok (.if_icmp .eq 5, 3) := by decide +kernel
theorem dL_law_892 : decode cL_law 892 = .ok (.iconst 0, 1) := by decide +kernel
theorem dL_law_893 : decode cL_law 893 = .ok (.ireturn, 1) := by decide +kernel
theorem dL_law_894 : decode cL_law 894 = .ok (.iload 5, 2) := by decide +kernel
theorem dL_law_896 : decode cL_law 896 = .ok (.ifCond .ne 15, 3) := by decide +kernel
theorem dL_law_899 : decode cL_law 899 = .ok (.aload_n 3, 1) := by decide +kernel
theorem dL_law_900 : decode cL_law 900 = .ok (.iconst 0, 1) := by decide +kernel
theorem dL_law_901 : decode cL_law 901 = .ok (.laload, 1) := by decide +kernel
theorem dL_law_902 : decode cL_law 902 = .ok (.iload 6, 2) := by decide +kernel
theorem dL_law_904 : decode cL_law 904 = .ok (.i2l, 1) := by decide +kernel
theorem dL_law_905 : decode cL_law 905 = .ok (.lcmp, 1) := by decide +kernel
theorem dL_law_906 : decode cL_law 906 = .ok (.ifCond .eq 5, 3) := by decide +kernel
theorem dL_law_909 : decode cL_law 909 = .ok (.iconst 0, 1) := by decide +kernel
theorem dL_law_910 : decode cL_law 910 = .ok (.ireturn, 1) := by decide +kernel
theorem dL_law_911 : decode cL_law 911 = .ok (.goto 765, 3) := by decide +kernel
theorem dL_law_914 : decode cL_law 914 = .ok (.aload_n 1, 1) := by decide +kernel
theorem dL_law_915 : decode cL_law 915 = .ok (.aload_n 0, 1) := by decide +kernel
theorem dL_law_916 : decode cL_law 916 = .ok (.iload 4, 2) := by decide +kernel
theorem dL_law_918 : decode cL_law 918 = .ok (.iconst 1, 1) := by decide +kernel
theorem dL_law_919 : decode cL_law 919 = .ok (.iadd, 1) := by decide +kernel
theorem dL_law_920 : decode cL_law 920 = .ok (.iaload, 1) := by decide +kernel
theorem dL_law_921 : decode cL_law 921 = .ok (.aload_n 3, 1) := by decide +kernel
theorem dL_law_922 : decode cL_law 922 = .ok (.invokestatic 156, 3) := by decide +kernel
theorem dL_law_925 : decode cL_law 925 = .ok (.istore 5, 2) := by decide +kernel
theorem dL_law_927 : decode cL_law 927 = .ok (.aload_n 2, 1) := by decide +kernel
theorem dL_law_928 : decode cL_law 928 = .ok (.aload_n 0, 1) := by decide +kernel
theorem dL_law_929 : decode cL_law 929 = .ok (.iload 4, 2) := by decide +kernel
theorem dL_law_931 : decode cL_law 931 = .ok (.iconst 1, 1) := by decide +kernel
theorem dL_law_932 : decode cL_law 932 = .ok (.iadd, 1) := by decide +kernel
theorem dL_law_933 : decode cL_law 933 = .ok (.iaload, 1) := by decide +kernel
theorem dL_law_934 : decode cL_law 934 = .ok (.invokevirtual 158, 3) := by decide +kernel
theorem dL_law_937 : decode cL_law 937 = .ok (.istore 6, 2) := by decide +kernel
theorem dL_law_939 : decode cL_law 939 = .ok (.aload_n 2, 1) := by decide +kernel
theorem dL_law_940 : decode cL_law 940 = .ok (.invokevirtual 88, 3) := by decide +kernel
theorem dL_law_943 : decode cL_law 943 = .ok (.iload 5, 2) := by decide +kernel
theorem dL_law_945 : decode cL_law 945 = .ok (.if_icmp .eq 5, 3) := by decide +kernel
theorem dL_law_948 : decode cL_law 948 = .ok (.iconst 0, 1) := by decide +kernel
theorem dL_law_949 : decode cL_law 949 = .ok (.ireturn, 1) := by decide +kernel
theorem dL_law_950 : decode cL_law 950 = .ok (.iload 5, 2) := by decide +kernel
theorem dL_law_952 : decode cL_law 952 = .ok (.ifCond .ne 15, 3) := by decide +kernel
theorem dL_law_955 : decode cL_law 955 = .ok (.aload_n 3, 1) := by decide +kernel
theorem dL_law_956 : decode cL_law 956 = .ok (.iconst 0, 1) := by decide +kernel
theorem dL_law_957 : decode cL_law 957 = .ok (.laload, 1) := by decide +kernel
theorem dL_law_958 : decode cL_law 958 = .ok (.iload 6, 2) := by decide +kernel
theorem dL_law_960 : decode cL_law 960 = .ok (.i2l, 1) := by decide +kernel
theorem dL_law_961 : decode cL_law 961 = .ok (.lcmp, 1) := by decide +kernel
theorem dL_law_962 : decode cL_law 962 = .ok (.ifCond .eq 5, 3) := by decide +kernel
theorem dL_law_965 : decode cL_law 965 = .ok (.iconst 0, 1) := by decide +kernel
theorem dL_law_966 : decode cL_law 966 = .ok (.ireturn, 1) := by decide +kernel
theorem dL_law_967 : decode cL_law 967 = .ok (.goto 709, 3) := by decide +kernel
theorem dL_law_970 : decode cL_law 970 = .ok (.aload_n 1, 1) := by decide +kernel
theorem dL_law_971 : decode cL_law 971 = .ok (.aload_n 0, 1) := by decide +kernel
theorem dL_law_972 : decode cL_law 972 = .ok (.iload 4, 2) := by decide +kernel
theorem dL_law_974 : decode cL_law 974 = .ok (.iconst 1, 1) := by decide +kernel
theorem dL_law_975 : decode cL_law 975 = .ok (.iadd, 1) := by decide +kernel
theorem dL_law_976 : decode cL_law 976 = .ok (.iaload, 1) := by decide +kernel
theorem dL_law_977 : decode cL_law 977 = .ok (.aload_n 3, 1) := by decide +kernel
theorem dL_law_978 : decode cL_law 978 = .ok (.invokestatic 159, 3) := by decide +kernel
theorem dL_law_981 : decode cL_law 981 = .ok (.istore 5, 2) := by decide +kernel
theorem dL_law_983 : decode cL_law 983 = .ok (.aload_n 2, 1) := by decide +kernel
theorem dL_law_984 : decode cL_law 984 = .ok (.aload_n 0, 1) := by decide +kernel
theorem dL_law_985 : decode cL_law 985 = .ok (.iload 4, 2) := by decide +kernel
theorem dL_law_987 : decode cL_law 987 = .ok (.iconst 1, 1) := by decide +kernel
theorem dL_law_988 : decode cL_law 988 = .ok (.iadd, 1) := by decide +kernel
theorem dL_law_989 : decode cL_law 989 = .ok (.iaload, 1) := by decide +kernel
theorem dL_law_990 : decode cL_law 990 = .ok (.invokevirtual 161, 3) := by decide +kernel
theorem dL_law_993 : decode cL_law 993 = .ok (.istore 6, 2) := by decide +kernel
theorem dL_law_995 : decode cL_law 995 = .ok (.aload_n 2, 1) := by decide +kernel
theorem dL_law_996 : decode cL_law 996 = .ok (.invokevirtual 88, 3) := by decide +kernel
theorem dL_law_999 : decode cL_law 999 = .ok (.iload 5, 2) := by decide +kernel
theorem dL_law_1001 : decode cL_law 1001 = .ok (.if_icmp .eq 5, 3) := by decide +kernel
theorem dL_law_1004 : decode cL_law 1004 = .ok (.iconst 0, 1) := by decide +kernel
theorem dL_law_1005 : decode cL_law 1005 = .ok (.ireturn, 1) := by decide +kernel
theorem dL_law_1006 : decode cL_law 1006 = .ok (.iload 5, 2) := by decide +kernel
theorem dL_law_1008 : decode cL_law 1008 = .ok (.ifCond .ne 22, 3) := by decide +kernel
theorem dL_law_1011 : decode cL_law 1011 = .ok (.aload_n 3, 1) := by decide +kernel
theorem dL_law_1012 : decode cL_law 1012 = .ok (.iconst 0, 1) := by decide +kernel
theorem dL_law_1013 : decode cL_law 1013 = .ok (.laload, 1) := by decide +kernel
theorem dL_law_1014 : decode cL_law 1014 = .ok (.iload 6, 2) := by decide +kernel
theorem dL_law_1016 : decode cL_law 1016 = .ok (.ifCond .eq 7, 3) := by decide +kernel
theorem dL_law_1019 : decode cL_law 1019 = .ok (.lconst 1, 1) := by decide +kernel
theorem dL_law_1020 : decode cL_law 1020 = .ok (.goto 4, 3) := by decide +kernel
theorem dL_law_1023 : decode cL_law 1023 = .ok (.lconst 0, 1) := by decide +kernel
theorem dL_law_1024 : decode cL_law 1024 = .ok (.lcmp, 1) := by decide +kernel
theorem dL_law_1025 : decode cL_law 1025 = .ok (.ifCond .eq 5, 3) := by decide +kernel
theorem dL_law_1028 : decode cL_law 1028 = .ok (.iconst 0, 1) := by decide +kernel
theorem dL_law_1029 : decode cL_law 1029 = .ok (.ireturn, 1) := by decide +kernel
theorem dL_law_1030 : decode cL_law 1030 = .ok (.goto 646, 3) := by decide +kernel
theorem dL_law_1033 : decode cL_law 1033 = .ok (.aload_n 1, 1) := by decide +kernel
theorem dL_law_1034 : decode cL_law 1034 = .ok (.aload_n 0, 1) := by decide +kernel
theorem dL_law_1035 : decode cL_law 1035 = .ok (.iload 4, 2) := by decide +kernel
theorem dL_law_1037 : decode cL_law 1037 = .ok (.iconst 1, 1) := by decide +kernel
theorem dL_law_1038 : decode cL_law 1038 = .ok (.iadd, 1) := by decide +kernel
theorem dL_law_1039 : decode cL_law 1039 = .ok (.iaload, 1) := by decide +kernel
theorem dL_law_1040 : decode cL_law 1040 = .ok (.aload_n 3, 1) := by decide +kernel
theorem dL_law_1041 : decode cL_law 1041 = .ok (.invokestatic 162, 3) := by decide +kernel
theorem dL_law_1044 : decode cL_law 1044 = .ok (.istore 5, 2) := by decide +kernel
theorem dL_law_1046 : decode cL_law 1046 = .ok (.aload_n 2, 1) := by decide +kernel
theorem dL_law_1047 : decode cL_law 1047 = .ok (.aload_n 0, 1) := by decide +kernel
theorem dL_law_1048 : decode cL_law 1048 = .ok (.iload 4, 2) := by decide +kernel
theorem dL_law_1050 : decode cL_law 1050 = .ok (.iconst 1, 1) := by decide +kernel
theorem dL_law_1051 : decode cL_law 1051 = .ok (.iadd, 1) := by decide +kernel
theorem dL_law_1052 : decode cL_law 1052 = .ok (.iaload, 1) := by decide +kernel
theorem dL_law_1053 : decode cL_law 1053 = .ok (.invokevirtual 164, 3) := by decide +kernel
theorem dL_law_1056 : decode cL_law 1056 = .ok (.istore 6, 2) := by decide +kernel
theorem dL_law_1058 : decode cL_law 1058 = .ok (.aload_n 2, 1) := by decide +kernel
theorem dL_law_1059 : decode cL_law 1059 = .ok (.invokevirtual 88, 3) := by decide +kernel
theorem dL_law_1062 : decode cL_law 1062 = .ok (.iload 5, 2) := by decide +kernel
theorem dL_law_1064 : decode cL_law 1064 = .ok (.if_icmp .eq 5, 3) := by decide +kernel
theorem dL_law_1067 : decode cL_law 1067 = .ok (.iconst 0, 1) := by decide +kernel
theorem dL_law_1068 : decode cL_law 1068 = .ok (.ireturn, 1) := by decide +kernel
theorem dL_law_1069 : decode cL_law 1069 = .ok (.iload 5, 2) := by decide +kernel
theorem dL_law_1071 : decode cL_law 1071 = .ok (.ifCond .ne 22, 3) := by decide +kernel
theorem dL_law_1074 : decode cL_law 1074 = .ok (.aload_n 3, 1) := by decide +kernel
theorem dL_law_1075 : decode cL_law 1075 = .ok (.iconst 0, 1) := by decide +kernel
theorem dL_law_1076 : decode cL_law 1076 = .ok (.laload, 1) := by decide +kernel
theorem dL_law_1077 : decode cL_law 1077 = .ok (.iload 6, 2) := by decide +kernel
theorem dL_law_1079 : decode cL_law 1079 = .ok (.ifCond .eq 7, 3) := by decide +kernel
theorem dL_law_1082 : decode cL_law 1082 = .ok (.lconst 1, 1) := by decide +kernel
theorem dL_law_1083 : decode cL_law 1083 = .ok (.goto 4, 3) := by decide +kernel
theorem dL_law_1086 : decode cL_law 1086 = .ok (.lconst 0, 1) := by decide +kernel
theorem dL_law_1087 : decode cL_law 1087 = .ok (.lcmp, 1) := by decide +kernel
theorem dL_law_1088 : decode cL_law 1088 = .ok (.ifCond .eq 5, 3) := by decide +kernel
theorem dL_law_1091 : decode cL_law 1091 = .ok (.iconst 0, 1) := by decide +kernel
theorem dL_law_1092 : decode cL_law 1092 = .ok (.ireturn, 1) := by decide +kernel
theorem dL_law_1093 : decode cL_law 1093 = .ok (.goto 583, 3) := by decide +kernel
theorem dL_law_1096 : decode cL_law 1096 = .ok (.aload_n 1, 1) := by decide +kernel
theorem dL_law_1097 : decode cL_law 1097 = .ok (.aload_n 0, 1) := by decide +kernel
theorem dL_law_1098 : decode cL_law 1098 = .ok (.iload 4, 2) := by decide +kernel
theorem dL_law_1100 : decode cL_law 1100 = .ok (.iconst 1, 1) := by decide +kernel
theorem dL_law_1101 : decode cL_law 1101 = .ok (.iadd, 1) := by decide +kernel
theorem dL_law_1102 : decode cL_law 1102 = .ok (.iaload, 1) := by decide +kernel
theorem dL_law_1103 : decode cL_law 1103 = .ok (.aload_n 3, 1) := by decide +kernel
theorem dL_law_1104 : decode cL_law 1104 = .ok (.invokestatic 165, 3) := by decide +kernel
theorem dL_law_1107 : decode cL_law 1107 = .ok (.istore 5, 2) := by decide +kernel
theorem dL_law_1109 : decode cL_law 1109 = .ok (.aload_n 2, 1) := by decide +kernel
theorem dL_law_1110 : decode cL_law 1110 = .ok (.aload_n 0, 1) := by decide +kernel
theorem dL_law_1111 : decode cL_law 1111 = .ok (.iload 4, 2) := by decide +kernel
theorem dL_law_1113 : decode cL_law 1113 = .ok (.iconst 1, 1) := by decide +kernel
theorem dL_law_1114 : decode cL_law 1114 = .ok (.iadd, 1) := by decide +kernel
theorem dL_law_1115 : decode cL_law 1115 = .ok (.iaload, 1) := by decide +kernel
theorem dL_law_1116 : decode cL_law 1116 = .ok (.invokevirtual 167, 3) := by decide +kernel
theorem dL_law_1119 : decode cL_law 1119 = .ok (.istore 6, 2) := by decide +kernel
theorem dL_law_1121 : decode cL_law 1121 = .ok (.aload_n 2, 1) := by decide +kernel
theorem dL_law_1122 : decode cL_law 1122 = .ok (.invokevirtual 88, 3) := by decide +kernel
theorem dL_law_1125 : decode cL_law 1125 = .ok (.iload 5, 2) := by decide +kernel
theorem dL_law_1127 : decode cL_law 1127 = .ok (.if_icmp .eq 5, 3) := by decide +kernel
theorem dL_law_1130 : decode cL_law 1130 = .ok (.iconst 0, 1) := by decide +kernel
theorem dL_law_1131 : decode cL_law 1131 = .ok (.ireturn, 1) := by decide +kernel
theorem dL_law_1132 : decode cL_law 1132 = .ok (.iload 5, 2) := by decide +kernel
theorem dL_law_1134 : decode cL_law 1134 = .ok (.ifCond .ne 15, 3) := by decide +kernel
theorem dL_law_1137 : decode cL_law 1137 = .ok (.aload_n 3, 1) := by decide +kernel
theorem dL_law_1138 : decode cL_law 1138 = .ok (.iconst 0, 1) := by decide +kernel
theorem dL_law_1139 : decode cL_law 1139 = .ok (.laload, 1) := by decide +kernel
theorem dL_law_1140 : decode cL_law 1140 = .ok (.iload 6, 2) := by decide +kernel
theorem dL_law_1142 : decode cL_law 1142 = .ok (.i2l, 1) := by decide +kernel
theorem dL_law_1143 : decode cL_law 1143 = .ok (.lcmp, 1) := by decide +kernel
theorem dL_law_1144 : decode cL_law 1144 = .ok (.ifCond .eq 5, 3) := by decide +kernel
theorem dL_law_1147 : decode cL_law 1147 = .ok (.iconst 0, 1) := by decide +kernel
theorem dL_law_1148 : decode cL_law 1148 = .ok (.ireturn, 1) := by decide +kernel
theorem dL_law_1149 : decode cL_law 1149 = .ok (.goto 527, 3) := by decide +kernel
theorem dL_law_1152 : decode cL_law 1152 = .ok (.aload_n 1, 1) := by decide +kernel
theorem dL_law_1153 : decode cL_law 1153 = .ok (.aload_n 0, 1) := by decide +kernel
theorem dL_law_1154 : decode cL_law 1154 = .ok (.iload 4, 2) := by decide +kernel
theorem dL_law_1156 : decode cL_law 1156 = .ok (.iconst 1, 1) := by decide +kernel
theorem dL_law_1157 : decode cL_law 1157 = .ok (.iadd, 1) := by decide +kernel
theorem dL_law_1158 : decode cL_law 1158 = .ok (.iaload, 1) := by decide +kernel
theorem dL_law_1159 : decode cL_law 1159 = .ok (.aload_n 0, 1) := by decide +kernel
theorem dL_law_1160 : decode cL_law 1160 = .ok (.iload 4, 2) := by decide +kernel
theorem dL_law_1162 : decode cL_law 1162 = .ok (.iconst 2, 1) := by decide +kernel
theorem dL_law_1163 : decode cL_law 1163 = .ok (.iadd, 1) := by decide +kernel
theorem dL_law_1164 : decode cL_law 1164 = .ok (.iaload, 1) := by decide +kernel
theorem dL_law_1165 : decode cL_law 1165 = .ok (.aload_n 3, 1) := by decide +kernel
theorem dL_law_1166 : decode cL_law 1166 = .ok (.invokestatic 168, 3) := by decide +kernel
theorem dL_law_1169 : decode cL_law 1169 = .ok (.istore 5, 2) := by decide +kernel
theorem dL_law_1171 : decode cL_law 1171 = .ok (.aload_n 2, 1) := by decide +kernel
theorem dL_law_1172 : decode cL_law 1172 = .ok (.aload_n 0, 1) := by decide +kernel
theorem dL_law_1173 : decode cL_law 1173 = .ok (.iload 4, 2) := by decide +kernel
theorem dL_law_1175 : decode cL_law 1175 = .ok (.iconst 1, 1) := by decide +kernel
theorem dL_law_1176 : decode cL_law 1176 = .ok (.iadd, 1) := by decide +kernel
theorem dL_law_1177 : decode cL_law 1177 = .ok (.iaload, 1) := by decide +kernel
theorem dL_law_1178 : decode cL_law 1178 = .ok (.aload_n 0, 1) := by decide +kernel
theorem dL_law_1179 : decode cL_law 1179 = .ok (.iload 4, 2) := by decide +kernel
theorem dL_law_1181 : decode cL_law 1181 = .ok (.iconst 2, 1) := by decide +kernel
theorem dL_law_1182 : decode cL_law 1182 = .ok (.iadd, 1) := by decide +kernel
theorem dL_law_1183 : decode cL_law 1183 = .ok (.iaload, 1) := by decide +kernel
theorem dL_law_1184 : decode cL_law 1184 = .ok (.invokevirtual 170, 3) := by decide +kernel
theorem dL_law_1187 : decode cL_law 1187 = .ok (.istore 6, 2) := by decide +kernel
theorem dL_law_1189 : decode cL_law 1189 = .ok (.aload_n 2, 1) := by decide +kernel
theorem dL_law_1190 : decode cL_law 1190 = .ok (.invokevirtual 88, 3) := by decide +kernel
theorem dL_law_1193 : decode cL_law 1193 = .ok (.iload 5, 2) := by decide +kernel
theorem dL_law_1195 : decode cL_law 1195 = .ok (.if_icmp .eq 5, 3) := by decide +kernel
theorem dL_law_1198 : decode cL_law 1198 = .ok (.iconst 0, 1) := by decide +kernel
theorem dL_law_1199 : decode cL_law 1199 = .ok (.ireturn, 1) := by decide +kernel
theorem dL_law_1200 : decode cL_law 1200 = .ok (.iload 5, 2) := by decide +kernel
theorem dL_law_1202 : decode cL_law 1202 = .ok (.ifCond .ne 15, 3) := by decide +kernel
theorem dL_law_1205 : decode cL_law 1205 = .ok (.aload_n 3, 1) := by decide +kernel
theorem dL_law_1206 : decode cL_law 1206 = .ok (.iconst 0, 1) := by decide +kernel
theorem dL_law_1207 : decode cL_law 1207 = .ok (.laload, 1) := by decide +kernel
theorem dL_law_1208 : decode cL_law 1208 = .ok (.iload 6, 2) := by decide +kernel
theorem dL_law_1210 : decode cL_law 1210 = .ok (.i2l, 1) := by decide +kernel
theorem dL_law_1211 : decode cL_law 1211 = .ok (.lcmp, 1) := by decide +kernel
theorem dL_law_1212 : decode cL_law 1212 = .ok (.ifCond .eq 5, 3) := by decide +kernel
theorem dL_law_1215 : decode cL_law 1215 = .ok (.iconst 0, 1) := by decide +kernel
theorem dL_law_1216 : decode cL_law 1216 = .ok (.ireturn, 1) := by decide +kernel
theorem dL_law_1217 : decode cL_law 1217 = .ok (.goto 459, 3) := by decide +kernel
theorem dL_law_1220 : decode cL_law 1220 = .ok (.aload_n 1, 1) := by decide +kernel
theorem dL_law_1221 : decode cL_law 1221 = .ok (.aload_n 0, 1) := by decide +kernel
theorem dL_law_1222 : decode cL_law 1222 = .ok (.iload 4, 2) := by decide +kernel
theorem dL_law_1224 : decode cL_law 1224 = .ok (.iconst 1, 1) := by decide +kernel
theorem dL_law_1225 : decode cL_law 1225 = .ok (.iadd, 1) := by decide +kernel
theorem dL_law_1226 : decode cL_law 1226 = .ok (.iaload, 1) := by decide +kernel
theorem dL_law_1227 : decode cL_law 1227 = .ok (.aload_n 0, 1) := by decide +kernel
theorem dL_law_1228 : decode cL_law 1228 = .ok (.iload 4, 2) := by decide +kernel
theorem dL_law_1230 : decode cL_law 1230 = .ok (.iconst 2, 1) := by decide +kernel
theorem dL_law_1231 : decode cL_law 1231 = .ok (.iadd, 1) := by decide +kernel
theorem dL_law_1232 : decode cL_law 1232 = .ok (.iaload, 1) := by decide +kernel
theorem dL_law_1233 : decode cL_law 1233 = .ok (.aload_n 3, 1) := by decide +kernel
theorem dL_law_1234 : decode cL_law 1234 = .ok (.invokestatic 171, 3) := by decide +kernel
theorem dL_law_1237 : decode cL_law 1237 = .ok (.istore 5, 2) := by decide +kernel
theorem dL_law_1239 : decode cL_law 1239 = .ok (.aload_n 2, 1) := by decide +kernel
theorem dL_law_1240 : decode cL_law 1240 = .ok (.aload_n 0, 1) := by decide +kernel
theorem dL_law_1241 : decode cL_law 1241 = .ok (.iload 4, 2) := by decide +kernel
theorem dL_law_1243 : decode cL_law 1243 = .ok (.iconst 1, 1) := by decide +kernel
theorem dL_law_1244 : decode cL_law 1244 = .ok (.iadd, 1) := by decide +kernel
theorem dL_law_1245 : decode cL_law 1245 = .ok (.iaload, 1) := by decide +kernel
theorem dL_law_1246 : decode cL_law 1246 = .ok (.aload_n 0, 1) := by decide +kernel
theorem dL_law_1247 : decode cL_law 1247 = .ok (.iload 4, 2) := by decide +kernel
theorem dL_law_1249 : decode cL_law 1249 = .ok (.iconst 2, 1) := by decide +kernel
theorem dL_law_1250 : decode cL_law 1250 = .ok (.iadd, 1) := by decide +kernel
theorem dL_law_1251 : decode cL_law 1251 = .ok (.iaload, 1) := by decide +kernel
theorem dL_law_1252 : decode cL_law 1252 = .ok (.invokevirtual 173, 3) := by decide +kernel
theorem dL_law_1255 : decode cL_law 1255 = .ok (.istore 6, 2) := by decide +kernel
theorem dL_law_1257 : decode cL_law 1257 = .ok (.aload_n 2, 1) := by decide +kernel
theorem dL_law_1258 : decode cL_law 1258 = .ok (.invokevirtual 88, 3) := by decide +kernel
theorem dL_law_1261 : decode cL_law 1261 = .ok (.iload 5, 2) := by decide +kernel
theorem dL_law_1263 : decode cL_law 1263 = .ok (.if_icmp .eq 5, 3) := by decide +kernel
theorem dL_law_1266 : decode cL_law 1266 = .ok (.iconst 0, 1) := by decide +kernel
theorem dL_law_1267 : decode cL_law 1267 = .ok (.ireturn, 1) := by decide +kernel
theorem dL_law_1268 : decode cL_law 1268 = .ok (.iload 5, 2) := by decide +kernel
theorem dL_law_1270 : decode cL_law 1270 = .ok (.ifCond .ne 22, 3) := by decide +kernel
theorem dL_law_1273 : decode cL_law 1273 = .ok (.aload_n 3, 1) := by decide +kernel
theorem dL_law_1274 : decode cL_law 1274 = .ok (.iconst 0, 1) := by decide +kernel
theorem dL_law_1275 : decode cL_law 1275 = .ok (.laload, 1) := by decide +kernel
theorem dL_law_1276 : decode cL_law 1276 = .ok (.iload 6, 2) := by decide +kernel
theorem dL_law_1278 : decode cL_law 1278 = .ok (.ifCond .eq 7, 3) := by decide +kernel
theorem dL_law_1281 : decode cL_law 1281 = .ok (.lconst 1, 1) := by decide +kernel
theorem dL_law_1282 : decode cL_law 1282 = .ok (.goto 4, 3) := by decide +kernel
theorem dL_law_1285 : decode cL_law 1285 = .ok (.lconst 0, 1) := by decide +kernel
theorem dL_law_1286 : decode cL_law 1286 = .ok (.lcmp, 1) := by decide +kernel
theorem dL_law_1287 : decode cL_law 1287 = .ok (.ifCond .eq 5, 3) := by decide +kernel
theorem dL_law_1290 : decode cL_law 1290 = .ok (.iconst 0, 1) := by decide +kernel
theorem dL_law_1291 : decode cL_law 1291 = .ok (.ireturn, 1) := by decide +kernel
theorem dL_law_1292 : decode cL_law 1292 = .ok (.goto 384, 3) := by decide +kernel
theorem dL_law_1295 : decode cL_law 1295 = .ok (.aload_n 1, 1) := by decide +kernel
theorem dL_law_1296 : decode cL_law 1296 = .ok (.aload_n 0, 1) := by decide +kernel
theorem dL_law_1297 : decode cL_law 1297 = .ok (.iload 4, 2) := by decide +kernel
theorem dL_law_1299 : decode cL_law 1299 = .ok (.iconst 1, 1) := by decide +kernel
theorem dL_law_1300 : decode cL_law 1300 = .ok (.iadd, 1) := by decide +kernel
theorem dL_law_1301 : decode cL_law 1301 = .ok (.iaload, 1) := by decide +kernel
theorem dL_law_1302 : decode cL_law 1302 = .ok (.aload_n 0, 1) := by decide +kernel
theorem dL_law_1303 : decode cL_law 1303 = .ok (.iload 4, 2) := by decide +kernel
theorem dL_law_1305 : decode cL_law 1305 = .ok (.iconst 2, 1) := by decide +kernel
theorem dL_law_1306 : decode cL_law 1306 = .ok (.iadd, 1) := by decide +kernel
theorem dL_law_1307 : decode cL_law 1307 = .ok (.iaload, 1) := by decide +kernel
theorem dL_law_1308 : decode cL_law 1308 = .ok (.aload_n 3, 1) := by decide +kernel
theorem dL_law_1309 : decode cL_law 1309 = .ok (.invokestatic 174, 3) := by decide +kernel
theorem dL_law_1312 : decode cL_law 1312 = .ok (.istore 5, 2) := by decide +kernel
theorem dL_law_1314 : decode cL_law 1314 = .ok (.aload_n 2, 1) := by decide +kernel
theorem dL_law_1315 : decode cL_law 1315 = .ok (.aload_n 0, 1) := by decide +kernel
theorem dL_law_1316 : decode cL_law 1316 = .ok (.iload 4, 2) := by decide +kernel
theorem dL_law_1318 : decode cL_law 1318 = .ok (.iconst 1, 1) := by decide +kernel
theorem dL_law_1319 : decode cL_law 1319 = .ok (.iadd, 1) := by decide +kernel
theorem dL_law_1320 : decode cL_law 1320 = .ok (.iaload, 1) := by decide +kernel
theorem dL_law_1321 : decode cL_law 1321 = .ok (.aload_n 0, 1) := by decide +kernel
theorem dL_law_1322 : decode cL_law 1322 = .ok (.iload 4, 2) := by decide +kernel
theorem dL_law_1324 : decode cL_law 1324 = .ok (.iconst 2, 1) := by decide +kernel
theorem dL_law_1325 : decode cL_law 1325 = .ok (.iadd, 1) := by decide +kernel
theorem dL_law_1326 : decode cL_law 1326 = .ok (.iaload, 1) := by decide +kernel
theorem dL_law_1327 : decode cL_law 1327 = .ok (.invokevirtual 176, 3) := by decide +kernel
theorem dL_law_1330 : decode cL_law 1330 = .ok (.istore 6, 2) := by decide +kernel
theorem dL_law_1332 : decode cL_law 1332 = .ok (.aload_n 2, 1) := by decide +kernel
theorem dL_law_1333 : decode cL_law 1333 = .ok (.invokevirtual 88, 3) := by decide +kernel
theorem dL_law_1336 : decode cL_law 1336 = .ok (.iload 5, 2) := by decide +kernel
theorem dL_law_1338 : decode cL_law 1338 = .ok (.if_icmp .eq 5, 3) := by decide +kernel
theorem dL_law_1341 : decode cL_law 1341 = .ok (.iconst 0, 1) := by decide +kernel
theorem dL_law_1342 : decode cL_law 1342 = .ok (.ireturn, 1) := by decide +kernel
theorem dL_law_1343 : decode cL_law 1343 = .ok (.iload 5, 2) := by decide +kernel
theorem dL_law_1345 : decode cL_law 1345 = .ok (.ifCond .ne 15, 3) := by decide +kernel
theorem dL_law_1348 : decode cL_law 1348 = .ok (.aload_n 3, 1) := by decide +kernel
theorem dL_law_1349 : decode cL_law 1349 = .ok (.iconst 0, 1) := by decide +kernel
theorem dL_law_1350 : decode cL_law 1350 = .ok (.laload, 1) := by decide +kernel
theorem dL_law_1351 : decode cL_law 1351 = .ok (.iload 6, 2) := by decide +kernel
theorem dL_law_1353 : decode cL_law 1353 = .ok (.i2l, 1) := by decide +kernel
theorem dL_law_1354 : decode cL_law 1354 = .ok (.lcmp, 1) := by decide +kernel
theorem dL_law_1355 : decode cL_law 1355 = .ok (.ifCond .eq 5, 3) := by decide +kernel
theorem dL_law_1358 : decode cL_law 1358 = .ok (.iconst 0, 1) := by decide +kernel
theorem dL_law_1359 : decode cL_law 1359 = .ok (.ireturn, 1) := by decide +kernel
theorem dL_law_1360 : decode cL_law 1360 = .ok (.goto 316, 3) := by decide +kernel
theorem dL_law_1363 : decode cL_law 1363 = .ok (.aload_n 1, 1) := by decide +kernel
theorem dL_law_1364 : decode cL_law 1364 = .ok (.aload_n 0, 1) := by decide +kernel
theorem dL_law_1365 : decode cL_law 1365 = .ok (.iload 4, 2) := by decide +kernel
theorem dL_law_1367 : decode cL_law 1367 = .ok (.iconst 1, 1) := by decide +kernel
theorem dL_law_1368 : decode cL_law 1368 = .ok (.iadd, 1) := by decide +kernel
theorem dL_law_1369 : decode cL_law 1369 = .ok (.iaload, 1) := by decide +kernel
theorem dL_law_1370 : decode cL_law 1370 = .ok (.aload_n 3, 1) := by decide +kernel
theorem dL_law_1371 : decode cL_law 1371 = .ok (.invokestatic 177, 3) := by decide +kernel
theorem dL_law_1374 : decode cL_law 1374 = .ok (.istore 5, 2) := by decide +kernel
theorem dL_law_1376 : decode cL_law 1376 = .ok (.aload_n 2, 1) := by decide +kernel
theorem dL_law_1377 : decode cL_law 1377 = .ok (.aload_n 0, 1) := by decide +kernel
theorem dL_law_1378 : decode cL_law 1378 = .ok (.iload 4, 2) := by decide +kernel
theorem dL_law_1380 : decode cL_law 1380 = .ok (.iconst 1, 1) := by decide +kernel
theorem dL_law_1381 : decode cL_law 1381 = .ok (.iadd, 1) := by decide +kernel
theorem dL_law_1382 : decode cL_law 1382 = .ok (.iaload, 1) := by decide +kernel
theorem dL_law_1383 : decode cL_law 1383 = .ok (.invokevirtual 179, 3) := by decide +kernel
theorem dL_law_1386 : decode cL_law 1386 = .ok (.istore 6, 2) := by decide +kernel
theorem dL_law_1388 : decode cL_law 1388 = .ok (.aload_n 2, 1) := by decide +kernel
theorem dL_law_1389 : decode cL_law 1389 = .ok (.invokevirtual 88, 3) := by decide +kernel
theorem dL_law_1392 : decode cL_law 1392 = .ok (.iload 5, 2) := by decide +kernel
theorem dL_law_1394 : decode cL_law 1394 = .ok (.if_icmp .eq 5, 3) := by decide +kernel
theorem dL_law_1397 : decode cL_law 1397 = .ok (.iconst 0, 1) := by decide +kernel
theorem dL_law_1398 : decode cL_law 1398 = .ok (.ireturn, 1) := by decide +kernel
theorem dL_law_1399 : decode cL_law 1399 = .ok (.iload 5, 2) := by decide +kernel
theorem dL_law_1401 : decode cL_law 1401 = .ok (.ifCond .ne 15, 3) := by decide +kernel
theorem dL_law_1404 : decode cL_law 1404 = .ok (.aload_n 3, 1) := by decide +kernel
theorem dL_law_1405 : decode cL_law 1405 = .ok (.iconst 0, 1) := by decide +kernel
theorem dL_law_1406 : decode cL_law 1406 = .ok (.laload, 1) := by decide +kernel
theorem dL_law_1407 : decode cL_law 1407 = .ok (.iload 6, 2) := by decide +kernel
theorem dL_law_1409 : decode cL_law 1409 = .ok (.i2l, 1) := by decide +kernel
theorem dL_law_1410 : decode cL_law 1410 = .ok (.lcmp, 1) := by decide +kernel
theorem dL_law_1411 : decode cL_law 1411 = .ok (.ifCond .eq 5, 3) := by decide +kernel
theorem dL_law_1414 : decode cL_law 1414 = .ok (.iconst 0, 1) := by decide +kernel
theorem dL_law_1415 : decode cL_law 1415 = .ok (.ireturn, 1) := by decide +kernel
theorem dL_law_1416 : decode cL_law 1416 = .ok (.goto 260, 3) := by decide +kernel
theorem dL_law_1419 : decode cL_law 1419 = .ok (.aload_n 1, 1) := by decide +kernel
theorem dL_law_1420 : decode cL_law 1420 = .ok (.aload_n 0, 1) := by decide +kernel
theorem dL_law_1421 : decode cL_law 1421 = .ok (.iload 4, 2) := by decide +kernel
theorem dL_law_1423 : decode cL_law 1423 = .ok (.iconst 1, 1) := by decide +kernel
theorem dL_law_1424 : decode cL_law 1424 = .ok (.iadd, 1) := by decide +kernel
theorem dL_law_1425 : decode cL_law 1425 = .ok (.iaload, 1) := by decide +kernel
theorem dL_law_1426 : decode cL_law 1426 = .ok (.aload_n 3, 1) := by decide +kernel
theorem dL_law_1427 : decode cL_law 1427 = .ok (.invokestatic 180, 3) := by decide +kernel
theorem dL_law_1430 : decode cL_law 1430 = .ok (.istore 5, 2) := by decide +kernel
theorem dL_law_1432 : decode cL_law 1432 = .ok (.aload_n 2, 1) := by decide +kernel
theorem dL_law_1433 : decode cL_law 1433 = .ok (.aload_n 0, 1) := by decide +kernel
theorem dL_law_1434 : decode cL_law 1434 = .ok (.iload 4, 2) := by decide +kernel
theorem dL_law_1436 : decode cL_law 1436 = .ok (.iconst 1, 1) := by decide +kernel
theorem dL_law_1437 : decode cL_law 1437 = .ok (.iadd, 1) := by decide +kernel
theorem dL_law_1438 : decode cL_law 1438 = .ok (.iaload, 1) := by decide +kernel
theorem dL_law_1439 : decode cL_law 1439 = .ok (.invokevirtual 182, 3) := by decide +kernel
theorem dL_law_1442 : decode cL_law 1442 = .ok (.istore 6, 2) := by decide +kernel
theorem dL_law_1444 : decode cL_law 1444 = .ok (.aload_n 2, 1) := by decide +kernel
theorem dL_law_1445 : decode cL_law 1445 = .ok (.invokevirtual 88, 3) := by decide +kernel
theorem dL_law_1448 : decode cL_law 1448 = .ok (.iload 5, 2) := by decide +kernel
theorem dL_law_1450 : decode cL_law 1450 = .ok (.if_icmp .eq 5, 3) := by decide +kernel
theorem dL_law_1453 : decode cL_law 1453 = .ok (.iconst 0, 1) := by decide +kernel
theorem dL_law_1454 : decode cL_law 1454 = .ok (.ireturn, 1) := by decide +kernel
theorem dL_law_1455 : decode cL_law 1455 = .ok (.iload 5, 2) := by decide +kernel
theorem dL_law_1457 : decode cL_law 1457 = .ok (.ifCond .ne 15, 3) := by decide +kernel
theorem dL_law_1460 : decode cL_law 1460 = .ok (.aload_n 3, 1) := by decide +kernel
theorem dL_law_1461 : decode cL_law 1461 = .ok (.iconst 0, 1) := by decide +kernel
theorem dL_law_1462 : decode cL_law 1462 = .ok (.laload, 1) := by decide +kernel
theorem dL_law_1463 : decode cL_law 1463 = .ok (.iload 6, 2) := by decide +kernel
theorem dL_law_1465 : decode cL_law 1465 = .ok (.i2l, 1) := by decide +kernel
theorem dL_law_1466 : decode cL_law 1466 = .ok (.lcmp, 1) := by decide +kernel
theorem dL_law_1467 : decode cL_law 1467 = .ok (.ifCond .eq 5, 3) := by decide +kernel
theorem dL_law_1470 : decode cL_law 1470 = .ok (.iconst 0, 1) := by decide +kernel
theorem dL_law_1471 : decode cL_law 1471 = .ok (.ireturn, 1) := by decide +kernel
theorem dL_law_1472 : decode cL_law 1472 = .ok (.goto 204, 3) := by decide +kernel
theorem dL_law_1475 : decode cL_law 1475 = .ok (.aload_n 1, 1) := by decide +kernel
theorem dL_law_1476 : decode cL_law 1476 = .ok (.invokevirtual 183, 3) := by decide +kernel
theorem dL_law_1479 : decode cL_law 1479 = .ok (.aload_n 2, 1) := by decide +kernel
theorem dL_law_1480 : decode cL_law 1480 = .ok (.invokevirtual 186, 3) := by decide +kernel
theorem dL_law_1483 : decode cL_law 1483 = .ok (.if_icmp .eq 193, 3) := by decide +kernel
theorem dL_law_1486 : decode cL_law 1486 = .ok (.iconst 0, 1) := by decide +kernel
theorem dL_law_1487 : decode cL_law 1487 = .ok (.ireturn, 1) := by decide +kernel
theorem dL_law_1488 : decode cL_law 1488 = .ok (.aload_n 1, 1) := by decide +kernel
theorem dL_law_1489 : decode cL_law 1489 = .ok (.aload_n 0, 1) := by decide +kernel
theorem dL_law_1490 : decode cL_law 1490 = .ok (.iload 4, 2) := by decide +kernel
theorem dL_law_1492 : decode cL_law 1492 = .ok (.iconst 1, 1) := by decide +kernel
theorem dL_law_1493 : decode cL_law 1493 = .ok (.iadd, 1) := by decide +kernel
theorem dL_law_1494 : decode cL_law 1494 = .ok (.iaload, 1) := by decide +kernel
theorem dL_law_1495 : decode cL_law 1495 = .ok (.aload_n 0, 1) := by decide +kernel
theorem dL_law_1496 : decode cL_law 1496 = .ok (.iload 4, 2) := by decide +kernel
theorem dL_law_1498 : decode cL_law 1498 = .ok (.iconst 2, 1) := by decide +kernel
theorem dL_law_1499 : decode cL_law 1499 = .ok (.iadd, 1) := by decide +kernel
theorem dL_law_1500 : decode cL_law 1500 = .ok (.iaload, 1) := by decide +kernel
theorem dL_law_1501 : decode cL_law 1501 = .ok (.aload_n 3, 1) := by decide +kernel
theorem dL_law_1502 : decode cL_law 1502 = .ok (.invokestatic 187, 3) := by decide +kernel
theorem dL_law_1505 : decode cL_law 1505 = .ok (.istore 5, 2) := by decide +kernel
theorem dL_law_1507 : decode cL_law 1507 = .ok (.aload_n 2, 1) := by decide +kernel
theorem dL_law_1508 : decode cL_law 1508 = .ok (.aload_n 0, 1) := by decide +kernel
theorem dL_law_1509 : decode cL_law 1509 = .ok (.iload 4, 2) := by decide +kernel
theorem dL_law_1511 : decode cL_law 1511 = .ok (.iconst 1, 1) := by decide +kernel
theorem dL_law_1512 : decode cL_law 1512 = .ok (.iadd, 1) := by decide +kernel
theorem dL_law_1513 : decode cL_law 1513 = .ok (.iaload, 1) := by decide +kernel
theorem dL_law_1514 : decode cL_law 1514 = .ok (.aload_n 0, 1) := by decide +kernel
theorem dL_law_1515 : decode cL_law 1515 = .ok (.iload 4, 2) := by decide +kernel
theorem dL_law_1517 : decode cL_law 1517 = .ok (.iconst 2, 1) := by decide +kernel
theorem dL_law_1518 : decode cL_law 1518 = .ok (.iadd, 1) := by decide +kernel
theorem dL_law_1519 : decode cL_law 1519 = .ok (.iaload, 1) := by decide +kernel
theorem dL_law_1520 : decode cL_law 1520 = .ok (.invokevirtual 189, 3) := by decide +kernel
theorem dL_law_1523 : decode cL_law 1523 = .ok (.istore 6, 2) := by decide +kernel
theorem dL_law_1525 : decode cL_law 1525 = .ok (.aload_n 2, 1) := by decide +kernel
theorem dL_law_1526 : decode cL_law 1526 = .ok (.invokevirtual 88, 3) := by decide +kernel
theorem dL_law_1529 : decode cL_law 1529 = .ok (.iload 5, 2) := by decide +kernel
theorem dL_law_1531 : decode cL_law 1531 = .ok (.if_icmp .eq 5, 3) := by decide +kernel
theorem dL_law_1534 : decode cL_law 1534 = .ok (.iconst 0, 1) := by decide +kernel
theorem dL_law_1535 : decode cL_law 1535 = .ok (.ireturn, 1) := by decide +kernel
theorem dL_law_1536 : decode cL_law 1536 = .ok (.iload 5, 2) := by decide +kernel
theorem dL_law_1538 : decode cL_law 1538 = .ok (.ifCond .ne 15, 3) := by decide +kernel
theorem dL_law_1541 : decode cL_law 1541 = .ok (.aload_n 3, 1) := by decide +kernel
theorem dL_law_1542 : decode cL_law 1542 = .ok (.iconst 0, 1) := by decide +kernel
theorem dL_law_1543 : decode cL_law 1543 = .ok (.laload, 1) := by decide +kernel
theorem dL_law_1544 : decode cL_law 1544 = .ok (.iload 6, 2) := by decide +kernel
theorem dL_law_1546 : decode cL_law 1546 = .ok (.i2l, 1) := by decide +kernel
theorem dL_law_1547 : decode cL_law 1547 = .ok (.lcmp, 1) := by decide +kernel
theorem dL_law_1548 : decode cL_law 1548 = .ok (.ifCond .eq 5, 3) := by decide +kernel
theorem dL_law_1551 : decode cL_law 1551 = .ok (.iconst 0, 1) := by decide +kernel
theorem dL_law_1552 : decode cL_law 1552 = .ok (.ireturn, 1) := by decide +kernel
theorem dL_law_1553 : decode cL_law 1553 = .ok (.goto 123, 3) := by decide +kernel
theorem dL_law_1556 : decode cL_law 1556 = .ok (.aload_n 1, 1) := by decide +kernel
theorem dL_law_1557 : decode cL_law 1557 = .ok (.invokevirtual 190, 3) := by decide +kernel
theorem dL_law_1560 : decode cL_law 1560 = .ok (.aload_n 2, 1) := by decide +kernel
theorem dL_law_1561 : decode cL_law 1561 = .ok (.invokevirtual 193, 3) := by decide +kernel
theorem dL_law_1564 : decode cL_law 1564 = .ok (.if_icmp .eq 112, 3) := by decide +kernel
theorem dL_law_1567 : decode cL_law 1567 = .ok (.iconst 0, 1) := by decide +kernel
theorem dL_law_1568 : decode cL_law 1568 = .ok (.ireturn, 1) := by decide +kernel
theorem dL_law_1569 : decode cL_law 1569 = .ok (.aload_n 1, 1) := by decide +kernel
theorem dL_law_1570 : decode cL_law 1570 = .ok (.invokevirtual 194, 3) := by decide +kernel
theorem dL_law_1573 : decode cL_law 1573 = .ok (.aload_n 2, 1) := by decide +kernel
theorem dL_law_1574 : decode cL_law 1574 = .ok (.invokevirtual 197, 3) := by decide +kernel
theorem dL_law_1577 : decode cL_law 1577 = .ok (.if_icmp .eq 99, 3) := by decide +kernel
theorem dL_law_1580 : decode cL_law 1580 = .ok (.iconst 0, 1) := by decide +kernel
theorem dL_law_1581 : decode cL_law 1581 = .ok (.ireturn, 1) := by decide +kernel
theorem dL_law_1582 : decode cL_law 1582 = .ok (.aload_n 1, 1) := by decide +kernel
theorem dL_law_1583 : decode cL_law 1583 = .ok (.invokevirtual 198, 3) := by decide +kernel
theorem dL_law_1586 : decode cL_law 1586 = .ok (.aload_n 2, 1) := by decide +kernel
theorem dL_law_1587 : decode cL_law 1587 = .ok (.invokevirtual 201, 3) := by decide +kernel
theorem dL_law_1590 : decode cL_law 1590 = .ok (.if_icmp .eq 86, 3) := by decide +kernel
theorem dL_law_1593 : decode cL_law 1593 = .ok (.iconst 0, 1) := by decide +kernel
theorem dL_law_1594 : decode cL_law 1594 = .ok (.ireturn, 1) := by decide +kernel
theorem dL_law_1595 : decode cL_law 1595 = .ok (.aload_n 1, 1) := by decide +kernel
theorem dL_law_1596 : decode cL_law 1596 = .ok (.invokevirtual 202, 3) := by decide +kernel
theorem dL_law_1599 : decode cL_law 1599 = .ok (.aload_n 2, 1) := by decide +kernel
theorem dL_law_1600 : decode cL_law 1600 = .ok (.invokevirtual 205, 3) := by decide +kernel
theorem dL_law_1603 : decode cL_law 1603 = .ok (.if_icmp .eq 73, 3) := by decide +kernel
theorem dL_law_1606 : decode cL_law 1606 = .ok (.iconst 0, 1) := by decide +kernel
theorem dL_law_1607 : decode cL_law 1607 = .ok (.ireturn, 1) := by decide +kernel
theorem dL_law_1608 : decode cL_law 1608 = .ok (.aload_n 1, 1) := by decide +kernel
theorem dL_law_1609 : decode cL_law 1609 = .ok (.invokevirtual 206, 3) := by decide +kernel
theorem dL_law_1612 : decode cL_law 1612 = .ok (.aload_n 2, 1) := by decide +kernel
theorem dL_law_1613 : decode cL_law 1613 = .ok (.invokevirtual 209, 3) := by decide +kernel
theorem dL_law_1616 : decode cL_law 1616 = .ok (.if_icmp .eq 60, 3) := by decide +kernel
theorem dL_law_1619 : decode cL_law 1619 = .ok (.iconst 0, 1) := by decide +kernel
theorem dL_law_1620 : decode cL_law 1620 = .ok (.ireturn, 1) := by decide +kernel
theorem dL_law_1621 : decode cL_law 1621 = .ok (.aload_n 1, 1) := by decide +kernel
theorem dL_law_1622 : decode cL_law 1622 = .ok (.invokevirtual 210, 3) := by decide +kernel
theorem dL_law_1625 : decode cL_law 1625 = .ok (.dstore 5, 2) := by decide +kernel
theorem dL_law_1627 : decode cL_law 1627 = .ok (.aload_n 2, 1) := by decide +kernel
theorem dL_law_1628 : decode cL_law 1628 = .ok (.invokevirtual 214, 3) := by decide +kernel
theorem dL_law_1631 : decode cL_law 1631 = .ok (.dstore 7, 2) := by decide +kernel
theorem dL_law_1633 : decode cL_law 1633 = .ok (.dload 5, 2) := by decide +kernel
theorem dL_law_1635 : decode cL_law 1635 = .ok (.dload 7, 2) := by decide +kernel
theorem dL_law_1637 : decode cL_law 1637 = .ok (.dcmp .l, 1) := by decide +kernel
theorem dL_law_1638 : decode cL_law 1638 = .ok (.ifCond .eq 21, 3) := by decide +kernel
theorem dL_law_1641 : decode cL_law 1641 = .ok (.dload 5, 2) := by decide +kernel
theorem dL_law_1643 : decode cL_law 1643 = .ok (.dload 5, 2) := by decide +kernel
theorem dL_law_1645 : decode cL_law 1645 = .ok (.dcmp .l, 1) := by decide +kernel
theorem dL_law_1646 : decode cL_law 1646 = .ok (.ifCond .eq 11, 3) := by decide +kernel
theorem dL_law_1649 : decode cL_law 1649 = .ok (.dload 7, 2) := by decide +kernel
theorem dL_law_1651 : decode cL_law 1651 = .ok (.dload 7, 2) := by decide +kernel
theorem dL_law_1653 : decode cL_law 1653 = .ok (.dcmp .l, 1) := by decide +kernel
theorem dL_law_1654 : decode cL_law 1654 = .ok (.ifCond .ne 5, 3) := by decide +kernel
theorem dL_law_1657 : decode cL_law 1657 = .ok (.iconst 0, 1) := by decide +kernel
theorem dL_law_1658 : decode cL_law 1658 = .ok (.ireturn, 1) := by decide +kernel
theorem dL_law_1659 : decode cL_law 1659 = .ok (.goto 17, 3) := by decide +kernel
theorem dL_law_1662 : decode cL_law 1662 = .ok (.aload_n 1, 1) := by decide +kernel
theorem dL_law_1663 : decode cL_law 1663 = .ok (.invokevirtual 215, 3) := by decide +kernel
theorem dL_law_1666 : decode cL_law 1666 = .ok (.aload_n 2, 1) := by decide +kernel
theorem dL_law_1667 : decode cL_law 1667 = .ok (.invokevirtual 219, 3) := by decide +kernel
theorem dL_law_1670 : decode cL_law 1670 = .ok (.lcmp, 1) := by decide +kernel
theorem dL_law_1671 : decode cL_law 1671 = .ok (.ifCond .eq 5, 3) := by decide +kernel
theorem dL_law_1674 : decode cL_law 1674 = .ok (.iconst 0, 1) := by decide +kernel
theorem dL_law_1675 : decode cL_law 1675 = .ok (.ireturn, 1) := by decide +kernel
theorem dL_law_1676 : decode cL_law 1676 = .ok (.iinc 4 5, 3) := by decide +kernel
theorem dL_law_1679 : decode cL_law 1679 = .ok (.goto (-1656), 3) := by decide +kernel
theorem dL_law_1682 : decode cL_law 1682 = .ok (.iconst 1, 1) := by decide +kernel
theorem dL_law_1683 : decode cL_law 1683 = .ok (.ireturn, 1) := by decide +kernel
