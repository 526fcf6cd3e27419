def wsL_law : List Cond := wsL_law0 ++ (vx_atS RX2 40 "java/lang/IllegalStateException" ["java/lang/RuntimeException", "java/lang/Exception"]).filter goodWord ++ (vx_atS RX2 59 "java/lang/IllegalArgumentException" ["java/lang/RuntimeException", "java/lang/Exception"]).filter goodWord ++ (vx_atS RX2 266 "java/lang/IndexOutOfBoundsException" ["java/lang/RuntimeException", "java/lang/Exception"]).filter goodWord
set_option maxRecDepth 20000 in
theorem wsL_law_in0 : ∀ w ∈ wsL_law0, w ∈ lw_tbl := fun w h => (goodIn_p wsL_law0 [68, 71, 76, 122, 688, 488, 508, 293, 297, 225, 260, 302, 306, 191, 311, 315, 245, 322, 326, 329, 333, 758, 762, 766, 754, 517, 374, 539, 544, 770, 774, 778, 781, 785, 551, 470, 789, 793, 558, 797, 567, 572, 207, 211, 215, 218, 222, 801, 805, 809, 812, 816, 820, 824, 580, 584, 589, 188, 242, 594, 598, 602, 828, 832, 609, 233, 238, 249, 253, 257, 265, 836, 840, 845, 168, 849, 853, 172, 857, 176, 861, 180, 865, 869, 184, 873, 877, 195, 881, 199, 885, 203, 889, 370, 893, 446, 897, 450, 454, 901, 905, 466, 909, 475, 913, 480, 917, 921, 641, 925, 648, 929, 458, 933, 659, 663, 669, 937, 941, 945, 676, 949, 953, 683, 957, 229, 961, 965, 969, 269, 273, 973, 977, 981, 280, 277, 986, 284, 289, 990, 994, 337, 998, 341, 346, 353, 366, 462, 1002, 1006] (by decide +kernel) (by decide +kernel) w h).1
theorem wsL_law_x0 : ∀ w ∈ (vx_atS RX2 40 "java/lang/IllegalStateException" ["java/lang/RuntimeException", "java/lang/Exception"]).filter goodWord, w ∈ lw_tbl := by decide +kernel
theorem wsL_law_x1 : ∀ w ∈ (vx_atS RX2 59 "java/lang/IllegalArgumentException" ["java/lang/RuntimeException", "java/lang/Exception"]).filter goodWord, w ∈ lw_tbl := by decide +kernel
theorem wsL_law_x2 : ∀ w ∈ (vx_atS RX2 266 "java/lang/IndexOutOfBoundsException" ["java/lang/RuntimeException", "java/lang/Exception"]).filter goodWord, w ∈ lw_tbl := by decide +kernel
theorem wsL_law_in : ∀ w ∈ wsL_law, w ∈ lw_tbl := fun w h => (List.mem_append.mp h).elim (fun h => (List.mem_append.mp h).elim (fun h => (List.mem_append.mp h).elim (fun h => wsL_law_in0 w h) (fun h => wsL_law_x0 w h)) (fun h => wsL_law_x1 w h)) (fun h => wsL_law_x2 w h)
theorem inlX0 : ∀ w ∈ wsX00, w ∈ wsL_law := fun _ h => List.mem_append_left _ (List.mem_append_left _ (List.mem_append_left _ (List.mem_append_left _ (List.mem_append_left _ (List.mem_append_right _ h)))))
theorem inX0 : ∀ w ∈ wsX00, w ∈ lw_tbl := fun w h => wsL_law_in w (inlX0 w h)
theorem inlX1 : ∀ w ∈ wsX10, w ∈ wsL_law := fun _ h => List.mem_append_left _ (List.mem_append_left _ (List.mem_append_left _ (List.mem_append_left _ (List.mem_append_right _ h))))
theorem inX1 : ∀ w ∈ wsX10, w ∈ lw_tbl := fun w h => wsL_law_in w (inlX1 w h)
theorem inlX2 : ∀ w ∈ wsX20, w ∈ wsL_law := fun _ h => List.mem_append_left _ (List.mem_append_left _ (List.mem_append_left _ (List.mem_append_left _ (List.mem_append_left _ (List.mem_append_left _ (List.mem_append_left _ (List.mem_append_right _ h)))))))
theorem inX2 : ∀ w ∈ wsX20, w ∈ lw_tbl := fun w h => wsL_law_in w (inlX2 w h)
theorem inlX3 : ∀ w ∈ wsX30, w ∈ wsL_law := fun _ h => List.mem_append_left _ (List.mem_append_left _ (List.mem_append_left _ (List.mem_append_left _ (List.mem_append_left _ (List.mem_append_left _ (List.mem_append_right _ h))))))
theorem inX3 : ∀ w ∈ wsX30, w ∈ lw_tbl := fun w h => wsL_law_in w (inlX3 w h)
theorem inJ9 : ∀ w ∈ wsJ90, w ∈ lw_tbl := by decide +kernel
theorem inJ0 : ∀ w ∈ wsJ00, w ∈ lw_tbl := by decide +kernel
theorem inJ10 : ∀ w ∈ wsJ100, w ∈ lw_tbl := by decide +kernel
set_option maxRecDepth 20000 in
theorem ggL_addRoom_X2_addRoom : GoodIn wsL_addRoom wsX2_addRoom := goodIn_ca (goodIn_r _ [6, 7, 8, 9, 10, 11, 12, 13, 14, 15, 16, 17, 18, 19, 20, 21, 22, 23, 24, 25, 26, 27, 28, 29, 30, 31, 32, 33, 34, 35, 36, 37, 38, 39, 40, 41, 5, 42, 43, 44, 45, 46, 47, 48, 49, 50, 51, 52, 53, 54, 55, 56, 57, 58, 59, 60, 61, 62, 63, 64, 65, 66, 67, 68, 69, 70, 71, 72, 73, 74, 75, 76, 77, 78, 79, 80, 81, 82, 83, 84, 85, 86, 87, 88, 89, 90, 91, 92, 93, 94, 95, 96, 97, 98, 99, 100, 101, 102, 103, 104, 105] (by decide +kernel) (by decide +kernel)) (goodIn_sub (fun _ h => List.mem_cons_of_mem _ (List.mem_append_right _ h)) (by decide +kernel))
set_option maxRecDepth 20000 in
theorem gL_addRoom_X2_addRoom : GoodIn wsL_addRoom (wsV RL 7 RX2 yX2_addRoom wsX2_addRoom) := goodIn_app (goodIn_of _ (by decide +kernel)) ggL_addRoom_X2_addRoom
theorem dL_addRoom_0 : decode cL_addRoom 0 = .ok (.aload_n 2, 1) := by decide +kernel
theorem dL_addRoom_1 : decode cL_addRoom 1 = .ok (.iconst 0, 1) := by decide +kernel
theorem dL_addRoom_2 : decode cL_addRoom 2 = .ok (.aload_n 0, 1) := by decide +kernel
theorem dL_addRoom_3 : decode cL_addRoom 3 = .ok (.iload_n 1, 1) := by decide +kernel
theorem dL_addRoom_4 : decode cL_addRoom 4 = .ok (.invokevirtual 7, 3) := by decide +kernel
theorem dL_addRoom_7 : decode cL_addRoom 7 = .ok (.i2l, 1) := by decide +kernel
theorem dL_addRoom_8 : decode cL_addRoom 8 = .ok (.lastore, 1) := by decide +kernel
theorem dL_addRoom_9 : decode cL_addRoom 9 = .ok (.goto 6, 3) := by decide +kernel
theorem dL_addRoom_12 : decode cL_addRoom 12 = .ok (.astore_n 3, 1) := by decide +kernel
theorem dL_addRoom_13 : decode cL_addRoom 13 = .ok (.iconst 1, 1) := by decide +kernel
theorem dL_addRoom_14 : decode cL_addRoom 14 = .ok (.ireturn, 1) := by decide +kernel
theorem dL_addRoom_15 : decode cL_addRoom 15 = .ok (.iconst 0, 1) := by decide +kernel
theorem dL_addRoom_16 : decode cL_addRoom 16 = .ok (.ireturn, 1) := by decide +kernel
set_option maxRecDepth 20000 in
theorem ggL_addDoor_X2_addDoor : GoodIn wsL_addDoor wsX2_addDoor := goodIn_ca (goodIn_ca (goodIn_ca (goodIn_r _ [8, 9, 10, 11, 12, 13, 14, 15, 16, 17, 18, 7, 19, 20, 21, 22, 23, 24, 25, 26, 27, 28, 29, 30, 31, 32, 33, 34, 35, 36, 37, 38, 39, 40, 41, 42, 43, 44, 45, 46, 47, 48, 49, 50, 51, 52, 53, 54, 55, 56, 57, 58, 59, 60, 61, 62, 63, 64, 65, 66, 67, 68, 69, 70, 71, 72, 73, 74, 75, 76, 77, 78, 79, 80, 81, 82, 83, 84, 85, 86, 87, 88, 89, 90, 91, 92, 93, 94, 95, 96, 97, 98, 99, 100, 101, 102, 103, 104, 105, 106, 107, 108, 109, 110, 111, 112, 113, 114, 115, 116, 117, 118, 119, 120, 121] (by decide +kernel) (by decide +kernel)) (goodIn_sub (fun _ h => List.mem_cons_of_mem _ (List.mem_append_left _ (List.mem_append_left _ (List.mem_append_right _ h)))) (by decide +kernel))) (goodIn_sub (fun _ h => List.mem_cons_of_mem _ (List.mem_append_left _ (List.mem_append_right _ h))) (by decide +kernel))) (goodIn_sub (fun _ h => List.mem_cons_of_mem _ (List.mem_append_right _ h)) (by decide +kernel))
set_option maxRecDepth 20000 in
theorem gL_addDoor_X2_addDoor : GoodIn wsL_addDoor (wsV RL 15 RX2 yX2_addDoor wsX2_addDoor) := goodIn_app (goodIn_of _ (by decide +kernel)) ggL_addDoor_X2_addDoor
theorem dL_addDoor_0 : decode cL_addDoor 0 = .ok (.aload 5, 2) := by decide +kernel
theorem dL_addDoor_2 : decode cL_addDoor 2 = .ok (.iconst 0, 1) := by decide +kernel
theorem dL_addDoor_3 : decode cL_addDoor 3 = .ok (.aload_n 0, 1) := by decide +kernel
theorem dL_addDoor_4 : decode cL_addDoor 4 = .ok (.iload_n 1, 1) := by decide +kernel
theorem dL_addDoor_5 : decode cL_addDoor 5 = .ok (.iload_n 2, 1) := by decide +kernel
theorem dL_addDoor_6 : decode cL_addDoor 6 = .ok (.iload_n 3, 1) := by decide +kernel
theorem dL_addDoor_7 : decode cL_addDoor 7 = .ok (.iload 4, 2) := by decide +kernel
theorem dL_addDoor_9 : decode cL_addDoor 9 = .ok (.invokevirtual 15, 3) := by decide +kernel
theorem dL_addDoor_12 : decode cL_addDoor 12 = .ok (.i2l, 1) := by decide +kernel
theorem dL_addDoor_13 : decode cL_addDoor 13 = .ok (.lastore, 1) := by decide +kernel
theorem dL_addDoor_14 : decode cL_addDoor 14 = .ok (.goto 15, 3) := by decide +kernel
theorem dL_addDoor_17 : decode cL_addDoor 17 = .ok (.astore 6, 2) := by decide +kernel
theorem dL_addDoor_19 : decode cL_addDoor 19 = .ok (.iconst 1, 1) := by decide +kernel
theorem dL_addDoor_20 : decode cL_addDoor 20 = .ok (.ireturn, 1) := by decide +kernel
theorem dL_addDoor_21 : decode cL_addDoor 21 = .ok (.astore 6, 2) := by decide +kernel
theorem dL_addDoor_23 : decode cL_addDoor 23 = .ok (.iconst 2, 1) := by decide +kernel
theorem dL_addDoor_24 : decode cL_addDoor 24 = .ok (.ireturn, 1) := by decide +kernel
theorem dL_addDoor_25 : decode cL_addDoor 25 = .ok (.astore 6, 2) := by decide +kernel
theorem dL_addDoor_27 : decode cL_addDoor 27 = .ok (.iconst 3, 1) := by decide +kernel
theorem dL_addDoor_28 : decode cL_addDoor 28 = .ok (.ireturn, 1) := by decide +kernel
theorem dL_addDoor_29 : decode cL_addDoor 29 = .ok (.iconst 0, 1) := by decide +kernel
theorem dL_addDoor_30 : decode cL_addDoor 30 = .ok (.ireturn, 1) := by decide +kernel
set_option maxRecDepth 20000 in
theorem ggL_turnLock_X2_turnLock : GoodIn wsL_turnLock wsX2_turnLock := goodIn_ca (goodIn_r _ [6, 7, 8, 9, 10, 11, 12, 5, 13, 14, 15, 16, 17, 18, 19, 20, 21, 22, 23, 24, 25, 26, 27, 28, 29, 30, 31, 32, 33, 34, 35, 36, 37, 38, 39, 40, 41, 42, 43, 44, 45, 46, 47, 48, 49, 50, 51, 52, 53, 54, 55, 56, 57, 58, 59, 60, 61, 62, 63, 64, 65, 66, 67, 68, 69, 70, 71, 72, 73, 74, 75, 76, 77, 78, 79, 80, 81, 82, 83, 84, 85, 86, 87, 88, 89, 90, 91, 92, 93, 94, 95, 96, 97, 98, 99, 100, 101, 102, 103, 104] (by decide +kernel) (by decide +kernel)) (goodIn_sub (fun _ h => List.mem_cons_of_mem _ (List.mem_append_right _ h)) (by decide +kernel))
set_option maxRecDepth 20000 in
theorem gL_turnLock_X2_turnLock : GoodIn wsL_turnLock (wsV RL 23 RX2 yX2_turnLock wsX2_turnLock) := goodIn_app (goodIn_of _ (by decide +kernel)) ggL_turnLock_X2_turnLock
theorem dL_turnLock_0 : decode cL_turnLock 0 = .ok (.aload_n 2, 1) := by decide +kernel
theorem dL_turnLock_1 : decode cL_turnLock 1 = .ok (.iconst 0, 1) := by decide +kernel
theorem dL_turnLock_2 : decode cL_turnLock 2 = .ok (.aload_n 0, 1) := by decide +kernel
theorem dL_turnLock_3 : decode cL_turnLock 3 = .ok (.iload_n 1, 1) := by decide +kernel
theorem dL_turnLock_4 : decode cL_turnLock 4 = .ok (.invokevirtual 23, 3) := by decide +kernel
theorem dL_turnLock_7 : decode cL_turnLock 7 = .ok (.ifCond .eq 7, 3) := by decide +kernel
theorem dL_turnLock_10 : decode cL_turnLock 10 = .ok (.lconst 1, 1) := by decide +kernel
theorem dL_turnLock_11 : decode cL_turnLock 11 = .ok (.goto 4, 3) := by decide +kernel
theorem dL_turnLock_14 : decode cL_turnLock 14 = .ok (.lconst 0, 1) := by decide +kernel
theorem dL_turnLock_15 : decode cL_turnLock 15 = .ok (.lastore, 1) := by decide +kernel
theorem dL_turnLock_16 : decode cL_turnLock 16 = .ok (.goto 6, 3) := by decide +kernel
theorem dL_turnLock_19 : decode cL_turnLock 19 = .ok (.astore_n 3, 1) := by decide +kernel
theorem dL_turnLock_20 : decode cL_turnLock 20 = .ok (.iconst 1, 1) := by decide +kernel
theorem dL_turnLock_21 : decode cL_turnLock 21 = .ok (.ireturn, 1) := by decide +kernel
theorem dL_turnLock_22 : decode cL_turnLock 22 = .ok (.iconst 0, 1) := by decide +kernel
theorem dL_turnLock_23 : decode cL_turnLock 23 = .ok (.ireturn, 1) := by decide +kernel
set_option maxRecDepth 20000 in
theorem ggL_putCheese_X2_putCheese : GoodIn wsL_putCheese wsX2_putCheese := goodIn_ca (goodIn_ca (goodIn_ca (goodIn_r _ [8, 9, 10, 11, 12, 13, 14, 15, 16, 17, 7, 18, 19, 20, 21, 22, 23, 24, 25, 26, 27, 28, 29, 30, 31, 32, 33, 34, 35, 36, 37, 38, 39] (by decide +kernel) (by decide +kernel)) (goodIn_sub (fun _ h => List.mem_cons_of_mem _ (List.mem_append_left _ (List.mem_append_left _ (List.mem_append_right _ h)))) (by decide +kernel))) (goodIn_sub (fun _ h => List.mem_cons_of_mem _ (List.mem_append_left _ (List.mem_append_right _ h))) (by decide +kernel))) (goodIn_sub (fun _ h => List.mem_cons_of_mem _ (List.mem_append_right _ h)) (by decide +kernel))
set_option maxRecDepth 20000 in
theorem gL_putCheese_X2_putCheese : GoodIn wsL_putCheese (wsV RL 27 RX2 yX2_putCheese wsX2_putCheese) := goodIn_app (goodIn_of _ (by decide +kernel)) ggL_putCheese_X2_putCheese
theorem dL_putCheese_0 : decode cL_putCheese 0 = .ok (.aload_n 3, 1) := by decide +kernel
theorem dL_putCheese_1 : decode cL_putCheese 1 = .ok (.iconst 0, 1) := by decide +kernel
theorem dL_putCheese_2 : decode cL_putCheese 2 = .ok (.aload_n 0, 1) := by decide +kernel
theorem dL_putCheese_3 : decode cL_putCheese 3 = .ok (.iload_n 1, 1) := by decide +kernel
theorem dL_putCheese_4 : decode cL_putCheese 4 = .ok (.iload_n 2, 1) := by decide +kernel
theorem dL_putCheese_5 : decode cL_putCheese 5 = .ok (.invokevirtual 27, 3) := by decide +kernel
theorem dL_putCheese_8 : decode cL_putCheese 8 = .ok (.i2l, 1) := by decide +kernel
theorem dL_putCheese_9 : decode cL_putCheese 9 = .ok (.lastore, 1) := by decide +kernel
theorem dL_putCheese_10 : decode cL_putCheese 10 = .ok (.goto 15, 3) := by decide +kernel
theorem dL_putCheese_13 : decode cL_putCheese 13 = .ok (.astore 4, 2) := by decide +kernel
theorem dL_putCheese_15 : decode cL_putCheese 15 = .ok (.iconst 1, 1) := by decide +kernel
theorem dL_putCheese_16 : decode cL_putCheese 16 = .ok (.ireturn, 1) := by decide +kernel
theorem dL_putCheese_17 : decode cL_putCheese 17 = .ok (.astore 4, 2) := by decide +kernel
theorem dL_putCheese_19 : decode cL_putCheese 19 = .ok (.iconst 2, 1) := by decide +kernel
theorem dL_putCheese_20 : decode cL_putCheese 20 = .ok (.ireturn, 1) := by decide +kernel
theorem dL_putCheese_21 : decode cL_putCheese 21 = .ok (.astore 4, 2) := by decide +kernel
theorem dL_putCheese_23 : decode cL_putCheese 23 = .ok (.iconst 3, 1) := by decide +kernel
theorem dL_putCheese_24 : decode cL_putCheese 24 = .ok (.ireturn, 1) := by decide +kernel
theorem dL_putCheese_25 : decode cL_putCheese 25 = .ok (.iconst 0, 1) := by decide +kernel
theorem dL_putCheese_26 : decode cL_putCheese 26 = .ok (.ireturn, 1) := by decide +kernel
set_option maxRecDepth 20000 in
theorem ggL_begin_X2_begin : GoodIn wsL_begin wsX2_begin := goodIn_ca (goodIn_ca (goodIn_r _ [7, 8, 9, 10, 11, 12, 13, 14, 15, 16, 17, 18, 6, 19, 20, 21, 22, 23, 24, 25, 26, 27, 28, 29, 30, 31, 32, 33, 34, 35, 36, 37, 38, 39, 40, 41, 42, 43, 44, 45, 46, 47, 48, 49, 50, 51, 52, 53, 54, 55, 56, 57, 58, 59, 60, 61, 62, 63, 64, 65, 66, 67, 68, 69, 70, 71, 72, 73, 74, 75, 76] (by decide +kernel) (by decide +kernel)) (goodIn_sub (fun _ h => List.mem_cons_of_mem _ (List.mem_append_left _ (List.mem_append_right _ h))) (by decide +kernel))) (goodIn_sub (fun _ h => List.mem_cons_of_mem _ (List.mem_append_right _ h)) (by decide +kernel))
set_option maxRecDepth 20000 in
theorem gL_begin_X2_begin : GoodIn wsL_begin (wsV RL 31 RX2 yX2_begin wsX2_begin) := goodIn_app (goodIn_of _ (by decide +kernel)) ggL_begin_X2_begin
theorem dL_begin_0 : decode cL_begin 0 = .ok (.aload_n 3, 1) := by decide +kernel
theorem dL_begin_1 : decode cL_begin 1 = .ok (.iconst 0, 1) := by decide +kernel
theorem dL_begin_2 : decode cL_begin 2 = .ok (.aload_n 0, 1) := by decide +kernel
theorem dL_begin_3 : decode cL_begin 3 = .ok (.iload_n 1, 1) := by decide +kernel
theorem dL_begin_4 : decode cL_begin 4 = .ok (.iload_n 2, 1) := by decide +kernel
theorem dL_begin_5 : decode cL_begin 5 = .ok (.invokevirtual 31, 3) := by decide +kernel
theorem dL_begin_8 : decode cL_begin 8 = .ok (.i2l, 1) := by decide +kernel
theorem dL_begin_9 : decode cL_begin 9 = .ok (.lastore, 1) := by decide +kernel
theorem dL_begin_10 : decode cL_begin 10 = .ok (.goto 11, 3) := by decide +kernel
theorem dL_begin_13 : decode cL_begin 13 = .ok (.astore 4, 2) := by decide +kernel
theorem dL_begin_15 : decode cL_begin 15 = .ok (.iconst 1, 1) := by decide +kernel
theorem dL_begin_16 : decode cL_begin 16 = .ok (.ireturn, 1) := by decide +kernel
theorem dL_begin_17 : decode cL_begin 17 = .ok (.astore 4, 2) := by decide +kernel
theorem dL_begin_19 : decode cL_begin 19 = .ok (.iconst 2, 1) := by decide +kernel
theorem dL_begin_20 : decode cL_begin 20 = .ok (.ireturn, 1) := by decide +kernel
theorem dL_begin_21 : decode cL_begin 21 = .ok (.iconst 0, 1) := by decide +kernel
theorem dL_begin_22 : decode cL_begin 22 = .ok (.ireturn, 1) := by decide +kernel
set_option maxRecDepth 20000 in
theorem ggL_go_X2_go : GoodIn wsL_go wsX2_go := goodIn_ca (goodIn_ca (goodIn_r _ [7, 8, 9, 10, 11, 12, 13, 14, 6, 15, 16, 17, 18, 19, 20, 21, 22, 23, 24, 25, 26, 27, 28, 29, 30, 31, 32, 33, 34, 35, 36, 37, 38, 39, 40, 41, 42, 43, 44, 45, 46, 47, 48, 49, 50, 51, 52, 53, 54, 55, 56, 57, 58, 59, 60, 61, 62, 63, 64, 65, 66, 67, 68, 69, 70, 71, 72, 73, 74, 75, 76, 77, 78, 79, 80, 81, 82, 83, 84, 85, 86, 87, 88, 89, 90, 91, 92, 93] (by decide +kernel) (by decide +kernel)) (goodIn_sub (fun _ h => List.mem_cons_of_mem _ (List.mem_append_left _ (List.mem_append_right _ h))) (by decide +kernel))) (goodIn_sub (fun _ h => List.mem_cons_of_mem _ (List.mem_append_right _ h)) (by decide +kernel))
set_option maxRecDepth 20000 in
theorem gL_go_X2_go : GoodIn wsL_go (wsV RL 34 RX2 yX2_go wsX2_go) := goodIn_app (goodIn_of _ (by decide +kernel)) ggL_go_X2_go
theorem dL_go_0 : decode cL_go 0 = .ok (.aload_n 2, 1) := by decide +kernel
theorem dL_go_1 : decode cL_go 1 = .ok (.iconst 0, 1) := by decide +kernel
theorem dL_go_2 : decode cL_go 2 = .ok (.aload_n 0, 1) := by decide +kernel
theorem dL_go_3 : decode cL_go 3 = .ok (.iload_n 1, 1) := by decide +kernel
theorem dL_go_4 : decode cL_go 4 = .ok (.invokevirtual 34, 3) := by decide +kernel
theorem dL_go_7 : decode cL_go 7 = .ok (.ifCond .eq 7, 3) := by decide +kernel
theorem dL_go_10 : decode cL_go 10 = .ok (.lconst 1, 1) := by decide +kernel
theorem dL_go_11 : decode cL_go 11 = .ok (.goto 4, 3) := by decide +kernel
theorem dL_go_14 : decode cL_go 14 = .ok (.lconst 0, 1) := by decide +kernel
theorem dL_go_15 : decode cL_go 15 = .ok (.lastore, 1) := by decide +kernel
theorem dL_go_16 : decode cL_go 16 = .ok (.goto 9, 3) := by decide +kernel
theorem dL_go_19 : decode cL_go 19 = .ok (.astore_n 3, 1) := by decide +kernel
theorem dL_go_20 : decode cL_go 20 = .ok (.iconst 1, 1) := by decide +kernel
theorem dL_go_21 : decode cL_go 21 = .ok (.ireturn, 1) := by decide +kernel
theorem dL_go_22 : decode cL_go 22 = .ok (.astore_n 3, 1) := by decide +kernel
theorem dL_go_23 : decode cL_go 23 = .ok (.iconst 2, 1) := by decide +kernel
theorem dL_go_24 : decode cL_go 24 = .ok (.ireturn, 1) := by decide +kernel
theorem dL_go_25 : decode cL_go 25 = .ok (.iconst 0, 1) := by decide +kernel
theorem dL_go_26 : decode cL_go 26 = .ok (.ireturn, 1) := by decide +kernel
set_option maxRecDepth 20000 in
theorem ggL_play_X2_play : GoodIn wsL_play wsX2_play := goodIn_ca (goodIn_ca (goodIn_r _ [7, 8, 9, 10, 11, 12, 13, 6, 14, 15, 16, 17, 18, 19, 20, 21, 22, 23, 24, 25, 26, 27, 28, 29, 30, 31, 32, 33, 34, 35, 36, 37, 38, 39, 40, 41, 42, 43, 44, 45, 46, 47, 48, 49, 50, 51, 52, 53, 54, 55, 56, 57, 58, 59, 60, 61, 62, 63, 64, 65, 66, 67, 68, 69, 70, 71, 72, 73, 74, 75, 76, 77, 78, 79, 80, 81, 82, 83, 84, 85, 86, 87, 88, 89, 90, 91, 92, 93, 94, 95, 96, 97, 98, 99, 100, 101, 102, 103, 104, 105, 106, 107, 108, 109, 110, 111, 112, 113, 114, 115, 116, 117, 118, 119, 120, 121] (by decide +kernel) (by decide +kernel)) (goodIn_sub (fun _ h => List.mem_cons_of_mem _ (List.mem_append_left _ (List.mem_append_right _ h))) (by decide +kernel))) (goodIn_sub (fun _ h => List.mem_cons_of_mem _ (List.mem_append_right _ h)) (by decide +kernel))
set_option maxRecDepth 20000 in
theorem gL_play_X2_play : GoodIn wsL_play (wsV RL 37 RX2 yX2_play wsX2_play) := goodIn_app (goodIn_of _ (by decide +kernel)) ggL_play_X2_play
theorem dL_play_0 : decode cL_play 0 = .ok (.aload_n 2, 1) := by decide +kernel
theorem dL_play_1 : decode cL_play 1 = .ok (.iconst 0, 1) := by decide +kernel
theorem dL_play_2 : decode cL_play 2 = .ok (.aload_n 0, 1) := by decide +kernel
theorem dL_play_3 : decode cL_play 3 = .ok (.iload_n 1, 1) := by decide +kernel
theorem dL_play_4 : decode cL_play 4 = .ok (.invokevirtual 37, 3) := by decide +kernel
theorem dL_play_7 : decode cL_play 7 = .ok (.i2l, 1) := by decide +kernel
theorem dL_play_8 : decode cL_play 8 = .ok (.lastore, 1) := by decide +kernel
theorem dL_play_9 : decode cL_play 9 = .ok (.goto 9, 3) := by decide +kernel
theorem dL_play_12 : decode cL_play 12 = .ok (.astore_n 3, 1) := by decide +kernel
theorem dL_play_13 : decode cL_play 13 = .ok (.iconst 1, 1) := by decide +kernel
theorem dL_play_14 : decode cL_play 14 = .ok (.ireturn, 1) := by decide +kernel
theorem dL_play_15 : decode cL_play 15 = .ok (.astore_n 3, 1) := by decide +kernel
theorem dL_play_16 : decode cL_play 16 = .ok (.iconst 2, 1) := by decide +kernel
theorem dL_play_17 : decode cL_play 17 = .ok (.ireturn, 1) := by decide +kernel
theorem dL_play_18 : decode cL_play 18 = .ok (.iconst 0, 1) := by decide +kernel
theorem dL_play_19 : decode cL_play 19 = .ok (.ireturn, 1) := by decide +kernel
set_option maxRecDepth 20000 in
theorem ggL_isSafe_X2_isSafe : GoodIn wsL_isSafe wsX2_isSafe := goodIn_ca (goodIn_r _ [6, 7, 8, 9, 10, 11, 5, 12, 13, 14, 15, 16, 17, 18, 19, 20, 21, 22, 23, 24, 25, 26, 27, 28, 29, 30, 31, 32, 33] (by decide +kernel) (by decide +kernel)) (goodIn_sub (fun _ h => List.mem_cons_of_mem _ (List.mem_append_right _ h)) (by decide +kernel))
set_option maxRecDepth 20000 in
theorem gL_isSafe_X2_isSafe : GoodIn wsL_isSafe (wsV RL 41 RX2 yX2_isSafe wsX2_isSafe) := goodIn_app (goodIn_of _ (by decide +kernel)) ggL_isSafe_X2_isSafe
theorem dL_isSafe_0 : decode cL_isSafe 0 = .ok (.aload_n 2, 1) := by decide +kernel
theorem dL_isSafe_1 : decode cL_isSafe 1 = .ok (.iconst 0, 1) := by decide +kernel
theorem dL_isSafe_2 : decode cL_isSafe 2 = .ok (.aload_n 0, 1) := by decide +kernel
theorem dL_isSafe_3 : decode cL_isSafe 3 = .ok (.iload_n 1, 1) := by decide +kernel
theorem dL_isSafe_4 : decode cL_isSafe 4 = .ok (.invokevirtual 41, 3) := by decide +kernel
theorem dL_isSafe_7 : decode cL_isSafe 7 = .ok (.ifCond .eq 7, 3) := by decide +kernel
theorem dL_isSafe_10 : decode cL_isSafe 10 = .ok (.lconst 1, 1) := by decide +kernel
theorem dL_isSafe_11 : decode cL_isSafe 11 = .ok (.goto 4, 3) := by decide +kernel
theorem dL_isSafe_14 : decode cL_isSafe 14 = .ok (.lconst 0, 1) := by decide +kernel
theorem dL_isSafe_15 : decode cL_isSafe 15 = .ok (.lastore, 1) := by decide +kernel
theorem dL_isSafe_16 : decode cL_isSafe 16 = .ok (.goto 6, 3) := by decide +kernel
theorem dL_isSafe_19 : decode cL_isSafe 19 = .ok (.astore_n 3, 1) := by decide +kernel
theorem dL_isSafe_20 : decode cL_isSafe 20 = .ok (.iconst 1, 1) := by decide +kernel
theorem dL_isSafe_21 : decode cL_isSafe 21 = .ok (.ireturn, 1) := by decide +kernel
theorem dL_isSafe_22 : decode cL_isSafe 22 = .ok (.iconst 0, 1) := by decide +kernel
theorem dL_isSafe_23 : decode cL_isSafe 23 = .ok (.ireturn, 1) := by decide +kernel
set_option maxRecDepth 20000 in
theorem ggL_cheeseIn_X2_cheeseIn : GoodIn wsL_cheeseIn wsX2_cheeseIn := goodIn_ca (goodIn_r _ [6, 7, 8, 9, 10, 11, 5, 12, 13, 14, 15, 16, 17, 18, 19, 20, 21, 22, 23, 24, 25, 26, 27, 28, 29, 30, 31, 32, 33] (by decide +kernel) (by decide +kernel)) (goodIn_sub (fun _ h => List.mem_cons_of_mem _ (List.mem_append_right _ h)) (by decide +kernel))
set_option maxRecDepth 20000 in
theorem gL_cheeseIn_X2_cheeseIn : GoodIn wsL_cheeseIn (wsV RL 44 RX2 yX2_cheeseIn wsX2_cheeseIn) := goodIn_app (goodIn_of _ (by decide +kernel)) ggL_cheeseIn_X2_cheeseIn
theorem dL_cheeseIn_0 : decode cL_cheeseIn 0 = .ok (.aload_n 2, 1) := by decide +kernel
theorem dL_cheeseIn_1 : decode cL_cheeseIn 1 = .ok (.iconst 0, 1) := by decide +kernel
theorem dL_cheeseIn_2 : decode cL_cheeseIn 2 = .ok (.aload_n 0, 1) := by decide +kernel
theorem dL_cheeseIn_3 : decode cL_cheeseIn 3 = .ok (.iload_n 1, 1) := by decide +kernel
theorem dL_cheeseIn_4 : decode cL_cheeseIn 4 = .ok (.invokevirtual 44, 3) := by decide +kernel
theorem dL_cheeseIn_7 : decode cL_cheeseIn 7 = .ok (.i2l, 1) := by decide +kernel
theorem dL_cheeseIn_8 : decode cL_cheeseIn 8 = .ok (.lastore, 1) := by decide +kernel
theorem dL_cheeseIn_9 : decode cL_cheeseIn 9 = .ok (.goto 6, 3) := by decide +kernel
theorem dL_cheeseIn_12 : decode cL_cheeseIn 12 = .ok (.astore_n 3, 1) := by decide +kernel
theorem dL_cheeseIn_13 : decode cL_cheeseIn 13 = .ok (.iconst 1, 1) := by decide +kernel
theorem dL_cheeseIn_14 : decode cL_cheeseIn 14 = .ok (.ireturn, 1) := by decide +kernel
theorem dL_cheeseIn_15 : decode cL_cheeseIn 15 = .ok (.iconst 0, 1) := by decide +kernel
theorem dL_cheeseIn_16 : decode cL_cheeseIn 16 = .ok (.ireturn, 1) := by decide +kernel
set_option maxRecDepth 20000 in
theorem ggL_doorsOf_X2_doorsOf : GoodIn wsL_doorsOf wsX2_doorsOf := goodIn_ca (goodIn_r _ [6, 7, 8, 9, 10, 5, 11, 12, 13, 14, 15, 16, 17, 18, 19, 20, 21, 22, 23, 24, 25, 26, 27, 28, 29, 30, 31, 32, 33, 34, 35, 36, 37, 38, 39, 40, 41] (by decide +kernel) (by decide +kernel)) (goodIn_sub (fun _ h => List.mem_cons_of_mem _ (List.mem_append_right _ h)) (by decide +kernel))
set_option maxRecDepth 20000 in
theorem gL_doorsOf_X2_doorsOf : GoodIn wsL_doorsOf (wsV RL 47 RX2 yX2_doorsOf wsX2_doorsOf) := goodIn_app (goodIn_of _ (by decide +kernel)) ggL_doorsOf_X2_doorsOf
theorem dL_doorsOf_0 : decode cL_doorsOf 0 = .ok (.aload_n 2, 1) := by decide +kernel
theorem dL_doorsOf_1 : decode cL_doorsOf 1 = .ok (.iconst 0, 1) := by decide +kernel
theorem dL_doorsOf_2 : decode cL_doorsOf 2 = .ok (.aload_n 0, 1) := by decide +kernel
theorem dL_doorsOf_3 : decode cL_doorsOf 3 = .ok (.iload_n 1, 1) := by decide +kernel
theorem dL_doorsOf_4 : decode cL_doorsOf 4 = .ok (.invokevirtual 47, 3) := by decide +kernel
theorem dL_doorsOf_7 : decode cL_doorsOf 7 = .ok (.i2l, 1) := by decide +kernel
theorem dL_doorsOf_8 : decode cL_doorsOf 8 = .ok (.lastore, 1) := by decide +kernel
theorem dL_doorsOf_9 : decode cL_doorsOf 9 = .ok (.goto 6, 3) := by decide +kernel
theorem dL_doorsOf_12 : decode cL_doorsOf 12 = .ok (.astore_n 3, 1) := by decide +kernel
theorem dL_doorsOf_13 : decode cL_doorsOf 13 = .ok (.iconst 1, 1) := by decide +kernel
theorem dL_doorsOf_14 : decode cL_doorsOf 14 = .ok (.ireturn, 1) := by decide +kernel
theorem dL_doorsOf_15 : decode cL_doorsOf 15 = .ok (.iconst 0, 1) := by decide +kernel
theorem dL_doorsOf_16 : decode cL_doorsOf 16 = .ok (.ireturn, 1) := by decide +kernel
set_option maxRecDepth 20000 in
theorem ggL_isLocked_X2_isLocked : GoodIn wsL_isLocked wsX2_isLocked := goodIn_ca (goodIn_r _ [6, 7, 8, 9, 10, 11, 5, 12, 13, 14, 15, 16, 17, 18, 19, 20, 21, 22, 23, 24, 25, 26, 27, 28, 29, 30, 31, 32, 33] (by decide +kernel) (by decide +kernel)) (goodIn_sub (fun _ h => List.mem_cons_of_mem _ (List.mem_append_right _ h)) (by decide +kernel))
set_option maxRecDepth 20000 in
theorem gL_isLocked_X2_isLocked : GoodIn wsL_isLocked (wsV RL 50 RX2 yX2_isLocked wsX2_isLocked) := goodIn_app (goodIn_of _ (by decide +kernel)) ggL_isLocked_X2_isLocked
theorem dL_isLocked_0 : decode cL_isLocked 0 = .ok (.aload_n 2, 1) := by decide +kernel
theorem dL_isLocked_1 : decode cL_isLocked 1 = .ok (.iconst 0, 1) := by decide +kernel
theorem dL_isLocked_2 : decode cL_isLocked 2 = .ok (.aload_n 0, 1) := by decide +kernel
theorem dL_isLocked_3 : decode cL_isLocked 3 = .ok (.iload_n 1, 1) := by decide +kernel
theorem dL_isLocked_4 : decode cL_isLocked 4 = .ok (.invokevirtual 50, 3) := by decide +kernel
theorem dL_isLocked_7 : decode cL_isLocked 7 = .ok (.ifCond .eq 7, 3) := by decide +kernel
theorem dL_isLocked_10 : decode cL_isLocked 10 = .ok (.lconst 1, 1) := by decide +kernel
theorem dL_isLocked_11 : decode cL_isLocked 11 = .ok (.goto 4, 3) := by decide +kernel
theorem dL_isLocked_14 : decode cL_isLocked 14 = .ok (.lconst 0, 1) := by decide +kernel
theorem dL_isLocked_15 : decode cL_isLocked 15 = .ok (.lastore, 1) := by decide +kernel
theorem dL_isLocked_16 : decode cL_isLocked 16 = .ok (.goto 6, 3) := by decide +kernel
theorem dL_isLocked_19 : decode cL_isLocked 19 = .ok (.astore_n 3, 1) := by decide +kernel
theorem dL_isLocked_20 : decode cL_isLocked 20 = .ok (.iconst 1, 1) := by decide +kernel
theorem dL_isLocked_21 : decode cL_isLocked 21 = .ok (.ireturn, 1) := by decide +kernel
theorem dL_isLocked_22 : decode cL_isLocked 22 = .ok (.iconst 0, 1) := by decide +kernel
theorem dL_isLocked_23 : decode cL_isLocked 23 = .ok (.ireturn, 1) := by decide +kernel
set_option maxRecDepth 20000 in
theorem ggL_isOpen_X2_isOpen : GoodIn wsL_isOpen wsX2_isOpen := goodIn_ca (goodIn_r _ [6, 7, 8, 9, 10, 5, 11, 12, 13, 14, 15, 16, 17, 18, 19, 20, 21, 22, 23, 24, 25, 26, 27, 28, 29, 30, 31, 32, 33, 34, 35, 36, 37, 38, 39, 40, 41, 42, 43, 44, 45, 46, 47, 48, 49] (by decide +kernel) (by decide +kernel)) (goodIn_sub (fun _ h => List.mem_cons_of_mem _ (List.mem_append_right _ h)) (by decide +kernel))
set_option maxRecDepth 20000 in
theorem gL_isOpen_X2_isOpen : GoodIn wsL_isOpen (wsV RL 53 RX2 yX2_isOpen wsX2_isOpen) := goodIn_app (goodIn_of _ (by decide +kernel)) ggL_isOpen_X2_isOpen
theorem dL_isOpen_0 : decode cL_isOpen 0 = .ok (.aload_n 2, 1) := by decide +kernel
theorem dL_isOpen_1 : decode cL_isOpen 1 = .ok (.iconst 0, 1) := by decide +kernel
theorem dL_isOpen_2 : decode cL_isOpen 2 = .ok (.aload_n 0, 1) := by decide +kernel
theorem dL_isOpen_3 : decode cL_isOpen 3 = .ok (.iload_n 1, 1) := by decide +kernel
theorem dL_isOpen_4 : decode cL_isOpen 4 = .ok (.invokevirtual 53, 3) := by decide +kernel
theorem dL_isOpen_7 : decode cL_isOpen 7 = .ok (.ifCond .eq 7, 3) := by decide +kernel
theorem dL_isOpen_10 : decode cL_isOpen 10 = .ok (.lconst 1, 1) := by decide +kernel
theorem dL_isOpen_11 : decode cL_isOpen 11 = .ok (.goto 4, 3) := by decide +kernel
theorem dL_isOpen_14 : decode cL_isOpen 14 = .ok (.lconst 0, 1) := by decide +kernel
theorem dL_isOpen_15 : decode cL_isOpen 15 = .ok (.lastore, 1) := by decide +kernel
theorem dL_isOpen_16 : decode cL_isOpen 16 = .ok (.goto 6, 3) := by decide +kernel
theorem dL_isOpen_19 : decode cL_isOpen 19 = .ok (.astore_n 3, 1) := by decide +kernel
theorem dL_isOpen_20 : decode cL_isOpen 20 = .ok (.iconst 1, 1) := by decide +kernel
theorem dL_isOpen_21 : decode cL_isOpen 21 = .ok (.ireturn, 1) := by decide +kernel
theorem dL_isOpen_22 : decode cL_isOpen 22 = .ok (.iconst 0, 1) := by decide +kernel
theorem dL_isOpen_23 : decode cL_isOpen 23 = .ok (.ireturn, 1) := by decide +kernel
set_option maxRecDepth 20000 in
theorem ggL_turnsUntilOpen_X2_turnsUntilOpen : GoodIn wsL_turnsUntilOpen wsX2_turnsUntilOpen := goodIn_ca (goodIn_r _ [6, 7, 8, 9, 10, 5, 11, 12, 13, 14, 15, 16, 17, 18, 19, 20, 21, 22, 23, 24, 25, 26, 27, 28, 29, 30, 31, 32, 33, 34, 35, 36, 37, 38, 39, 40, 41, 42, 43, 44, 45, 46, 47, 48, 49] (by decide +kernel) (by decide +kernel)) (goodIn_sub (fun _ h => List.mem_cons_of_mem _ (List.mem_append_right _ h)) (by decide +kernel))
set_option maxRecDepth 20000 in
theorem gL_turnsUntilOpen_X2_turnsUntilOpen : GoodIn wsL_turnsUntilOpen (wsV RL 56 RX2 yX2_turnsUntilOpen wsX2_turnsUntilOpen) := goodIn_app (goodIn_of _ (by decide +kernel)) ggL_turnsUntilOpen_X2_turnsUntilOpen
theorem dL_turnsUntilOpen_0 : decode cL_turnsUntilOpen 0 = .ok (.aload_n 2, 1) := by decide +kernel
theorem dL_turnsUntilOpen_1 : decode cL_turnsUntilOpen 1 = .ok (.iconst 0, 1) := by decide +kernel
theorem dL_turnsUntilOpen_2 : decode cL_turnsUntilOpen 2 = .ok (.aload_n 0, 1) := by decide +kernel
theorem dL_turnsUntilOpen_3 : decode cL_turnsUntilOpen 3 = .ok (.iload_n 1, 1) := by decide +kernel
theorem dL_turnsUntilOpen_4 : decode cL_turnsUntilOpen 4 = .ok (.invokevirtual 56, 3) := by decide +kernel
theorem dL_turnsUntilOpen_7 : decode cL_turnsUntilOpen 7 = .ok (.i2l, 1) := by decide +kernel
theorem dL_turnsUntilOpen_8 : decode cL_turnsUntilOpen 8 = .ok (.lastore, 1) := by decide +kernel
theorem dL_turnsUntilOpen_9 : decode cL_turnsUntilOpen 9 = .ok (.goto 6, 3) := by decide +kernel
theorem dL_turnsUntilOpen_12 : decode cL_turnsUntilOpen 12 = .ok (.astore_n 3, 1) := by decide +kernel
theorem dL_turnsUntilOpen_13 : decode cL_turnsUntilOpen 13 = .ok (.iconst 1, 1) := by decide +kernel
theorem dL_turnsUntilOpen_14 : decode cL_turnsUntilOpen 14 = .ok (.ireturn, 1) := by decide +kernel
theorem dL_turnsUntilOpen_15 : decode cL_turnsUntilOpen 15 = .ok (.iconst 0, 1) := by decide +kernel
theorem dL_turnsUntilOpen_16 : decode cL_turnsUntilOpen 16 = .ok (.ireturn, 1) := by decide +kernel
set_option maxRecDepth 20000 in
theorem ggL_doorBetween_X2_doorBetween : GoodIn wsL_doorBetween wsX2_doorBetween := goodIn_ca (goodIn_r _ [6, 7, 8, 9, 10, 5, 11, 12, 13, 14, 15, 16, 17, 18, 19, 20, 21, 22, 23, 24, 25, 26, 27, 28, 29, 30, 31, 32, 33, 34, 35, 36, 37, 38, 39, 40] (by decide +kernel) (by decide +kernel)) (goodIn_sub (fun _ h => List.mem_cons_of_mem _ (List.mem_append_right _ h)) (by decide +kernel))
set_option maxRecDepth 20000 in
theorem gL_doorBetween_X2_doorBetween : GoodIn wsL_doorBetween (wsV RL 59 RX2 yX2_doorBetween wsX2_doorBetween) := goodIn_app (goodIn_of _ (by decide +kernel)) ggL_doorBetween_X2_doorBetween
theorem dL_doorBetween_0 : decode cL_doorBetween 0 = .ok (.aload_n 3, 1) := by decide +kernel
theorem dL_doorBetween_1 : decode cL_doorBetween 1 = .ok (.iconst 0, 1) := by decide +kernel
theorem dL_doorBetween_2 : decode cL_doorBetween 2 = .ok (.aload_n 0, 1) := by decide +kernel
theorem dL_doorBetween_3 : decode cL_doorBetween 3 = .ok (.iload_n 1, 1) := by decide +kernel
theorem dL_doorBetween_4 : decode cL_doorBetween 4 = .ok (.iload_n 2, 1) := by decide +kernel
theorem dL_doorBetween_5 : decode cL_doorBetween 5 = .ok (.invokevirtual 59, 3) := by decide +kernel
theorem dL_doorBetween_8 : decode cL_doorBetween 8 = .ok (.i2l, 1) := by decide +kernel
theorem dL_doorBetween_9 : decode cL_doorBetween 9 = .ok (.lastore, 1) := by decide +kernel
theorem dL_doorBetween_10 : decode cL_doorBetween 10 = .ok (.goto 7, 3) := by decide +kernel
theorem dL_doorBetween_13 : decode cL_doorBetween 13 = .ok (.astore 4, 2) := by decide +kernel
theorem dL_doorBetween_15 : decode cL_doorBetween 15 = .ok (.iconst 1, 1) := by decide +kernel
theorem dL_doorBetween_16 : decode cL_doorBetween 16 = .ok (.ireturn, 1) := by decide +kernel
theorem dL_doorBetween_17 : decode cL_doorBetween 17 = .ok (.iconst 0, 1) := by decide +kernel
theorem dL_doorBetween_18 : decode cL_doorBetween 18 = .ok (.ireturn, 1) := by decide +kernel
set_option maxRecDepth 20000 in
theorem ggL_isWayOpen_X2_isWayOpen : GoodIn wsL_isWayOpen wsX2_isWayOpen := goodIn_ca (goodIn_r _ [6, 7, 8, 9, 10, 5, 11, 12, 13, 14, 15, 16, 17, 18, 19, 20, 21, 22, 23, 24, 25, 26, 27, 28, 29, 30, 31, 32, 33, 34, 35, 36, 37, 38, 39, 40, 41, 42, 43, 44, 45, 46, 47, 48, 49, 50, 51, 52, 53, 54, 55, 56] (by decide +kernel) (by decide +kernel)) (goodIn_sub (fun _ h => List.mem_cons_of_mem _ (List.mem_append_right _ h)) (by decide +kernel))
set_option maxRecDepth 20000 in
theorem gL_isWayOpen_X2_isWayOpen : GoodIn wsL_isWayOpen (wsV RL 62 RX2 yX2_isWayOpen wsX2_isWayOpen) := goodIn_app (goodIn_of _ (by decide +kernel)) ggL_isWayOpen_X2_isWayOpen
theorem dL_isWayOpen_0 : decode cL_isWayOpen 0 = .ok (.aload_n 3, 1) := by decide +kernel
theorem dL_isWayOpen_1 : decode cL_isWayOpen 1 = .ok (.iconst 0, 1) := by decide +kernel
theorem dL_isWayOpen_2 : decode cL_isWayOpen 2 = .ok (.aload_n 0, 1) := by decide +kernel
theorem dL_isWayOpen_3 : decode cL_isWayOpen 3 = .ok (.iload_n 1, 1) := by decide +kernel
theorem dL_isWayOpen_4 : decode cL_isWayOpen 4 = .ok (.iload_n 2, 1) := by decide +kernel
theorem dL_isWayOpen_5 : decode cL_isWayOpen 5 = .ok (.invokevirtual 62, 3) := by decide +kernel
theorem dL_isWayOpen_8 : decode cL_isWayOpen 8 = .ok (.ifCond .eq 7, 3) := by decide +kernel
theorem dL_isWayOpen_11 : decode cL_isWayOpen 11 = .ok (.lconst 1, 1) := by decide +kernel
theorem dL_isWayOpen_12 : decode cL_isWayOpen 12 = .ok (.goto 4, 3) := by decide +kernel
theorem dL_isWayOpen_15 : decode cL_isWayOpen 15 = .ok (.lconst 0, 1) := by decide +kernel
theorem dL_isWayOpen_16 : decode cL_isWayOpen 16 = .ok (.lastore, 1) := by decide +kernel
theorem dL_isWayOpen_17 : decode cL_isWayOpen 17 = .ok (.goto 7, 3) := by decide +kernel
theorem dL_isWayOpen_20 : decode cL_isWayOpen 20 = .ok (.astore 4, 2) := by decide +kernel
theorem dL_isWayOpen_22 : decode cL_isWayOpen 22 = .ok (.iconst 1, 1) := by decide +kernel
theorem dL_isWayOpen_23 : decode cL_isWayOpen 23 = .ok (.ireturn, 1) := by decide +kernel
theorem dL_isWayOpen_24 : decode cL_isWayOpen 24 = .ok (.iconst 0, 1) := by decide +kernel
theorem dL_isWayOpen_25 : decode cL_isWayOpen 25 = .ok (.ireturn, 1) := by decide +kernel
set_option maxRecDepth 20000 in
theorem ggL_distance_X2_distance : GoodIn wsL_distance wsX2_distance := goodIn_ca (goodIn_r _ [6, 7, 8, 9, 10, 5, 11, 12, 13, 14, 15, 16, 17, 18, 19, 20, 21, 22, 23, 24, 25, 26, 27, 28, 29, 30, 31, 32, 33, 34, 35, 36, 37, 38, 39, 40, 41, 42, 43, 44, 45, 46, 47, 48, 49] (by decide +kernel) (by decide +kernel)) (goodIn_sub (fun _ h => List.mem_cons_of_mem _ (List.mem_append_right _ h)) (by decide +kernel))
set_option maxRecDepth 20000 in
theorem gL_distance_X2_distance : GoodIn wsL_distance (wsV RL 66 RX2 yX2_distance wsX2_distance) := goodIn_app (goodIn_of _ (by decide +kernel)) ggL_distance_X2_distance
theorem dL_distance_0 : decode cL_distance 0 = .ok (.aload_n 3, 1) := by decide +kernel
theorem dL_distance_1 : decode cL_distance 1 = .ok (.iconst 0, 1) := by decide +kernel
theorem dL_distance_2 : decode cL_distance 2 = .ok (.aload_n 0, 1) := by decide +kernel
theorem dL_distance_3 : decode cL_distance 3 = .ok (.iload_n 1, 1) := by decide +kernel
theorem dL_distance_4 : decode cL_distance 4 = .ok (.iload_n 2, 1) := by decide +kernel
theorem dL_distance_5 : decode cL_distance 5 = .ok (.invokevirtual 66, 3) := by decide +kernel
theorem dL_distance_8 : decode cL_distance 8 = .ok (.i2l, 1) := by decide +kernel
theorem dL_distance_9 : decode cL_distance 9 = .ok (.lastore, 1) := by decide +kernel
theorem dL_distance_10 : decode cL_distance 10 = .ok (.goto 7, 3) := by decide +kernel
theorem dL_distance_13 : decode cL_distance 13 = .ok (.astore 4, 2) := by decide +kernel
theorem dL_distance_15 : decode cL_distance 15 = .ok (.iconst 1, 1) := by decide +kernel
theorem dL_distance_16 : decode cL_distance 16 = .ok (.ireturn, 1) := by decide +kernel
theorem dL_distance_17 : decode cL_distance 17 = .ok (.iconst 0, 1) := by decide +kernel
theorem dL_distance_18 : decode cL_distance 18 = .ok (.ireturn, 1) := by decide +kernel
set_option maxRecDepth 20000 in
theorem ggL_catArrives_X2_catArrives : GoodIn wsL_catArrives wsX2_catArrives := goodIn_ca (goodIn_ca (goodIn_r _ [7, 8, 9, 10, 11, 6, 12, 13, 14, 15, 16, 17, 18, 19, 20, 21, 22, 23, 24, 25, 26, 27, 28, 29, 30, 31, 32, 33, 34, 35, 36, 37, 38, 39, 40, 41, 42, 43, 44, 45, 46, 47, 48, 49, 50, 51, 52, 53, 54, 55, 56, 57, 58, 59, 60, 61, 62, 63, 64, 65, 66, 67, 68, 69, 70, 71, 72, 73, 74, 75, 76, 77] (by decide +kernel) (by decide +kernel)) (goodIn_sub (fun _ h => List.mem_cons_of_mem _ (List.mem_append_left _ (List.mem_append_right _ h))) (by decide +kernel))) (goodIn_sub (fun _ h => List.mem_cons_of_mem _ (List.mem_append_right _ h)) (by decide +kernel))
set_option maxRecDepth 20000 in
theorem gL_catArrives_X2_catArrives : GoodIn wsL_catArrives (wsV RL 69 RX2 yX2_catArrives wsX2_catArrives) := goodIn_app (goodIn_of _ (by decide +kernel)) ggL_catArrives_X2_catArrives
theorem dL_catArrives_0 : decode cL_catArrives 0 = .ok (.aload_n 2, 1) := by decide +kernel
theorem dL_catArrives_1 : decode cL_catArrives 1 = .ok (.iconst 0, 1) := by decide +kernel
theorem dL_catArrives_2 : decode cL_catArrives 2 = .ok (.aload_n 0, 1) := by decide +kernel
theorem dL_catArrives_3 : decode cL_catArrives 3 = .ok (.iload_n 1, 1) := by decide +kernel
theorem dL_catArrives_4 : decode cL_catArrives 4 = .ok (.invokevirtual 69, 3) := by decide +kernel
theorem dL_catArrives_7 : decode cL_catArrives 7 = .ok (.i2l, 1) := by decide +kernel
theorem dL_catArrives_8 : decode cL_catArrives 8 = .ok (.lastore, 1) := by decide +kernel
theorem dL_catArrives_9 : decode cL_catArrives 9 = .ok (.goto 9, 3) := by decide +kernel
theorem dL_catArrives_12 : decode cL_catArrives 12 = .ok (.astore_n 3, 1) := by decide +kernel
theorem dL_catArrives_13 : decode cL_catArrives 13 = .ok (.iconst 1, 1) := by decide +kernel
theorem dL_catArrives_14 : decode cL_catArrives 14 = .ok (.ireturn, 1) := by decide +kernel
theorem dL_catArrives_15 : decode cL_catArrives 15 = .ok (.astore_n 3, 1) := by decide +kernel
theorem dL_catArrives_16 : decode cL_catArrives 16 = .ok (.iconst 2, 1) := by decide +kernel
theorem dL_catArrives_17 : decode cL_catArrives 17 = .ok (.ireturn, 1) := by decide +kernel
theorem dL_catArrives_18 : decode cL_catArrives 18 = .ok (.iconst 0, 1) := by decide +kernel
theorem dL_catArrives_19 : decode cL_catArrives 19 = .ok (.ireturn, 1) := by decide +kernel
set_option maxRecDepth 20000 in
theorem ggL_mouseArrives_X2_mouseArrives : GoodIn wsL_mouseArrives wsX2_mouseArrives := goodIn_ca (goodIn_ca (goodIn_r _ [7, 8, 9, 10, 11, 6, 12, 13, 14, 15, 16, 17, 18, 19, 20, 21, 22, 23, 24, 25, 26, 27, 28, 29, 30, 31, 32, 33, 34, 35, 36, 37, 38, 39, 40, 41, 42, 43, 44, 45, 46, 47, 48, 49, 50, 51, 52, 53, 54, 55, 56, 57, 58, 59, 60, 61, 62, 63, 64, 65, 66, 67, 68, 69, 70, 71, 72, 73, 74, 75, 76, 77] (by decide +kernel) (by decide +kernel)) (goodIn_sub (fun _ h => List.mem_cons_of_mem _ (List.mem_append_left _ (List.mem_append_right _ h))) (by decide +kernel))) (goodIn_sub (fun _ h => List.mem_cons_of_mem _ (List.mem_append_right _ h)) (by decide +kernel))
set_option maxRecDepth 20000 in
theorem gL_mouseArrives_X2_mouseArrives : GoodIn wsL_mouseArrives (wsV RL 72 RX2 yX2_mouseArrives wsX2_mouseArrives) := goodIn_app (goodIn_of _ (by decide +kernel)) ggL_mouseArrives_X2_mouseArrives
theorem dL_mouseArrives_0 : decode cL_mouseArrives 0 = .ok (.aload_n 2, 1) := by decide +kernel
theorem dL_mouseArrives_1 : decode cL_mouseArrives 1 = .ok (.iconst 0, 1) := by decide +kernel
theorem dL_mouseArrives_2 : decode cL_mouseArrives 2 = .ok (.aload_n 0, 1) := by decide +kernel
theorem dL_mouseArrives_3 : decode cL_mouseArrives 3 = .ok (.iload_n 1, 1) := by decide +kernel
theorem dL_mouseArrives_4 : decode cL_mouseArrives 4 = .ok (.invokevirtual 72, 3) := by decide +kernel
theorem dL_mouseArrives_7 : decode cL_mouseArrives 7 = .ok (.i2l, 1) := by decide +kernel
theorem dL_mouseArrives_8 : decode cL_mouseArrives 8 = .ok (.lastore, 1) := by decide +kernel
theorem dL_mouseArrives_9 : decode cL_mouseArrives 9 = .ok (.goto 9, 3) := by decide +kernel
theorem dL_mouseArrives_12 : decode cL_mouseArrives 12 = .ok (.astore_n 3, 1) := by decide +kernel
theorem dL_mouseArrives_13 : decode cL_mouseArrives 13 = .ok (.iconst 1, 1) := by decide +kernel
theorem dL_mouseArrives_14 : decode cL_mouseArrives 14 = .ok (.ireturn, 1) := by decide +kernel
theorem dL_mouseArrives_15 : decode cL_mouseArrives 15 = .ok (.astore_n 3, 1) := by decide +kernel
theorem dL_mouseArrives_16 : decode cL_mouseArrives 16 = .ok (.iconst 2, 1) := by decide +kernel
theorem dL_mouseArrives_17 : decode cL_mouseArrives 17 = .ok (.ireturn, 1) := by decide +kernel
theorem dL_mouseArrives_18 : decode cL_mouseArrives 18 = .ok (.iconst 0, 1) := by decide +kernel
theorem dL_mouseArrives_19 : decode cL_mouseArrives 19 = .ok (.ireturn, 1) := by decide +kernel
set_option maxRecDepth 20000 in
theorem ggL_turnsFrom_X2_turnsFrom : GoodIn wsL_turnsFrom wsX2_turnsFrom := goodIn_ca (goodIn_ca (goodIn_r _ [7, 8, 9, 10, 6, 11, 12, 13, 14, 15, 16, 17, 18, 19, 20, 21, 22, 23, 24, 25, 26, 27, 28, 29, 30, 31, 32, 33, 34, 35, 36, 37, 38, 39, 40, 41, 42, 43, 44, 45, 46, 47, 48, 49, 50, 51, 52, 53, 54, 55, 56, 57, 58, 59, 60, 61, 62, 63, 64, 65, 66, 67] (by decide +kernel) (by decide +kernel)) (goodIn_sub (fun _ h => List.mem_cons_of_mem _ (List.mem_append_left _ (List.mem_append_right _ h))) (by decide +kernel))) (goodIn_sub (fun _ h => List.mem_cons_of_mem _ (List.mem_append_right _ h)) (by decide +kernel))
set_option maxRecDepth 20000 in
theorem gL_turnsFrom_X2_turnsFrom : GoodIn wsL_turnsFrom (wsV RL 75 RX2 yX2_turnsFrom wsX2_turnsFrom) := goodIn_app (goodIn_of _ (by decide +kernel)) ggL_turnsFrom_X2_turnsFrom
theorem dL_turnsFrom_0 : decode cL_turnsFrom 0 = .ok (.aload_n 3, 1) := by decide +kernel
theorem dL_turnsFrom_1 : decode cL_turnsFrom 1 = .ok (.iconst 0, 1) := by decide +kernel
theorem dL_turnsFrom_2 : decode cL_turnsFrom 2 = .ok (.aload_n 0, 1) := by decide +kernel
theorem dL_turnsFrom_3 : decode cL_turnsFrom 3 = .ok (.iload_n 1, 1) := by decide +kernel
theorem dL_turnsFrom_4 : decode cL_turnsFrom 4 = .ok (.iload_n 2, 1) := by decide +kernel
theorem dL_turnsFrom_5 : decode cL_turnsFrom 5 = .ok (.invokevirtual 75, 3) := by decide +kernel
theorem dL_turnsFrom_8 : decode cL_turnsFrom 8 = .ok (.i2l, 1) := by decide +kernel
theorem dL_turnsFrom_9 : decode cL_turnsFrom 9 = .ok (.lastore, 1) := by decide +kernel
theorem dL_turnsFrom_10 : decode cL_turnsFrom 10 = .ok (.goto 11, 3) := by decide +kernel
theorem dL_turnsFrom_13 : decode cL_turnsFrom 13 = .ok (.astore 4, 2) := by decide +kernel
theorem dL_turnsFrom_15 : decode cL_turnsFrom 15 = .ok (.iconst 1, 1) := by decide +kernel
theorem dL_turnsFrom_16 : decode cL_turnsFrom 16 = .ok (.ireturn, 1) := by decide +kernel
theorem dL_turnsFrom_17 : decode cL_turnsFrom 17 = .ok (.astore 4, 2) := by decide +kernel
theorem dL_turnsFrom_19 : decode cL_turnsFrom 19 = .ok (.iconst 2, 1) := by decide +kernel
theorem dL_turnsFrom_20 : decode cL_turnsFrom 20 = .ok (.ireturn, 1) := by decide +kernel
theorem dL_turnsFrom_21 : decode cL_turnsFrom 21 = .ok (.iconst 0, 1) := by decide +kernel
theorem dL_turnsFrom_22 : decode cL_turnsFrom 22 = .ok (.ireturn, 1) := by decide +kernel
set_option maxRecDepth 20000 in
theorem ggL_law_X2_init : GoodIn wsL_law wsX2_init := goodIn_r _ [9, 10, 11, 12, 13, 14, 15, 16, 17, 18, 19, 20, 21, 22, 23, 24, 25, 26, 27, 28, 29, 30, 31, 32, 33, 34, 35, 36, 37, 38, 39, 40, 41, 42, 783, 784, 785, 786, 787, 788, 789, 790, 791, 754, 755, 756, 757, 758, 759, 760, 761, 762, 792, 793, 794, 795] (by decide +kernel) (by decide +kernel)
set_option maxRecDepth 20000 in
theorem gL_law_X2_init : GoodIn wsL_law (wsX2_init) := ggL_law_X2_init
set_option maxRecDepth 20000 in
theorem ggL_law_X3_init : GoodIn wsL_law wsX3_init := goodIn_r _ [45, 46, 11, 12, 27, 47, 29, 48, 49, 50, 51, 52, 53, 54, 763, 764, 765, 766, 767, 768, 769, 770, 771, 772, 773, 774, 775, 776, 777, 778, 779, 780, 781, 782] (by decide +kernel) (by decide +kernel)
set_option maxRecDepth 20000 in
theorem gL_law_X3_init : GoodIn wsL_law (wsX3_init) := ggL_law_X3_init
set_option maxRecDepth 20000 in
theorem ggL_law_L_addRoom : GoodIn wsL_law wsL_addRoom := goodIn_ca (goodIn_r _ [58, 59, 60, 61, 62, 2, 63, 64, 65, 16, 66, 20, 67, 68, 69, 15, 70, 28, 71, 72, 73, 74, 19, 75, 40, 41, 76, 77, 78, 79, 80, 81, 82, 83, 39, 84, 85, 86, 87, 88, 89, 90, 91, 92, 93, 94, 95, 35, 33, 34, 96, 97, 98, 99, 100, 101, 102, 103, 104, 105, 106, 42, 107, 108, 109, 110, 111, 112, 113, 114, 115, 116, 117, 118, 119, 120, 121, 122, 123, 124, 125, 126, 127, 128, 754, 755, 756, 757, 758, 759, 760, 761, 762, 783, 784, 785, 786, 787, 788, 789, 790, 791, 792, 793, 794, 795] (by decide +kernel) (by decide +kernel)) (goodIn_sub (fun _ h => List.mem_append_left _ (List.mem_append_left _ (List.mem_append_right _ h))) (by decide +kernel))
set_option maxRecDepth 20000 in
theorem gL_law_L_addRoom : GoodIn wsL_law (va_wsS RL 82 yL_addRoom wsL_addRoom) := goodIn_app (goodIn_of _ (by decide +kernel)) ggL_law_L_addRoom
set_option maxRecDepth 20000 in
theorem ggL_law_X3_addRoom : GoodIn wsL_law wsX3_addRoom := goodIn_r _ [132, 133, 47, 134, 135, 136, 5, 137, 138, 139, 140, 141, 142, 763, 764, 765, 766, 767, 768, 769, 770, 771, 772, 773, 774, 775, 776, 777, 778, 779, 780, 781, 782] (by decide +kernel) (by decide +kernel)
set_option maxRecDepth 20000 in
theorem gL_law_X3_addRoom : GoodIn wsL_law (wsV RL 87 RX3 yX3_addRoom wsX3_addRoom) := goodIn_app (goodIn_of _ (by decide +kernel)) ggL_law_X3_addRoom
set_option maxRecDepth 20000 in
theorem ggL_law_X3_thrown : GoodIn wsL_law wsX3_thrown := goodIn_r _ [146, 138, 763, 764, 765, 766, 767, 768, 769, 770, 771, 772, 773, 774, 775, 776, 777, 778, 779, 780, 781, 782] (by decide +kernel) (by decide +kernel)
set_option maxRecDepth 20000 in
theorem gL_law_X3_thrown : GoodIn wsL_law (wsV RL 88 RX3 yX3_thrown wsX3_thrown) := goodIn_app (goodIn_of _ (by decide +kernel)) ggL_law_X3_thrown
set_option maxRecDepth 20000 in
theorem ggL_law_L_addDoor : GoodIn wsL_law wsL_addDoor := goodIn_ca (goodIn_ca (goodIn_ca (goodIn_r _ [149, 150, 151, 59, 152, 153, 154, 2, 155, 156, 157, 64, 65, 16, 158, 20, 159, 160, 161, 162, 163, 164, 66, 165, 166, 167, 15, 168, 169, 31, 32, 170, 171, 172, 173, 33, 34, 72, 73, 74, 19, 75, 40, 41, 76, 77, 78, 79, 80, 81, 82, 83, 39, 84, 85, 86, 87, 88, 89, 90, 91, 92, 93, 94, 95, 35, 96, 97, 98, 99, 100, 101, 102, 103, 104, 105, 106, 42, 107, 108, 109, 110, 111, 112, 113, 114, 115, 116, 117, 118, 119, 120, 121, 122, 123, 124, 125, 126, 127, 128, 754, 755, 756, 757, 758, 759, 760, 761, 762, 783, 784, 785, 786, 787, 788, 789, 790, 791, 792, 793, 794, 795] (by decide +kernel) (by decide +kernel)) (goodIn_sub (fun _ h => List.mem_append_left _ (List.mem_append_right _ h)) (by decide +kernel))) (goodIn_sub (fun _ h => List.mem_append_left _ (List.mem_append_left _ (List.mem_append_right _ h))) (by decide +kernel))) (goodIn_sub (fun _ h => List.mem_append_right _ h) (by decide +kernel))
set_option maxRecDepth 20000 in
theorem gL_law_L_addDoor : GoodIn wsL_law (va_wsS RL 92 yL_addDoor wsL_addDoor) := goodIn_app (goodIn_of _ (by decide +kernel)) ggL_law_L_addDoor
set_option maxRecDepth 20000 in
theorem ggL_law_X3_addDoor : GoodIn wsL_law wsX3_addDoor := goodIn_r _ [177, 178, 49, 50, 51, 52, 179, 180, 181, 5, 182, 133, 183, 184, 185, 186, 187, 188, 189, 134, 135, 136, 137, 138, 139, 140, 141, 142, 190, 191, 192, 193, 763, 764, 765, 766, 767, 768, 769, 770, 771, 772, 773, 774, 775, 776, 777, 778, 779, 780, 781, 782] (by decide +kernel) (by decide +kernel)
set_option maxRecDepth 20000 in
theorem gL_law_X3_addDoor : GoodIn wsL_law (wsV RL 95 RX3 yX3_addDoor wsX3_addDoor) := goodIn_app (goodIn_of _ (by decide +kernel)) ggL_law_X3_addDoor
set_option maxRecDepth 20000 in
theorem ggL_law_L_turnLock : GoodIn wsL_law wsL_turnLock := goodIn_ca (goodIn_r _ [196, 150, 197, 198, 199, 2, 200, 16, 201, 20, 202, 203, 204, 205, 163, 164, 158, 72, 73, 74, 19, 75, 40, 41, 76, 77, 78, 79, 80, 81, 82, 83, 39, 84, 85, 86, 87, 88, 89, 90, 91, 92, 93, 94, 15, 95, 35, 33, 34, 96, 97, 98, 99, 100, 101, 102, 103, 104, 105, 106, 42, 107, 108, 109, 110, 111, 112, 113, 114, 115, 116, 117, 118, 119, 120, 121, 122, 123, 124, 125, 126, 127, 128, 754, 755, 756, 757, 758, 759, 760, 761, 762, 783, 784, 785, 786, 787, 788, 789, 790, 791, 792, 793, 794, 795] (by decide +kernel) (by decide +kernel)) (goodIn_sub (fun _ h => List.mem_append_right _ h) (by decide +kernel))
set_option maxRecDepth 20000 in
theorem gL_law_L_turnLock : GoodIn wsL_law (va_wsS RL 96 yL_turnLock wsL_turnLock) := goodIn_app (goodIn_of _ (by decide +kernel)) ggL_law_L_turnLock
set_option maxRecDepth 20000 in
theorem ggL_law_X3_turnLock : GoodIn wsL_law wsX3_turnLock := goodIn_r _ [209, 53, 210, 211, 212, 5, 213, 178, 187, 188, 189, 134, 135, 136, 137, 138, 139, 140, 141, 142, 763, 764, 765, 766, 767, 768, 769, 770, 771, 772, 773, 774, 775, 776, 777, 778, 779, 780, 781, 782] (by decide +kernel) (by decide +kernel)
set_option maxRecDepth 20000 in
theorem gL_law_X3_turnLock : GoodIn wsL_law (wsV RL 99 RX3 yX3_turnLock wsX3_turnLock) := goodIn_app (goodIn_of _ (by decide +kernel)) ggL_law_X3_turnLock
set_option maxRecDepth 20000 in
theorem ggL_law_L_putCheese : GoodIn wsL_law wsL_putCheese := goodIn_ca (goodIn_ca (goodIn_ca (goodIn_r _ [216, 150, 151, 59, 217, 218, 219, 2, 220, 156, 157, 64, 65, 16, 221, 159, 160, 161, 162, 163, 164, 66, 754, 755, 756, 757, 758, 759, 760, 761, 762, 783, 784, 785, 786, 787, 788, 789, 790, 791] (by decide +kernel) (by decide +kernel)) (goodIn_sub (fun _ h => List.mem_append_left _ (List.mem_append_right _ h)) (by decide +kernel))) (goodIn_sub (fun _ h => List.mem_append_left _ (List.mem_append_left _ (List.mem_append_right _ h))) (by decide +kernel))) (goodIn_sub (fun _ h => List.mem_append_right _ h) (by decide +kernel))
set_option maxRecDepth 20000 in
theorem gL_law_L_putCheese : GoodIn wsL_law (va_wsS RL 100 yL_putCheese wsL_putCheese) := goodIn_app (goodIn_of _ (by decide +kernel)) ggL_law_L_putCheese
set_option maxRecDepth 20000 in
theorem ggL_law_X3_putCheese : GoodIn wsL_law wsX3_putCheese := goodIn_r _ [225, 48, 183, 184, 185, 5, 186, 133, 187, 188, 189, 134, 135, 136, 137, 138, 139, 140, 141, 142, 763, 764, 765, 766, 767, 768, 769, 770, 771, 772, 773, 774, 775, 776, 777, 778, 779, 780, 781, 782] (by decide +kernel) (by decide +kernel)
set_option maxRecDepth 20000 in
theorem gL_law_X3_putCheese : GoodIn wsL_law (wsV RL 103 RX3 yX3_putCheese wsX3_putCheese) := goodIn_app (goodIn_of _ (by decide +kernel)) ggL_law_X3_putCheese
set_option maxRecDepth 20000 in
theorem ggL_law_L_begin : GoodIn wsL_law wsL_begin := goodIn_ca (goodIn_ca (goodIn_r _ [228, 150, 151, 229, 230, 231, 2, 232, 156, 157, 22, 23, 233, 234, 235, 236, 159, 160, 161, 162, 163, 164, 16, 66, 237, 238, 239, 240, 241, 242, 243, 244, 245, 246, 247, 248, 249, 20, 250, 251, 252, 253, 254, 255, 256, 257, 258, 259, 260, 19, 261, 42, 87, 88, 89, 754, 755, 756, 757, 758, 759, 760, 761, 762, 783, 784, 785, 786, 787, 788, 789, 790, 791, 792, 793, 794, 795] (by decide +kernel) (by decide +kernel)) (goodIn_sub (fun _ h => List.mem_append_left _ (List.mem_append_right _ h)) (by decide +kernel))) (goodIn_sub (fun _ h => List.mem_append_right _ h) (by decide +kernel))
set_option maxRecDepth 20000 in
theorem gL_law_L_begin : GoodIn wsL_law (va_wsS RL 104 yL_begin wsL_begin) := goodIn_app (goodIn_of _ (by decide +kernel)) ggL_law_L_begin
set_option maxRecDepth 20000 in
theorem ggL_law_X3_begin : GoodIn wsL_law wsX3_begin := goodIn_r _ [265, 47, 266, 267, 268, 269, 270, 271, 179, 180, 181, 5, 182, 133, 183, 184, 185, 186, 187, 188, 189, 134, 135, 136, 137, 138, 139, 140, 141, 142, 272, 273, 274, 275, 54, 276, 277, 278, 279, 27, 280, 281, 282, 283, 284, 285, 286, 190, 191, 192, 193, 178, 49, 50, 287, 288, 289, 290, 53, 51, 52, 291, 292, 293, 294, 763, 764, 765, 766, 767, 768, 769, 770, 771, 772, 773, 774, 775, 776, 777, 778, 779, 780, 781, 782] (by decide +kernel) (by decide +kernel)
set_option maxRecDepth 20000 in
theorem gL_law_X3_begin : GoodIn wsL_law (wsV RL 106 RX3 yX3_begin wsX3_begin) := goodIn_app (goodIn_of _ (by decide +kernel)) ggL_law_X3_begin
set_option maxRecDepth 20000 in
theorem ggL_law_L_go : GoodIn wsL_law wsL_go := goodIn_ca (goodIn_ca (goodIn_r _ [297, 150, 59, 298, 299, 300, 2, 301, 64, 65, 20, 236, 159, 160, 161, 162, 163, 164, 16, 66, 302, 303, 304, 305, 250, 251, 252, 253, 233, 254, 255, 256, 257, 306, 307, 308, 309, 22, 23, 310, 311, 312, 313, 314, 101, 102, 315, 316, 317, 19, 318, 39, 87, 88, 89, 112, 113, 319, 320, 321, 322, 323, 324, 325, 326, 235, 327, 328, 329, 330, 221, 234, 754, 755, 756, 757, 758, 759, 760, 761, 762, 783, 784, 785, 786, 787, 788, 789, 790, 791, 792, 793, 794, 795] (by decide +kernel) (by decide +kernel)) (goodIn_sub (fun _ h => List.mem_append_left _ (List.mem_append_left _ (List.mem_append_right _ h))) (by decide +kernel))) (goodIn_sub (fun _ h => List.mem_append_right _ h) (by decide +kernel))
set_option maxRecDepth 20000 in
theorem gL_law_L_go : GoodIn wsL_law (va_wsS RL 107 yL_go wsL_go) := goodIn_app (goodIn_of _ (by decide +kernel)) ggL_law_L_go
set_option maxRecDepth 20000 in
theorem ggL_law_X3_go : GoodIn wsL_law wsX3_go := goodIn_r _ [334, 267, 266, 269, 270, 47, 268, 183, 184, 185, 5, 186, 133, 187, 188, 189, 134, 135, 136, 137, 138, 139, 140, 141, 142, 283, 284, 285, 286, 190, 191, 192, 193, 178, 49, 50, 287, 288, 289, 290, 53, 51, 52, 335, 336, 337, 338, 48, 271, 763, 764, 765, 766, 767, 768, 769, 770, 771, 772, 773, 774, 775, 776, 777, 778, 779, 780, 781, 782] (by decide +kernel) (by decide +kernel)
set_option maxRecDepth 20000 in
theorem gL_law_X3_go : GoodIn wsL_law (wsV RL 109 RX3 yX3_go wsX3_go) := goodIn_app (goodIn_of _ (by decide +kernel)) ggL_law_X3_go
set_option maxRecDepth 20000 in
theorem ggL_law_L_play : GoodIn wsL_law wsL_play := goodIn_ca (goodIn_ca (goodIn_r _ [341, 151, 59, 342, 343, 344, 2, 345, 156, 157, 236, 302, 303, 304, 305, 64, 65, 346, 347, 348, 349, 310, 311, 312, 313, 233, 314, 101, 102, 350, 351, 352, 353, 23, 16, 66, 20, 22, 250, 251, 252, 253, 254, 255, 256, 257, 315, 316, 317, 19, 318, 39, 87, 88, 89, 112, 113, 258, 259, 260, 261, 42, 354, 355, 356, 357, 358, 359, 360, 361, 362, 363, 364, 15, 365, 90, 91, 366, 367, 368, 369, 169, 31, 32, 35, 319, 320, 321, 322, 323, 324, 325, 326, 235, 327, 328, 329, 330, 221, 234, 754, 755, 756, 757, 758, 759, 760, 761, 762, 783, 784, 785, 786, 787, 788, 789, 790, 791, 792, 793, 794, 795] (by decide +kernel) (by decide +kernel)) (goodIn_sub (fun _ h => List.mem_append_left _ (List.mem_append_right _ h)) (by decide +kernel))) (goodIn_sub (fun _ h => List.mem_append_left _ (List.mem_append_left _ (List.mem_append_right _ h))) (by decide +kernel))
set_option maxRecDepth 20000 in
theorem gL_law_L_play : GoodIn wsL_law (va_wsS RL 110 yL_play wsL_play) := goodIn_app (goodIn_of _ (by decide +kernel)) ggL_law_L_play
set_option maxRecDepth 20000 in
theorem ggL_law_X3_play : GoodIn wsL_law wsX3_play := goodIn_r _ [373, 267, 187, 188, 5, 189, 134, 135, 136, 137, 138, 139, 140, 141, 142, 374, 375, 376, 377, 378, 133, 266, 269, 270, 47, 54, 276, 277, 278, 279, 27, 280, 281, 282, 283, 284, 285, 286, 190, 191, 192, 193, 178, 49, 50, 287, 288, 289, 290, 53, 51, 52, 291, 292, 293, 294, 379, 380, 381, 382, 335, 336, 337, 338, 268, 48, 271, 763, 764, 765, 766, 767, 768, 769, 770, 771, 772, 773, 774, 775, 776, 777, 778, 779, 780, 781, 782] (by decide +kernel) (by decide +kernel)
set_option maxRecDepth 20000 in
theorem gL_law_X3_play : GoodIn wsL_law (wsV RL 112 RX3 yX3_play wsX3_play) := goodIn_app (goodIn_of _ (by decide +kernel)) ggL_law_X3_play
set_option maxRecDepth 20000 in
theorem ggL_law_X2_turn : GoodIn wsL_law wsX2_turn := goodIn_r _ [386, 233, 754, 755, 756, 757, 758, 759, 760, 761, 762] (by decide +kernel) (by decide +kernel)
set_option maxRecDepth 20000 in
theorem gL_law_X2_turn : GoodIn wsL_law (wsV RL 113 RX2 yX2_turn wsX2_turn) := goodIn_app (goodIn_of _ (by decide +kernel)) ggL_law_X2_turn
set_option maxRecDepth 20000 in
theorem ggL_law_X3_turn : GoodIn wsL_law wsX3_turn := goodIn_r _ [390, 266, 391, 392, 393, 5, 394, 138, 763, 764, 765, 766, 767, 768, 769, 770, 771, 772, 773, 774, 775, 776, 777, 778, 779, 780, 781, 782] (by decide +kernel) (by decide +kernel)
set_option maxRecDepth 20000 in
theorem gL_law_X3_turn : GoodIn wsL_law (wsV RL 116 RX3 yX3_turn wsX3_turn) := goodIn_app (goodIn_of _ (by decide +kernel)) ggL_law_X3_turn
set_option maxRecDepth 20000 in
theorem ggL_law_X2_rooms : GoodIn wsL_law wsX2_rooms := goodIn_r _ [398, 16, 66, 754, 755, 756, 757, 758, 759, 760, 761, 762, 783, 784, 785, 786, 787, 788, 789, 790, 791] (by decide +kernel) (by decide +kernel)
set_option maxRecDepth 20000 in
theorem gL_law_X2_rooms : GoodIn wsL_law (wsV RL 117 RX2 yX2_rooms wsX2_rooms) := goodIn_app (goodIn_of _ (by decide +kernel)) ggL_law_X2_rooms
set_option maxRecDepth 20000 in
theorem ggL_law_X3_rooms : GoodIn wsL_law wsX3_rooms := goodIn_r _ [402, 133, 391, 392, 393, 5, 394, 138, 763, 764, 765, 766, 767, 768, 769, 770, 771, 772, 773, 774, 775, 776, 777, 778, 779, 780, 781, 782] (by decide +kernel) (by decide +kernel)
set_option maxRecDepth 20000 in
theorem gL_law_X3_rooms : GoodIn wsL_law (wsV RL 120 RX3 yX3_rooms wsX3_rooms) := goodIn_app (goodIn_of _ (by decide +kernel)) ggL_law_X3_rooms
set_option maxRecDepth 20000 in
theorem ggL_law_X2_doors : GoodIn wsL_law wsX2_doors := goodIn_r _ [406, 16, 158, 754, 755, 756, 757, 758, 759, 760, 761, 762, 783, 784, 785, 786, 787, 788, 789, 790, 791] (by decide +kernel) (by decide +kernel)
set_option maxRecDepth 20000 in
theorem gL_law_X2_doors : GoodIn wsL_law (wsV RL 121 RX2 yX2_doors wsX2_doors) := goodIn_app (goodIn_of _ (by decide +kernel)) ggL_law_X2_doors
set_option maxRecDepth 20000 in
theorem ggL_law_X3_doors : GoodIn wsL_law wsX3_doors := goodIn_r _ [410, 178, 391, 392, 393, 5, 394, 138, 763, 764, 765, 766, 767, 768, 769, 770, 771, 772, 773, 774, 775, 776, 777, 778, 779, 780, 781, 782] (by decide +kernel) (by decide +kernel)
set_option maxRecDepth 20000 in
theorem gL_law_X3_doors : GoodIn wsL_law (wsV RL 124 RX3 yX3_doors wsX3_doors) := goodIn_app (goodIn_of _ (by decide +kernel)) ggL_law_X3_doors
set_option maxRecDepth 20000 in
theorem ggL_law_X2_isOn : GoodIn wsL_law wsX2_isOn := goodIn_r _ [414, 236, 754, 755, 756, 757, 758, 759, 760, 761, 762] (by decide +kernel) (by decide +kernel)
set_option maxRecDepth 20000 in
theorem gL_law_X2_isOn : GoodIn wsL_law (wsV RL 125 RX2 yX2_isOn wsX2_isOn) := goodIn_app (goodIn_of _ (by decide +kernel)) ggL_law_X2_isOn
set_option maxRecDepth 20000 in
theorem ggL_law_X3_isOn : GoodIn wsL_law wsX3_isOn := goodIn_r _ [418, 267, 419, 420, 421, 5, 422, 138, 763, 764, 765, 766, 767, 768, 769, 770, 771, 772, 773, 774, 775, 776, 777, 778, 779, 780, 781, 782] (by decide +kernel) (by decide +kernel)
set_option maxRecDepth 20000 in
theorem gL_law_X3_isOn : GoodIn wsL_law (wsV RL 129 RX3 yX3_isOn wsX3_isOn) := goodIn_app (goodIn_of _ (by decide +kernel)) ggL_law_X3_isOn
set_option maxRecDepth 20000 in
theorem ggL_law_X2_isCaught : GoodIn wsL_law wsX2_isCaught := goodIn_r _ [426, 235, 754, 755, 756, 757, 758, 759, 760, 761, 762] (by decide +kernel) (by decide +kernel)
set_option maxRecDepth 20000 in
theorem gL_law_X2_isCaught : GoodIn wsL_law (wsV RL 130 RX2 yX2_isCaught wsX2_isCaught) := goodIn_app (goodIn_of _ (by decide +kernel)) ggL_law_X2_isCaught
set_option maxRecDepth 20000 in
theorem ggL_law_X3_isCaught : GoodIn wsL_law wsX3_isCaught := goodIn_r _ [430, 268, 419, 420, 421, 5, 422, 138, 763, 764, 765, 766, 767, 768, 769, 770, 771, 772, 773, 774, 775, 776, 777, 778, 779, 780, 781, 782] (by decide +kernel) (by decide +kernel)
set_option maxRecDepth 20000 in
theorem gL_law_X3_isCaught : GoodIn wsL_law (wsV RL 133 RX3 yX3_isCaught wsX3_isCaught) := goodIn_app (goodIn_of _ (by decide +kernel)) ggL_law_X3_isCaught
set_option maxRecDepth 20000 in
theorem ggL_law_X2_isCatsTurn : GoodIn wsL_law wsX2_isCatsTurn := goodIn_r _ [313, 233, 314, 101, 2, 102, 754, 755, 756, 757, 758, 759, 760, 761, 762] (by decide +kernel) (by decide +kernel)
set_option maxRecDepth 20000 in
theorem gL_law_X2_isCatsTurn : GoodIn wsL_law (wsV RL 134 RX2 yX2_isCatsTurn wsX2_isCatsTurn) := goodIn_app (goodIn_of _ (by decide +kernel)) ggL_law_X2_isCatsTurn
set_option maxRecDepth 20000 in
theorem ggL_law_X3_isCatsTurn : GoodIn wsL_law wsX3_isCatsTurn := goodIn_r _ [435, 266, 419, 420, 421, 5, 422, 138, 763, 764, 765, 766, 767, 768, 769, 770, 771, 772, 773, 774, 775, 776, 777, 778, 779, 780, 781, 782] (by decide +kernel) (by decide +kernel)
set_option maxRecDepth 20000 in
theorem gL_law_X3_isCatsTurn : GoodIn wsL_law (wsV RL 137 RX3 yX3_isCatsTurn wsX3_isCatsTurn) := goodIn_app (goodIn_of _ (by decide +kernel)) ggL_law_X3_isCatsTurn
set_option maxRecDepth 20000 in
theorem ggL_law_X2_catIn : GoodIn wsL_law wsX2_catIn := goodIn_r _ [439, 22, 754, 755, 756, 757, 758, 759, 760, 761, 762] (by decide +kernel) (by decide +kernel)
set_option maxRecDepth 20000 in
theorem gL_law_X2_catIn : GoodIn wsL_law (wsV RL 138 RX2 yX2_catIn wsX2_catIn) := goodIn_app (goodIn_of _ (by decide +kernel)) ggL_law_X2_catIn
set_option maxRecDepth 20000 in
theorem ggL_law_X3_catIn : GoodIn wsL_law wsX3_catIn := goodIn_r _ [443, 267, 269, 391, 392, 393, 5, 394, 138, 763, 764, 765, 766, 767, 768, 769, 770, 771, 772, 773, 774, 775, 776, 777, 778, 779, 780, 781, 782] (by decide +kernel) (by decide +kernel)
set_option maxRecDepth 20000 in
theorem gL_law_X3_catIn : GoodIn wsL_law (wsV RL 141 RX3 yX3_catIn wsX3_catIn) := goodIn_app (goodIn_of _ (by decide +kernel)) ggL_law_X3_catIn
set_option maxRecDepth 20000 in
theorem ggL_law_X2_mouseIn : GoodIn wsL_law wsX2_mouseIn := goodIn_r _ [447, 23, 754, 755, 756, 757, 758, 759, 760, 761, 762] (by decide +kernel) (by decide +kernel)
set_option maxRecDepth 20000 in
theorem gL_law_X2_mouseIn : GoodIn wsL_law (wsV RL 142 RX2 yX2_mouseIn wsX2_mouseIn) := goodIn_app (goodIn_of _ (by decide +kernel)) ggL_law_X2_mouseIn
set_option maxRecDepth 20000 in
theorem ggL_law_X3_mouseIn : GoodIn wsL_law wsX3_mouseIn := goodIn_r _ [451, 267, 270, 391, 392, 393, 5, 394, 138, 763, 764, 765, 766, 767, 768, 769, 770, 771, 772, 773, 774, 775, 776, 777, 778, 779, 780, 781, 782] (by decide +kernel) (by decide +kernel)
set_option maxRecDepth 20000 in
theorem gL_law_X3_mouseIn : GoodIn wsL_law (wsV RL 145 RX3 yX3_mouseIn wsX3_mouseIn) := goodIn_app (goodIn_of _ (by decide +kernel)) ggL_law_X3_mouseIn
set_option maxRecDepth 20000 in
theorem ggL_law_X2_eaten : GoodIn wsL_law wsX2_eaten := goodIn_r _ [455, 234, 754, 755, 756, 757, 758, 759, 760, 761, 762] (by decide +kernel) (by decide +kernel)
set_option maxRecDepth 20000 in
theorem gL_law_X2_eaten : GoodIn wsL_law (wsV RL 146 RX2 yX2_eaten wsX2_eaten) := goodIn_app (goodIn_of _ (by decide +kernel)) ggL_law_X2_eaten
set_option maxRecDepth 20000 in
theorem ggL_law_X3_eaten : GoodIn wsL_law wsX3_eaten := goodIn_r _ [459, 271, 391, 392, 393, 5, 394, 138, 763, 764, 765, 766, 767, 768, 769, 770, 771, 772, 773, 774, 775, 776, 777, 778, 779, 780, 781, 782] (by decide +kernel) (by decide +kernel)
set_option maxRecDepth 20000 in
theorem gL_law_X3_eaten : GoodIn wsL_law (wsV RL 149 RX3 yX3_eaten wsX3_eaten) := goodIn_app (goodIn_of _ (by decide +kernel)) ggL_law_X3_eaten
set_option maxRecDepth 20000 in
theorem ggL_law_L_isSafe : GoodIn wsL_law wsL_isSafe := goodIn_ca (goodIn_r _ [462, 150, 463, 464, 465, 2, 466, 16, 241, 159, 160, 161, 162, 163, 164, 66, 754, 755, 756, 757, 758, 759, 760, 761, 762, 783, 784, 785, 786, 787, 788, 789, 790, 791] (by decide +kernel) (by decide +kernel)) (goodIn_sub (fun _ h => List.mem_append_right _ h) (by decide +kernel))
set_option maxRecDepth 20000 in
theorem gL_law_L_isSafe : GoodIn wsL_law (va_wsS RL 150 yL_isSafe wsL_isSafe) := goodIn_app (goodIn_of _ (by decide +kernel)) ggL_law_L_isSafe
set_option maxRecDepth 20000 in
theorem ggL_law_X3_isSafe : GoodIn wsL_law wsX3_isSafe := goodIn_r _ [470, 47, 183, 184, 185, 5, 186, 133, 187, 188, 189, 134, 135, 136, 137, 138, 139, 140, 141, 142, 763, 764, 765, 766, 767, 768, 769, 770, 771, 772, 773, 774, 775, 776, 777, 778, 779, 780, 781, 782] (by decide +kernel) (by decide +kernel)
set_option maxRecDepth 20000 in
theorem gL_law_X3_isSafe : GoodIn wsL_law (wsV RL 152 RX3 yX3_isSafe wsX3_isSafe) := goodIn_app (goodIn_of _ (by decide +kernel)) ggL_law_X3_isSafe
set_option maxRecDepth 20000 in
theorem ggL_law_L_cheeseIn : GoodIn wsL_law wsL_cheeseIn := goodIn_ca (goodIn_r _ [473, 150, 474, 475, 476, 2, 477, 16, 221, 159, 160, 161, 162, 163, 164, 66, 754, 755, 756, 757, 758, 759, 760, 761, 762, 783, 784, 785, 786, 787, 788, 789, 790, 791] (by decide +kernel) (by decide +kernel)) (goodIn_sub (fun _ h => List.mem_append_right _ h) (by decide +kernel))
set_option maxRecDepth 20000 in
theorem gL_law_L_cheeseIn : GoodIn wsL_law (va_wsS RL 153 yL_cheeseIn wsL_cheeseIn) := goodIn_app (goodIn_of _ (by decide +kernel)) ggL_law_L_cheeseIn
set_option maxRecDepth 20000 in
theorem ggL_law_X3_cheeseIn : GoodIn wsL_law wsX3_cheeseIn := goodIn_r _ [481, 48, 183, 184, 185, 5, 186, 133, 187, 188, 189, 134, 135, 136, 137, 138, 139, 140, 141, 142, 763, 764, 765, 766, 767, 768, 769, 770, 771, 772, 773, 774, 775, 776, 777, 778, 779, 780, 781, 782] (by decide +kernel) (by decide +kernel)
set_option maxRecDepth 20000 in
theorem gL_law_X3_cheeseIn : GoodIn wsL_law (wsV RL 155 RX3 yX3_cheeseIn wsX3_cheeseIn) := goodIn_app (goodIn_of _ (by decide +kernel)) ggL_law_X3_cheeseIn
set_option maxRecDepth 20000 in
theorem ggL_law_L_doorsOf : GoodIn wsL_law wsL_doorsOf := goodIn_ca (goodIn_r _ [484, 150, 485, 486, 487, 2, 488, 16, 159, 160, 161, 162, 163, 164, 66, 489, 490, 491, 15, 492, 169, 35, 31, 32, 754, 755, 756, 757, 758, 759, 760, 761, 762, 783, 784, 785, 786, 787, 788, 789, 790, 791] (by decide +kernel) (by decide +kernel)) (goodIn_sub (fun _ h => List.mem_append_right _ h) (by decide +kernel))
set_option maxRecDepth 20000 in
theorem gL_law_L_doorsOf : GoodIn wsL_law (va_wsS RL 156 yL_doorsOf wsL_doorsOf) := goodIn_app (goodIn_of _ (by decide +kernel)) ggL_law_L_doorsOf
set_option maxRecDepth 20000 in
theorem ggL_law_X3_doorsOf : GoodIn wsL_law wsX3_doorsOf := goodIn_r _ [496, 183, 184, 185, 5, 186, 133, 187, 188, 189, 134, 135, 136, 137, 138, 139, 140, 141, 142, 497, 498, 499, 500, 178, 53, 49, 50, 763, 764, 765, 766, 767, 768, 769, 770, 771, 772, 773, 774, 775, 776, 777, 778, 779, 780, 781, 782] (by decide +kernel) (by decide +kernel)
set_option maxRecDepth 20000 in
theorem gL_law_X3_doorsOf : GoodIn wsL_law (wsV RL 158 RX3 yX3_doorsOf wsX3_doorsOf) := goodIn_app (goodIn_of _ (by decide +kernel)) ggL_law_X3_doorsOf
set_option maxRecDepth 20000 in
theorem ggL_law_L_isLocked : GoodIn wsL_law wsL_isLocked := goodIn_ca (goodIn_r _ [503, 150, 504, 505, 506, 2, 507, 16, 201, 202, 203, 204, 205, 163, 164, 158, 754, 755, 756, 757, 758, 759, 760, 761, 762, 783, 784, 785, 786, 787, 788, 789, 790, 791] (by decide +kernel) (by decide +kernel)) (goodIn_sub (fun _ h => List.mem_append_right _ h) (by decide +kernel))
set_option maxRecDepth 20000 in
theorem gL_law_L_isLocked : GoodIn wsL_law (va_wsS RL 159 yL_isLocked wsL_isLocked) := goodIn_app (goodIn_of _ (by decide +kernel)) ggL_law_L_isLocked
set_option maxRecDepth 20000 in
theorem ggL_law_X3_isLocked : GoodIn wsL_law wsX3_isLocked := goodIn_r _ [511, 53, 210, 211, 212, 5, 213, 178, 187, 188, 189, 134, 135, 136, 137, 138, 139, 140, 141, 142, 763, 764, 765, 766, 767, 768, 769, 770, 771, 772, 773, 774, 775, 776, 777, 778, 779, 780, 781, 782] (by decide +kernel) (by decide +kernel)
set_option maxRecDepth 20000 in
theorem gL_law_X3_isLocked : GoodIn wsL_law (wsV RL 161 RX3 yX3_isLocked wsX3_isLocked) := goodIn_app (goodIn_of _ (by decide +kernel)) ggL_law_X3_isLocked
set_option maxRecDepth 20000 in
theorem ggL_law_L_isOpen : GoodIn wsL_law wsL_isOpen := goodIn_ca (goodIn_r _ [514, 150, 515, 516, 517, 2, 518, 16, 202, 203, 204, 205, 163, 164, 158, 250, 251, 252, 253, 233, 254, 255, 256, 257, 519, 93, 94, 15, 95, 35, 33, 34, 754, 755, 756, 757, 758, 759, 760, 761, 762, 783, 784, 785, 786, 787, 788, 789, 790, 791] (by decide +kernel) (by decide +kernel)) (goodIn_sub (fun _ h => List.mem_append_right _ h) (by decide +kernel))
set_option maxRecDepth 20000 in
theorem gL_law_L_isOpen : GoodIn wsL_law (va_wsS RL 162 yL_isOpen wsL_isOpen) := goodIn_app (goodIn_of _ (by decide +kernel)) ggL_law_L_isOpen
set_option maxRecDepth 20000 in
theorem ggL_law_X3_isOpen : GoodIn wsL_law wsX3_isOpen := goodIn_r _ [523, 266, 210, 211, 212, 5, 213, 178, 187, 188, 189, 134, 135, 136, 137, 138, 139, 140, 141, 142, 287, 288, 289, 290, 53, 51, 52, 763, 764, 765, 766, 767, 768, 769, 770, 771, 772, 773, 774, 775, 776, 777, 778, 779, 780, 781, 782] (by decide +kernel) (by decide +kernel)
set_option maxRecDepth 20000 in
theorem gL_law_X3_isOpen : GoodIn wsL_law (wsV RL 164 RX3 yX3_isOpen wsX3_isOpen) := goodIn_app (goodIn_of _ (by decide +kernel)) ggL_law_X3_isOpen
set_option maxRecDepth 20000 in
theorem ggL_law_L_turnsUntilOpen : GoodIn wsL_law wsL_turnsUntilOpen := goodIn_ca (goodIn_r _ [526, 150, 527, 528, 529, 2, 530, 16, 202, 203, 204, 205, 163, 164, 158, 250, 251, 252, 253, 233, 254, 255, 256, 257, 519, 93, 94, 15, 95, 35, 33, 34, 754, 755, 756, 757, 758, 759, 760, 761, 762, 783, 784, 785, 786, 787, 788, 789, 790, 791] (by decide +kernel) (by decide +kernel)) (goodIn_sub (fun _ h => List.mem_append_right _ h) (by decide +kernel))
set_option maxRecDepth 20000 in
theorem gL_law_L_turnsUntilOpen : GoodIn wsL_law (va_wsS RL 165 yL_turnsUntilOpen wsL_turnsUntilOpen) := goodIn_app (goodIn_of _ (by decide +kernel)) ggL_law_L_turnsUntilOpen
set_option maxRecDepth 20000 in
theorem ggL_law_X3_turnsUntilOpen : GoodIn wsL_law wsX3_turnsUntilOpen := goodIn_r _ [534, 210, 211, 212, 5, 213, 178, 187, 188, 189, 134, 135, 136, 137, 138, 139, 140, 141, 142, 535, 536, 537, 538, 53, 266, 287, 288, 289, 290, 51, 52, 763, 764, 765, 766, 767, 768, 769, 770, 771, 772, 773, 774, 775, 776, 777, 778, 779, 780, 781, 782] (by decide +kernel) (by decide +kernel)
set_option maxRecDepth 20000 in
theorem gL_law_X3_turnsUntilOpen : GoodIn wsL_law (wsV RL 167 RX3 yX3_turnsUntilOpen wsX3_turnsUntilOpen) := goodIn_app (goodIn_of _ (by decide +kernel)) ggL_law_X3_turnsUntilOpen
set_option maxRecDepth 20000 in
theorem ggL_law_L_doorBetween : GoodIn wsL_law wsL_doorBetween := goodIn_ca (goodIn_r _ [541, 150, 542, 543, 544, 2, 545, 16, 159, 160, 161, 162, 163, 164, 66, 165, 166, 167, 15, 168, 169, 31, 32, 754, 755, 756, 757, 758, 759, 760, 761, 762, 783, 784, 785, 786, 787, 788, 789, 790, 791] (by decide +kernel) (by decide +kernel)) (goodIn_sub (fun _ h => List.mem_append_right _ h) (by decide +kernel))
set_option maxRecDepth 20000 in
theorem gL_law_L_doorBetween : GoodIn wsL_law (va_wsS RL 168 yL_doorBetween wsL_doorBetween) := goodIn_app (goodIn_of _ (by decide +kernel)) ggL_law_L_doorBetween
set_option maxRecDepth 20000 in
theorem ggL_law_X3_doorBetween : GoodIn wsL_law wsX3_doorBetween := goodIn_r _ [549, 179, 180, 181, 5, 182, 133, 183, 184, 185, 186, 187, 188, 189, 134, 135, 136, 137, 138, 139, 140, 141, 142, 190, 191, 192, 193, 178, 49, 50, 763, 764, 765, 766, 767, 768, 769, 770, 771, 772, 773, 774, 775, 776, 777, 778, 779, 780, 781, 782] (by decide +kernel) (by decide +kernel)
set_option maxRecDepth 20000 in
theorem gL_law_X3_doorBetween : GoodIn wsL_law (wsV RL 170 RX3 yX3_doorBetween wsX3_doorBetween) := goodIn_app (goodIn_of _ (by decide +kernel)) ggL_law_X3_doorBetween
set_option maxRecDepth 20000 in
theorem ggL_law_L_isWayOpen : GoodIn wsL_law wsL_isWayOpen := goodIn_ca (goodIn_r _ [552, 150, 553, 554, 555, 2, 556, 16, 159, 160, 161, 162, 163, 164, 66, 165, 166, 167, 15, 168, 169, 31, 32, 250, 251, 252, 253, 233, 254, 255, 256, 257, 519, 93, 94, 95, 35, 33, 34, 754, 755, 756, 757, 758, 759, 760, 761, 762, 783, 784, 785, 786, 787, 788, 789, 790, 791] (by decide +kernel) (by decide +kernel)) (goodIn_sub (fun _ h => List.mem_append_right _ h) (by decide +kernel))
set_option maxRecDepth 20000 in
theorem gL_law_L_isWayOpen : GoodIn wsL_law (va_wsS RL 171 yL_isWayOpen wsL_isWayOpen) := goodIn_app (goodIn_of _ (by decide +kernel)) ggL_law_L_isWayOpen
set_option maxRecDepth 20000 in
theorem ggL_law_X3_isWayOpen : GoodIn wsL_law wsX3_isWayOpen := goodIn_r _ [560, 266, 179, 180, 181, 5, 182, 133, 183, 184, 185, 186, 187, 188, 189, 134, 135, 136, 137, 138, 139, 140, 141, 142, 190, 191, 192, 193, 178, 49, 50, 287, 288, 289, 290, 53, 51, 52, 763, 764, 765, 766, 767, 768, 769, 770, 771, 772, 773, 774, 775, 776, 777, 778, 779, 780, 781, 782] (by decide +kernel) (by decide +kernel)
set_option maxRecDepth 20000 in
theorem gL_law_X3_isWayOpen : GoodIn wsL_law (wsV RL 173 RX3 yX3_isWayOpen wsX3_isWayOpen) := goodIn_app (goodIn_of _ (by decide +kernel)) ggL_law_X3_isWayOpen
set_option maxRecDepth 20000 in
theorem ggL_law_L_distance : GoodIn wsL_law wsL_distance := goodIn_ca (goodIn_r _ [563, 150, 564, 565, 566, 2, 567, 16, 159, 160, 161, 162, 163, 164, 66, 362, 363, 364, 15, 365, 90, 91, 112, 113, 366, 367, 368, 369, 169, 31, 32, 35, 754, 755, 756, 757, 758, 759, 760, 761, 762, 783, 784, 785, 786, 787, 788, 789, 790, 791] (by decide +kernel) (by decide +kernel)) (goodIn_sub (fun _ h => List.mem_append_right _ h) (by decide +kernel))
set_option maxRecDepth 20000 in
theorem gL_law_L_distance : GoodIn wsL_law (va_wsS RL 174 yL_distance wsL_distance) := goodIn_app (goodIn_of _ (by decide +kernel)) ggL_law_L_distance
set_option maxRecDepth 20000 in
theorem ggL_law_X3_distance : GoodIn wsL_law wsX3_distance := goodIn_r _ [571, 179, 180, 181, 5, 182, 133, 183, 184, 185, 186, 187, 188, 189, 134, 135, 136, 137, 138, 139, 140, 141, 142, 379, 380, 381, 382, 27, 53, 190, 191, 192, 193, 178, 49, 50, 763, 764, 765, 766, 767, 768, 769, 770, 771, 772, 773, 774, 775, 776, 777, 778, 779, 780, 781, 782] (by decide +kernel) (by decide +kernel)
set_option maxRecDepth 20000 in
theorem gL_law_X3_distance : GoodIn wsL_law (wsV RL 176 RX3 yX3_distance wsX3_distance) := goodIn_app (goodIn_of _ (by decide +kernel)) ggL_law_X3_distance
set_option maxRecDepth 20000 in
theorem ggL_law_L_catArrives : GoodIn wsL_law wsL_catArrives := goodIn_ca (goodIn_ca (goodIn_r _ [574, 150, 59, 575, 576, 577, 2, 578, 22, 159, 160, 161, 162, 163, 164, 16, 66, 302, 303, 304, 305, 64, 65, 236, 579, 580, 581, 582, 20, 583, 90, 91, 584, 112, 113, 250, 251, 252, 253, 233, 254, 255, 256, 257, 314, 101, 102, 585, 586, 587, 19, 588, 39, 87, 88, 89, 754, 755, 756, 757, 758, 759, 760, 761, 762, 783, 784, 785, 786, 787, 788, 789, 790, 791, 792, 793, 794, 795] (by decide +kernel) (by decide +kernel)) (goodIn_sub (fun _ h => List.mem_append_right _ h) (by decide +kernel))) (goodIn_sub (fun _ h => List.mem_append_left _ (List.mem_append_left _ (List.mem_append_right _ h))) (by decide +kernel))
set_option maxRecDepth 20000 in
theorem gL_law_L_catArrives : GoodIn wsL_law (va_wsS RL 177 yL_catArrives wsL_catArrives) := goodIn_app (goodIn_of _ (by decide +kernel)) ggL_law_L_catArrives
set_option maxRecDepth 20000 in
theorem ggL_law_X3_catArrives : GoodIn wsL_law wsX3_catArrives := goodIn_r _ [592, 269, 593, 594, 595, 5, 596, 267, 183, 184, 185, 186, 133, 187, 188, 189, 134, 135, 136, 137, 138, 139, 140, 141, 142, 597, 598, 599, 600, 27, 266, 47, 283, 284, 285, 286, 190, 191, 192, 193, 178, 49, 50, 287, 288, 289, 290, 53, 51, 52, 763, 764, 765, 766, 767, 768, 769, 770, 771, 772, 773, 774, 775, 776, 777, 778, 779, 780, 781, 782] (by decide +kernel) (by decide +kernel)
set_option maxRecDepth 20000 in
theorem gL_law_X3_catArrives : GoodIn wsL_law (wsV RL 179 RX3 yX3_catArrives wsX3_catArrives) := goodIn_app (goodIn_of _ (by decide +kernel)) ggL_law_X3_catArrives
set_option maxRecDepth 20000 in
theorem ggL_law_L_mouseArrives : GoodIn wsL_law wsL_mouseArrives := goodIn_ca (goodIn_ca (goodIn_r _ [603, 150, 59, 604, 605, 606, 2, 607, 23, 159, 160, 161, 162, 163, 164, 16, 66, 302, 303, 304, 305, 64, 65, 236, 579, 580, 581, 582, 20, 583, 90, 91, 584, 112, 113, 250, 251, 252, 253, 233, 254, 255, 256, 257, 314, 101, 102, 585, 586, 587, 19, 588, 39, 87, 88, 89, 754, 755, 756, 757, 758, 759, 760, 761, 762, 783, 784, 785, 786, 787, 788, 789, 790, 791, 792, 793, 794, 795] (by decide +kernel) (by decide +kernel)) (goodIn_sub (fun _ h => List.mem_append_right _ h) (by decide +kernel))) (goodIn_sub (fun _ h => List.mem_append_left _ (List.mem_append_left _ (List.mem_append_right _ h))) (by decide +kernel))
set_option maxRecDepth 20000 in
theorem gL_law_L_mouseArrives : GoodIn wsL_law (va_wsS RL 180 yL_mouseArrives wsL_mouseArrives) := goodIn_app (goodIn_of _ (by decide +kernel)) ggL_law_L_mouseArrives
set_option maxRecDepth 20000 in
theorem ggL_law_X3_mouseArrives : GoodIn wsL_law wsX3_mouseArrives := goodIn_r _ [611, 270, 593, 594, 595, 5, 596, 267, 183, 184, 185, 186, 133, 187, 188, 189, 134, 135, 136, 137, 138, 139, 140, 141, 142, 597, 598, 599, 600, 27, 266, 47, 283, 284, 285, 286, 190, 191, 192, 193, 178, 49, 50, 287, 288, 289, 290, 53, 51, 52, 763, 764, 765, 766, 767, 768, 769, 770, 771, 772, 773, 774, 775, 776, 777, 778, 779, 780, 781, 782] (by decide +kernel) (by decide +kernel)
set_option maxRecDepth 20000 in
theorem gL_law_X3_mouseArrives : GoodIn wsL_law (wsV RL 182 RX3 yX3_mouseArrives wsX3_mouseArrives) := goodIn_app (goodIn_of _ (by decide +kernel)) ggL_law_X3_mouseArrives
set_option maxRecDepth 20000 in
theorem ggL_law_X2_turnsToCatch : GoodIn wsL_law wsX2_turnsToCatch := goodIn_r _ [245, 236, 22, 23, 246, 247, 248, 2, 249, 20, 250, 251, 252, 253, 233, 254, 255, 256, 257, 258, 259, 260, 19, 261, 42, 87, 88, 89, 754, 755, 756, 757, 758, 759, 760, 761, 762, 792, 793, 794, 795] (by decide +kernel) (by decide +kernel)
set_option maxRecDepth 20000 in
theorem gL_law_X2_turnsToCatch : GoodIn wsL_law (wsV RL 183 RX2 yX2_turnsToCatch wsX2_turnsToCatch) := goodIn_app (goodIn_of _ (by decide +kernel)) ggL_law_X2_turnsToCatch
set_option maxRecDepth 20000 in
theorem ggL_law_X3_turnsToCatch : GoodIn wsL_law wsX3_turnsToCatch := goodIn_r _ [616, 272, 273, 274, 5, 275, 267, 54, 266, 269, 270, 276, 277, 278, 279, 27, 133, 47, 280, 281, 282, 283, 284, 285, 286, 190, 191, 192, 193, 178, 49, 50, 287, 288, 289, 290, 53, 51, 52, 291, 292, 293, 294, 391, 392, 393, 394, 138, 763, 764, 765, 766, 767, 768, 769, 770, 771, 772, 773, 774, 775, 776, 777, 778, 779, 780, 781, 782] (by decide +kernel) (by decide +kernel)
set_option maxRecDepth 20000 in
theorem gL_law_X3_turnsToCatch : GoodIn wsL_law (wsV RL 186 RX3 yX3_turnsToCatch wsX3_turnsToCatch) := goodIn_app (goodIn_of _ (by decide +kernel)) ggL_law_X3_turnsToCatch
set_option maxRecDepth 20000 in
theorem ggL_law_L_turnsFrom : GoodIn wsL_law wsL_turnsFrom := goodIn_ca (goodIn_ca (goodIn_r _ [619, 150, 151, 620, 621, 622, 2, 623, 159, 160, 161, 162, 163, 164, 16, 66, 237, 238, 239, 240, 156, 157, 241, 246, 247, 248, 249, 20, 250, 251, 252, 253, 233, 254, 255, 256, 257, 258, 259, 260, 19, 261, 42, 87, 88, 89, 754, 755, 756, 757, 758, 759, 760, 761, 762, 783, 784, 785, 786, 787, 788, 789, 790, 791, 792, 793, 794, 795] (by decide +kernel) (by decide +kernel)) (goodIn_sub (fun _ h => List.mem_append_right _ h) (by decide +kernel))) (goodIn_sub (fun _ h => List.mem_append_left _ (List.mem_append_right _ h)) (by decide +kernel))
set_option maxRecDepth 20000 in
theorem gL_law_L_turnsFrom : GoodIn wsL_law (va_wsS RL 187 yL_turnsFrom wsL_turnsFrom) := goodIn_app (goodIn_of _ (by decide +kernel)) ggL_law_L_turnsFrom
set_option maxRecDepth 20000 in
theorem ggL_law_X3_turnsFrom : GoodIn wsL_law wsX3_turnsFrom := goodIn_r _ [627, 47, 54, 266, 179, 180, 181, 5, 182, 133, 183, 184, 185, 186, 187, 188, 189, 134, 135, 136, 137, 138, 139, 140, 141, 142, 276, 277, 278, 279, 27, 280, 281, 282, 283, 284, 285, 286, 190, 191, 192, 193, 178, 49, 50, 287, 288, 289, 290, 53, 51, 52, 291, 292, 293, 294, 763, 764, 765, 766, 767, 768, 769, 770, 771, 772, 773, 774, 775, 776, 777, 778, 779, 780, 781, 782] (by decide +kernel) (by decide +kernel)
set_option maxRecDepth 20000 in
theorem gL_law_X3_turnsFrom : GoodIn wsL_law (wsV RL 189 RX3 yX3_turnsFrom wsX3_turnsFrom) := goodIn_app (goodIn_of _ (by decide +kernel)) ggL_law_X3_turnsFrom
set_option maxRecDepth 20000 in
theorem ggL_law_X2_safeNow : GoodIn wsL_law wsX2_safeNow := goodIn_r _ [631, 236, 16, 66, 22, 246, 247, 248, 2, 249, 20, 250, 251, 252, 253, 233, 254, 255, 256, 257, 258, 259, 260, 19, 261, 42, 87, 88, 89, 754, 755, 756, 757, 758, 759, 760, 761, 762, 783, 784, 785, 786, 787, 788, 789, 790, 791, 792, 793, 794, 795] (by decide +kernel) (by decide +kernel)
set_option maxRecDepth 20000 in
theorem gL_law_X2_safeNow : GoodIn wsL_law (wsV RL 190 RX2 yX2_safeNow wsX2_safeNow) := goodIn_app (goodIn_of _ (by decide +kernel)) ggL_law_X2_safeNow
set_option maxRecDepth 20000 in
theorem ggL_law_X3_safeNow : GoodIn wsL_law wsX3_safeNow := goodIn_r _ [635, 636, 637, 638, 5, 639, 267, 133, 54, 266, 269, 276, 277, 278, 279, 27, 47, 280, 281, 282, 283, 284, 285, 286, 190, 191, 192, 193, 178, 49, 50, 287, 288, 289, 290, 53, 51, 52, 291, 292, 293, 294, 391, 392, 393, 394, 138, 763, 764, 765, 766, 767, 768, 769, 770, 771, 772, 773, 774, 775, 776, 777, 778, 779, 780, 781, 782] (by decide +kernel) (by decide +kernel)
set_option maxRecDepth 20000 in
theorem gL_law_X3_safeNow : GoodIn wsL_law (wsV RL 193 RX3 yX3_safeNow wsX3_safeNow) := goodIn_app (goodIn_of _ (by decide +kernel)) ggL_law_X3_safeNow
set_option maxRecDepth 20000 in
theorem ggL_law_X2_bestGo : GoodIn wsL_law wsX2_bestGo := goodIn_r _ [349, 236, 310, 311, 312, 2, 313, 233, 314, 101, 102, 350, 351, 352, 353, 23, 16, 66, 20, 22, 250, 251, 252, 253, 254, 255, 256, 257, 315, 316, 317, 19, 318, 39, 87, 88, 89, 112, 113, 258, 259, 260, 261, 42, 354, 355, 356, 357, 358, 359, 360, 361, 362, 363, 364, 15, 365, 90, 91, 366, 367, 368, 369, 169, 31, 32, 35, 754, 755, 756, 757, 758, 759, 760, 761, 762, 783, 784, 785, 786, 787, 788, 789, 790, 791, 792, 793, 794, 795] (by decide +kernel) (by decide +kernel)
set_option maxRecDepth 20000 in
theorem gL_law_X2_bestGo : GoodIn wsL_law (wsV RL 194 RX2 yX2_bestGo wsX2_bestGo) := goodIn_app (goodIn_of _ (by decide +kernel)) ggL_law_X2_bestGo
set_option maxRecDepth 20000 in
theorem ggL_law_X3_bestGo : GoodIn wsL_law wsX3_bestGo := goodIn_r _ [644, 374, 375, 376, 5, 377, 267, 378, 133, 266, 269, 270, 47, 54, 276, 277, 278, 279, 27, 280, 281, 282, 283, 284, 285, 286, 190, 191, 192, 193, 178, 49, 50, 287, 288, 289, 290, 53, 51, 52, 291, 292, 293, 294, 379, 380, 381, 382, 391, 392, 393, 394, 138, 763, 764, 765, 766, 767, 768, 769, 770, 771, 772, 773, 774, 775, 776, 777, 778, 779, 780, 781, 782] (by decide +kernel) (by decide +kernel)
set_option maxRecDepth 20000 in
theorem gL_law_X3_bestGo : GoodIn wsL_law (wsV RL 197 RX3 yX3_bestGo wsX3_bestGo) := goodIn_app (goodIn_of _ (by decide +kernel)) ggL_law_X3_bestGo
set_option maxRecDepth 20000 in
theorem ggL_law_X2_pairsCaught : GoodIn wsL_law wsX2_pairsCaught := goodIn_r _ [648, 649, 650, 651, 2, 652, 16, 66, 246, 247, 248, 249, 20, 250, 251, 252, 253, 233, 254, 255, 256, 257, 258, 259, 260, 19, 261, 42, 87, 88, 89, 754, 755, 756, 757, 758, 759, 760, 761, 762, 783, 784, 785, 786, 787, 788, 789, 790, 791, 792, 793, 794, 795] (by decide +kernel) (by decide +kernel)
set_option maxRecDepth 20000 in
theorem gL_law_X2_pairsCaught : GoodIn wsL_law (wsV RL 198 RX2 yX2_pairsCaught wsX2_pairsCaught) := goodIn_app (goodIn_of _ (by decide +kernel)) ggL_law_X2_pairsCaught
set_option maxRecDepth 20000 in
theorem ggL_law_X3_pairsCaught : GoodIn wsL_law wsX3_pairsCaught := goodIn_r _ [656, 657, 658, 659, 5, 660, 661, 662, 663, 664, 665, 666, 667, 133, 54, 266, 47, 668, 669, 670, 671, 276, 277, 278, 279, 27, 280, 281, 282, 283, 284, 285, 286, 190, 191, 192, 193, 178, 49, 50, 287, 288, 289, 290, 53, 51, 52, 291, 292, 293, 294, 391, 392, 393, 394, 138, 763, 764, 765, 766, 767, 768, 769, 770, 771, 772, 773, 774, 775, 776, 777, 778, 779, 780, 781, 782] (by decide +kernel) (by decide +kernel)
set_option maxRecDepth 20000 in
theorem gL_law_X3_pairsCaught : GoodIn wsL_law (wsV RL 201 RX3 yX3_pairsCaught wsX3_pairsCaught) := goodIn_app (goodIn_of _ (by decide +kernel)) ggL_law_X3_pairsCaught
set_option maxRecDepth 20000 in
theorem ggL_law_X2_longestChase : GoodIn wsL_law wsX2_longestChase := goodIn_r _ [675, 676, 669, 670, 671, 649, 650, 651, 2, 652, 16, 66, 246, 247, 248, 249, 20, 250, 251, 252, 253, 233, 254, 255, 256, 257, 258, 259, 260, 19, 261, 42, 87, 88, 89, 754, 755, 756, 757, 758, 759, 760, 761, 762, 783, 784, 785, 786, 787, 788, 789, 790, 791, 792, 793, 794, 795] (by decide +kernel) (by decide +kernel)
set_option maxRecDepth 20000 in
theorem gL_law_X2_longestChase : GoodIn wsL_law (wsV RL 202 RX2 yX2_longestChase wsX2_longestChase) := goodIn_app (goodIn_of _ (by decide +kernel)) ggL_law_X2_longestChase
set_option maxRecDepth 20000 in
theorem ggL_law_X3_longestChase : GoodIn wsL_law wsX3_longestChase := goodIn_r _ [680, 657, 658, 659, 5, 660, 661, 662, 663, 664, 665, 666, 667, 133, 54, 266, 47, 668, 669, 670, 671, 276, 277, 278, 279, 27, 280, 281, 282, 283, 284, 285, 286, 190, 191, 192, 193, 178, 49, 50, 287, 288, 289, 290, 53, 51, 52, 291, 292, 293, 294, 391, 392, 393, 394, 138, 763, 764, 765, 766, 767, 768, 769, 770, 771, 772, 773, 774, 775, 776, 777, 778, 779, 780, 781, 782] (by decide +kernel) (by decide +kernel)
set_option maxRecDepth 20000 in
theorem gL_law_X3_longestChase : GoodIn wsL_law (wsV RL 205 RX3 yX3_longestChase wsX3_longestChase) := goodIn_app (goodIn_of _ (by decide +kernel)) ggL_law_X3_longestChase
set_option maxRecDepth 20000 in
theorem ggL_law_X2_bestDoorToLock : GoodIn wsL_law wsX2_bestDoorToLock := goodIn_r _ [684, 16, 158, 201, 242, 243, 244, 2, 245, 236, 22, 23, 246, 247, 248, 249, 20, 250, 251, 252, 253, 233, 254, 255, 256, 257, 258, 259, 260, 19, 261, 42, 87, 88, 89, 685, 686, 687, 688, 21, 72, 73, 74, 75, 40, 41, 76, 77, 78, 79, 80, 81, 82, 83, 39, 84, 85, 86, 90, 91, 92, 93, 94, 15, 95, 35, 33, 34, 96, 97, 98, 99, 100, 101, 102, 103, 104, 105, 106, 107, 108, 109, 110, 111, 112, 113, 114, 115, 116, 117, 118, 119, 120, 121, 122, 123, 124, 125, 126, 127, 128, 754, 755, 756, 757, 758, 759, 760, 761, 762, 783, 784, 785, 786, 787, 788, 789, 790, 791, 792, 793, 794, 795] (by decide +kernel) (by decide +kernel)
set_option maxRecDepth 20000 in
theorem gL_law_X2_bestDoorToLock : GoodIn wsL_law (wsV RL 206 RX2 yX2_bestDoorToLock wsX2_bestDoorToLock) := goodIn_app (goodIn_of _ (by decide +kernel)) ggL_law_X2_bestDoorToLock
set_option maxRecDepth 20000 in
theorem ggL_law_X3_bestDoorToLock : GoodIn wsL_law wsX3_bestDoorToLock := goodIn_r _ [692, 693, 694, 695, 5, 696, 267, 178, 53, 272, 273, 274, 275, 54, 266, 269, 270, 276, 277, 278, 279, 27, 133, 47, 280, 281, 282, 283, 284, 285, 286, 190, 191, 192, 193, 49, 50, 287, 288, 289, 290, 51, 52, 291, 292, 293, 294, 391, 392, 393, 394, 138, 763, 764, 765, 766, 767, 768, 769, 770, 771, 772, 773, 774, 775, 776, 777, 778, 779, 780, 781, 782] (by decide +kernel) (by decide +kernel)
set_option maxRecDepth 20000 in
theorem gL_law_X3_bestDoorToLock : GoodIn wsL_law (wsV RL 209 RX3 yX3_bestDoorToLock wsX3_bestDoorToLock) := goodIn_app (goodIn_of _ (by decide +kernel)) ggL_law_X3_bestDoorToLock
set_option maxRecDepth 20000 in
theorem ggL_law_X2_meanTurns : GoodIn wsL_law wsX2_meanTurns := goodIn_r _ [700, 649, 650, 651, 2, 652, 16, 66, 246, 247, 248, 249, 20, 250, 251, 252, 253, 233, 254, 255, 256, 257, 258, 259, 260, 19, 261, 42, 87, 88, 89, 754, 755, 756, 757, 758, 759, 760, 761, 762, 783, 784, 785, 786, 787, 788, 789, 790, 791, 792, 793, 794, 795] (by decide +kernel) (by decide +kernel)
set_option maxRecDepth 20000 in
theorem gL_law_X2_meanTurns : GoodIn wsL_law (wsV RL 210 RX2 yX2_meanTurns wsX2_meanTurns) := goodIn_app (goodIn_of _ (by decide +kernel)) ggL_law_X2_meanTurns
set_option maxRecDepth 20000 in
theorem ggL_law_X3_meanTurns : GoodIn wsL_law wsX3_meanTurns := goodIn_r _ [704, 138, 661, 667, 663, 664, 665, 5, 666, 662, 133, 54, 266, 47, 668, 669, 670, 671, 276, 277, 278, 279, 27, 280, 281, 282, 283, 284, 285, 286, 190, 191, 192, 193, 178, 49, 50, 287, 288, 289, 290, 53, 51, 52, 291, 292, 293, 294, 763, 764, 765, 766, 767, 768, 769, 770, 771, 772, 773, 774, 775, 776, 777, 778, 779, 780, 781, 782] (by decide +kernel) (by decide +kernel)
set_option maxRecDepth 20000 in
theorem gL_law_X3_meanTurns : GoodIn wsL_law (wsV RL 214 RX3 yX3_meanTurns wsX3_meanTurns) := goodIn_app (goodIn_of _ (by decide +kernel)) ggL_law_X3_meanTurns
set_option maxRecDepth 20000 in
theorem ggL_law_X2_digest : GoodIn wsL_law wsX2_digest := goodIn_ca (goodIn_r _ [708, 709, 710, 384, 385, 2, 386, 233, 711, 712, 713, 714, 715, 396, 397, 398, 16, 66, 716, 404, 405, 406, 158, 717, 412, 413, 414, 236, 718, 719, 720, 721, 424, 425, 426, 235, 722, 437, 438, 439, 22, 723, 445, 446, 447, 23, 724, 453, 454, 455, 234, 242, 243, 244, 245, 246, 247, 248, 249, 20, 250, 251, 252, 253, 254, 255, 256, 257, 258, 259, 260, 19, 261, 42, 87, 88, 89, 725, 629, 630, 631, 346, 347, 348, 349, 310, 311, 312, 313, 314, 101, 102, 350, 351, 352, 353, 315, 316, 317, 318, 39, 112, 113, 354, 355, 356, 357, 358, 359, 360, 361, 362, 363, 364, 15, 365, 90, 91, 366, 367, 368, 369, 169, 31, 32, 35, 726, 646, 647, 648, 649, 650, 651, 652, 727, 673, 674, 675, 676, 669, 670, 671, 728, 682, 683, 684, 201, 685, 686, 687, 688, 21, 72, 73, 74, 75, 40, 41, 76, 77, 78, 79, 80, 81, 82, 83, 84, 85, 86, 92, 93, 94, 95, 33, 34, 96, 97, 98, 99, 100, 103, 104, 105, 106, 107, 108, 109, 110, 111, 114, 115, 116, 117, 118, 119, 120, 121, 122, 123, 124, 125, 126, 127, 128, 729, 730, 731, 732, 733, 464, 465, 466, 241, 159, 160, 161, 162, 163, 164, 734, 475, 476, 477, 221, 735, 486, 487, 488, 489, 490, 491, 492, 736, 565, 566, 567, 737, 738, 739, 740, 741, 505, 506, 507, 202, 203, 204, 205, 742, 516, 517, 518, 519, 743, 528, 529, 530, 754, 755, 756, 757, 758, 759, 760, 761, 762, 783, 784, 785, 786, 787, 788, 789, 790, 791, 792, 793, 794, 795] (by decide +kernel) (by decide +kernel)) (goodIn_sub (fun _ h => List.mem_append_right _ h) (by decide +kernel))
set_option maxRecDepth 20000 in
theorem gL_law_X2_digest : GoodIn wsL_law (wsV RL 215 RX2 yX2_digest wsX2_digest) := goodIn_app (goodIn_of _ (by decide +kernel)) ggL_law_X2_digest
set_option maxRecDepth 20000 in
theorem ggL_law_X3_digest : GoodIn wsL_law wsX3_digest := goodIn_r _ [747, 138, 748, 266, 133, 178, 267, 268, 269, 749, 270, 271, 47, 48, 53, 750, 751, 5, 752, 753, 272, 273, 274, 275, 54, 276, 277, 278, 279, 27, 280, 281, 282, 283, 284, 285, 286, 190, 191, 192, 193, 49, 50, 287, 288, 289, 290, 51, 52, 291, 292, 293, 294, 636, 637, 638, 639, 374, 375, 376, 377, 378, 379, 380, 381, 382, 657, 658, 659, 660, 661, 662, 663, 664, 665, 666, 667, 668, 669, 670, 671, 693, 694, 695, 696, 497, 498, 499, 500, 535, 536, 537, 538, 763, 764, 765, 766, 767, 768, 769, 770, 771, 772, 773, 774, 775, 776, 777, 778, 779, 780, 781, 782] (by decide +kernel) (by decide +kernel)
set_option maxRecDepth 20000 in
theorem gL_law_X3_digest : GoodIn wsL_law (wsV RL 219 RX3 yX3_digest wsX3_digest) := goodIn_app (goodIn_of _ (by decide +kernel)) ggL_law_X3_digest
