set_option maxRecDepth 20000 in
theorem ggL_addRoom_X2_addRoom : GoodIn wsL_addRoom wsX2_addRoom := goodIn_ca (goodIn_r _ [6, 7, 8, 9, 10, 11, 12, 13, 14, 15, 16, 17, 18, 19, 20, 21, 22, 23, 24, 25, 26, 27, 28, 29, 30, 31, 32, 33, 34, 35, 36, 37, 38, 39, 40, 41, 5, 42, 43, 44, 45, 46, 47, 48, 49, 50, 51, 52, 53, 54, 55, 56, 57, 58, 59, 60, 61, 62, 63, 64, 65, 66, 67, 68, 69, 70, 71, 72, 73, 74, 75, 76, 77, 78, 79, 80, 81, 82, 83, 84, 85, 86, 87, 88, 89, 90, 91, 92, 93, 94, 95, 96, 97, 98, 99, 100, 101, 102, 103, 104, 105] (by decide +kernel) (by decide +kernel)) (goodIn_sub (fun _ h => List.mem_cons_of_mem _ (List.mem_append_right _ h)) (by decide +kernel))
set_option maxRecDepth 20000 in
theorem gL_addRoom_X2_addRoom : GoodIn wsL_addRoom (wsV RL 7 RX2 yX2_addRoom wsX2_addRoom) := goodIn_app (goodIn_of _ (by decide +kernel)) ggL_addRoom_X2_addRoom
theorem dL_addRoom_0 : decode cL_addRoom 0 = .ok (.aload_n 2, 1) := by decide +kernel
theorem dL_addRoom_1 : decode cL_addRoom 1 = .ok (.iconst 0, 1) := by decide +kernel
theorem dL_addRoom_2 : decode cL_addRoom 2 = .ok (.aload_n 0, 1) := by decide +kernel
theorem dL_addRoom_3 : decode cL_addRoom 3 = .ok (.iload_n 1, 1) := by decide +kernel
theorem dL_addRoom_4 : decode cL_addRoom 4 = .ok (.invokevirtual 7, 3) := by decide +kernel
theorem dL_addRoom_7 : decode cL_addRoom 7 = .ok (.i2l, 1) := by decide +kernel
theorem dL_addRoom_8 : decode cL_addRoom 8 = .ok (.lastore, 1) := by decide +kernel
theorem dL_addRoom_9 : decode cL_addRoom 9 = .ok (.goto 6, 3) := by decide +kernel
theorem dL_addRoom_12 : decode cL_addRoom 12 = .ok (.astore_n 3, 1) := by decide +kernel
theorem dL_addRoom_13 : decode cL_addRoom 13 = .ok (.iconst 1, 1) := by decide +kernel
theorem dL_addRoom_14 : decode cL_addRoom 14 = .ok (.ireturn, 1) := by decide +kernel
theorem dL_addRoom_15 : decode cL_addRoom 15 = .ok (.iconst 0, 1) := by decide +kernel
theorem dL_addRoom_16 : decode cL_addRoom 16 = .ok (.ireturn, 1) := by decide +kernel
set_option maxRecDepth 20000 in
theorem ggL_addDoor_X2_addDoor : GoodIn wsL_addDoor wsX2_addDoor := goodIn_ca (goodIn_ca (goodIn_ca (goodIn_r _ [8, 9, 10, 11, 12, 13, 14, 15, 16, 17, 18, 7, 19, 20, 21, 22, 23, 24, 25, 26, 27, 28, 29, 30, 31, 32, 33, 34, 35, 36, 37, 38, 39, 40, 41, 42, 43, 44, 45, 46, 47, 48, 49, 50, 51, 52, 53, 54, 55, 56, 57, 58, 59, 60, 61, 62, 63, 64, 65, 66, 67, 68, 69, 70, 71, 72, 73, 74, 75, 76, 77, 78, 79, 80, 81, 82, 83, 84, 85, 86, 87, 88, 89, 90, 91, 92, 93, 94, 95, 96, 97, 98, 99, 100, 101, 102, 103, 104, 105, 106, 107, 108, 109, 110, 111, 112, 113, 114, 115, 116, 117, 118, 119, 120, 121] (by decide +kernel) (by decide +kernel)) (goodIn_sub (fun _ h => List.mem_cons_of_mem _ (List.mem_append_left _ (List.mem_append_left _ (List.mem_append_right _ h)))) (by decide +kernel))) (goodIn_sub (fun _ h => List.mem_cons_of_mem _ (List.mem_append_left _ (List.mem_append_right _ h))) (by decide +kernel))) (goodIn_sub (fun _ h => List.mem_cons_of_mem _ (List.mem_append_right _ h)) (by decide +kernel))
set_option maxRecDepth 20000 in
theorem gL_addDoor_X2_addDoor : GoodIn wsL_addDoor (wsV RL 15 RX2 yX2_addDoor wsX2_addDoor) := goodIn_app (goodIn_of _ (by decide +kernel)) ggL_addDoor_X2_addDoor
theorem dL_addDoor_0 : decode cL_addDoor 0 = .ok (.aload 5, 2) := by decide +kernel
theorem dL_addDoor_2 : decode cL_addDoor 2 = .ok (.iconst 0, 1) := by decide +kernel
theorem dL_addDoor_3 : decode cL_addDoor 3 = .ok (.aload_n 0, 1) := by decide +kernel
theorem dL_addDoor_4 : decode cL_addDoor 4 = .ok (.iload_n 1, 1) := by decide +kernel
theorem dL_addDoor_5 : decode cL_addDoor 5 = .ok (.iload_n 2, 1) := by decide +kernel
theorem dL_addDoor_6 : decode cL_addDoor 6 = .ok (.iload_n 3, 1) := by decide +kernel
theorem dL_addDoor_7 : decode cL_addDoor 7 = .ok (.iload 4, 2) := by decide +kernel
theorem dL_addDoor_9 : decode cL_addDoor 9 = .ok (.invokevirtual 15, 3) := by decide +kernel
theorem dL_addDoor_12 : decode cL_addDoor 12 = .ok (.i2l, 1) := by decide +kernel
theorem dL_addDoor_13 : decode cL_addDoor 13 = .ok (.lastore, 1) := by decide +kernel
theorem dL_addDoor_14 : decode cL_addDoor 14 = .ok (.goto 15, 3) := by decide +kernel
theorem dL_addDoor_17 : decode cL_addDoor 17 = .ok (.astore 6, 2) := by decide +kernel
theorem dL_addDoor_19 : decode cL_addDoor 19 = .ok (.iconst 1, 1) := by decide +kernel
theorem dL_addDoor_20 : decode cL_addDoor 20 = .ok (.ireturn, 1) := by decide +kernel
theorem dL_addDoor_21 : decode cL_addDoor 21 = .ok (.astore 6, 2) := by decide +kernel
theorem dL_addDoor_23 : decode cL_addDoor 23 = .ok (.iconst 2, 1) := by decide +kernel
theorem dL_addDoor_24 : decode cL_addDoor 24 = .ok (.ireturn, 1) := by decide +kernel
theorem dL_addDoor_25 : decode cL_addDoor 25 = .ok (.astore 6, 2) := by decide +kernel
theorem dL_addDoor_27 : decode cL_addDoor 27 = .ok (.iconst 3, 1) := by decide +kernel
theorem dL_addDoor_28 : decode cL_addDoor 28 = .ok (.ireturn, 1) := by decide +kernel
theorem dL_addDoor_29 : decode cL_addDoor 29 = .ok (.iconst 0, 1) := by decide +kernel
theorem dL_addDoor_30 : decode cL_addDoor 30 = .ok (.ireturn, 1) := by decide +kernel
set_option maxRecDepth 20000 in
theorem ggL_turnLock_X2_turnLock : GoodIn wsL_turnLock wsX2_turnLock := goodIn_ca (goodIn_r _ [6, 7, 8, 9, 10, 11, 12, 5, 13, 14, 15, 16, 17, 18, 19, 20, 21, 22, 23, 24, 25, 26, 27, 28, 29, 30, 31, 32, 33, 34, 35, 36, 37, 38, 39, 40, 41, 42, 43, 44, 45, 46, 47, 48, 49, 50, 51, 52, 53, 54, 55, 56, 57, 58, 59, 60, 61, 62, 63, 64, 65, 66, 67, 68, 69, 70, 71, 72, 73, 74, 75, 76, 77, 78, 79, 80, 81, 82, 83, 84, 85, 86, 87, 88, 89, 90, 91, 92, 93, 94, 95, 96, 97, 98, 99, 100, 101, 102, 103, 104] (by decide +kernel) (by decide +kernel)) (goodIn_sub (fun _ h => List.mem_cons_of_mem _ (List.mem_append_right _ h)) (by decide +kernel))
set_option maxRecDepth 20000 in
theorem gL_turnLock_X2_turnLock : GoodIn wsL_turnLock (wsV RL 23 RX2 yX2_turnLock wsX2_turnLock) := goodIn_app (goodIn_of _ (by decide +kernel)) ggL_turnLock_X2_turnLock
theorem dL_turnLock_0 : decode cL_turnLock 0 = .ok (.aload_n 2, 1) := by decide +kernel
theorem dL_turnLock_1 : decode cL_turnLock 1 = .ok (.iconst 0, 1) := by decide +kernel
theorem dL_turnLock_2 : decode cL_turnLock 2 = .ok (.aload_n 0, 1) := by decide +kernel
theorem dL_turnLock_3 : decode cL_turnLock 3 = .ok (.iload_n 1, 1) := by decide +kernel
theorem dL_turnLock_4 : decode cL_turnLock 4 = .ok (.invokevirtual 23, 3) := by decide +kernel
theorem dL_turnLock_7 : decode cL_turnLock 7 = .ok (.ifCond .eq 7, 3) := by decide +kernel
theorem dL_turnLock_10 : decode cL_turnLock 10 = .ok (.lconst 1, 1) := by decide +kernel
theorem dL_turnLock_11 : decode cL_turnLock 11 = .ok (.goto 4, 3) := by decide +kernel
theorem dL_turnLock_14 : decode cL_turnLock 14 = .ok (.lconst 0, 1) := by decide +kernel
theorem dL_turnLock_15 : decode cL_turnLock 15 = .ok (.lastore, 1) := by decide +kernel
theorem dL_turnLock_16 : decode cL_turnLock 16 = .ok (.goto 6, 3) := by decide +kernel
theorem dL_turnLock_19 : decode cL_turnLock 19 = .ok (.astore_n 3, 1) := by decide +kernel
theorem dL_turnLock_20 : decode cL_turnLock 20 = .ok (.iconst 1, 1) := by decide +kernel
theorem dL_turnLock_21 : decode cL_turnLock 21 = .ok (.ireturn, 1) := by decide +kernel
theorem dL_turnLock_22 : decode cL_turnLock 22 = .ok (.iconst 0, 1) := by decide +kernel
theorem dL_turnLock_23 : decode cL_turnLock 23 = .ok (.ireturn, 1) := by decide +kernel
set_option maxRecDepth 20000 in
theorem ggL_putCheese_X2_putCheese : GoodIn wsL_putCheese wsX2_putCheese := goodIn_ca (goodIn_ca (goodIn_ca (goodIn_r _ [8, 9, 10, 11, 12, 13, 14, 15, 16, 17, 7, 18, 19, 20, 21, 22, 23, 24, 25, 26, 27, 28, 29, 30, 31, 32, 33, 34, 35, 36, 37, 38, 39] (by decide +kernel) (by decide +kernel)) (goodIn_sub (fun _ h => List.mem_cons_of_mem _ (List.mem_append_left _ (List.mem_append_left _ (List.mem_append_right _ h)))) (by decide +kernel))) (goodIn_sub (fun _ h => List.mem_cons_of_mem _ (List.mem_append_left _ (List.mem_append_right _ h))) (by decide +kernel))) (goodIn_sub (fun _ h => List.mem_cons_of_mem _ (List.mem_append_right _ h)) (by decide +kernel))
set_option maxRecDepth 20000 in
theorem gL_putCheese_X2_putCheese : GoodIn wsL_putCheese (wsV RL 27 RX2 yX2_putCheese wsX2_putCheese) := goodIn_app (goodIn_of _ (by decide +kernel)) ggL_putCheese_X2_putCheese
theorem dL_putCheese_0 : decode cL_putCheese 0 = .ok (.aload_n 3, 1) := by decide +kernel
theorem dL_putCheese_1 : decode cL_putCheese 1 = .ok (.iconst 0, 1) := by decide +kernel
theorem dL_putCheese_2 : decode cL_putCheese 2 = .ok (.aload_n 0, 1) := by decide +kernel
theorem dL_putCheese_3 : decode cL_putCheese 3 = .ok (.iload_n 1, 1) := by decide +kernel
theorem dL_putCheese_4 : decode cL_putCheese 4 = .ok (.iload_n 2, 1) := by decide +kernel
theorem dL_putCheese_5 : decode cL_putCheese 5 = .ok (.invokevirtual 27, 3) := by decide +kernel
theorem dL_putCheese_8 : decode cL_putCheese 8 = .ok (.i2l, 1) := by decide +kernel
theorem dL_putCheese_9 : decode cL_putCheese 9 = .ok (.lastore, 1) := by decide +kernel
theorem dL_putCheese_10 : decode cL_putCheese 10 = .ok (.goto 15, 3) := by decide +kernel
theorem dL_putCheese_13 : decode cL_putCheese 13 = .ok (.astore 4, 2) := by decide +kernel
theorem dL_putCheese_15 : decode cL_putCheese 15 = .ok (.iconst 1, 1) := by decide +kernel
theorem dL_putCheese_16 : decode cL_putCheese 16 = .ok (.ireturn, 1) := by decide +kernel
theorem dL_putCheese_17 : decode cL_putCheese 17 = .ok (.astore 4, 2) := by decide +kernel
theorem dL_putCheese_19 : decode cL_putCheese 19 = .ok (.iconst 2, 1) := by decide +kernel
theorem dL_putCheese_20 : decode cL_putCheese 20 = .ok (.ireturn, 1) := by decide +kernel
theorem dL_putCheese_21 : decode cL_putCheese 21 = .ok (.astore 4, 2) := by decide +kernel
theorem dL_putCheese_23 : decode cL_putCheese 23 = .ok (.iconst 3, 1) := by decide +kernel
theorem dL_putCheese_24 : decode cL_putCheese 24 = .ok (.ireturn, 1) := by decide +kernel
theorem dL_putCheese_25 : decode cL_putCheese 25 = .ok (.iconst 0, 1) := by decide +kernel
theorem dL_putCheese_26 : decode cL_putCheese 26 = .ok (.ireturn, 1) := by decide +kernel
set_option maxRecDepth 20000 in
theorem ggL_begin_X2_begin : GoodIn wsL_begin wsX2_begin := goodIn_ca (goodIn_ca (goodIn_r _ [7, 8, 9, 10, 11, 12, 13, 14, 15, 16, 17, 18, 6, 19, 20, 21, 22, 23, 24, 25, 26, 27, 28, 29, 30, 31, 32, 33, 34, 35, 36, 37, 38, 39, 40, 41, 42, 43, 44, 45, 46, 47, 48, 49, 50, 51, 52, 53, 54, 55, 56, 57, 58, 59, 60, 61, 62, 63, 64, 65, 66, 67, 68, 69, 70, 71, 72, 73, 74, 75, 76] (by decide +kernel) (by decide +kernel)) (goodIn_sub (fun _ h => List.mem_cons_of_mem _ (List.mem_append_left _ (List.mem_append_right _ h))) (by decide +kernel))) (goodIn_sub (fun _ h => List.mem_cons_of_mem _ (List.mem_append_right _ h)) (by decide +kernel))
set_option maxRecDepth 20000 in
theorem gL_begin_X2_begin : GoodIn wsL_begin (wsV RL 31 RX2 yX2_begin wsX2_begin) := goodIn_app (goodIn_of _ (by decide +kernel)) ggL_begin_X2_begin
theorem dL_begin_0 : decode cL_begin 0 = .ok (.aload_n 3, 1) := by decide +kernel
theorem dL_begin_1 : decode cL_begin 1 = .ok (.iconst 0, 1) := by decide +kernel
theorem dL_begin_2 : decode cL_begin 2 = .ok (.aload_n 0, 1) := by decide +kernel
theorem dL_begin_3 : decode cL_begin 3 = .ok (.iload_n 1, 1) := by decide +kernel
theorem dL_begin_4 : decode cL_begin 4 = .ok (.iload_n 2, 1) := by decide +kernel
theorem dL_begin_5 : decode cL_begin 5 = .ok (.invokevirtual 31, 3) := by decide +kernel
theorem dL_begin_8 : decode cL_begin 8 = .ok (.i2l, 1) := by decide +kernel
theorem dL_begin_9 : decode cL_begin 9 = .ok (.lastore, 1) := by decide +kernel
theorem dL_begin_10 : decode cL_begin 10 = .ok (.goto 11, 3) := by decide +kernel
theorem dL_begin_13 : decode cL_begin 13 = .ok (.astore 4, 2) := by decide +kernel
theorem dL_begin_15 : decode cL_begin 15 = .ok (.iconst 1, 1) := by decide +kernel
theorem dL_begin_16 : decode cL_begin 16 = .ok (.ireturn, 1) := by decide +kernel
theorem dL_begin_17 : decode cL_begin 17 = .ok (.astore 4, 2) := by decide +kernel
theorem dL_begin_19 : decode cL_begin 19 = .ok (.iconst 2, 1) := by decide +kernel
theorem dL_begin_20 : decode cL_begin 20 = .ok (.ireturn, 1) := by decide +kernel
theorem dL_begin_21 : decode cL_begin 21 = .ok (.iconst 0, 1) := by decide +kernel
theorem dL_begin_22 : decode cL_begin 22 = .ok (.ireturn, 1) := by decide +kernel
set_option maxRecDepth 20000 in
theorem ggL_go_X2_go : GoodIn wsL_go wsX2_go := goodIn_ca (goodIn_ca (goodIn_r _ [7, 8, 9, 10, 11, 12, 13, 14, 6, 15, 16, 17, 18, 19, 20, 21, 22, 23, 24, 25, 26, 27, 28, 29, 30, 31, 32, 33, 34, 35, 36, 37, 38, 39, 40, 41, 42, 43, 44, 45, 46, 47, 48, 49, 50, 51, 52, 53, 54, 55, 56, 57, 58, 59, 60, 61, 62, 63, 64, 65, 66, 67, 68, 69, 70, 71, 72, 73, 74, 75, 76, 77, 78, 79, 80, 81, 82, 83, 84, 85, 86, 87, 88, 89, 90, 91, 92, 93] (by decide +kernel) (by decide +kernel)) (goodIn_sub (fun _ h => List.mem_cons_of_mem _ (List.mem_append_left _ (List.mem_append_right _ h))) (by decide +kernel))) (goodIn_sub (fun _ h => List.mem_cons_of_mem _ (List.mem_append_right _ h)) (by decide +kernel))
set_option maxRecDepth 20000 in
theorem gL_go_X2_go : GoodIn wsL_go (wsV RL 34 RX2 yX2_go wsX2_go) := goodIn_app (goodIn_of _ (by decide +kernel)) ggL_go_X2_go
theorem dL_go_0 : decode cL_go 0 = .ok (.aload_n 2, 1) := by decide +kernel
theorem dL_go_1 : decode cL_go 1 = .ok (.iconst 0, 1) := by decide +kernel
theorem dL_go_2 : decode cL_go 2 = .ok (.aload_n 0, 1) := by decide +kernel
theorem dL_go_3 : decode cL_go 3 = .ok (.iload_n 1, 1) := by decide +kernel
theorem dL_go_4 : decode cL_go 4 = .ok (.invokevirtual 34, 3) := by decide +kernel
theorem dL_go_7 : decode cL_go 7 = .ok (.ifCond .eq 7, 3) := by decide +kernel
theorem dL_go_10 : decode cL_go 10 = .ok (.lconst 1, 1) := by decide +kernel
theorem dL_go_11 : decode cL_go 11 = .ok (.goto 4, 3) := by decide +kernel
theorem dL_go_14 : decode cL_go 14 = .ok (.lconst 0, 1) := by decide +kernel
theorem dL_go_15 : decode cL_go 15 = .ok (.lastore, 1) := by decide +kernel
theorem dL_go_16 : decode cL_go 16 = .ok (.goto 9, 3) := by decide +kernel
theorem dL_go_19 : decode cL_go 19 = .ok (.astore_n 3, 1) := by decide +kernel
theorem dL_go_20 : decode cL_go 20 = .ok (.iconst 1, 1) := by decide +kernel
theorem dL_go_21 : decode cL_go 21 = .ok (.ireturn, 1) := by decide +kernel
theorem dL_go_22 : decode cL_go 22 = .ok (.astore_n 3, 1) := by decide +kernel
theorem dL_go_23 : decode cL_go 23 = .ok (.iconst 2, 1) := by decide +kernel
theorem dL_go_24 : decode cL_go 24 = .ok (.ireturn, 1) := by decide +kernel
theorem dL_go_25 : decode cL_go 25 = .ok (.iconst 0, 1) := by decide +kernel
theorem dL_go_26 : decode cL_go 26 = .ok (.ireturn, 1) := by decide +kernel
set_option maxRecDepth 20000 in
theorem ggL_play_X2_play : GoodIn wsL_play wsX2_play := goodIn_ca (goodIn_ca (goodIn_r _ [7, 8, 9, 10, 11, 12, 13, 6, 14, 15, 16, 17, 18, 19, 20, 21, 22, 23, 24, 25, 26, 27, 28, 29, 30, 31, 32, 33, 34, 35, 36, 37, 38, 39, 40, 41, 42, 43, 44, 45, 46, 47, 48, 49, 50, 51, 52, 53, 54, 55, 56, 57, 58, 59, 60, 61, 62, 63, 64, 65, 66, 67, 68, 69, 70, 71, 72, 73, 74, 75, 76, 77, 78, 79, 80, 81, 82, 83, 84, 85, 86, 87, 88, 89, 90, 91, 92, 93, 94, 95, 96, 97, 98, 99, 100, 101, 102, 103, 104, 105, 106, 107, 108, 109, 110, 111, 112, 113, 114, 115, 116, 117, 118, 119, 120, 121] (by decide +kernel) (by decide +kernel)) (goodIn_sub (fun _ h => List.mem_cons_of_mem _ (List.mem_append_left _ (List.mem_append_right _ h))) (by decide +kernel))) (goodIn_sub (fun _ h => List.mem_cons_of_mem _ (List.mem_append_right _ h)) (by decide +kernel))
set_option maxRecDepth 20000 in
theorem gL_play_X2_play : GoodIn wsL_play (wsV RL 37 RX2 yX2_play wsX2_play) := goodIn_app (goodIn_of _ (by decide +kernel)) ggL_play_X2_play
theorem dL_play_0 : decode cL_play 0 = .ok (.aload_n 2, 1) := by decide +kernel
theorem dL_play_1 : decode cL_play 1 = .ok (.iconst 0, 1) := by decide +kernel
theorem dL_play_2 : decode cL_play 2 = .ok (.aload_n 0, 1) := by decide +kernel
theorem dL_play_3 : decode cL_play 3 = .ok (.iload_n 1, 1) := by decide +kernel
theorem dL_play_4 : decode cL_play 4 = .ok (.invokevirtual 37, 3) := by decide +kernel
theorem dL_play_7 : decode cL_play 7 = .ok (.i2l, 1) := by decide +kernel
theorem dL_play_8 : decode cL_play 8 = .ok (.lastore, 1) := by decide +kernel
theorem dL_play_9 : decode cL_play 9 = .ok (.goto 9, 3) := by decide +kernel
theorem dL_play_12 : decode cL_play 12 = .ok (.astore_n 3, 1) := by decide +kernel
theorem dL_play_13 : decode cL_play 13 = .ok (.iconst 1, 1) := by decide +kernel
theorem dL_play_14 : decode cL_play 14 = .ok (.ireturn, 1) := by decide +kernel
theorem dL_play_15 : decode cL_play 15 = .ok (.astore_n 3, 1) := by decide +kernel
theorem dL_play_16 : decode cL_play 16 = .ok (.iconst 2, 1) := by decide +kernel
theorem dL_play_17 : decode cL_play 17 = .ok (.ireturn, 1) := by decide +kernel
theorem dL_play_18 : decode cL_play 18 = .ok (.iconst 0, 1) := by decide +kernel
theorem dL_play_19 : decode cL_play 19 = .ok (.ireturn, 1) := by decide +kernel
set_option maxRecDepth 20000 in
theorem ggL_isSafe_X2_isSafe : GoodIn wsL_isSafe wsX2_isSafe := goodIn_ca (goodIn_r _ [6, 7, 8, 9, 10, 11, 5, 12, 13, 14, 15, 16, 17, 18, 19, 20, 21, 22, 23, 24, 25, 26, 27, 28, 29, 30, 31, 32, 33] (by decide +kernel) (by decide +kernel)) (goodIn_sub (fun _ h => List.mem_cons_of_mem _ (List.mem_append_right _ h)) (by decide +kernel))
set_option maxRecDepth 20000 in
theorem gL_isSafe_X2_isSafe : GoodIn wsL_isSafe (wsV RL 41 RX2 yX2_isSafe wsX2_isSafe) := goodIn_app (goodIn_of _ (by decide +kernel)) ggL_isSafe_X2_isSafe
theorem dL_isSafe_0 : decode cL_isSafe 0 = .ok (.aload_n 2, 1) := by decide +kernel
theorem dL_isSafe_1 : decode cL_isSafe 1 = .ok (.iconst 0, 1) := by decide +kernel
theorem dL_isSafe_2 : decode cL_isSafe 2 = .ok (.aload_n 0, 1) := by decide +kernel
theorem dL_isSafe_3 : decode cL_isSafe 3 = .ok (.iload_n 1, 1) := by decide +kernel
theorem dL_isSafe_4 : decode cL_isSafe 4 = .ok (.invokevirtual 41, 3) := by decide +kernel
theorem dL_isSafe_7 : decode cL_isSafe 7 = .ok (.ifCond .eq 7, 3) := by decide +kernel
theorem dL_isSafe_10 : decode cL_isSafe 10 = .ok (.lconst 1, 1) := by decide +kernel
theorem dL_isSafe_11 : decode cL_isSafe 11 = .ok (.goto 4, 3) := by decide +kernel
theorem dL_isSafe_14 : decode cL_isSafe 14 = .ok (.lconst 0, 1) := by decide +kernel
theorem dL_isSafe_15 : decode cL_isSafe 15 = .ok (.lastore, 1) := by decide +kernel
theorem dL_isSafe_16 : decode cL_isSafe 16 = .ok (.goto 6, 3) := by decide +kernel
theorem dL_isSafe_19 : decode cL_isSafe 19 = .ok (.astore_n 3, 1) := by decide +kernel
theorem dL_isSafe_20 : decode cL_isSafe 20 = .ok (.iconst 1, 1) := by decide +kernel
theorem dL_isSafe_21 : decode cL_isSafe 21 = .ok (.ireturn, 1) := by decide +kernel
theorem dL_isSafe_22 : decode cL_isSafe 22 = .ok (.iconst 0, 1) := by decide +kernel
theorem dL_isSafe_23 : decode cL_isSafe 23 = .ok (.ireturn, 1) := by decide +kernel
set_option maxRecDepth 20000 in
theorem ggL_cheeseIn_X2_cheeseIn : GoodIn wsL_cheeseIn wsX2_cheeseIn := goodIn_ca (goodIn_r _ [6, 7, 8, 9, 10, 11, 5, 12, 13, 14, 15, 16, 17, 18, 19, 20, 21, 22, 23, 24, 25, 26, 27, 28, 29, 30, 31, 32, 33] (by decide +kernel) (by decide +kernel)) (goodIn_sub (fun _ h => List.mem_cons_of_mem _ (List.mem_append_right _ h)) (by decide +kernel))
set_option maxRecDepth 20000 in
theorem gL_cheeseIn_X2_cheeseIn : GoodIn wsL_cheeseIn (wsV RL 44 RX2 yX2_cheeseIn wsX2_cheeseIn) := goodIn_app (goodIn_of _ (by decide +kernel)) ggL_cheeseIn_X2_cheeseIn
theorem dL_cheeseIn_0 : decode cL_cheeseIn 0 = .ok (.aload_n 2, 1) := by decide +kernel
theorem dL_cheeseIn_1 : decode cL_cheeseIn 1 = .ok (.iconst 0, 1) := by decide +kernel
theorem dL_cheeseIn_2 : decode cL_cheeseIn 2 = .ok (.aload_n 0, 1) := by decide +kernel
theorem dL_cheeseIn_3 : decode cL_cheeseIn 3 = .ok (.iload_n 1, 1) := by decide +kernel
theorem dL_cheeseIn_4 : decode cL_cheeseIn 4 = .ok (.invokevirtual 44, 3) := by decide +kernel
theorem dL_cheeseIn_7 : decode cL_cheeseIn 7 = .ok (.i2l, 1) := by decide +kernel
theorem dL_cheeseIn_8 : decode cL_cheeseIn 8 = .ok (.lastore, 1) := by decide +kernel
theorem dL_cheeseIn_9 : decode cL_cheeseIn 9 = .ok (.goto 6, 3) := by decide +kernel
theorem dL_cheeseIn_12 : decode cL_cheeseIn 12 = .ok (.astore_n 3, 1) := by decide +kernel
theorem dL_cheeseIn_13 : decode cL_cheeseIn 13 = .ok (.iconst 1, 1) := by decide +kernel
theorem dL_cheeseIn_14 : decode cL_cheeseIn 14 = .ok (.ireturn, 1) := by decide +kernel
theorem dL_cheeseIn_15 : decode cL_cheeseIn 15 = .ok (.iconst 0, 1) := by decide +kernel
theorem dL_cheeseIn_16 : decode cL_cheeseIn 16 = .ok (.ireturn, 1) := by decide +kernel
set_option maxRecDepth 20000 in
theorem ggL_doorsOf_X2_doorsOf : GoodIn wsL_doorsOf wsX2_doorsOf := goodIn_ca (goodIn_r _ [6, 7, 8, 9, 10, 5, 11, 12, 13, 14, 15, 16, 17, 18, 19, 20, 21, 22, 23, 24, 25, 26, 27, 28, 29, 30, 31, 32, 33, 34, 35, 36, 37, 38, 39, 40, 41] (by decide +kernel) (by decide +kernel)) (goodIn_sub (fun _ h => List.mem_cons_of_mem _ (List.mem_append_right _ h)) (by decide +kernel))
set_option maxRecDepth 20000 in
theorem gL_doorsOf_X2_doorsOf : GoodIn wsL_doorsOf (wsV RL 47 RX2 yX2_doorsOf wsX2_doorsOf) := goodIn_app (goodIn_of _ (by decide +kernel)) ggL_doorsOf_X2_doorsOf
theorem dL_doorsOf_0 : decode cL_doorsOf 0 = .ok (.aload_n 2, 1) := by decide +kernel
theorem dL_doorsOf_1 : decode cL_doorsOf 1 = .ok (.iconst 0, 1) := by decide +kernel
theorem dL_doorsOf_2 : decode cL_doorsOf 2 = .ok (.aload_n 0, 1) := by decide +kernel
theorem dL_doorsOf_3 : decode cL_doorsOf 3 = .ok (.iload_n 1, 1) := by decide +kernel
theorem dL_doorsOf_4 : decode cL_doorsOf 4 = .ok (.invokevirtual 47, 3) := by decide +kernel
theorem dL_doorsOf_7 : decode cL_doorsOf 7 = .ok (.i2l, 1) := by decide +kernel
theorem dL_doorsOf_8 : decode cL_doorsOf 8 = .ok (.lastore, 1) := by decide +kernel
theorem dL_doorsOf_9 : decode cL_doorsOf 9 = .ok (.goto 6, 3) := by decide +kernel
theorem dL_doorsOf_12 : decode cL_doorsOf 12 = .ok (.astore_n 3, 1) := by decide +kernel
theorem dL_doorsOf_13 : decode cL_doorsOf 13 = .ok (.iconst 1, 1) := by decide +kernel
theorem dL_doorsOf_14 : decode cL_doorsOf 14 = .ok (.ireturn, 1) := by decide +kernel
theorem dL_doorsOf_15 : decode cL_doorsOf 15 = .ok (.iconst 0, 1) := by decide +kernel
theorem dL_doorsOf_16 : decode cL_doorsOf 16 = .ok (.ireturn, 1) := by decide +kernel
set_option maxRecDepth 20000 in
theorem ggL_isLocked_X2_isLocked : GoodIn wsL_isLocked wsX2_isLocked := goodIn_ca (goodIn_r _ [6, 7, 8, 9, 10, 11, 5, 12, 13, 14, 15, 16, 17, 18, 19, 20, 21, 22, 23, 24, 25, 26, 27, 28, 29, 30, 31, 32, 33] (by decide +kernel) (by decide +kernel)) (goodIn_sub (fun _ h => List.mem_cons_of_mem _ (List.mem_append_right _ h)) (by decide +kernel))
set_option maxRecDepth 20000 in
theorem gL_isLocked_X2_isLocked : GoodIn wsL_isLocked (wsV RL 50 RX2 yX2_isLocked wsX2_isLocked) := goodIn_app (goodIn_of _ (by decide +kernel)) ggL_isLocked_X2_isLocked
theorem dL_isLocked_0 : decode cL_isLocked 0 = .ok (.aload_n 2, 1) := by decide +kernel
theorem dL_isLocked_1 : decode cL_isLocked 1 = .ok (.iconst 0, 1) := by decide +kernel
theorem dL_isLocked_2 : decode cL_isLocked 2 = .ok (.aload_n 0, 1) := by decide +kernel
theorem dL_isLocked_3 : decode cL_isLocked 3 = .ok (.iload_n 1, 1) := by decide +kernel
theorem dL_isLocked_4 : decode cL_isLocked 4 = .ok (.invokevirtual 50, 3) := by decide +kernel
theorem dL_isLocked_7 : decode cL_isLocked 7 = .ok (.ifCond .eq 7, 3) := by decide +kernel
theorem dL_isLocked_10 : decode cL_isLocked 10 = .ok (.lconst 1, 1) := by decide +kernel
theorem dL_isLocked_11 : decode cL_isLocked 11 = .ok (.goto 4, 3) := by decide +kernel
theorem dL_isLocked_14 : decode cL_isLocked 14 = .ok (.lconst 0, 1) := by decide +kernel
theorem dL_isLocked_15 : decode cL_isLocked 15 = .ok (.lastore, 1) := by decide +kernel
theorem dL_isLocked_16 : decode cL_isLocked 16 = .ok (.goto 6, 3) := by decide +kernel
theorem dL_isLocked_19 : decode cL_isLocked 19 = .ok (.astore_n 3, 1) := by decide +kernel
theorem dL_isLocked_20 : decode cL_isLocked 20 = .ok (.iconst 1, 1) := by decide +kernel
theorem dL_isLocked_21 : decode cL_isLocked 21 = .ok (.ireturn, 1) := by decide +kernel
theorem dL_isLocked_22 : decode cL_isLocked 22 = .ok (.iconst 0, 1) := by decide +kernel
theorem dL_isLocked_23 : decode cL_isLocked 23 = .ok (.ireturn, 1) := by decide +kernel
set_option maxRecDepth 20000 in
theorem ggL_isOpen_X2_isOpen : GoodIn wsL_isOpen wsX2_isOpen := goodIn_ca (goodIn_r _ [6, 7, 8, 9, 10, 5, 11, 12, 13, 14, 15, 16, 17, 18, 19, 20, 21, 22, 23, 24, 25, 26, 27, 28, 29, 30, 31, 32, 33, 34, 35, 36, 37, 38, 39, 40, 41, 42, 43, 44, 45, 46, 47, 48, 49] (by decide +kernel) (by decide +kernel)) (goodIn_sub (fun _ h => List.mem_cons_of_mem _ (List.mem_append_right _ h)) (by decide +kernel))
set_option maxRecDepth 20000 in
theorem gL_isOpen_X2_isOpen : GoodIn wsL_isOpen (wsV RL 53 RX2 yX2_isOpen wsX2_isOpen) := goodIn_app (goodIn_of _ (by decide +kernel)) ggL_isOpen_X2_isOpen
theorem dL_isOpen_0 : decode cL_isOpen 0 = .ok (.aload_n 2, 1) := by decide +kernel
theorem dL_isOpen_1 : decode cL_isOpen 1 = .ok (.iconst 0, 1) := by decide +kernel
theorem dL_isOpen_2 : decode cL_isOpen 2 = .ok (.aload_n 0, 1) := by decide +kernel
theorem dL_isOpen_3 : decode cL_isOpen 3 = .ok (.iload_n 1, 1) := by decide +kernel
theorem dL_isOpen_4 : decode cL_isOpen 4 = .ok (.invokevirtual 53, 3) := by decide +kernel
theorem dL_isOpen_7 : decode cL_isOpen 7 = .ok (.ifCond .eq 7, 3) := by decide +kernel
theorem dL_isOpen_10 : decode cL_isOpen 10 = .ok (.lconst 1, 1) := by decide +kernel
theorem dL_isOpen_11 : decode cL_isOpen 11 = .ok (.goto 4, 3) := by decide +kernel
theorem dL_isOpen_14 : decode cL_isOpen 14 = .ok (.lconst 0, 1) := by decide +kernel
theorem dL_isOpen_15 : decode cL_isOpen 15 = .ok (.lastore, 1) := by decide +kernel
theorem dL_isOpen_16 : decode cL_isOpen 16 = .ok (.goto 6, 3) := by decide +kernel
theorem dL_isOpen_19 : decode cL_isOpen 19 = .ok (.astore_n 3, 1) := by decide +kernel
theorem dL_isOpen_20 : decode cL_isOpen 20 = .ok (.iconst 1, 1) := by decide +kernel
theorem dL_isOpen_21 : decode cL_isOpen 21 = .ok (.ireturn, 1) := by decide +kernel
theorem dL_isOpen_22 : decode cL_isOpen 22 = .ok (.iconst 0, 1) := by decide +kernel
theorem dL_isOpen_23 : decode cL_isOpen 23 = .ok (.ireturn, 1) := by decide +kernel
set_option maxRecDepth 20000 in
theorem ggL_turnsUntilOpen_X2_turnsUntilOpen : GoodIn wsL_turnsUntilOpen wsX2_turnsUntilOpen := goodIn_ca (goodIn_r _ [6, 7, 8, 9, 10, 5, 11, 12, 13, 14, 15, 16, 17, 18, 19, 20, 21, 22, 23, 24, 25, 26, 27, 28, 29, 30, 31, 32, 33, 34, 35, 36, 37, 38, 39, 40, 41, 42, 43, 44, 45, 46, 47, 48, 49] (by decide +kernel) (by decide +kernel)) (goodIn_sub (fun _ h => List.mem_cons_of_mem _ (List.mem_append_right _ h)) (by decide +kernel))
set_option maxRecDepth 20000 in
theorem gL_turnsUntilOpen_X2_turnsUntilOpen : GoodIn wsL_turnsUntilOpen (wsV RL 56 RX2 yX2_turnsUntilOpen wsX2_turnsUntilOpen) := goodIn_app (goodIn_of _ (by decide +kernel)) ggL_turnsUntilOpen_X2_turnsUntilOpen
theorem dL_turnsUntilOpen_0 : decode cL_turnsUntilOpen 0 = .ok (.aload_n 2, 1) := by decide +kernel
theorem dL_turnsUntilOpen_1 : decode cL_turnsUntilOpen 1 = .ok (.iconst 0, 1) := by decide +kernel
theorem dL_turnsUntilOpen_2 : decode cL_turnsUntilOpen 2 = .ok (.aload_n 0, 1) := by decide +kernel
theorem dL_turnsUntilOpen_3 : decode cL_turnsUntilOpen 3 = .ok (.iload_n 1, 1) := by decide +kernel
theorem dL_turnsUntilOpen_4 : decode cL_turnsUntilOpen 4 = .ok (.invokevirtual 56, 3) := by decide +kernel
theorem dL_turnsUntilOpen_7 : decode cL_turnsUntilOpen 7 = .ok (.i2l, 1) := by decide +kernel
theorem dL_turnsUntilOpen_8 : decode cL_turnsUntilOpen 8 = .ok (.lastore, 1) := by decide +kernel
theorem dL_turnsUntilOpen_9 : decode cL_turnsUntilOpen 9 = .ok (.goto 6, 3) := by decide +kernel
theorem dL_turnsUntilOpen_12 : decode cL_turnsUntilOpen 12 = .ok (.astore_n 3, 1) := by decide +kernel
theorem dL_turnsUntilOpen_13 : decode cL_turnsUntilOpen 13 = .ok (.iconst 1, 1) := by decide +kernel
theorem dL_turnsUntilOpen_14 : decode cL_turnsUntilOpen 14 = .ok (.ireturn, 1) := by decide +kernel
theorem dL_turnsUntilOpen_15 : decode cL_turnsUntilOpen 15 = .ok (.iconst 0, 1) := by decide +kernel
theorem dL_turnsUntilOpen_16 : decode cL_turnsUntilOpen 16 = .ok (.ireturn, 1) := by decide +kernel
set_option maxRecDepth 20000 in
theorem ggL_doorBetween_X2_doorBetween : GoodIn wsL_doorBetween wsX2_doorBetween := goodIn_ca (goodIn_r _ [6, 7, 8, 9, 10, 5, 11, 12, 13, 14, 15, 16, 17, 18, 19, 20, 21, 22, 23, 24, 25, 26, 27, 28, 29, 30, 31, 32, 33, 34, 35, 36, 37, 38, 39, 40] (by decide +kernel) (by decide +kernel)) (goodIn_sub (fun _ h => List.mem_cons_of_mem _ (List.mem_append_right _ h)) (by decide +kernel))
set_option maxRecDepth 20000 in
theorem gL_doorBetween_X2_doorBetween : GoodIn wsL_doorBetween (wsV RL 59 RX2 yX2_doorBetween wsX2_doorBetween) := goodIn_app (goodIn_of _ (by decide +kernel)) ggL_doorBetween_X2_doorBetween
theorem dL_doorBetween_0 : decode cL_doorBetween 0 = .ok (.aload_n 3, 1) := by decide +kernel
theorem dL_doorBetween_1 : decode cL_doorBetween 1 = .ok (.iconst 0, 1) := by decide +kernel
theorem dL_doorBetween_2 : decode cL_doorBetween 2 = .ok (.aload_n 0, 1) := by decide +kernel
theorem dL_doorBetween_3 : decode cL_doorBetween 3 = .ok (.iload_n 1, 1) := by decide +kernel
theorem dL_doorBetween_4 : decode cL_doorBetween 4 = .ok (.iload_n 2, 1) := by decide +kernel
theorem dL_doorBetween_5 : decode cL_doorBetween 5 = .ok (.invokevirtual 59, 3) := by decide +kernel
theorem dL_doorBetween_8 : decode cL_doorBetween 8 = .ok (.i2l, 1) := by decide +kernel
theorem dL_doorBetween_9 : decode cL_doorBetween 9 = .ok (.lastore, 1) := by decide +kernel
theorem dL_doorBetween_10 : decode cL_doorBetween 10 = .ok (.goto 7, 3) := by decide +kernel
theorem dL_doorBetween_13 : decode cL_doorBetween 13 = .ok (.astore 4, 2) := by decide +kernel
theorem dL_doorBetween_15 : decode cL_doorBetween 15 = .ok (.iconst 1, 1) := by decide +kernel
theorem dL_doorBetween_16 : decode cL_doorBetween 16 = .ok (.ireturn, 1) := by decide +kernel
theorem dL_doorBetween_17 : decode cL_doorBetween 17 = .ok (.iconst 0, 1) := by decide +kernel
theorem dL_doorBetween_18 : decode cL_doorBetween 18 = .ok (.ireturn, 1) := by decide +kernel
set_option maxRecDepth 20000 in
theorem ggL_isWayOpen_X2_isWayOpen : GoodIn wsL_isWayOpen wsX2_isWayOpen := goodIn_ca (goodIn_r _ [6, 7, 8, 9, 10, 5, 11, 12, 13, 14, 15, 16, 17, 18, 19, 20, 21, 22, 23, 24, 25, 26, 27, 28, 29, 30, 31, 32, 33, 34, 35, 36, 37, 38, 39, 40, 41, 42, 43, 44, 45, 46, 47, 48, 49, 50, 51, 52, 53, 54, 55, 56] (by decide +kernel) (by decide +kernel)) (goodIn_sub (fun _ h => List.mem_cons_of_mem _ (List.mem_append_right _ h)) (by decide +kernel))
set_option maxRecDepth 20000 in
theorem gL_isWayOpen_X2_isWayOpen : GoodIn wsL_isWayOpen (wsV RL 62 RX2 yX2_isWayOpen wsX2_isWayOpen) := goodIn_app (goodIn_of _ (by decide +kernel)) ggL_isWayOpen_X2_isWayOpen
theorem dL_isWayOpen_0 : decode cL_isWayOpen 0 = .ok (.aload_n 3, 1) := by decide +kernel
theorem dL_isWayOpen_1 : decode cL_isWayOpen 1 = .ok (.iconst 0, 1) := by decide +kernel
theorem dL_isWayOpen_2 : decode cL_isWayOpen 2 = .ok (.aload_n 0, 1) := by decide +kernel
theorem dL_isWayOpen_3 : decode cL_isWayOpen 3 = .ok (.iload_n 1, 1) := by decide +kernel
theorem dL_isWayOpen_4 : decode cL_isWayOpen 4 = .ok (.iload_n 2, 1) := by decide +kernel
theorem dL_isWayOpen_5 : decode cL_isWayOpen 5 = .ok (.invokevirtual 62, 3) := by decide +kernel
theorem dL_isWayOpen_8 : decode cL_isWayOpen 8 = .ok (.ifCond .eq 7, 3) := by decide +kernel
theorem dL_isWayOpen_11 : decode cL_isWayOpen 11 = .ok (.lconst 1, 1) := by decide +kernel
theorem dL_isWayOpen_12 : decode cL_isWayOpen 12 = .ok (.goto 4, 3) := by decide +kernel
theorem dL_isWayOpen_15 : decode cL_isWayOpen 15 = .ok (.lconst 0, 1) := by decide +kernel
theorem dL_isWayOpen_16 : decode cL_isWayOpen 16 = .ok (.lastore, 1) := by decide +kernel
theorem dL_isWayOpen_17 : decode cL_isWayOpen 17 = .ok (.goto 7, 3) := by decide +kernel
theorem dL_isWayOpen_20 : decode cL_isWayOpen 20 = .ok (.astore 4, 2) := by decide +kernel
theorem dL_isWayOpen_22 : decode cL_isWayOpen 22 = .ok (.iconst 1, 1) := by decide +kernel
theorem dL_isWayOpen_23 : decode cL_isWayOpen 23 = .ok (.ireturn, 1) := by decide +kernel
theorem dL_isWayOpen_24 : decode cL_isWayOpen 24 = .ok (.iconst 0, 1) := by decide +kernel
theorem dL_isWayOpen_25 : decode cL_isWayOpen 25 = .ok (.ireturn, 1) := by decide +kernel
set_option maxRecDepth 20000 in
theorem ggL_distance_X2_distance : GoodIn wsL_distance wsX2_distance := goodIn_ca (goodIn_r _ [6, 7, 8, 9, 10, 5, 11, 12, 13, 14, 15, 16, 17, 18, 19, 20, 21, 22, 23, 24, 25, 26, 27, 28, 29, 30, 31, 32, 33, 34, 35, 36, 37, 38, 39, 40, 41, 42, 43, 44, 45, 46, 47, 48, 49] (by decide +kernel) (by decide +kernel)) (goodIn_sub (fun _ h => List.mem_cons_of_mem _ (List.mem_append_right _ h)) (by decide +kernel))
set_option maxRecDepth 20000 in
theorem gL_distance_X2_distance : GoodIn wsL_distance (wsV RL 66 RX2 yX2_distance wsX2_distance) := goodIn_app (goodIn_of _ (by decide +kernel)) ggL_distance_X2_distance
theorem dL_distance_0 : decode cL_distance 0 = .ok (.aload_n 3, 1) := by decide +kernel
theorem dL_distance_1 : decode cL_distance 1 = .ok (.iconst 0, 1) := by decide +kernel
theorem dL_distance_2 : decode cL_distance 2 = .ok (.aload_n 0, 1) := by decide +kernel
theorem dL_distance_3 : decode cL_distance 3 = .ok (.iload_n 1, 1) := by decide +kernel
theorem dL_distance_4 : decode cL_distance 4 = .ok (.iload_n 2, 1) := by decide +kernel
theorem dL_distance_5 : decode cL_distance 5 = .ok (.invokevirtual 66, 3) := by decide +kernel
theorem dL_distance_8 : decode cL_distance 8 = .ok (.i2l, 1) := by decide +kernel
theorem dL_distance_9 : decode cL_distance 9 = .ok (.lastore, 1) := by decide +kernel
theorem dL_distance_10 : decode cL_distance 10 = .ok (.goto 7, 3) := by decide +kernel
theorem dL_distance_13 : decode cL_distance 13 = .ok (.astore 4, 2) := by decide +kernel
theorem dL_distance_15 : decode cL_distance 15 = .ok (.iconst 1, 1) := by decide +kernel
theorem dL_distance_16 : decode cL_distance 16 = .ok (.ireturn, 1) := by decide +kernel
theorem dL_distance_17 : decode cL_distance 17 = .ok (.iconst 0, 1) := by decide +kernel
theorem dL_distance_18 : decode cL_distance 18 = .ok (.ireturn, 1) := by decide +kernel
set_option maxRecDepth 20000 in
theorem ggL_catArrives_X2_catArrives : GoodIn wsL_catArrives wsX2_catArrives := goodIn_ca (goodIn_ca (goodIn_r _ [7, 8, 9, 10, 11, 6, 12, 13, 14, 15, 16, 17, 18, 19, 20, 21, 22, 23, 24, 25, 26, 27, 28, 29, 30, 31, 32, 33, 34, 35, 36, 37, 38, 39, 40, 41, 42, 43, 44, 45, 46, 47, 48, 49, 50, 51, 52, 53, 54, 55, 56, 57, 58, 59, 60, 61, 62, 63, 64, 65, 66, 67, 68, 69, 70, 71, 72, 73, 74, 75, 76, 77] (by decide +kernel) (by decide +kernel)) (goodIn_sub (fun _ h => List.mem_cons_of_mem _ (List.mem_append_left _ (List.mem_append_right _ h))) (by decide +kernel))) (goodIn_sub (fun _ h => List.mem_cons_of_mem _ (List.mem_append_right _ h)) (by decide +kernel))
set_option maxRecDepth 20000 in
theorem gL_catArrives_X2_catArrives : GoodIn wsL_catArrives (wsV RL 69 RX2 yX2_catArrives wsX2_catArrives) := goodIn_app (goodIn_of _ (by decide +kernel)) ggL_catArrives_X2_catArrives
theorem dL_catArrives_0 : decode cL_catArrives 0 = .ok (.aload_n 2, 1) := by decide +kernel
theorem dL_catArrives_1 : decode cL_catArrives 1 = .ok (.iconst 0, 1) := by decide +kernel
theorem dL_catArrives_2 : decode cL_catArrives 2 = .ok (.aload_n 0, 1) := by decide +kernel
theorem dL_catArrives_3 : decode cL_catArrives 3 = .ok (.iload_n 1, 1) := by decide +kernel
theorem dL_catArrives_4 : decode cL_catArrives 4 = .ok (.invokevirtual 69, 3) := by decide +kernel
theorem dL_catArrives_7 : decode cL_catArrives 7 = .ok (.i2l, 1) := by decide +kernel
theorem dL_catArrives_8 : decode cL_catArrives 8 = .ok (.lastore, 1) := by decide +kernel
theorem dL_catArrives_9 : decode cL_catArrives 9 = .ok (.goto 9, 3) := by decide +kernel
theorem dL_catArrives_12 : decode cL_catArrives 12 = .ok (.astore_n 3, 1) := by decide +kernel
theorem dL_catArrives_13 : decode cL_catArrives 13 = .ok (.iconst 1, 1) := by decide +kernel
theorem dL_catArrives_14 : decode cL_catArrives 14 = .ok (.ireturn, 1) := by decide +kernel
theorem dL_catArrives_15 : decode cL_catArrives 15 = .ok (.astore_n 3, 1) := by decide +kernel
theorem dL_catArrives_16 : decode cL_catArrives 16 = .ok (.iconst 2, 1) := by decide +kernel
theorem dL_catArrives_17 : decode cL_catArrives 17 = .ok (.ireturn, 1) := by decide +kernel
theorem dL_catArrives_18 : decode cL_catArrives 18 = .ok (.iconst 0, 1) := by decide +kernel
theorem dL_catArrives_19 : decode cL_catArrives 19 = .ok (.ireturn, 1) := by decide +kernel
set_option maxRecDepth 20000 in
theorem ggL_mouseArrives_X2_mouseArrives : GoodIn wsL_mouseArrives wsX2_mouseArrives := goodIn_ca (goodIn_ca (goodIn_r _ [7, 8, 9, 10, 11, 6, 12, 13, 14, 15, 16, 17, 18, 19, 20, 21, 22, 23, 24, 25, 26, 27, 28, 29, 30, 31, 32, 33, 34, 35, 36, 37, 38, 39, 40, 41, 42, 43, 44, 45, 46, 47, 48, 49, 50, 51, 52, 53, 54, 55, 56, 57, 58, 59, 60, 61, 62, 63, 64, 65, 66, 67, 68, 69, 70, 71, 72, 73, 74, 75, 76, 77] (by decide +kernel) (by decide +kernel)) (goodIn_sub (fun _ h => List.mem_cons_of_mem _ (List.mem_append_left _ (List.mem_append_right _ h))) (by decide +kernel))) (goodIn_sub (fun _ h => List.mem_cons_of_mem _ (List.mem_append_right _ h)) (by decide +kernel))
set_option maxRecDepth 20000 in
theorem gL_mouseArrives_X2_mouseArrives : GoodIn wsL_mouseArrives (wsV RL 72 RX2 yX2_mouseArrives wsX2_mouseArrives) := goodIn_app (goodIn_of _ (by decide +kernel)) ggL_mouseArrives_X2_mouseArrives
theorem dL_mouseArrives_0 : decode cL_mouseArrives 0 = .ok (.aload_n 2, 1) := by decide +kernel
theorem dL_mouseArrives_1 : decode cL_mouseArrives 1 = .ok (.iconst 0, 1) := by decide +kernel
theorem dL_mouseArrives_2 : decode cL_mouseArrives 2 = .ok (.aload_n 0, 1) := by decide +kernel
theorem dL_mouseArrives_3 : decode cL_mouseArrives 3 = .ok (.iload_n 1, 1) := by decide +kernel
theorem dL_mouseArrives_4 : decode cL_mouseArrives 4 = .ok (.invokevirtual 72, 3) := by decide +kernel
theorem dL_mouseArrives_7 : decode cL_mouseArrives 7 = .ok (.i2l, 1) := by decide +kernel
theorem dL_mouseArrives_8 : decode cL_mouseArrives 8 = .ok (.lastore, 1) := by decide +kernel
theorem dL_mouseArrives_9 : decode cL_mouseArrives 9 = .ok (.goto 9, 3) := by decide +kernel
theorem dL_mouseArrives_12 : decode cL_mouseArrives 12 = .ok (.astore_n 3, 1) := by decide +kernel
theorem dL_mouseArrives_13 : decode cL_mouseArrives 13 = .ok (.iconst 1, 1) := by decide +kernel
theorem dL_mouseArrives_14 : decode cL_mouseArrives 14 = .ok (.ireturn, 1) := by decide +kernel
theorem dL_mouseArrives_15 : decode cL_mouseArrives 15 = .ok (.astore_n 3, 1) := by decide +kernel
theorem dL_mouseArrives_16 : decode cL_mouseArrives 16 = .ok (.iconst 2, 1) := by decide +kernel
theorem dL_mouseArrives_17 : decode cL_mouseArrives 17 = .ok (.ireturn, 1) := by decide +kernel
theorem dL_mouseArrives_18 : decode cL_mouseArrives 18 = .ok (.iconst 0, 1) := by decide +kernel
theorem dL_mouseArrives_19 : decode cL_mouseArrives 19 = .ok (.ireturn, 1) := by decide +kernel
set_option maxRecDepth 20000 in
theorem ggL_turnsFrom_X2_turnsFrom : GoodIn wsL_turnsFrom wsX2_turnsFrom := goodIn_ca (goodIn_ca (goodIn_r _ [7, 8, 9, 10, 6, 11, 12, 13, 14, 15, 16, 17, 18, 19, 20, 21, 22, 23, 24, 25, 26, 27, 28, 29, 30, 31, 32, 33, 34, 35, 36, 37, 38, 39, 40, 41, 42, 43, 44, 45, 46, 47, 48, 49, 50, 51, 52, 53, 54, 55, 56, 57, 58, 59, 60, 61, 62, 63, 64, 65, 66, 67] (by decide +kernel) (by decide +kernel)) (goodIn_sub (fun _ h => List.mem_cons_of_mem _ (List.mem_append_left _ (List.mem_append_right _ h))) (by decide +kernel))) (goodIn_sub (fun _ h => List.mem_cons_of_mem _ (List.mem_append_right _ h)) (by decide +kernel))
set_option maxRecDepth 20000 in
theorem gL_turnsFrom_X2_turnsFrom : GoodIn wsL_turnsFrom (wsV RL 75 RX2 yX2_turnsFrom wsX2_turnsFrom) := goodIn_app (goodIn_of _ (by decide +kernel)) ggL_turnsFrom_X2_turnsFrom
theorem dL_turnsFrom_0 : decode cL_turnsFrom 0 = .ok (.aload_n 3, 1) := by decide +kernel
theorem dL_turnsFrom_1 : decode cL_turnsFrom 1 = .ok (.iconst 0, 1) := by decide +kernel
theorem dL_turnsFrom_2 : decode cL_turnsFrom 2 = .ok (.aload_n 0, 1) := by decide +kernel
theorem dL_turnsFrom_3 : decode cL_turnsFrom 3 = .ok (.iload_n 1, 1) := by decide +kernel
theorem dL_turnsFrom_4 : decode cL_turnsFrom 4 = .ok (.iload_n 2, 1) := by decide +kernel
theorem dL_turnsFrom_5 : decode cL_turnsFrom 5 = .ok (.invokevirtual 75, 3) := by decide +kernel
theorem dL_turnsFrom_8 : decode cL_turnsFrom 8 = .ok (.i2l, 1) := by decide +kernel
theorem dL_turnsFrom_9 : decode cL_turnsFrom 9 = .ok (.lastore, 1) := by decide +kernel
theorem dL_turnsFrom_10 : decode cL_turnsFrom 10 = .ok (.goto 11, 3) := by decide +kernel
theorem dL_turnsFrom_13 : decode cL_turnsFrom 13 = .ok (.astore 4, 2) := by decide +kernel
theorem dL_turnsFrom_15 : decode cL_turnsFrom 15 = .ok (.iconst 1, 1) := by decide +kernel
theorem dL_turnsFrom_16 : decode cL_turnsFrom 16 = .ok (.ireturn, 1) := by decide +kernel
theorem dL_turnsFrom_17 : decode cL_turnsFrom 17 = .ok (.astore 4, 2) := by decide +kernel
theorem dL_turnsFrom_19 : decode cL_turnsFrom 19 = .ok (.iconst 2, 1) := by decide +kernel
theorem dL_turnsFrom_20 : decode cL_turnsFrom 20 = .ok (.ireturn, 1) := by decide +kernel
theorem dL_turnsFrom_21 : decode cL_turnsFrom 21 = .ok (.iconst 0, 1) := by decide +kernel
theorem dL_turnsFrom_22 : decode cL_turnsFrom 22 = .ok (.ireturn, 1) := by decide +kernel
