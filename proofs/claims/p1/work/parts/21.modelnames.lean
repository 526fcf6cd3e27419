theorem dX3_init_0 : decode cX3_init 0 = .ok (.aload_n 0, 1) := by decide +kernel
theorem dX3_init_1 : decode cX3_init 1 = .ok (.invokespecial 1, 3) := by decide +kernel
theorem dX3_init_4 : decode cX3_init 4 = .ok (.aload_n 0, 1) := by decide +kernel
theorem dX3_init_5 : decode cX3_init 5 = .ok (.bipush 8, 2) := by decide +kernel
theorem dX3_init_7 : decode cX3_init 7 = .ok (.newarray .boolean, 2) := by decide +kernel
theorem dX3_init_9 : decode cX3_init 9 = .ok (.putfield 9, 3) := by decide +kernel
theorem dX3_init_12 : decode cX3_init 12 = .ok (.aload_n 0, 1) := by decide +kernel
theorem dX3_init_13 : decode cX3_init 13 = .ok (.bipush 8, 2) := by decide +kernel
theorem dX3_init_15 : decode cX3_init 15 = .ok (.newarray .int, 2) := by decide +kernel
theorem dX3_init_17 : decode cX3_init 17 = .ok (.putfield 13, 3) := by decide +kernel
theorem dX3_init_20 : decode cX3_init 20 = .ok (.aload_n 0, 1) := by decide +kernel
theorem dX3_init_21 : decode cX3_init 21 = .ok (.bipush 14, 2) := by decide +kernel
theorem dX3_init_23 : decode cX3_init 23 = .ok (.newarray .int, 2) := by decide +kernel
theorem dX3_init_25 : decode cX3_init 25 = .ok (.putfield 17, 3) := by decide +kernel
theorem dX3_init_28 : decode cX3_init 28 = .ok (.aload_n 0, 1) := by decide +kernel
theorem dX3_init_29 : decode cX3_init 29 = .ok (.bipush 14, 2) := by decide +kernel
theorem dX3_init_31 : decode cX3_init 31 = .ok (.newarray .int, 2) := by decide +kernel
theorem dX3_init_33 : decode cX3_init 33 = .ok (.putfield 20, 3) := by decide +kernel
theorem dX3_init_36 : decode cX3_init 36 = .ok (.aload_n 0, 1) := by decide +kernel
theorem dX3_init_37 : decode cX3_init 37 = .ok (.bipush 14, 2) := by decide +kernel
theorem dX3_init_39 : decode cX3_init 39 = .ok (.newarray .int, 2) := by decide +kernel
theorem dX3_init_41 : decode cX3_init 41 = .ok (.putfield 23, 3) := by decide +kernel
theorem dX3_init_44 : decode cX3_init 44 = .ok (.aload_n 0, 1) := by decide +kernel
theorem dX3_init_45 : decode cX3_init 45 = .ok (.bipush 14, 2) := by decide +kernel
theorem dX3_init_47 : decode cX3_init 47 = .ok (.newarray .int, 2) := by decide +kernel
theorem dX3_init_49 : decode cX3_init 49 = .ok (.putfield 26, 3) := by decide +kernel
theorem dX3_init_52 : decode cX3_init 52 = .ok (.aload_n 0, 1) := by decide +kernel
theorem dX3_init_53 : decode cX3_init 53 = .ok (.bipush 14, 2) := by decide +kernel
theorem dX3_init_55 : decode cX3_init 55 = .ok (.newarray .boolean, 2) := by decide +kernel
theorem dX3_init_57 : decode cX3_init 57 = .ok (.putfield 29, 3) := by decide +kernel
theorem dX3_init_60 : decode cX3_init 60 = .ok (.aload_n 0, 1) := by decide +kernel
theorem dX3_init_61 : decode cX3_init 61 = .ok (.sipush 768, 3) := by decide +kernel
theorem dX3_init_64 : decode cX3_init 64 = .ok (.newarray .int, 2) := by decide +kernel
theorem dX3_init_66 : decode cX3_init 66 = .ok (.putfield 32, 3) := by decide +kernel
theorem dX3_init_69 : decode cX3_init 69 = .ok (.return_, 1) := by decide +kernel
theorem dX3_thrown_0 : decode cX3_thrown 0 = .ok (.aload_n 0, 1) := by decide +kernel
theorem dX3_thrown_1 : decode cX3_thrown 1 = .ok (.getfield 35, 3) := by decide +kernel
theorem dX3_thrown_4 : decode cX3_thrown 4 = .ok (.ireturn, 1) := by decide +kernel
theorem dX3_isIn_0 : decode cX3_isIn 0 = .ok (.iload_n 0, 1) := by decide +kernel
theorem dX3_isIn_1 : decode cX3_isIn 1 = .ok (.iload_n 1, 1) := by decide +kernel
theorem dX3_isIn_2 : decode cX3_isIn 2 = .ok (.if_icmp .lt 12, 3) := by decide +kernel
theorem dX3_isIn_5 : decode cX3_isIn 5 = .ok (.iload_n 0, 1) := by decide +kernel
theorem dX3_isIn_6 : decode cX3_isIn 6 = .ok (.iload_n 2, 1) := by decide +kernel
theorem dX3_isIn_7 : decode cX3_isIn 7 = .ok (.if_icmp .gt 7, 3) := by decide +kernel
theorem dX3_isIn_10 : decode cX3_isIn 10 = .ok (.iconst 1, 1) := by decide +kernel
theorem dX3_isIn_11 : decode cX3_isIn 11 = .ok (.goto 4, 3) := by decide +kernel
theorem dX3_isIn_14 : decode cX3_isIn 14 = .ok (.iconst 0, 1) := by decide +kernel
theorem dX3_isIn_15 : decode cX3_isIn 15 = .ok (.ireturn, 1) := by decide +kernel
theorem dX3_refuse_0 : decode cX3_refuse 0 = .ok (.iload_n 1, 1) := by decide +kernel
theorem dX3_refuse_1 : decode cX3_refuse 1 = .ok (.ifCond .eq 15, 3) := by decide +kernel
theorem dX3_refuse_4 : decode cX3_refuse 4 = .ok (.aload_n 0, 1) := by decide +kernel
theorem dX3_refuse_5 : decode cX3_refuse 5 = .ok (.getfield 35, 3) := by decide +kernel
theorem dX3_refuse_8 : decode cX3_refuse 8 = .ok (.ifCond .ne 8, 3) := by decide +kernel
theorem dX3_refuse_11 : decode cX3_refuse 11 = .ok (.aload_n 0, 1) := by decide +kernel
theorem dX3_refuse_12 : decode cX3_refuse 12 = .ok (.iload_n 2, 1) := by decide +kernel
theorem dX3_refuse_13 : decode cX3_refuse 13 = .ok (.putfield 35, 3) := by decide +kernel
theorem dX3_refuse_16 : decode cX3_refuse 16 = .ok (.aload_n 0, 1) := by decide +kernel
theorem dX3_refuse_17 : decode cX3_refuse 17 = .ok (.getfield 35, 3) := by decide +kernel
theorem dX3_refuse_20 : decode cX3_refuse 20 = .ok (.ifCond .le 7, 3) := by decide +kernel
theorem dX3_refuse_23 : decode cX3_refuse 23 = .ok (.iconst 1, 1) := by decide +kernel
theorem dX3_refuse_24 : decode cX3_refuse 24 = .ok (.goto 4, 3) := by decide +kernel
theorem dX3_refuse_27 : decode cX3_refuse 27 = .ok (.iconst 0, 1) := by decide +kernel
theorem dX3_refuse_28 : decode cX3_refuse 28 = .ok (.ireturn, 1) := by decide +kernel
set_option maxRecDepth 20000 in
theorem ggX3_start_X3_refuse : GoodIn wsX3_start wsX3_refuse := goodIn_r _ [6, 1, 7, 8, 9, 10, 11, 12, 13, 14, 15, 16, 17, 18, 19, 20, 21, 22, 23, 24, 25, 26] (by decide +kernel) (by decide +kernel)
set_option maxRecDepth 20000 in
theorem gX3_start_X3_refuse : GoodIn wsX3_start (wsV RX3 39 RX3 yX3_refuse wsX3_refuse) := goodIn_app (goodIn_of _ (by decide +kernel)) ggX3_start_X3_refuse
theorem dX3_start_0 : decode cX3_start 0 = .ok (.aload_n 0, 1) := by decide +kernel
theorem dX3_start_1 : decode cX3_start 1 = .ok (.iconst 0, 1) := by decide +kernel
theorem dX3_start_2 : decode cX3_start 2 = .ok (.putfield 35, 3) := by decide +kernel
theorem dX3_start_5 : decode cX3_start 5 = .ok (.aload_n 0, 1) := by decide +kernel
theorem dX3_start_6 : decode cX3_start 6 = .ok (.iload_n 1, 1) := by decide +kernel
theorem dX3_start_7 : decode cX3_start 7 = .ok (.iload_n 2, 1) := by decide +kernel
theorem dX3_start_8 : decode cX3_start 8 = .ok (.invokevirtual 39, 3) := by decide +kernel
theorem dX3_start_11 : decode cX3_start 11 = .ok (.ireturn, 1) := by decide +kernel
set_option maxRecDepth 20000 in
theorem ggX3_isNoRoom_X3_isIn : GoodIn wsX3_isNoRoom wsX3_isIn := goodIn_r _ [5] (by decide +kernel) (by decide +kernel)
set_option maxRecDepth 20000 in
theorem gX3_isNoRoom_X3_isIn : GoodIn wsX3_isNoRoom (va_wsS RX3 46 yX3_isIn wsX3_isIn) := goodIn_app (goodIn_of _ (by decide +kernel)) ggX3_isNoRoom_X3_isIn
set_option maxRecDepth 20000 in
theorem ggX3_isNoRoom_X3_start : GoodIn wsX3_isNoRoom wsX3_start := goodIn_r _ [9, 10, 11, 12, 13, 4, 14, 15, 16, 17, 18, 19, 20, 21, 22, 23, 24, 25, 26, 27, 28, 29, 30, 31, 32, 33, 34] (by decide +kernel) (by decide +kernel)
set_option maxRecDepth 20000 in
theorem gX3_isNoRoom_X3_start : GoodIn wsX3_isNoRoom (wsV RX3 50 RX3 yX3_start wsX3_start) := goodIn_app (goodIn_of _ (by decide +kernel)) ggX3_isNoRoom_X3_start
theorem dX3_isNoRoom_0 : decode cX3_isNoRoom 0 = .ok (.aload_n 0, 1) := by decide +kernel
theorem dX3_isNoRoom_1 : decode cX3_isNoRoom 1 = .ok (.iload_n 1, 1) := by decide +kernel
theorem dX3_isNoRoom_2 : decode cX3_isNoRoom 2 = .ok (.iconst 0, 1) := by decide +kernel
theorem dX3_isNoRoom_3 : decode cX3_isNoRoom 3 = .ok (.aload_n 0, 1) := by decide +kernel
theorem dX3_isNoRoom_4 : decode cX3_isNoRoom 4 = .ok (.getfield 43, 3) := by decide +kernel
theorem dX3_isNoRoom_7 : decode cX3_isNoRoom 7 = .ok (.iconst 1, 1) := by decide +kernel
theorem dX3_isNoRoom_8 : decode cX3_isNoRoom 8 = .ok (.isub, 1) := by decide +kernel
theorem dX3_isNoRoom_9 : decode cX3_isNoRoom 9 = .ok (.invokestatic 46, 3) := by decide +kernel
theorem dX3_isNoRoom_12 : decode cX3_isNoRoom 12 = .ok (.ifCond .ne 7, 3) := by decide +kernel
theorem dX3_isNoRoom_15 : decode cX3_isNoRoom 15 = .ok (.iconst 1, 1) := by decide +kernel
theorem dX3_isNoRoom_16 : decode cX3_isNoRoom 16 = .ok (.goto 4, 3) := by decide +kernel
theorem dX3_isNoRoom_19 : decode cX3_isNoRoom 19 = .ok (.iconst 0, 1) := by decide +kernel
theorem dX3_isNoRoom_20 : decode cX3_isNoRoom 20 = .ok (.iconst 1, 1) := by decide +kernel
theorem dX3_isNoRoom_21 : decode cX3_isNoRoom 21 = .ok (.invokevirtual 50, 3) := by decide +kernel
theorem dX3_isNoRoom_24 : decode cX3_isNoRoom 24 = .ok (.ireturn, 1) := by decide +kernel
set_option maxRecDepth 20000 in
theorem ggX3_areNoRooms_X3_isNoRoom : GoodIn wsX3_areNoRooms wsX3_isNoRoom := goodIn_r _ [6, 1, 7, 8, 5, 9, 10, 11, 12, 13, 14, 15, 16, 17, 18, 19, 20, 21, 22, 23, 24, 25, 26, 27, 28, 29, 30, 31, 32, 33, 34, 35, 36, 37, 38] (by decide +kernel) (by decide +kernel)
set_option maxRecDepth 20000 in
theorem gX3_areNoRooms_X3_isNoRoom : GoodIn wsX3_areNoRooms (wsV RX3 53 RX3 yX3_isNoRoom wsX3_isNoRoom) := goodIn_app (goodIn_of _ (by decide +kernel)) ggX3_areNoRooms_X3_isNoRoom
set_option maxRecDepth 20000 in
theorem ggX3_areNoRooms_X3_isIn : GoodIn wsX3_areNoRooms wsX3_isIn := goodIn_r _ [9] (by decide +kernel) (by decide +kernel)
set_option maxRecDepth 20000 in
theorem gX3_areNoRooms_X3_isIn : GoodIn wsX3_areNoRooms (va_wsS RX3 46 yX3_isIn wsX3_isIn) := goodIn_app (goodIn_of _ (by decide +kernel)) ggX3_areNoRooms_X3_isIn
set_option maxRecDepth 20000 in
theorem ggX3_areNoRooms_X3_refuse : GoodIn wsX3_areNoRooms wsX3_refuse := goodIn_r _ [18, 14, 19, 20, 21, 22, 23, 24, 25, 26, 27, 28, 29, 30, 31, 32, 33, 34, 35, 36, 37, 38] (by decide +kernel) (by decide +kernel)
set_option maxRecDepth 20000 in
theorem gX3_areNoRooms_X3_refuse : GoodIn wsX3_areNoRooms (wsV RX3 39 RX3 yX3_refuse wsX3_refuse) := goodIn_app (goodIn_of _ (by decide +kernel)) ggX3_areNoRooms_X3_refuse
theorem dX3_areNoRooms_0 : decode cX3_areNoRooms 0 = .ok (.aload_n 0, 1) := by decide +kernel
theorem dX3_areNoRooms_1 : decode cX3_areNoRooms 1 = .ok (.iload_n 1, 1) := by decide +kernel
theorem dX3_areNoRooms_2 : decode cX3_areNoRooms 2 = .ok (.invokevirtual 53, 3) := by decide +kernel
theorem dX3_areNoRooms_5 : decode cX3_areNoRooms 5 = .ok (.ifCond .ne 30, 3) := by decide +kernel
theorem dX3_areNoRooms_8 : decode cX3_areNoRooms 8 = .ok (.aload_n 0, 1) := by decide +kernel
theorem dX3_areNoRooms_9 : decode cX3_areNoRooms 9 = .ok (.iload_n 2, 1) := by decide +kernel
theorem dX3_areNoRooms_10 : decode cX3_areNoRooms 10 = .ok (.iconst 0, 1) := by decide +kernel
theorem dX3_areNoRooms_11 : decode cX3_areNoRooms 11 = .ok (.aload_n 0, 1) := by decide +kernel
theorem dX3_areNoRooms_12 : decode cX3_areNoRooms 12 = .ok (.getfield 43, 3) := by decide +kernel
theorem dX3_areNoRooms_15 : decode cX3_areNoRooms 15 = .ok (.iconst 1, 1) := by decide +kernel
theorem dX3_areNoRooms_16 : decode cX3_areNoRooms 16 = .ok (.isub, 1) := by decide +kernel
theorem dX3_areNoRooms_17 : decode cX3_areNoRooms 17 = .ok (.invokestatic 46, 3) := by decide +kernel
theorem dX3_areNoRooms_20 : decode cX3_areNoRooms 20 = .ok (.ifCond .ne 7, 3) := by decide +kernel
theorem dX3_areNoRooms_23 : decode cX3_areNoRooms 23 = .ok (.iconst 1, 1) := by decide +kernel
theorem dX3_areNoRooms_24 : decode cX3_areNoRooms 24 = .ok (.goto 4, 3) := by decide +kernel
theorem dX3_areNoRooms_27 : decode cX3_areNoRooms 27 = .ok (.iconst 0, 1) := by decide +kernel
theorem dX3_areNoRooms_28 : decode cX3_areNoRooms 28 = .ok (.iconst 1, 1) := by decide +kernel
theorem dX3_areNoRooms_29 : decode cX3_areNoRooms 29 = .ok (.invokevirtual 39, 3) := by decide +kernel
theorem dX3_areNoRooms_32 : decode cX3_areNoRooms 32 = .ok (.ifCond .eq 7, 3) := by decide +kernel
theorem dX3_areNoRooms_35 : decode cX3_areNoRooms 35 = .ok (.iconst 1, 1) := by decide +kernel
theorem dX3_areNoRooms_36 : decode cX3_areNoRooms 36 = .ok (.goto 4, 3) := by decide +kernel
theorem dX3_areNoRooms_39 : decode cX3_areNoRooms 39 = .ok (.iconst 0, 1) := by decide +kernel
theorem dX3_areNoRooms_40 : decode cX3_areNoRooms 40 = .ok (.ireturn, 1) := by decide +kernel
set_option maxRecDepth 20000 in
theorem ggX3_isNoDoor_X3_isIn : GoodIn wsX3_isNoDoor wsX3_isIn := goodIn_r _ [5] (by decide +kernel) (by decide +kernel)
set_option maxRecDepth 20000 in
theorem gX3_isNoDoor_X3_isIn : GoodIn wsX3_isNoDoor (va_wsS RX3 46 yX3_isIn wsX3_isIn) := goodIn_app (goodIn_of _ (by decide +kernel)) ggX3_isNoDoor_X3_isIn
set_option maxRecDepth 20000 in
theorem ggX3_isNoDoor_X3_start : GoodIn wsX3_isNoDoor wsX3_start := goodIn_r _ [9, 10, 11, 12, 13, 4, 14, 15, 16, 17, 18, 19, 20, 21, 22, 23, 24, 25, 26, 27, 28, 29, 30, 31, 32, 33, 34] (by decide +kernel) (by decide +kernel)
set_option maxRecDepth 20000 in
theorem gX3_isNoDoor_X3_start : GoodIn wsX3_isNoDoor (wsV RX3 50 RX3 yX3_start wsX3_start) := goodIn_app (goodIn_of _ (by decide +kernel)) ggX3_isNoDoor_X3_start
theorem dX3_isNoDoor_0 : decode cX3_isNoDoor 0 = .ok (.aload_n 0, 1) := by decide +kernel
theorem dX3_isNoDoor_1 : decode cX3_isNoDoor 1 = .ok (.iload_n 1, 1) := by decide +kernel
theorem dX3_isNoDoor_2 : decode cX3_isNoDoor 2 = .ok (.iconst 0, 1) := by decide +kernel
theorem dX3_isNoDoor_3 : decode cX3_isNoDoor 3 = .ok (.aload_n 0, 1) := by decide +kernel
theorem dX3_isNoDoor_4 : decode cX3_isNoDoor 4 = .ok (.getfield 57, 3) := by decide +kernel
theorem dX3_isNoDoor_7 : decode cX3_isNoDoor 7 = .ok (.iconst 1, 1) := by decide +kernel
theorem dX3_isNoDoor_8 : decode cX3_isNoDoor 8 = .ok (.isub, 1) := by decide +kernel
theorem dX3_isNoDoor_9 : decode cX3_isNoDoor 9 = .ok (.invokestatic 46, 3) := by decide +kernel
theorem dX3_isNoDoor_12 : decode cX3_isNoDoor 12 = .ok (.ifCond .ne 7, 3) := by decide +kernel
theorem dX3_isNoDoor_15 : decode cX3_isNoDoor 15 = .ok (.iconst 1, 1) := by decide +kernel
theorem dX3_isNoDoor_16 : decode cX3_isNoDoor 16 = .ok (.goto 4, 3) := by decide +kernel
theorem dX3_isNoDoor_19 : decode cX3_isNoDoor 19 = .ok (.iconst 0, 1) := by decide +kernel
theorem dX3_isNoDoor_20 : decode cX3_isNoDoor 20 = .ok (.iconst 1, 1) := by decide +kernel
theorem dX3_isNoDoor_21 : decode cX3_isNoDoor 21 = .ok (.invokevirtual 50, 3) := by decide +kernel
theorem dX3_isNoDoor_24 : decode cX3_isNoDoor 24 = .ok (.ireturn, 1) := by decide +kernel
theorem dX3_plain_0 : decode cX3_plain 0 = .ok (.aload_n 0, 1) := by decide +kernel
theorem dX3_plain_1 : decode cX3_plain 1 = .ok (.iconst 0, 1) := by decide +kernel
theorem dX3_plain_2 : decode cX3_plain 2 = .ok (.putfield 35, 3) := by decide +kernel
theorem dX3_plain_5 : decode cX3_plain 5 = .ok (.iload_n 1, 1) := by decide +kernel
theorem dX3_plain_6 : decode cX3_plain 6 = .ok (.ireturn, 1) := by decide +kernel
theorem dX3_plain__0 : decode cX3_plain_ 0 = .ok (.aload_n 0, 1) := by decide +kernel
theorem dX3_plain__1 : decode cX3_plain_ 1 = .ok (.iconst 0, 1) := by decide +kernel
theorem dX3_plain__2 : decode cX3_plain_ 2 = .ok (.putfield 35, 3) := by decide +kernel
theorem dX3_plain__5 : decode cX3_plain_ 5 = .ok (.iload_n 1, 1) := by decide +kernel
theorem dX3_plain__6 : decode cX3_plain_ 6 = .ok (.ireturn, 1) := by decide +kernel
theorem dX3_between_0 : decode cX3_between 0 = .ok (.iconst 0, 1) := by decide +kernel
theorem dX3_between_1 : decode cX3_between 1 = .ok (.istore_n 3, 1) := by decide +kernel
theorem dX3_between_2 : decode cX3_between 2 = .ok (.iload_n 3, 1) := by decide +kernel
theorem dX3_between_3 : decode cX3_between 3 = .ok (.aload_n 0, 1) := by decide +kernel
theorem dX3_between_4 : decode cX3_between 4 = .ok (.getfield 57, 3) := by decide +kernel
theorem dX3_between_7 : decode cX3_between 7 = .ok (.if_icmp .ge 51, 3) := by decide +kernel
theorem dX3_between_10 : decode cX3_between 10 = .ok (.aload_n 0, 1) := by decide +kernel
theorem dX3_between_11 : decode cX3_between 11 = .ok (.getfield 17, 3) := by decide +kernel
theorem dX3_between_14 : decode cX3_between 14 = .ok (.iload_n 3, 1) := by decide +kernel
theorem dX3_between_15 : decode cX3_between 15 = .ok (.iaload, 1) := by decide +kernel
theorem dX3_between_16 : decode cX3_between 16 = .ok (.iload_n 1, 1) := by decide +kernel
theorem dX3_between_17 : decode cX3_between 17 = .ok (.if_icmp .ne 13, 3) := by decide +kernel
theorem dX3_between_20 : decode cX3_between 20 = .ok (.aload_n 0, 1) := by decide +kernel
theorem dX3_between_21 : decode cX3_between 21 = .ok (.getfield 20, 3) := by decide +kernel
theorem dX3_between_24 : decode cX3_between 24 = .ok (.iload_n 3, 1) := by decide +kernel
theorem dX3_between_25 : decode cX3_between 25 = .ok (.iaload, 1) := by decide +kernel
theorem dX3_between_26 : decode cX3_between 26 = .ok (.iload_n 2, 1) := by decide +kernel
theorem dX3_between_27 : decode cX3_between 27 = .ok (.if_icmp .eq 23, 3) := by decide +kernel
theorem dX3_between_30 : decode cX3_between 30 = .ok (.aload_n 0, 1) := by decide +kernel
theorem dX3_between_31 : decode cX3_between 31 = .ok (.getfield 17, 3) := by decide +kernel
theorem dX3_between_34 : decode cX3_between 34 = .ok (.iload_n 3, 1) := by decide +kernel
theorem dX3_between_35 : decode cX3_between 35 = .ok (.iaload, 1) := by decide +kernel
theorem dX3_between_36 : decode cX3_between 36 = .ok (.iload_n 2, 1) := by decide +kernel
theorem dX3_between_37 : decode cX3_between 37 = .ok (.if_icmp .ne 15, 3) := by decide +kernel
theorem dX3_between_40 : decode cX3_between 40 = .ok (.aload_n 0, 1) := by decide +kernel
theorem dX3_between_41 : decode cX3_between 41 = .ok (.getfield 20, 3) := by decide +kernel
theorem dX3_between_44 : decode cX3_between 44 = .ok (.iload_n 3, 1) := by decide +kernel
theorem dX3_between_45 : decode cX3_between 45 = .ok (.iaload, 1) := by decide +kernel
theorem dX3_between_46 : decode cX3_between 46 = .ok (.iload_n 1, 1) := by decide +kernel
theorem dX3_between_47 : decode cX3_between 47 = .ok (.if_icmp .ne 5, 3) := by decide +kernel
theorem dX3_between_50 : decode cX3_between 50 = .ok (.iload_n 3, 1) := by decide +kernel
theorem dX3_between_51 : decode cX3_between 51 = .ok (.ireturn, 1) := by decide +kernel
theorem dX3_between_52 : decode cX3_between 52 = .ok (.iinc 3 1, 3) := by decide +kernel
theorem dX3_between_55 : decode cX3_between 55 = .ok (.goto (-53), 3) := by decide +kernel
theorem dX3_between_58 : decode cX3_between 58 = .ok (.iconst (-1), 1) := by decide +kernel
theorem dX3_between_59 : decode cX3_between 59 = .ok (.ireturn, 1) := by decide +kernel
set_option maxRecDepth 20000 in
theorem ggX3_addRoom_X3_start : GoodIn wsX3_addRoom wsX3_start := goodIn_r _ [7, 8, 9, 10, 11, 6, 12, 13, 14, 15, 16, 17, 18, 19, 20, 21, 22, 23, 24, 25, 26, 27, 28, 29, 30, 31, 32] (by decide +kernel) (by decide +kernel)
set_option maxRecDepth 20000 in
theorem gX3_addRoom_X3_start : GoodIn wsX3_addRoom (wsV RX3 50 RX3 yX3_start wsX3_start) := goodIn_app (goodIn_of _ (by decide +kernel)) ggX3_addRoom_X3_start
theorem dX3_addRoom_0 : decode cX3_addRoom 0 = .ok (.aload_n 0, 1) := by decide +kernel
theorem dX3_addRoom_1 : decode cX3_addRoom 1 = .ok (.aload_n 0, 1) := by decide +kernel
theorem dX3_addRoom_2 : decode cX3_addRoom 2 = .ok (.getfield 43, 3) := by decide +kernel
theorem dX3_addRoom_5 : decode cX3_addRoom 5 = .ok (.bipush 8, 2) := by decide +kernel
theorem dX3_addRoom_7 : decode cX3_addRoom 7 = .ok (.if_icmp .ne 7, 3) := by decide +kernel
theorem dX3_addRoom_10 : decode cX3_addRoom 10 = .ok (.iconst 1, 1) := by decide +kernel
theorem dX3_addRoom_11 : decode cX3_addRoom 11 = .ok (.goto 4, 3) := by decide +kernel
theorem dX3_addRoom_14 : decode cX3_addRoom 14 = .ok (.iconst 0, 1) := by decide +kernel
theorem dX3_addRoom_15 : decode cX3_addRoom 15 = .ok (.iconst 1, 1) := by decide +kernel
theorem dX3_addRoom_16 : decode cX3_addRoom 16 = .ok (.invokevirtual 50, 3) := by decide +kernel
theorem dX3_addRoom_19 : decode cX3_addRoom 19 = .ok (.ifCond .eq 5, 3) := by decide +kernel
theorem dX3_addRoom_22 : decode cX3_addRoom 22 = .ok (.iconst 0, 1) := by decide +kernel
theorem dX3_addRoom_23 : decode cX3_addRoom 23 = .ok (.ireturn, 1) := by decide +kernel
theorem dX3_addRoom_24 : decode cX3_addRoom 24 = .ok (.aload_n 0, 1) := by decide +kernel
theorem dX3_addRoom_25 : decode cX3_addRoom 25 = .ok (.getfield 9, 3) := by decide +kernel
theorem dX3_addRoom_28 : decode cX3_addRoom 28 = .ok (.aload_n 0, 1) := by decide +kernel
theorem dX3_addRoom_29 : decode cX3_addRoom 29 = .ok (.getfield 43, 3) := by decide +kernel
theorem dX3_addRoom_32 : decode cX3_addRoom 32 = .ok (.iload_n 1, 1) := by decide +kernel
theorem dX3_addRoom_33 : decode cX3_addRoom 33 = .ok (.bastore, 1) := by decide +kernel
theorem dX3_addRoom_34 : decode cX3_addRoom 34 = .ok (.aload_n 0, 1) := by decide +kernel
theorem dX3_addRoom_35 : decode cX3_addRoom 35 = .ok (.dup, 1) := by decide +kernel
theorem dX3_addRoom_36 : decode cX3_addRoom 36 = .ok (.getfield 43, 3) := by decide +kernel
theorem dX3_addRoom_39 : decode cX3_addRoom 39 = .ok (.iconst 1, 1) := by decide +kernel
theorem dX3_addRoom_40 : decode cX3_addRoom 40 = .ok (.iadd, 1) := by decide +kernel
theorem dX3_addRoom_41 : decode cX3_addRoom 41 = .ok (.putfield 43, 3) := by decide +kernel
theorem dX3_addRoom_44 : decode cX3_addRoom 44 = .ok (.aload_n 0, 1) := by decide +kernel
theorem dX3_addRoom_45 : decode cX3_addRoom 45 = .ok (.getfield 43, 3) := by decide +kernel
theorem dX3_addRoom_48 : decode cX3_addRoom 48 = .ok (.iconst 1, 1) := by decide +kernel
theorem dX3_addRoom_49 : decode cX3_addRoom 49 = .ok (.isub, 1) := by decide +kernel
theorem dX3_addRoom_50 : decode cX3_addRoom 50 = .ok (.ireturn, 1) := by decide +kernel
set_option maxRecDepth 20000 in
theorem ggX3_addDoor_X3_areNoRooms : GoodIn wsX3_addDoor wsX3_areNoRooms := goodIn_r _ [10, 11, 12, 13, 14, 9, 15, 16, 17, 18, 19, 20, 21, 22, 23, 24, 25, 26, 27, 32, 33, 34, 35, 36, 37, 38, 39, 40, 41, 42, 43, 44, 45, 46, 47, 48, 49, 50, 51] (by decide +kernel) (by decide +kernel)
set_option maxRecDepth 20000 in
theorem gX3_addDoor_X3_areNoRooms : GoodIn wsX3_addDoor (wsV RX3 60 RX3 yX3_areNoRooms wsX3_areNoRooms) := goodIn_app (goodIn_of _ (by decide +kernel)) ggX3_addDoor_X3_areNoRooms
set_option maxRecDepth 20000 in
theorem ggX3_addDoor_X3_isIn : GoodIn wsX3_addDoor wsX3_isIn := goodIn_r _ [18] (by decide +kernel) (by decide +kernel)
set_option maxRecDepth 20000 in
theorem gX3_addDoor_X3_isIn : GoodIn wsX3_addDoor (va_wsS RX3 46 yX3_isIn wsX3_isIn) := goodIn_app (goodIn_of _ (by decide +kernel)) ggX3_addDoor_X3_isIn
set_option maxRecDepth 20000 in
theorem ggX3_addDoor_X3_refuse : GoodIn wsX3_addDoor wsX3_refuse := goodIn_r _ [27, 23, 32, 33, 34, 35, 36, 37, 38, 39, 40, 41, 42, 43, 44, 45, 46, 47, 48, 49, 50, 51] (by decide +kernel) (by decide +kernel)
set_option maxRecDepth 20000 in
theorem gX3_addDoor_X3_refuse : GoodIn wsX3_addDoor (wsV RX3 39 RX3 yX3_refuse wsX3_refuse) := goodIn_app (goodIn_of _ (by decide +kernel)) ggX3_addDoor_X3_refuse
set_option maxRecDepth 20000 in
theorem ggX3_addDoor_X3_between : GoodIn wsX3_addDoor wsX3_between := goodIn_r _ [31, 1, 2, 3, 32, 33, 34, 35, 36, 37, 38, 39, 40, 41, 42, 43, 44, 45, 46, 47, 48, 49, 50, 51] (by decide +kernel) (by decide +kernel)
set_option maxRecDepth 20000 in
theorem gX3_addDoor_X3_between : GoodIn wsX3_addDoor (wsV RX3 64 RX3 yX3_between wsX3_between) := goodIn_app (goodIn_of _ (by decide +kernel)) ggX3_addDoor_X3_between
theorem dX3_addDoor_0 : decode cX3_addDoor 0 = .ok (.aload_n 0, 1) := by decide +kernel
theorem dX3_addDoor_1 : decode cX3_addDoor 1 = .ok (.iload_n 1, 1) := by decide +kernel
theorem dX3_addDoor_2 : decode cX3_addDoor 2 = .ok (.iload_n 2, 1) := by decide +kernel
theorem dX3_addDoor_3 : decode cX3_addDoor 3 = .ok (.invokevirtual 60, 3) := by decide +kernel
theorem dX3_addDoor_6 : decode cX3_addDoor 6 = .ok (.ifCond .ne 73, 3) := by decide +kernel
theorem dX3_addDoor_9 : decode cX3_addDoor 9 = .ok (.aload_n 0, 1) := by decide +kernel
theorem dX3_addDoor_10 : decode cX3_addDoor 10 = .ok (.iload_n 1, 1) := by decide +kernel
theorem dX3_addDoor_11 : decode cX3_addDoor 11 = .ok (.iload_n 2, 1) := by decide +kernel
theorem dX3_addDoor_12 : decode cX3_addDoor 12 = .ok (.if_icmp .eq 24, 3) := by decide +kernel
theorem dX3_addDoor_15 : decode cX3_addDoor 15 = .ok (.iload_n 3, 1) := by decide +kernel
theorem dX3_addDoor_16 : decode cX3_addDoor 16 = .ok (.iconst 1, 1) := by decide +kernel
theorem dX3_addDoor_17 : decode cX3_addDoor 17 = .ok (.iconst 4, 1) := by decide +kernel
theorem dX3_addDoor_18 : decode cX3_addDoor 18 = .ok (.invokestatic 46, 3) := by decide +kernel
theorem dX3_addDoor_21 : decode cX3_addDoor 21 = .ok (.ifCond .eq 15, 3) := by decide +kernel
theorem dX3_addDoor_24 : decode cX3_addDoor 24 = .ok (.iload 4, 2) := by decide +kernel
theorem dX3_addDoor_26 : decode cX3_addDoor 26 = .ok (.iconst 0, 1) := by decide +kernel
theorem dX3_addDoor_27 : decode cX3_addDoor 27 = .ok (.iload_n 3, 1) := by decide +kernel
theorem dX3_addDoor_28 : decode cX3_addDoor 28 = .ok (.iconst 1, 1) := by decide +kernel
theorem dX3_addDoor_29 : decode cX3_addDoor 29 = .ok (.isub, 1) := by decide +kernel
theorem dX3_addDoor_30 : decode cX3_addDoor 30 = .ok (.invokestatic 46, 3) := by decide +kernel
theorem dX3_addDoor_33 : decode cX3_addDoor 33 = .ok (.ifCond .ne 7, 3) := by decide +kernel
theorem dX3_addDoor_36 : decode cX3_addDoor 36 = .ok (.iconst 1, 1) := by decide +kernel
theorem dX3_addDoor_37 : decode cX3_addDoor 37 = .ok (.goto 4, 3) := by decide +kernel
theorem dX3_addDoor_40 : decode cX3_addDoor 40 = .ok (.iconst 0, 1) := by decide +kernel
theorem dX3_addDoor_41 : decode cX3_addDoor 41 = .ok (.iconst 2, 1) := by decide +kernel
theorem dX3_addDoor_42 : decode cX3_addDoor 42 = .ok (.invokevirtual 39, 3) := by decide +kernel
theorem dX3_addDoor_45 : decode cX3_addDoor 45 = .ok (.ifCond .ne 34, 3) := by decide +kernel
theorem dX3_addDoor_48 : decode cX3_addDoor 48 = .ok (.aload_n 0, 1) := by decide +kernel
theorem dX3_addDoor_49 : decode cX3_addDoor 49 = .ok (.aload_n 0, 1) := by decide +kernel
theorem dX3_addDoor_50 : decode cX3_addDoor 50 = .ok (.getfield 57, 3) := by decide +kernel
theorem dX3_addDoor_53 : decode cX3_addDoor 53 = .ok (.bipush 14, 2) := by decide +kernel
theorem dX3_addDoor_55 : decode cX3_addDoor 55 = .ok (.if_icmp .eq 12, 3) := by decide +kernel
theorem dX3_addDoor_58 : decode cX3_addDoor 58 = .ok (.aload_n 0, 1) := by decide +kernel
theorem dX3_addDoor_59 : decode cX3_addDoor 59 = .ok (.iload_n 1, 1) := by decide +kernel
theorem dX3_addDoor_60 : decode cX3_addDoor 60 = .ok (.iload_n 2, 1) := by decide +kernel
theorem dX3_addDoor_61 : decode cX3_addDoor 61 = .ok (.invokevirtual 64, 3) := by decide +kernel
theorem dX3_addDoor_64 : decode cX3_addDoor 64 = .ok (.ifCond .lt 7, 3) := by decide +kernel
theorem dX3_addDoor_67 : decode cX3_addDoor 67 = .ok (.iconst 1, 1) := by decide +kernel
theorem dX3_addDoor_68 : decode cX3_addDoor 68 = .ok (.goto 4, 3) := by decide +kernel
theorem dX3_addDoor_71 : decode cX3_addDoor 71 = .ok (.iconst 0, 1) := by decide +kernel
theorem dX3_addDoor_72 : decode cX3_addDoor 72 = .ok (.iconst 3, 1) := by decide +kernel
theorem dX3_addDoor_73 : decode cX3_addDoor 73 = .ok (.invokevirtual 39, 3) := by decide +kernel
theorem dX3_addDoor_76 : decode cX3_addDoor 76 = .ok (.ifCond .eq 5, 3) := by decide +kernel
theorem dX3_addDoor_79 : decode cX3_addDoor 79 = .ok (.iconst 0, 1) := by decide +kernel
theorem dX3_addDoor_80 : decode cX3_addDoor 80 = .ok (.ireturn, 1) := by decide +kernel
theorem dX3_addDoor_81 : decode cX3_addDoor 81 = .ok (.aload_n 0, 1) := by decide +kernel
theorem dX3_addDoor_82 : decode cX3_addDoor 82 = .ok (.getfield 17, 3) := by decide +kernel
theorem dX3_addDoor_85 : decode cX3_addDoor 85 = .ok (.aload_n 0, 1) := by decide +kernel
theorem dX3_addDoor_86 : decode cX3_addDoor 86 = .ok (.getfield 57, 3) := by decide +kernel
theorem dX3_addDoor_89 : decode cX3_addDoor 89 = .ok (.iload_n 1, 1) := by decide +kernel
theorem dX3_addDoor_90 : decode cX3_addDoor 90 = .ok (.iastore, 1) := by decide +kernel
theorem dX3_addDoor_91 : decode cX3_addDoor 91 = .ok (.aload_n 0, 1) := by decide +kernel
theorem dX3_addDoor_92 : decode cX3_addDoor 92 = .ok (.getfield 20, 3) := by decide +kernel
theorem dX3_addDoor_95 : decode cX3_addDoor 95 = .ok (.aload_n 0, 1) := by decide +kernel
theorem dX3_addDoor_96 : decode cX3_addDoor 96 = .ok (.getfield 57, 3) := by decide +kernel
theorem dX3_addDoor_99 : decode cX3_addDoor 99 = .ok (.iload_n 2, 1) := by decide +kernel
theorem dX3_addDoor_100 : decode cX3_addDoor 100 = .ok (.iastore, 1) := by decide +kernel
theorem dX3_addDoor_101 : decode cX3_addDoor 101 = .ok (.aload_n 0, 1) := by decide +kernel
theorem dX3_addDoor_102 : decode cX3_addDoor 102 = .ok (.getfield 23, 3) := by decide +kernel
theorem dX3_addDoor_105 : decode cX3_addDoor 105 = .ok (.aload_n 0, 1) := by decide +kernel
theorem dX3_addDoor_106 : decode cX3_addDoor 106 = .ok (.getfield 57, 3) := by decide +kernel
theorem dX3_addDoor_109 : decode cX3_addDoor 109 = .ok (.iload_n 3, 1) := by decide +kernel
theorem dX3_addDoor_110 : decode cX3_addDoor 110 = .ok (.iastore, 1) := by decide +kernel
theorem dX3_addDoor_111 : decode cX3_addDoor 111 = .ok (.aload_n 0, 1) := by decide +kernel
theorem dX3_addDoor_112 : decode cX3_addDoor 112 = .ok (.getfield 26, 3) := by decide +kernel
theorem dX3_addDoor_115 : decode cX3_addDoor 115 = .ok (.aload_n 0, 1) := by decide +kernel
theorem dX3_addDoor_116 : decode cX3_addDoor 116 = .ok (.getfield 57, 3) := by decide +kernel
theorem dX3_addDoor_119 : decode cX3_addDoor 119 = .ok (.iload 4, 2) := by decide +kernel
theorem dX3_addDoor_121 : decode cX3_addDoor 121 = .ok (.iastore, 1) := by decide +kernel
theorem dX3_addDoor_122 : decode cX3_addDoor 122 = .ok (.aload_n 0, 1) := by decide +kernel
theorem dX3_addDoor_123 : decode cX3_addDoor 123 = .ok (.dup, 1) := by decide +kernel
theorem dX3_addDoor_124 : decode cX3_addDoor 124 = .ok (.getfield 57, 3) := by decide +kernel
theorem dX3_addDoor_127 : decode cX3_addDoor 127 = .ok (.iconst 1, 1) := by decide +kernel
theorem dX3_addDoor_128 : decode cX3_addDoor 128 = .ok (.iadd, 1) := by decide +kernel
theorem dX3_addDoor_129 : decode cX3_addDoor 129 = .ok (.putfield 57, 3) := by decide +kernel
theorem dX3_addDoor_132 : decode cX3_addDoor 132 = .ok (.aload_n 0, 1) := by decide +kernel
theorem dX3_addDoor_133 : decode cX3_addDoor 133 = .ok (.getfield 57, 3) := by decide +kernel
theorem dX3_addDoor_136 : decode cX3_addDoor 136 = .ok (.iconst 1, 1) := by decide +kernel
theorem dX3_addDoor_137 : decode cX3_addDoor 137 = .ok (.isub, 1) := by decide +kernel
theorem dX3_addDoor_138 : decode cX3_addDoor 138 = .ok (.ireturn, 1) := by decide +kernel
set_option maxRecDepth 20000 in
theorem ggX3_turnLock_X3_isNoDoor : GoodIn wsX3_turnLock wsX3_isNoDoor := goodIn_r _ [6, 7, 8, 9, 5, 10, 11, 12, 13, 14, 15, 16, 17, 18, 19, 20, 21, 22, 23, 24, 25, 26, 27, 28, 29, 30, 31, 32, 33, 34, 35, 36, 37, 38, 39] (by decide +kernel) (by decide +kernel)
set_option maxRecDepth 20000 in
theorem gX3_turnLock_X3_isNoDoor : GoodIn wsX3_turnLock (wsV RX3 68 RX3 yX3_isNoDoor wsX3_isNoDoor) := goodIn_app (goodIn_of _ (by decide +kernel)) ggX3_turnLock_X3_isNoDoor
theorem dX3_turnLock_0 : decode cX3_turnLock 0 = .ok (.aload_n 0, 1) := by decide +kernel
theorem dX3_turnLock_1 : decode cX3_turnLock 1 = .ok (.iload_n 1, 1) := by decide +kernel
theorem dX3_turnLock_2 : decode cX3_turnLock 2 = .ok (.invokevirtual 68, 3) := by decide +kernel
theorem dX3_turnLock_5 : decode cX3_turnLock 5 = .ok (.ifCond .eq 5, 3) := by decide +kernel
theorem dX3_turnLock_8 : decode cX3_turnLock 8 = .ok (.iconst 0, 1) := by decide +kernel
theorem dX3_turnLock_9 : decode cX3_turnLock 9 = .ok (.ireturn, 1) := by decide +kernel
theorem dX3_turnLock_10 : decode cX3_turnLock 10 = .ok (.aload_n 0, 1) := by decide +kernel
theorem dX3_turnLock_11 : decode cX3_turnLock 11 = .ok (.getfield 29, 3) := by decide +kernel
theorem dX3_turnLock_14 : decode cX3_turnLock 14 = .ok (.iload_n 1, 1) := by decide +kernel
theorem dX3_turnLock_15 : decode cX3_turnLock 15 = .ok (.aload_n 0, 1) := by decide +kernel
theorem dX3_turnLock_16 : decode cX3_turnLock 16 = .ok (.getfield 29, 3) := by decide +kernel
theorem dX3_turnLock_19 : decode cX3_turnLock 19 = .ok (.iload_n 1, 1) := by decide +kernel
theorem dX3_turnLock_20 : decode cX3_turnLock 20 = .ok (.baload, 1) := by decide +kernel
theorem dX3_turnLock_21 : decode cX3_turnLock 21 = .ok (.ifCond .ne 7, 3) := by decide +kernel
theorem dX3_turnLock_24 : decode cX3_turnLock 24 = .ok (.iconst 1, 1) := by decide +kernel
theorem dX3_turnLock_25 : decode cX3_turnLock 25 = .ok (.goto 4, 3) := by decide +kernel
theorem dX3_turnLock_28 : decode cX3_turnLock 28 = .ok (.iconst 0, 1) := by decide +kernel
theorem dX3_turnLock_29 : decode cX3_turnLock 29 = .ok (.bastore, 1) := by decide +kernel
theorem dX3_turnLock_30 : decode cX3_turnLock 30 = .ok (.aload_n 0, 1) := by decide +kernel
theorem dX3_turnLock_31 : decode cX3_turnLock 31 = .ok (.getfield 29, 3) := by decide +kernel
theorem dX3_turnLock_34 : decode cX3_turnLock 34 = .ok (.iload_n 1, 1) := by decide +kernel
theorem dX3_turnLock_35 : decode cX3_turnLock 35 = .ok (.baload, 1) := by decide +kernel
theorem dX3_turnLock_36 : decode cX3_turnLock 36 = .ok (.ireturn, 1) := by decide +kernel
set_option maxRecDepth 20000 in
theorem ggX3_putCheese_X3_isNoRoom : GoodIn wsX3_putCheese wsX3_isNoRoom := goodIn_r _ [6, 7, 8, 9, 5, 10, 11, 12, 13, 14, 15, 16, 17, 18, 19, 20, 21, 22, 23, 24, 25, 26, 27, 28, 29, 30, 31, 32, 33, 34, 35, 36, 37, 38, 39] (by decide +kernel) (by decide +kernel)
set_option maxRecDepth 20000 in
theorem gX3_putCheese_X3_isNoRoom : GoodIn wsX3_putCheese (wsV RX3 53 RX3 yX3_isNoRoom wsX3_isNoRoom) := goodIn_app (goodIn_of _ (by decide +kernel)) ggX3_putCheese_X3_isNoRoom
set_option maxRecDepth 20000 in
theorem ggX3_putCheese_X3_isIn : GoodIn wsX3_putCheese wsX3_isIn := goodIn_r _ [10] (by decide +kernel) (by decide +kernel)
set_option maxRecDepth 20000 in
theorem gX3_putCheese_X3_isIn : GoodIn wsX3_putCheese (va_wsS RX3 46 yX3_isIn wsX3_isIn) := goodIn_app (goodIn_of _ (by decide +kernel)) ggX3_putCheese_X3_isIn
set_option maxRecDepth 20000 in
theorem ggX3_putCheese_X3_refuse : GoodIn wsX3_putCheese wsX3_refuse := goodIn_r _ [19, 15, 20, 21, 22, 23, 24, 25, 26, 27, 28, 29, 30, 31, 32, 33, 34, 35, 36, 37, 38, 39] (by decide +kernel) (by decide +kernel)
set_option maxRecDepth 20000 in
theorem gX3_putCheese_X3_refuse : GoodIn wsX3_putCheese (wsV RX3 39 RX3 yX3_refuse wsX3_refuse) := goodIn_app (goodIn_of _ (by decide +kernel)) ggX3_putCheese_X3_refuse
theorem dX3_putCheese_0 : decode cX3_putCheese 0 = .ok (.aload_n 0, 1) := by decide +kernel
theorem dX3_putCheese_1 : decode cX3_putCheese 1 = .ok (.iload_n 1, 1) := by decide +kernel
theorem dX3_putCheese_2 : decode cX3_putCheese 2 = .ok (.invokevirtual 53, 3) := by decide +kernel
theorem dX3_putCheese_5 : decode cX3_putCheese 5 = .ok (.ifCond .ne 52, 3) := by decide +kernel
theorem dX3_putCheese_8 : decode cX3_putCheese 8 = .ok (.aload_n 0, 1) := by decide +kernel
theorem dX3_putCheese_9 : decode cX3_putCheese 9 = .ok (.iload_n 2, 1) := by decide +kernel
theorem dX3_putCheese_10 : decode cX3_putCheese 10 = .ok (.iconst 1, 1) := by decide +kernel
theorem dX3_putCheese_11 : decode cX3_putCheese 11 = .ok (.bipush 9, 2) := by decide +kernel
theorem dX3_putCheese_13 : decode cX3_putCheese 13 = .ok (.invokestatic 46, 3) := by decide +kernel
theorem dX3_putCheese_16 : decode cX3_putCheese 16 = .ok (.ifCond .ne 7, 3) := by decide +kernel
theorem dX3_putCheese_19 : decode cX3_putCheese 19 = .ok (.iconst 1, 1) := by decide +kernel
theorem dX3_putCheese_20 : decode cX3_putCheese 20 = .ok (.goto 4, 3) := by decide +kernel
theorem dX3_putCheese_23 : decode cX3_putCheese 23 = .ok (.iconst 0, 1) := by decide +kernel
theorem dX3_putCheese_24 : decode cX3_putCheese 24 = .ok (.iconst 2, 1) := by decide +kernel
theorem dX3_putCheese_25 : decode cX3_putCheese 25 = .ok (.invokevirtual 39, 3) := by decide +kernel
theorem dX3_putCheese_28 : decode cX3_putCheese 28 = .ok (.ifCond .ne 29, 3) := by decide +kernel
theorem dX3_putCheese_31 : decode cX3_putCheese 31 = .ok (.aload_n 0, 1) := by decide +kernel
theorem dX3_putCheese_32 : decode cX3_putCheese 32 = .ok (.aload_n 0, 1) := by decide +kernel
theorem dX3_putCheese_33 : decode cX3_putCheese 33 = .ok (.getfield 13, 3) := by decide +kernel
theorem dX3_putCheese_36 : decode cX3_putCheese 36 = .ok (.iload_n 1, 1) := by decide +kernel
theorem dX3_putCheese_37 : decode cX3_putCheese 37 = .ok (.iaload, 1) := by decide +kernel
theorem dX3_putCheese_38 : decode cX3_putCheese 38 = .ok (.iload_n 2, 1) := by decide +kernel
theorem dX3_putCheese_39 : decode cX3_putCheese 39 = .ok (.iadd, 1) := by decide +kernel
theorem dX3_putCheese_40 : decode cX3_putCheese 40 = .ok (.bipush 9, 2) := by decide +kernel
theorem dX3_putCheese_42 : decode cX3_putCheese 42 = .ok (.if_icmp .le 7, 3) := by decide +kernel
theorem dX3_putCheese_45 : decode cX3_putCheese 45 = .ok (.iconst 1, 1) := by decide +kernel
theorem dX3_putCheese_46 : decode cX3_putCheese 46 = .ok (.goto 4, 3) := by decide +kernel
theorem dX3_putCheese_49 : decode cX3_putCheese 49 = .ok (.iconst 0, 1) := by decide +kernel
theorem dX3_putCheese_50 : decode cX3_putCheese 50 = .ok (.iconst 3, 1) := by decide +kernel
theorem dX3_putCheese_51 : decode cX3_putCheese 51 = .ok (.invokevirtual 39, 3) := by decide +kernel
theorem dX3_putCheese_54 : decode cX3_putCheese 54 = .ok (.ifCond .eq 5, 3) := by decide +kernel
theorem dX3_putCheese_57 : decode cX3_putCheese 57 = .ok (.iconst 0, 1) := by decide +kernel
theorem dX3_putCheese_58 : decode cX3_putCheese 58 = .ok (.ireturn, 1) := by decide +kernel
theorem dX3_putCheese_59 : decode cX3_putCheese 59 = .ok (.aload_n 0, 1) := by decide +kernel
theorem dX3_putCheese_60 : decode cX3_putCheese 60 = .ok (.getfield 13, 3) := by decide +kernel
theorem dX3_putCheese_63 : decode cX3_putCheese 63 = .ok (.iload_n 1, 1) := by decide +kernel
theorem dX3_putCheese_64 : decode cX3_putCheese 64 = .ok (.dup2, 1) := by decide +kernel
theorem dX3_putCheese_65 : decode cX3_putCheese 65 = .ok (.iaload, 1) := by decide +kernel
theorem dX3_putCheese_66 : decode cX3_putCheese 66 = .ok (.iload_n 2, 1) := by decide +kernel
theorem dX3_putCheese_67 : decode cX3_putCheese 67 = .ok (.iadd, 1) := by decide +kernel
theorem dX3_putCheese_68 : decode cX3_putCheese 68 = .ok (.iastore, 1) := by decide +kernel
theorem dX3_putCheese_69 : decode cX3_putCheese 69 = .ok (.aload_n 0, 1) := by decide +kernel
theorem dX3_putCheese_70 : decode cX3_putCheese 70 = .ok (.getfield 13, 3) := by decide +kernel
theorem dX3_putCheese_73 : decode cX3_putCheese 73 = .ok (.iload_n 1, 1) := by decide +kernel
theorem dX3_putCheese_74 : decode cX3_putCheese 74 = .ok (.iaload, 1) := by decide +kernel
theorem dX3_putCheese_75 : decode cX3_putCheese 75 = .ok (.ireturn, 1) := by decide +kernel
theorem dX3_isOpenIn_0 : decode cX3_isOpenIn 0 = .ok (.aload_n 0, 1) := by decide +kernel
theorem dX3_isOpenIn_1 : decode cX3_isOpenIn 1 = .ok (.getfield 29, 3) := by decide +kernel
theorem dX3_isOpenIn_4 : decode cX3_isOpenIn 4 = .ok (.iload_n 1, 1) := by decide +kernel
theorem dX3_isOpenIn_5 : decode cX3_isOpenIn 5 = .ok (.baload, 1) := by decide +kernel
theorem dX3_isOpenIn_6 : decode cX3_isOpenIn 6 = .ok (.ifCond .ne 34, 3) := by decide +kernel
theorem dX3_isOpenIn_9 : decode cX3_isOpenIn 9 = .ok (.aload_n 0, 1) := by decide +kernel
theorem dX3_isOpenIn_10 : decode cX3_isOpenIn 10 = .ok (.getfield 23, 3) := by decide +kernel
theorem dX3_isOpenIn_13 : decode cX3_isOpenIn 13 = .ok (.iload_n 1, 1) := by decide +kernel
theorem dX3_isOpenIn_14 : decode cX3_isOpenIn 14 = .ok (.iaload, 1) := by decide +kernel
theorem dX3_isOpenIn_15 : decode cX3_isOpenIn 15 = .ok (.iconst 1, 1) := by decide +kernel
theorem dX3_isOpenIn_16 : decode cX3_isOpenIn 16 = .ok (.if_icmp .eq 20, 3) := by decide +kernel
theorem dX3_isOpenIn_19 : decode cX3_isOpenIn 19 = .ok (.iload_n 2, 1) := by decide +kernel
theorem dX3_isOpenIn_20 : decode cX3_isOpenIn 20 = .ok (.aload_n 0, 1) := by decide +kernel
theorem dX3_isOpenIn_21 : decode cX3_isOpenIn 21 = .ok (.getfield 23, 3) := by decide +kernel
theorem dX3_isOpenIn_24 : decode cX3_isOpenIn 24 = .ok (.iload_n 1, 1) := by decide +kernel
theorem dX3_isOpenIn_25 : decode cX3_isOpenIn 25 = .ok (.iaload, 1) := by decide +kernel
theorem dX3_isOpenIn_26 : decode cX3_isOpenIn 26 = .ok (.irem, 1) := by decide +kernel
theorem dX3_isOpenIn_27 : decode cX3_isOpenIn 27 = .ok (.aload_n 0, 1) := by decide +kernel
theorem dX3_isOpenIn_28 : decode cX3_isOpenIn 28 = .ok (.getfield 26, 3) := by decide +kernel
theorem dX3_isOpenIn_31 : decode cX3_isOpenIn 31 = .ok (.iload_n 1, 1) := by decide +kernel
theorem dX3_isOpenIn_32 : decode cX3_isOpenIn 32 = .ok (.iaload, 1) := by decide +kernel
theorem dX3_isOpenIn_33 : decode cX3_isOpenIn 33 = .ok (.if_icmp .eq 7, 3) := by decide +kernel
theorem dX3_isOpenIn_36 : decode cX3_isOpenIn 36 = .ok (.iconst 1, 1) := by decide +kernel
theorem dX3_isOpenIn_37 : decode cX3_isOpenIn 37 = .ok (.goto 4, 3) := by decide +kernel
theorem dX3_isOpenIn_40 : decode cX3_isOpenIn 40 = .ok (.iconst 0, 1) := by decide +kernel
theorem dX3_isOpenIn_41 : decode cX3_isOpenIn 41 = .ok (.ireturn, 1) := by decide +kernel
set_option maxRecDepth 20000 in
theorem ggX3_isWay_X3_between : GoodIn wsX3_isWay wsX3_between := goodIn_r _ [5, 6, 7, 8, 16, 17, 18, 19, 20, 21, 22, 23, 24, 25, 26, 27, 28, 29, 30, 31, 32, 33, 34, 35] (by decide +kernel) (by decide +kernel)
set_option maxRecDepth 20000 in
theorem gX3_isWay_X3_between : GoodIn wsX3_isWay (wsV RX3 64 RX3 yX3_between wsX3_between) := goodIn_app (goodIn_of _ (by decide +kernel)) ggX3_isWay_X3_between
set_option maxRecDepth 20000 in
theorem ggX3_isWay_X3_isOpenIn : GoodIn wsX3_isWay wsX3_isOpenIn := goodIn_r _ [12, 13, 14, 15, 16, 17, 18, 19, 20, 21, 22, 23, 24, 25, 26, 27, 28, 29, 30, 31, 32, 33, 34, 35] (by decide +kernel) (by decide +kernel)
set_option maxRecDepth 20000 in
theorem gX3_isWay_X3_isOpenIn : GoodIn wsX3_isWay (wsV RX3 71 RX3 yX3_isOpenIn wsX3_isOpenIn) := goodIn_app (goodIn_of _ (by decide +kernel)) ggX3_isWay_X3_isOpenIn
theorem dX3_isWay_0 : decode cX3_isWay 0 = .ok (.iload_n 1, 1) := by decide +kernel
theorem dX3_isWay_1 : decode cX3_isWay 1 = .ok (.iload_n 2, 1) := by decide +kernel
theorem dX3_isWay_2 : decode cX3_isWay 2 = .ok (.if_icmp .eq 26, 3) := by decide +kernel
theorem dX3_isWay_5 : decode cX3_isWay 5 = .ok (.aload_n 0, 1) := by decide +kernel
theorem dX3_isWay_6 : decode cX3_isWay 6 = .ok (.iload_n 1, 1) := by decide +kernel
theorem dX3_isWay_7 : decode cX3_isWay 7 = .ok (.iload_n 2, 1) := by decide +kernel
theorem dX3_isWay_8 : decode cX3_isWay 8 = .ok (.invokevirtual 64, 3) := by decide +kernel
theorem dX3_isWay_11 : decode cX3_isWay 11 = .ok (.ifCond .lt 21, 3) := by decide +kernel
theorem dX3_isWay_14 : decode cX3_isWay 14 = .ok (.aload_n 0, 1) := by decide +kernel
theorem dX3_isWay_15 : decode cX3_isWay 15 = .ok (.aload_n 0, 1) := by decide +kernel
theorem dX3_isWay_16 : decode cX3_isWay 16 = .ok (.iload_n 1, 1) := by decide +kernel
theorem dX3_isWay_17 : decode cX3_isWay 17 = .ok (.iload_n 2, 1) := by decide +kernel
theorem dX3_isWay_18 : decode cX3_isWay 18 = .ok (.invokevirtual 64, 3) := by decide +kernel
theorem dX3_isWay_21 : decode cX3_isWay 21 = .ok (.iload_n 3, 1) := by decide +kernel
theorem dX3_isWay_22 : decode cX3_isWay 22 = .ok (.invokevirtual 71, 3) := by decide +kernel
theorem dX3_isWay_25 : decode cX3_isWay 25 = .ok (.ifCond .eq 7, 3) := by decide +kernel
theorem dX3_isWay_28 : decode cX3_isWay 28 = .ok (.iconst 1, 1) := by decide +kernel
theorem dX3_isWay_29 : decode cX3_isWay 29 = .ok (.goto 4, 3) := by decide +kernel
theorem dX3_isWay_32 : decode cX3_isWay 32 = .ok (.iconst 0, 1) := by decide +kernel
theorem dX3_isWay_33 : decode cX3_isWay 33 = .ok (.ireturn, 1) := by decide +kernel
theorem dX3_place_0 : decode cX3_place 0 = .ok (.iload_n 0, 1) := by decide +kernel
theorem dX3_place_1 : decode cX3_place 1 = .ok (.bipush 12, 2) := by decide +kernel
theorem dX3_place_3 : decode cX3_place 3 = .ok (.irem, 1) := by decide +kernel
theorem dX3_place_4 : decode cX3_place 4 = .ok (.bipush 8, 2) := by decide +kernel
theorem dX3_place_6 : decode cX3_place 6 = .ok (.imul, 1) := by decide +kernel
theorem dX3_place_7 : decode cX3_place 7 = .ok (.iload_n 1, 1) := by decide +kernel
theorem dX3_place_8 : decode cX3_place 8 = .ok (.iadd, 1) := by decide +kernel
theorem dX3_place_9 : decode cX3_place 9 = .ok (.bipush 8, 2) := by decide +kernel
theorem dX3_place_11 : decode cX3_place 11 = .ok (.imul, 1) := by decide +kernel
theorem dX3_place_12 : decode cX3_place 12 = .ok (.iload_n 2, 1) := by decide +kernel
theorem dX3_place_13 : decode cX3_place 13 = .ok (.iadd, 1) := by decide +kernel
theorem dX3_place_14 : decode cX3_place 14 = .ok (.ireturn, 1) := by decide +kernel
set_option maxRecDepth 20000 in
theorem ggX3_reckon_X3_place : GoodIn wsX3_reckon wsX3_place := goodIn_r _ [8] (by decide +kernel) (by decide +kernel)
set_option maxRecDepth 20000 in
theorem gX3_reckon_X3_place : GoodIn wsX3_reckon (va_wsS RX3 74 yX3_place wsX3_place) := goodIn_app (goodIn_of _ (by decide +kernel)) ggX3_reckon_X3_place
set_option maxRecDepth 20000 in
theorem ggX3_reckon_X3_isWay : GoodIn wsX3_reckon wsX3_isWay := goodIn_r _ [12, 13, 14, 15, 7, 16, 17, 18, 19, 20, 21, 22, 23, 24, 25, 26, 31, 32, 33, 34, 35, 36, 37, 38, 39, 40, 41, 42, 43, 44, 45, 46, 47, 48, 49, 50] (by decide +kernel) (by decide +kernel)
set_option maxRecDepth 20000 in
theorem gX3_reckon_X3_isWay : GoodIn wsX3_reckon (wsV RX3 78 RX3 yX3_isWay wsX3_isWay) := goodIn_app (goodIn_of _ (by decide +kernel)) ggX3_reckon_X3_isWay
set_option maxRecDepth 20000 in
theorem ggX3_reckon_X3_comes : GoodIn wsX3_reckon wsX3_comes := goodIn_r _ [30, 2, 4, 3, 5, 6, 7, 8, 31, 32, 33, 34, 35, 36, 37, 38, 39, 40, 41, 42, 43, 44, 45, 46, 47, 48, 49, 50] (by decide +kernel) (by decide +kernel)
set_option maxRecDepth 20000 in
theorem gX3_reckon_X3_comes : GoodIn wsX3_reckon (wsV RX3 81 RX3 yX3_comes wsX3_comes) := goodIn_app (goodIn_of _ (by decide +kernel)) ggX3_reckon_X3_comes
theorem dX3_reckon_0 : decode cX3_reckon 0 = .ok (.sipush 768, 3) := by decide +kernel
theorem dX3_reckon_3 : decode cX3_reckon 3 = .ok (.newarray .boolean, 2) := by decide +kernel
theorem dX3_reckon_5 : decode cX3_reckon 5 = .ok (.astore_n 1, 1) := by decide +kernel
theorem dX3_reckon_6 : decode cX3_reckon 6 = .ok (.iconst 0, 1) := by decide +kernel
theorem dX3_reckon_7 : decode cX3_reckon 7 = .ok (.istore_n 2, 1) := by decide +kernel
theorem dX3_reckon_8 : decode cX3_reckon 8 = .ok (.iload_n 2, 1) := by decide +kernel
theorem dX3_reckon_9 : decode cX3_reckon 9 = .ok (.bipush 12, 2) := by decide +kernel
theorem dX3_reckon_11 : decode cX3_reckon 11 = .ok (.if_icmp .ge 83, 3) := by decide +kernel
theorem dX3_reckon_14 : decode cX3_reckon 14 = .ok (.iconst 0, 1) := by decide +kernel
theorem dX3_reckon_15 : decode cX3_reckon 15 = .ok (.istore_n 3, 1) := by decide +kernel
theorem dX3_reckon_16 : decode cX3_reckon 16 = .ok (.iload_n 3, 1) := by decide +kernel
theorem dX3_reckon_17 : decode cX3_reckon 17 = .ok (.aload_n 0, 1) := by decide +kernel
theorem dX3_reckon_18 : decode cX3_reckon 18 = .ok (.getfield 43, 3) := by decide +kernel
theorem dX3_reckon_21 : decode cX3_reckon 21 = .ok (.if_icmp .ge 67, 3) := by decide +kernel
theorem dX3_reckon_24 : decode cX3_reckon 24 = .ok (.iconst 0, 1) := by decide +kernel
theorem dX3_reckon_25 : decode cX3_reckon 25 = .ok (.istore 4, 2) := by decide +kernel
theorem dX3_reckon_27 : decode cX3_reckon 27 = .ok (.iload 4, 2) := by decide +kernel
theorem dX3_reckon_29 : decode cX3_reckon 29 = .ok (.aload_n 0, 1) := by decide +kernel
theorem dX3_reckon_30 : decode cX3_reckon 30 = .ok (.getfield 43, 3) := by decide +kernel
theorem dX3_reckon_33 : decode cX3_reckon 33 = .ok (.if_icmp .ge 49, 3) := by decide +kernel
theorem dX3_reckon_36 : decode cX3_reckon 36 = .ok (.aload_n 1, 1) := by decide +kernel
theorem dX3_reckon_37 : decode cX3_reckon 37 = .ok (.iload_n 2, 1) := by decide +kernel
theorem dX3_reckon_38 : decode cX3_reckon 38 = .ok (.iload_n 3, 1) := by decide +kernel
theorem dX3_reckon_39 : decode cX3_reckon 39 = .ok (.iload 4, 2) := by decide +kernel
theorem dX3_reckon_41 : decode cX3_reckon 41 = .ok (.invokestatic 74, 3) := by decide +kernel
theorem dX3_reckon_44 : decode cX3_reckon 44 = .ok (.aload_n 0, 1) := by decide +kernel
theorem dX3_reckon_45 : decode cX3_reckon 45 = .ok (.iload_n 3, 1) := by decide +kernel
theorem dX3_reckon_46 : decode cX3_reckon 46 = .ok (.iload 4, 2) := by decide +kernel
theorem dX3_reckon_48 : decode cX3_reckon 48 = .ok (.iload_n 2, 1) := by decide +kernel
theorem dX3_reckon_49 : decode cX3_reckon 49 = .ok (.invokevirtual 78, 3) := by decide +kernel
theorem dX3_reckon_52 : decode cX3_reckon 52 = .ok (.bastore, 1) := by decide +kernel
theorem dX3_reckon_53 : decode cX3_reckon 53 = .ok (.aload_n 0, 1) := by decide +kernel
theorem dX3_reckon_54 : decode cX3_reckon 54 = .ok (.getfield 32, 3) := by decide +kernel
theorem dX3_reckon_57 : decode cX3_reckon 57 = .ok (.iload_n 2, 1) := by decide +kernel
theorem dX3_reckon_58 : decode cX3_reckon 58 = .ok (.iload_n 3, 1) := by decide +kernel
theorem dX3_reckon_59 : decode cX3_reckon 59 = .ok (.iload 4, 2) := by decide +kernel
theorem dX3_reckon_61 : decode cX3_reckon 61 = .ok (.invokestatic 74, 3) := by decide +kernel
theorem dX3_reckon_64 : decode cX3_reckon 64 = .ok (.iload_n 3, 1) := by decide +kernel
theorem dX3_reckon_65 : decode cX3_reckon 65 = .ok (.iload 4, 2) := by decide +kernel
theorem dX3_reckon_67 : decode cX3_reckon 67 = .ok (.if_icmp .ne 7, 3) := by decide +kernel
theorem dX3_reckon_70 : decode cX3_reckon 70 = .ok (.iconst 0, 1) := by decide +kernel
theorem dX3_reckon_71 : decode cX3_reckon 71 = .ok (.goto 4, 3) := by decide +kernel
theorem dX3_reckon_74 : decode cX3_reckon 74 = .ok (.iconst (-1), 1) := by decide +kernel
theorem dX3_reckon_75 : decode cX3_reckon 75 = .ok (.iastore, 1) := by decide +kernel
theorem dX3_reckon_76 : decode cX3_reckon 76 = .ok (.iinc 4 1, 3) := by decide +kernel
theorem dX3_reckon_79 : decode cX3_reckon 79 = .ok (.goto (-52), 3) := by decide +kernel
theorem dX3_reckon_82 : decode cX3_reckon 82 = .ok (.iinc 3 1, 3) := by decide +kernel
theorem dX3_reckon_85 : decode cX3_reckon 85 = .ok (.goto (-69), 3) := by decide +kernel
theorem dX3_reckon_88 : decode cX3_reckon 88 = .ok (.iinc 2 1, 3) := by decide +kernel
theorem dX3_reckon_91 : decode cX3_reckon 91 = .ok (.goto (-83), 3) := by decide +kernel
theorem dX3_reckon_94 : decode cX3_reckon 94 = .ok (.iconst 1, 1) := by decide +kernel
theorem dX3_reckon_95 : decode cX3_reckon 95 = .ok (.istore_n 2, 1) := by decide +kernel
theorem dX3_reckon_96 : decode cX3_reckon 96 = .ok (.iconst 1, 1) := by decide +kernel
theorem dX3_reckon_97 : decode cX3_reckon 97 = .ok (.istore_n 3, 1) := by decide +kernel
theorem dX3_reckon_98 : decode cX3_reckon 98 = .ok (.iload_n 2, 1) := by decide +kernel
theorem dX3_reckon_99 : decode cX3_reckon 99 = .ok (.ifCond .eq 125, 3) := by decide +kernel
theorem dX3_reckon_102 : decode cX3_reckon 102 = .ok (.iconst 0, 1) := by decide +kernel
theorem dX3_reckon_103 : decode cX3_reckon 103 = .ok (.istore_n 2, 1) := by decide +kernel
theorem dX3_reckon_104 : decode cX3_reckon 104 = .ok (.iconst 0, 1) := by decide +kernel
theorem dX3_reckon_105 : decode cX3_reckon 105 = .ok (.istore 4, 2) := by decide +kernel
theorem dX3_reckon_107 : decode cX3_reckon 107 = .ok (.iload 4, 2) := by decide +kernel
theorem dX3_reckon_109 : decode cX3_reckon 109 = .ok (.bipush 12, 2) := by decide +kernel
theorem dX3_reckon_111 : decode cX3_reckon 111 = .ok (.if_icmp .ge 107, 3) := by decide +kernel
theorem dX3_reckon_114 : decode cX3_reckon 114 = .ok (.iconst 0, 1) := by decide +kernel
theorem dX3_reckon_115 : decode cX3_reckon 115 = .ok (.istore 5, 2) := by decide +kernel
theorem dX3_reckon_117 : decode cX3_reckon 117 = .ok (.iload 5, 2) := by decide +kernel
theorem dX3_reckon_119 : decode cX3_reckon 119 = .ok (.aload_n 0, 1) := by decide +kernel
theorem dX3_reckon_120 : decode cX3_reckon 120 = .ok (.getfield 43, 3) := by decide +kernel
theorem dX3_reckon_123 : decode cX3_reckon 123 = .ok (.if_icmp .ge 89, 3) := by decide +kernel
theorem dX3_reckon_126 : decode cX3_reckon 126 = .ok (.iconst 0, 1) := by decide +kernel
theorem dX3_reckon_127 : decode cX3_reckon 127 = .ok (.istore 6, 2) := by decide +kernel
theorem dX3_reckon_129 : decode cX3_reckon 129 = .ok (.iload 6, 2) := by decide +kernel
theorem dX3_reckon_131 : decode cX3_reckon 131 = .ok (.aload_n 0, 1) := by decide +kernel
theorem dX3_reckon_132 : decode cX3_reckon 132 = .ok (.getfield 43, 3) := by decide +kernel
theorem dX3_reckon_135 : decode cX3_reckon 135 = .ok (.if_icmp .ge 71, 3) := by decide +kernel
theorem dX3_reckon_138 : decode cX3_reckon 138 = .ok (.aload_n 0, 1) := by decide +kernel
theorem dX3_reckon_139 : decode cX3_reckon 139 = .ok (.getfield 9, 3) := by decide +kernel
theorem dX3_reckon_142 : decode cX3_reckon 142 = .ok (.iload 5, 2) := by decide +kernel
theorem dX3_reckon_144 : decode cX3_reckon 144 = .ok (.baload, 1) := by decide +kernel
theorem dX3_reckon_145 : decode cX3_reckon 145 = .ok (.ifCond .ne 55, 3) := by decide +kernel
theorem dX3_reckon_148 : decode cX3_reckon 148 = .ok (.aload_n 0, 1) := by decide +kernel
theorem dX3_reckon_149 : decode cX3_reckon 149 = .ok (.getfield 32, 3) := by decide +kernel
theorem dX3_reckon_152 : decode cX3_reckon 152 = .ok (.iload 4, 2) := by decide +kernel
theorem dX3_reckon_154 : decode cX3_reckon 154 = .ok (.iload 5, 2) := by decide +kernel
theorem dX3_reckon_156 : decode cX3_reckon 156 = .ok (.iload 6, 2) := by decide +kernel
theorem dX3_reckon_158 : decode cX3_reckon 158 = .ok (.invokestatic 74, 3) := by decide +kernel
theorem dX3_reckon_161 : decode cX3_reckon 161 = .ok (.iaload, 1) := by decide +kernel
theorem dX3_reckon_162 : decode cX3_reckon 162 = .ok (.ifCond .ge 38, 3) := by decide +kernel
theorem dX3_reckon_165 : decode cX3_reckon 165 = .ok (.aload_n 0, 1) := by decide +kernel
theorem dX3_reckon_166 : decode cX3_reckon 166 = .ok (.aload_n 1, 1) := by decide +kernel
theorem dX3_reckon_167 : decode cX3_reckon 167 = .ok (.iload 4, 2) := by decide +kernel
theorem dX3_reckon_169 : decode cX3_reckon 169 = .ok (.iload 5, 2) := by decide +kernel
theorem dX3_reckon_171 : decode cX3_reckon 171 = .ok (.iload 6, 2) := by decide +kernel
theorem dX3_reckon_173 : decode cX3_reckon 173 = .ok (.iload_n 3, 1) := by decide +kernel
theorem dX3_reckon_174 : decode cX3_reckon 174 = .ok (.invokevirtual 81, 3) := by decide +kernel
theorem dX3_reckon_177 : decode cX3_reckon 177 = .ok (.ifCond .ne 6, 3) := by decide +kernel
theorem dX3_reckon_180 : decode cX3_reckon 180 = .ok (.goto 20, 3) := by decide +kernel
theorem dX3_reckon_183 : decode cX3_reckon 183 = .ok (.aload_n 0, 1) := by decide +kernel
theorem dX3_reckon_184 : decode cX3_reckon 184 = .ok (.getfield 32, 3) := by decide +kernel
theorem dX3_reckon_187 : decode cX3_reckon 187 = .ok (.iload 4, 2) := by decide +kernel
theorem dX3_reckon_189 : decode cX3_reckon 189 = .ok (.iload 5, 2) := by decide +kernel
theorem dX3_reckon_191 : decode cX3_reckon 191 = .ok (.iload 6, 2) := by decide +kernel
theorem dX3_reckon_193 : decode cX3_reckon 193 = .ok (.invokestatic 74, 3) := by decide +kernel
theorem dX3_reckon_196 : decode cX3_reckon 196 = .ok (.iload_n 3, 1) := by decide +kernel
theorem dX3_reckon_197 : decode cX3_reckon 197 = .ok (.iastore, 1) := by decide +kernel
theorem dX3_reckon_198 : decode cX3_reckon 198 = .ok (.iconst 1, 1) := by decide +kernel
theorem dX3_reckon_199 : decode cX3_reckon 199 = .ok (.istore_n 2, 1) := by decide +kernel
theorem dX3_reckon_200 : decode cX3_reckon 200 = .ok (.iinc 6 1, 3) := by decide +kernel
theorem dX3_reckon_203 : decode cX3_reckon 203 = .ok (.goto (-74), 3) := by decide +kernel
theorem dX3_reckon_206 : decode cX3_reckon 206 = .ok (.iinc 5 1, 3) := by decide +kernel
theorem dX3_reckon_209 : decode cX3_reckon 209 = .ok (.goto (-92), 3) := by decide +kernel
theorem dX3_reckon_212 : decode cX3_reckon 212 = .ok (.iinc 4 1, 3) := by decide +kernel
theorem dX3_reckon_215 : decode cX3_reckon 215 = .ok (.goto (-108), 3) := by decide +kernel
theorem dX3_reckon_218 : decode cX3_reckon 218 = .ok (.iinc 3 1, 3) := by decide +kernel
theorem dX3_reckon_221 : decode cX3_reckon 221 = .ok (.goto (-123), 3) := by decide +kernel
theorem dX3_reckon_224 : decode cX3_reckon 224 = .ok (.return_, 1) := by decide +kernel
set_option maxRecDepth 20000 in
theorem ggX3_comes_X3_place : GoodIn wsX3_comes wsX3_place := goodIn_r _ [7] (by decide +kernel) (by decide +kernel)
set_option maxRecDepth 20000 in
theorem gX3_comes_X3_place : GoodIn wsX3_comes (va_wsS RX3 74 yX3_place wsX3_place) := goodIn_app (goodIn_of _ (by decide +kernel)) ggX3_comes_X3_place
theorem dX3_comes_0 : decode cX3_comes 0 = .ok (.iconst 0, 1) := by decide +kernel
theorem dX3_comes_1 : decode cX3_comes 1 = .ok (.istore 6, 2) := by decide +kernel
theorem dX3_comes_3 : decode cX3_comes 3 = .ok (.iconst 0, 1) := by decide +kernel
theorem dX3_comes_4 : decode cX3_comes 4 = .ok (.istore 7, 2) := by decide +kernel
theorem dX3_comes_6 : decode cX3_comes 6 = .ok (.iload 7, 2) := by decide +kernel
theorem dX3_comes_8 : decode cX3_comes 8 = .ok (.aload_n 0, 1) := by decide +kernel
theorem dX3_comes_9 : decode cX3_comes 9 = .ok (.getfield 43, 3) := by decide +kernel
theorem dX3_comes_12 : decode cX3_comes 12 = .ok (.if_icmp .ge 135, 3) := by decide +kernel
theorem dX3_comes_15 : decode cX3_comes 15 = .ok (.iload_n 2, 1) := by decide +kernel
theorem dX3_comes_16 : decode cX3_comes 16 = .ok (.iconst 2, 1) := by decide +kernel
theorem dX3_comes_17 : decode cX3_comes 17 = .ok (.irem, 1) := by decide +kernel
theorem dX3_comes_18 : decode cX3_comes 18 = .ok (.iconst 1, 1) := by decide +kernel
theorem dX3_comes_19 : decode cX3_comes 19 = .ok (.if_icmp .ne 60, 3) := by decide +kernel
theorem dX3_comes_22 : decode cX3_comes 22 = .ok (.aload_n 0, 1) := by decide +kernel
theorem dX3_comes_23 : decode cX3_comes 23 = .ok (.getfield 9, 3) := by decide +kernel
theorem dX3_comes_26 : decode cX3_comes 26 = .ok (.iload 7, 2) := by decide +kernel
theorem dX3_comes_28 : decode cX3_comes 28 = .ok (.baload, 1) := by decide +kernel
theorem dX3_comes_29 : decode cX3_comes 29 = .ok (.ifCond .ne 112, 3) := by decide +kernel
theorem dX3_comes_32 : decode cX3_comes 32 = .ok (.aload_n 1, 1) := by decide +kernel
theorem dX3_comes_33 : decode cX3_comes 33 = .ok (.iload_n 2, 1) := by decide +kernel
theorem dX3_comes_34 : decode cX3_comes 34 = .ok (.iload_n 3, 1) := by decide +kernel
theorem dX3_comes_35 : decode cX3_comes 35 = .ok (.iload 7, 2) := by decide +kernel
theorem dX3_comes_37 : decode cX3_comes 37 = .ok (.invokestatic 74, 3) := by decide +kernel
theorem dX3_comes_40 : decode cX3_comes 40 = .ok (.baload, 1) := by decide +kernel
theorem dX3_comes_41 : decode cX3_comes 41 = .ok (.ifCond .eq 100, 3) := by decide +kernel
theorem dX3_comes_44 : decode cX3_comes 44 = .ok (.iload 6, 2) := by decide +kernel
theorem dX3_comes_46 : decode cX3_comes 46 = .ok (.aload_n 0, 1) := by decide +kernel
theorem dX3_comes_47 : decode cX3_comes 47 = .ok (.getfield 32, 3) := by decide +kernel
theorem dX3_comes_50 : decode cX3_comes 50 = .ok (.iload_n 2, 1) := by decide +kernel
theorem dX3_comes_51 : decode cX3_comes 51 = .ok (.iconst 1, 1) := by decide +kernel
theorem dX3_comes_52 : decode cX3_comes 52 = .ok (.iadd, 1) := by decide +kernel
theorem dX3_comes_53 : decode cX3_comes 53 = .ok (.iload 7, 2) := by decide +kernel
theorem dX3_comes_55 : decode cX3_comes 55 = .ok (.iload 4, 2) := by decide +kernel
theorem dX3_comes_57 : decode cX3_comes 57 = .ok (.invokestatic 74, 3) := by decide +kernel
theorem dX3_comes_60 : decode cX3_comes 60 = .ok (.iaload, 1) := by decide +kernel
theorem dX3_comes_61 : decode cX3_comes 61 = .ok (.iload 5, 2) := by decide +kernel
theorem dX3_comes_63 : decode cX3_comes 63 = .ok (.iconst 1, 1) := by decide +kernel
theorem dX3_comes_64 : decode cX3_comes 64 = .ok (.isub, 1) := by decide +kernel
theorem dX3_comes_65 : decode cX3_comes 65 = .ok (.if_icmp .ne 7, 3) := by decide +kernel
theorem dX3_comes_68 : decode cX3_comes 68 = .ok (.iconst 1, 1) := by decide +kernel
theorem dX3_comes_69 : decode cX3_comes 69 = .ok (.goto 4, 3) := by decide +kernel
theorem dX3_comes_72 : decode cX3_comes 72 = .ok (.iconst 0, 1) := by decide +kernel
theorem dX3_comes_73 : decode cX3_comes 73 = .ok (.ior, 1) := by decide +kernel
theorem dX3_comes_74 : decode cX3_comes 74 = .ok (.istore 6, 2) := by decide +kernel
theorem dX3_comes_76 : decode cX3_comes 76 = .ok (.goto 65, 3) := by decide +kernel
theorem dX3_comes_79 : decode cX3_comes 79 = .ok (.aload_n 1, 1) := by decide +kernel
theorem dX3_comes_80 : decode cX3_comes 80 = .ok (.iload_n 2, 1) := by decide +kernel
theorem dX3_comes_81 : decode cX3_comes 81 = .ok (.iload 4, 2) := by decide +kernel
theorem dX3_comes_83 : decode cX3_comes 83 = .ok (.iload 7, 2) := by decide +kernel
theorem dX3_comes_85 : decode cX3_comes 85 = .ok (.invokestatic 74, 3) := by decide +kernel
theorem dX3_comes_88 : decode cX3_comes 88 = .ok (.baload, 1) := by decide +kernel
theorem dX3_comes_89 : decode cX3_comes 89 = .ok (.ifCond .eq 52, 3) := by decide +kernel
theorem dX3_comes_92 : decode cX3_comes 92 = .ok (.aload_n 0, 1) := by decide +kernel
theorem dX3_comes_93 : decode cX3_comes 93 = .ok (.getfield 32, 3) := by decide +kernel
theorem dX3_comes_96 : decode cX3_comes 96 = .ok (.iload_n 2, 1) := by decide +kernel
theorem dX3_comes_97 : decode cX3_comes 97 = .ok (.iconst 1, 1) := by decide +kernel
theorem dX3_comes_98 : decode cX3_comes 98 = .ok (.iadd, 1) := by decide +kernel
theorem dX3_comes_99 : decode cX3_comes 99 = .ok (.iload_n 3, 1) := by decide +kernel
theorem dX3_comes_100 : decode cX3_comes 100 = .ok (.iload 7, 2) := by decide +kernel
theorem dX3_comes_102 : decode cX3_comes 102 = .ok (.invokestatic 74, 3) := by decide +kernel
theorem dX3_comes_105 : decode cX3_comes 105 = .ok (.iaload, 1) := by decide +kernel
theorem dX3_comes_106 : decode cX3_comes 106 = .ok (.istore 8, 2) := by decide +kernel
theorem dX3_comes_108 : decode cX3_comes 108 = .ok (.iload 8, 2) := by decide +kernel
theorem dX3_comes_110 : decode cX3_comes 110 = .ok (.ifCond .lt 10, 3) := by decide +kernel
theorem dX3_comes_113 : decode cX3_comes 113 = .ok (.iload 8, 2) := by decide +kernel
theorem dX3_comes_115 : decode cX3_comes 115 = .ok (.iload 5, 2) := by decide +kernel
theorem dX3_comes_117 : decode cX3_comes 117 = .ok (.if_icmp .lt 5, 3) := by decide +kernel
theorem dX3_comes_120 : decode cX3_comes 120 = .ok (.iconst 0, 1) := by decide +kernel
theorem dX3_comes_121 : decode cX3_comes 121 = .ok (.ireturn, 1) := by decide +kernel
theorem dX3_comes_122 : decode cX3_comes 122 = .ok (.iload 6, 2) := by decide +kernel
theorem dX3_comes_124 : decode cX3_comes 124 = .ok (.iload 8, 2) := by decide +kernel
theorem dX3_comes_126 : decode cX3_comes 126 = .ok (.iload 5, 2) := by decide +kernel
theorem dX3_comes_128 : decode cX3_comes 128 = .ok (.iconst 1, 1) := by decide +kernel
theorem dX3_comes_129 : decode cX3_comes 129 = .ok (.isub, 1) := by decide +kernel
theorem dX3_comes_130 : decode cX3_comes 130 = .ok (.if_icmp .ne 7, 3) := by decide +kernel
theorem dX3_comes_133 : decode cX3_comes 133 = .ok (.iconst 1, 1) := by decide +kernel
theorem dX3_comes_134 : decode cX3_comes 134 = .ok (.goto 4, 3) := by decide +kernel
theorem dX3_comes_137 : decode cX3_comes 137 = .ok (.iconst 0, 1) := by decide +kernel
theorem dX3_comes_138 : decode cX3_comes 138 = .ok (.ior, 1) := by decide +kernel
theorem dX3_comes_139 : decode cX3_comes 139 = .ok (.istore 6, 2) := by decide +kernel
theorem dX3_comes_141 : decode cX3_comes 141 = .ok (.iinc 7 1, 3) := by decide +kernel
theorem dX3_comes_144 : decode cX3_comes 144 = .ok (.goto (-138), 3) := by decide +kernel
theorem dX3_comes_147 : decode cX3_comes 147 = .ok (.iload 6, 2) := by decide +kernel
theorem dX3_comes_149 : decode cX3_comes 149 = .ok (.ireturn, 1) := by decide +kernel
set_option maxRecDepth 20000 in
theorem ggX3_toCatch_X3_reckon : GoodIn wsX3_toCatch wsX3_reckon := goodIn_r _ [10, 11, 12, 2, 13, 14, 15, 9, 16, 17, 18, 19, 20, 21, 22, 23, 24, 25, 26, 27, 28, 29, 30, 31, 32, 33, 34, 35, 36, 37, 38, 39, 40, 41, 42, 43, 44, 45, 46, 47, 48, 49, 50, 51, 52, 53, 54, 55, 56, 57, 58] (by decide +kernel) (by decide +kernel)
set_option maxRecDepth 20000 in
theorem gX3_toCatch_X3_reckon : GoodIn wsX3_toCatch (wsV RX3 89 RX3 yX3_reckon wsX3_reckon) := goodIn_app (goodIn_of _ (by decide +kernel)) ggX3_toCatch_X3_reckon
set_option maxRecDepth 20000 in
theorem ggX3_toCatch_X3_place : GoodIn wsX3_toCatch wsX3_place := goodIn_r _ [16] (by decide +kernel) (by decide +kernel)
set_option maxRecDepth 20000 in
theorem gX3_toCatch_X3_place : GoodIn wsX3_toCatch (va_wsS RX3 74 yX3_place wsX3_place) := goodIn_app (goodIn_of _ (by decide +kernel)) ggX3_toCatch_X3_place
theorem dX3_toCatch_0 : decode cX3_toCatch 0 = .ok (.aload_n 0, 1) := by decide +kernel
theorem dX3_toCatch_1 : decode cX3_toCatch 1 = .ok (.getfield 85, 3) := by decide +kernel
theorem dX3_toCatch_4 : decode cX3_toCatch 4 = .ok (.ifCond .ne 5, 3) := by decide +kernel
theorem dX3_toCatch_7 : decode cX3_toCatch 7 = .ok (.iconst (-1), 1) := by decide +kernel
theorem dX3_toCatch_8 : decode cX3_toCatch 8 = .ok (.ireturn, 1) := by decide +kernel
theorem dX3_toCatch_9 : decode cX3_toCatch 9 = .ok (.aload_n 0, 1) := by decide +kernel
theorem dX3_toCatch_10 : decode cX3_toCatch 10 = .ok (.invokevirtual 89, 3) := by decide +kernel
theorem dX3_toCatch_13 : decode cX3_toCatch 13 = .ok (.aload_n 0, 1) := by decide +kernel
theorem dX3_toCatch_14 : decode cX3_toCatch 14 = .ok (.getfield 32, 3) := by decide +kernel
theorem dX3_toCatch_17 : decode cX3_toCatch 17 = .ok (.aload_n 0, 1) := by decide +kernel
theorem dX3_toCatch_18 : decode cX3_toCatch 18 = .ok (.getfield 92, 3) := by decide +kernel
theorem dX3_toCatch_21 : decode cX3_toCatch 21 = .ok (.aload_n 0, 1) := by decide +kernel
theorem dX3_toCatch_22 : decode cX3_toCatch 22 = .ok (.getfield 95, 3) := by decide +kernel
theorem dX3_toCatch_25 : decode cX3_toCatch 25 = .ok (.aload_n 0, 1) := by decide +kernel
theorem dX3_toCatch_26 : decode cX3_toCatch 26 = .ok (.getfield 98, 3) := by decide +kernel
theorem dX3_toCatch_29 : decode cX3_toCatch 29 = .ok (.invokestatic 74, 3) := by decide +kernel
theorem dX3_toCatch_32 : decode cX3_toCatch 32 = .ok (.iaload, 1) := by decide +kernel
theorem dX3_toCatch_33 : decode cX3_toCatch 33 = .ok (.ireturn, 1) := by decide +kernel
set_option maxRecDepth 20000 in
theorem ggX3_best_X3_reckon : GoodIn wsX3_best wsX3_reckon := goodIn_r _ [13, 14, 3, 8, 7, 15, 16, 12, 17, 18, 19, 20, 21, 22, 23, 24, 25, 26, 27, 28, 29, 30, 31, 32, 33, 34, 35, 36, 37, 38, 39, 44, 45, 46, 47, 48, 49, 50, 51, 52, 53, 54, 55, 56, 57, 58, 59, 60, 61, 62, 63] (by decide +kernel) (by decide +kernel)
set_option maxRecDepth 20000 in
theorem gX3_best_X3_reckon : GoodIn wsX3_best (wsV RX3 89 RX3 yX3_reckon wsX3_reckon) := goodIn_app (goodIn_of _ (by decide +kernel)) ggX3_best_X3_reckon
set_option maxRecDepth 20000 in
theorem ggX3_best_X3_isWay : GoodIn wsX3_best wsX3_isWay := goodIn_r _ [21, 22, 23, 24, 12, 25, 26, 27, 28, 29, 30, 31, 32, 33, 34, 35, 44, 45, 46, 47, 48, 49, 50, 51, 52, 53, 54, 55, 56, 57, 58, 59, 60, 61, 62, 63] (by decide +kernel) (by decide +kernel)
set_option maxRecDepth 20000 in
theorem gX3_best_X3_isWay : GoodIn wsX3_best (wsV RX3 78 RX3 yX3_isWay wsX3_isWay) := goodIn_app (goodIn_of _ (by decide +kernel)) ggX3_best_X3_isWay
set_option maxRecDepth 20000 in
theorem ggX3_best_X3_place : GoodIn wsX3_best wsX3_place := goodIn_r _ [17] (by decide +kernel) (by decide +kernel)
set_option maxRecDepth 20000 in
theorem gX3_best_X3_place : GoodIn wsX3_best (va_wsS RX3 74 yX3_place wsX3_place) := goodIn_app (goodIn_of _ (by decide +kernel)) ggX3_best_X3_place
set_option maxRecDepth 20000 in
theorem ggX3_best_X3_away : GoodIn wsX3_best wsX3_away := goodIn_r _ [43, 14, 3, 33, 22, 23, 24, 12, 25, 26, 27, 28, 44, 45, 46, 47, 48, 49, 50, 51, 52, 53, 54, 55, 56, 57, 58, 59, 60, 61, 62, 63] (by decide +kernel) (by decide +kernel)
set_option maxRecDepth 20000 in
theorem gX3_best_X3_away : GoodIn wsX3_best (wsV RX3 104 RX3 yX3_away wsX3_away) := goodIn_app (goodIn_of _ (by decide +kernel)) ggX3_best_X3_away
theorem dX3_best_0 : decode cX3_best 0 = .ok (.aload_n 0, 1) := by decide +kernel
theorem dX3_best_1 : decode cX3_best 1 = .ok (.getfield 85, 3) := by decide +kernel
theorem dX3_best_4 : decode cX3_best 4 = .ok (.ifCond .ne 5, 3) := by decide +kernel
theorem dX3_best_7 : decode cX3_best 7 = .ok (.iconst (-1), 1) := by decide +kernel
theorem dX3_best_8 : decode cX3_best 8 = .ok (.ireturn, 1) := by decide +kernel
theorem dX3_best_9 : decode cX3_best 9 = .ok (.aload_n 0, 1) := by decide +kernel
theorem dX3_best_10 : decode cX3_best 10 = .ok (.invokevirtual 89, 3) := by decide +kernel
theorem dX3_best_13 : decode cX3_best 13 = .ok (.iconst (-1), 1) := by decide +kernel
theorem dX3_best_14 : decode cX3_best 14 = .ok (.istore_n 1, 1) := by decide +kernel
theorem dX3_best_15 : decode cX3_best 15 = .ok (.ldc 103, 2) := by decide +kernel
theorem dX3_best_17 : decode cX3_best 17 = .ok (.istore_n 2, 1) := by decide +kernel
theorem dX3_best_18 : decode cX3_best 18 = .ok (.iconst 0, 1) := by decide +kernel
theorem dX3_best_19 : decode cX3_best 19 = .ok (.istore_n 3, 1) := by decide +kernel
theorem dX3_best_20 : decode cX3_best 20 = .ok (.iload_n 3, 1) := by decide +kernel
theorem dX3_best_21 : decode cX3_best 21 = .ok (.aload_n 0, 1) := by decide +kernel
theorem dX3_best_22 : decode cX3_best 22 = .ok (.getfield 43, 3) := by decide +kernel
theorem dX3_best_25 : decode cX3_best 25 = .ok (.if_icmp .ge 199, 3) := by decide +kernel
theorem dX3_best_28 : decode cX3_best 28 = .ok (.aload_n 0, 1) := by decide +kernel
theorem dX3_best_29 : decode cX3_best 29 = .ok (.getfield 92, 3) := by decide +kernel
theorem dX3_best_32 : decode cX3_best 32 = .ok (.iconst 2, 1) := by decide +kernel
theorem dX3_best_33 : decode cX3_best 33 = .ok (.irem, 1) := by decide +kernel
theorem dX3_best_34 : decode cX3_best 34 = .ok (.iconst 1, 1) := by decide +kernel
theorem dX3_best_35 : decode cX3_best 35 = .ok (.if_icmp .ne 7, 3) := by decide +kernel
theorem dX3_best_38 : decode cX3_best 38 = .ok (.iconst 1, 1) := by decide +kernel
theorem dX3_best_39 : decode cX3_best 39 = .ok (.goto 4, 3) := by decide +kernel
theorem dX3_best_42 : decode cX3_best 42 = .ok (.iconst 0, 1) := by decide +kernel
theorem dX3_best_43 : decode cX3_best 43 = .ok (.istore 4, 2) := by decide +kernel
theorem dX3_best_45 : decode cX3_best 45 = .ok (.aload_n 0, 1) := by decide +kernel
theorem dX3_best_46 : decode cX3_best 46 = .ok (.iload 4, 2) := by decide +kernel
theorem dX3_best_48 : decode cX3_best 48 = .ok (.ifCond .eq 10, 3) := by decide +kernel
theorem dX3_best_51 : decode cX3_best 51 = .ok (.aload_n 0, 1) := by decide +kernel
theorem dX3_best_52 : decode cX3_best 52 = .ok (.getfield 95, 3) := by decide +kernel
theorem dX3_best_55 : decode cX3_best 55 = .ok (.goto 7, 3) := by decide +kernel
theorem dX3_best_58 : decode cX3_best 58 = .ok (.aload_n 0, 1) := by decide +kernel
theorem dX3_best_59 : decode cX3_best 59 = .ok (.getfield 98, 3) := by decide +kernel
theorem dX3_best_62 : decode cX3_best 62 = .ok (.iload_n 3, 1) := by decide +kernel
theorem dX3_best_63 : decode cX3_best 63 = .ok (.aload_n 0, 1) := by decide +kernel
theorem dX3_best_64 : decode cX3_best 64 = .ok (.getfield 92, 3) := by decide +kernel
theorem dX3_best_67 : decode cX3_best 67 = .ok (.invokevirtual 78, 3) := by decide +kernel
theorem dX3_best_70 : decode cX3_best 70 = .ok (.ifCond .eq 148, 3) := by decide +kernel
theorem dX3_best_73 : decode cX3_best 73 = .ok (.iload 4, 2) := by decide +kernel
theorem dX3_best_75 : decode cX3_best 75 = .ok (.ifCond .eq 15, 3) := by decide +kernel
theorem dX3_best_78 : decode cX3_best 78 = .ok (.aload_n 0, 1) := by decide +kernel
theorem dX3_best_79 : decode cX3_best 79 = .ok (.getfield 9, 3) := by decide +kernel
theorem dX3_best_82 : decode cX3_best 82 = .ok (.iload_n 3, 1) := by decide +kernel
theorem dX3_best_83 : decode cX3_best 83 = .ok (.baload, 1) := by decide +kernel
theorem dX3_best_84 : decode cX3_best 84 = .ok (.ifCond .eq 6, 3) := by decide +kernel
theorem dX3_best_87 : decode cX3_best 87 = .ok (.goto 131, 3) := by decide +kernel
theorem dX3_best_90 : decode cX3_best 90 = .ok (.iload 4, 2) := by decide +kernel
theorem dX3_best_92 : decode cX3_best 92 = .ok (.ifCond .eq 25, 3) := by decide +kernel
theorem dX3_best_95 : decode cX3_best 95 = .ok (.aload_n 0, 1) := by decide +kernel
theorem dX3_best_96 : decode cX3_best 96 = .ok (.getfield 32, 3) := by decide +kernel
theorem dX3_best_99 : decode cX3_best 99 = .ok (.aload_n 0, 1) := by decide +kernel
theorem dX3_best_100 : decode cX3_best 100 = .ok (.getfield 92, 3) := by decide +kernel
theorem dX3_best_103 : decode cX3_best 103 = .ok (.iconst 1, 1) := by decide +kernel
theorem dX3_best_104 : decode cX3_best 104 = .ok (.iadd, 1) := by decide +kernel
theorem dX3_best_105 : decode cX3_best 105 = .ok (.iload_n 3, 1) := by decide +kernel
theorem dX3_best_106 : decode cX3_best 106 = .ok (.aload_n 0, 1) := by decide +kernel
theorem dX3_best_107 : decode cX3_best 107 = .ok (.getfield 98, 3) := by decide +kernel
theorem dX3_best_110 : decode cX3_best 110 = .ok (.invokestatic 74, 3) := by decide +kernel
theorem dX3_best_113 : decode cX3_best 113 = .ok (.iaload, 1) := by decide +kernel
theorem dX3_best_114 : decode cX3_best 114 = .ok (.goto 22, 3) := by decide +kernel
theorem dX3_best_117 : decode cX3_best 117 = .ok (.aload_n 0, 1) := by decide +kernel
theorem dX3_best_118 : decode cX3_best 118 = .ok (.getfield 32, 3) := by decide +kernel
theorem dX3_best_121 : decode cX3_best 121 = .ok (.aload_n 0, 1) := by decide +kernel
theorem dX3_best_122 : decode cX3_best 122 = .ok (.getfield 92, 3) := by decide +kernel
theorem dX3_best_125 : decode cX3_best 125 = .ok (.iconst 1, 1) := by decide +kernel
theorem dX3_best_126 : decode cX3_best 126 = .ok (.iadd, 1) := by decide +kernel
theorem dX3_best_127 : decode cX3_best 127 = .ok (.aload_n 0, 1) := by decide +kernel
theorem dX3_best_128 : decode cX3_best 128 = .ok (.getfield 95, 3) := by decide +kernel
theorem dX3_best_131 : decode cX3_best 131 = .ok (.iload_n 3, 1) := by decide +kernel
theorem dX3_best_132 : decode cX3_best 132 = .ok (.invokestatic 74, 3) := by decide +kernel
theorem dX3_best_135 : decode cX3_best 135 = .ok (.iaload, 1) := by decide +kernel
theorem dX3_best_136 : decode cX3_best 136 = .ok (.istore 5, 2) := by decide +kernel
theorem dX3_best_138 : decode cX3_best 138 = .ok (.iload 4, 2) := by decide +kernel
theorem dX3_best_140 : decode cX3_best 140 = .ok (.ifCond .eq 48, 3) := by decide +kernel
theorem dX3_best_143 : decode cX3_best 143 = .ok (.iload 5, 2) := by decide +kernel
theorem dX3_best_145 : decode cX3_best 145 = .ok (.ifCond .lt 8, 3) := by decide +kernel
theorem dX3_best_148 : decode cX3_best 148 = .ok (.iload 5, 2) := by decide +kernel
theorem dX3_best_150 : decode cX3_best 150 = .ok (.goto 33, 3) := by decide +kernel
theorem dX3_best_153 : decode cX3_best 153 = .ok (.sipush 1000, 3) := by decide +kernel
theorem dX3_best_156 : decode cX3_best 156 = .ok (.aload_n 0, 1) := by decide +kernel
theorem dX3_best_157 : decode cX3_best 157 = .ok (.iload_n 3, 1) := by decide +kernel
theorem dX3_best_158 : decode cX3_best 158 = .ok (.aload_n 0, 1) := by decide +kernel
theorem dX3_best_159 : decode cX3_best 159 = .ok (.getfield 98, 3) := by decide +kernel
theorem dX3_best_162 : decode cX3_best 162 = .ok (.invokevirtual 104, 3) := by decide +kernel
theorem dX3_best_165 : decode cX3_best 165 = .ok (.ifCond .ge 8, 3) := by decide +kernel
theorem dX3_best_168 : decode cX3_best 168 = .ok (.bipush 8, 2) := by decide +kernel
theorem dX3_best_170 : decode cX3_best 170 = .ok (.goto 12, 3) := by decide +kernel
theorem dX3_best_173 : decode cX3_best 173 = .ok (.aload_n 0, 1) := by decide +kernel
theorem dX3_best_174 : decode cX3_best 174 = .ok (.iload_n 3, 1) := by decide +kernel
theorem dX3_best_175 : decode cX3_best 175 = .ok (.aload_n 0, 1) := by decide +kernel
theorem dX3_best_176 : decode cX3_best 176 = .ok (.getfield 98, 3) := by decide +kernel
theorem dX3_best_179 : decode cX3_best 179 = .ok (.invokevirtual 104, 3) := by decide +kernel
theorem dX3_best_182 : decode cX3_best 182 = .ok (.iadd, 1) := by decide +kernel
theorem dX3_best_183 : decode cX3_best 183 = .ok (.istore 6, 2) := by decide +kernel
theorem dX3_best_185 : decode cX3_best 185 = .ok (.goto 19, 3) := by decide +kernel
theorem dX3_best_188 : decode cX3_best 188 = .ok (.iload 5, 2) := by decide +kernel
theorem dX3_best_190 : decode cX3_best 190 = .ok (.ifCond .ge 9, 3) := by decide +kernel
theorem dX3_best_193 : decode cX3_best 193 = .ok (.sipush (-1000), 3) := by decide +kernel
theorem dX3_best_196 : decode cX3_best 196 = .ok (.goto 6, 3) := by decide +kernel
theorem dX3_best_199 : decode cX3_best 199 = .ok (.iload 5, 2) := by decide +kernel
theorem dX3_best_201 : decode cX3_best 201 = .ok (.ineg, 1) := by decide +kernel
theorem dX3_best_202 : decode cX3_best 202 = .ok (.istore 6, 2) := by decide +kernel
theorem dX3_best_204 : decode cX3_best 204 = .ok (.iload 6, 2) := by decide +kernel
theorem dX3_best_206 : decode cX3_best 206 = .ok (.iload_n 2, 1) := by decide +kernel
theorem dX3_best_207 : decode cX3_best 207 = .ok (.if_icmp .lt 6, 3) := by decide +kernel
theorem dX3_best_210 : decode cX3_best 210 = .ok (.goto 8, 3) := by decide +kernel
theorem dX3_best_213 : decode cX3_best 213 = .ok (.iload 6, 2) := by decide +kernel
theorem dX3_best_215 : decode cX3_best 215 = .ok (.istore_n 2, 1) := by decide +kernel
theorem dX3_best_216 : decode cX3_best 216 = .ok (.iload_n 3, 1) := by decide +kernel
theorem dX3_best_217 : decode cX3_best 217 = .ok (.istore_n 1, 1) := by decide +kernel
theorem dX3_best_218 : decode cX3_best 218 = .ok (.iinc 3 1, 3) := by decide +kernel
theorem dX3_best_221 : decode cX3_best 221 = .ok (.goto (-201), 3) := by decide +kernel
theorem dX3_best_224 : decode cX3_best 224 = .ok (.iload_n 1, 1) := by decide +kernel
theorem dX3_best_225 : decode cX3_best 225 = .ok (.ireturn, 1) := by decide +kernel
set_option maxRecDepth 20000 in
theorem ggX3_begin_X3_areNoRooms : GoodIn wsX3_begin wsX3_areNoRooms := goodIn_r _ [12, 13, 14, 15, 16, 11, 17, 18, 19, 20, 21, 22, 23, 24, 25, 26, 27, 28, 29, 65, 66, 67, 68, 69, 70, 71, 72, 73, 74, 75, 76, 77, 78, 79, 80, 81, 82, 83, 84] (by decide +kernel) (by decide +kernel)
set_option maxRecDepth 20000 in
theorem gX3_begin_X3_areNoRooms : GoodIn wsX3_begin (wsV RX3 60 RX3 yX3_areNoRooms wsX3_areNoRooms) := goodIn_app (goodIn_of _ (by decide +kernel)) ggX3_begin_X3_areNoRooms
set_option maxRecDepth 20000 in
theorem ggX3_begin_X3_refuse : GoodIn wsX3_begin wsX3_refuse := goodIn_r _ [29, 25, 65, 66, 67, 68, 69, 70, 71, 72, 73, 74, 75, 76, 77, 78, 79, 80, 81, 82, 83, 84] (by decide +kernel) (by decide +kernel)
set_option maxRecDepth 20000 in
theorem gX3_begin_X3_refuse : GoodIn wsX3_begin (wsV RX3 39 RX3 yX3_refuse wsX3_refuse) := goodIn_app (goodIn_of _ (by decide +kernel)) ggX3_begin_X3_refuse
set_option maxRecDepth 20000 in
theorem ggX3_begin_X3_toCatch : GoodIn wsX3_begin wsX3_toCatch := goodIn_r _ [33, 3, 34, 2, 5, 6, 35, 36, 37, 11, 38, 39, 13, 1, 40, 41, 42, 43, 44, 45, 46, 47, 48, 49, 50, 51, 52, 53, 54, 55, 56, 57, 58, 59, 60, 61, 62, 63, 64, 65, 66, 67, 68, 69, 70, 71, 72, 73, 74, 75, 76, 77, 78, 79, 80, 81, 82, 83, 84] (by decide +kernel) (by decide +kernel)
set_option maxRecDepth 20000 in
theorem gX3_begin_X3_toCatch : GoodIn wsX3_begin (wsV RX3 113 RX3 yX3_toCatch wsX3_toCatch) := goodIn_app (goodIn_of _ (by decide +kernel)) ggX3_begin_X3_toCatch
theorem dX3_begin_0 : decode cX3_begin 0 = .ok (.aload_n 0, 1) := by decide +kernel
theorem dX3_begin_1 : decode cX3_begin 1 = .ok (.iload_n 1, 1) := by decide +kernel
theorem dX3_begin_2 : decode cX3_begin 2 = .ok (.iload_n 2, 1) := by decide +kernel
theorem dX3_begin_3 : decode cX3_begin 3 = .ok (.invokevirtual 60, 3) := by decide +kernel
theorem dX3_begin_6 : decode cX3_begin 6 = .ok (.ifCond .ne 30, 3) := by decide +kernel
theorem dX3_begin_9 : decode cX3_begin 9 = .ok (.aload_n 0, 1) := by decide +kernel
theorem dX3_begin_10 : decode cX3_begin 10 = .ok (.iload_n 1, 1) := by decide +kernel
theorem dX3_begin_11 : decode cX3_begin 11 = .ok (.iload_n 2, 1) := by decide +kernel
theorem dX3_begin_12 : decode cX3_begin 12 = .ok (.if_icmp .eq 12, 3) := by decide +kernel
theorem dX3_begin_15 : decode cX3_begin 15 = .ok (.aload_n 0, 1) := by decide +kernel
theorem dX3_begin_16 : decode cX3_begin 16 = .ok (.getfield 9, 3) := by decide +kernel
theorem dX3_begin_19 : decode cX3_begin 19 = .ok (.iload_n 1, 1) := by decide +kernel
theorem dX3_begin_20 : decode cX3_begin 20 = .ok (.baload, 1) := by decide +kernel
theorem dX3_begin_21 : decode cX3_begin 21 = .ok (.ifCond .eq 7, 3) := by decide +kernel
theorem dX3_begin_24 : decode cX3_begin 24 = .ok (.iconst 1, 1) := by decide +kernel
theorem dX3_begin_25 : decode cX3_begin 25 = .ok (.goto 4, 3) := by decide +kernel
theorem dX3_begin_28 : decode cX3_begin 28 = .ok (.iconst 0, 1) := by decide +kernel
theorem dX3_begin_29 : decode cX3_begin 29 = .ok (.iconst 2, 1) := by decide +kernel
theorem dX3_begin_30 : decode cX3_begin 30 = .ok (.invokevirtual 39, 3) := by decide +kernel
theorem dX3_begin_33 : decode cX3_begin 33 = .ok (.ifCond .eq 5, 3) := by decide +kernel
theorem dX3_begin_36 : decode cX3_begin 36 = .ok (.iconst 0, 1) := by decide +kernel
theorem dX3_begin_37 : decode cX3_begin 37 = .ok (.ireturn, 1) := by decide +kernel
theorem dX3_begin_38 : decode cX3_begin 38 = .ok (.aload_n 0, 1) := by decide +kernel
theorem dX3_begin_39 : decode cX3_begin 39 = .ok (.iconst 0, 1) := by decide +kernel
theorem dX3_begin_40 : decode cX3_begin 40 = .ok (.putfield 92, 3) := by decide +kernel
theorem dX3_begin_43 : decode cX3_begin 43 = .ok (.aload_n 0, 1) := by decide +kernel
theorem dX3_begin_44 : decode cX3_begin 44 = .ok (.iconst 1, 1) := by decide +kernel
theorem dX3_begin_45 : decode cX3_begin 45 = .ok (.putfield 85, 3) := by decide +kernel
theorem dX3_begin_48 : decode cX3_begin 48 = .ok (.aload_n 0, 1) := by decide +kernel
theorem dX3_begin_49 : decode cX3_begin 49 = .ok (.iconst 0, 1) := by decide +kernel
theorem dX3_begin_50 : decode cX3_begin 50 = .ok (.putfield 107, 3) := by decide +kernel
theorem dX3_begin_53 : decode cX3_begin 53 = .ok (.aload_n 0, 1) := by decide +kernel
theorem dX3_begin_54 : decode cX3_begin 54 = .ok (.iload_n 1, 1) := by decide +kernel
theorem dX3_begin_55 : decode cX3_begin 55 = .ok (.putfield 95, 3) := by decide +kernel
theorem dX3_begin_58 : decode cX3_begin 58 = .ok (.aload_n 0, 1) := by decide +kernel
theorem dX3_begin_59 : decode cX3_begin 59 = .ok (.iload_n 2, 1) := by decide +kernel
theorem dX3_begin_60 : decode cX3_begin 60 = .ok (.putfield 98, 3) := by decide +kernel
theorem dX3_begin_63 : decode cX3_begin 63 = .ok (.aload_n 0, 1) := by decide +kernel
theorem dX3_begin_64 : decode cX3_begin 64 = .ok (.iconst 0, 1) := by decide +kernel
theorem dX3_begin_65 : decode cX3_begin 65 = .ok (.putfield 110, 3) := by decide +kernel
theorem dX3_begin_68 : decode cX3_begin 68 = .ok (.aload_n 0, 1) := by decide +kernel
theorem dX3_begin_69 : decode cX3_begin 69 = .ok (.invokevirtual 113, 3) := by decide +kernel
theorem dX3_begin_72 : decode cX3_begin 72 = .ok (.ireturn, 1) := by decide +kernel
theorem dX3_goTo_0 : decode cX3_goTo 0 = .ok (.aload_n 0, 1) := by decide +kernel
theorem dX3_goTo_1 : decode cX3_goTo 1 = .ok (.getfield 92, 3) := by decide +kernel
theorem dX3_goTo_4 : decode cX3_goTo 4 = .ok (.iconst 2, 1) := by decide +kernel
theorem dX3_goTo_5 : decode cX3_goTo 5 = .ok (.irem, 1) := by decide +kernel
theorem dX3_goTo_6 : decode cX3_goTo 6 = .ok (.iconst 1, 1) := by decide +kernel
theorem dX3_goTo_7 : decode cX3_goTo 7 = .ok (.if_icmp .ne 7, 3) := by decide +kernel
theorem dX3_goTo_10 : decode cX3_goTo 10 = .ok (.iconst 1, 1) := by decide +kernel
theorem dX3_goTo_11 : decode cX3_goTo 11 = .ok (.goto 4, 3) := by decide +kernel
theorem dX3_goTo_14 : decode cX3_goTo 14 = .ok (.iconst 0, 1) := by decide +kernel
theorem dX3_goTo_15 : decode cX3_goTo 15 = .ok (.istore_n 2, 1) := by decide +kernel
theorem dX3_goTo_16 : decode cX3_goTo 16 = .ok (.iload_n 2, 1) := by decide +kernel
theorem dX3_goTo_17 : decode cX3_goTo 17 = .ok (.ifCond .eq 11, 3) := by decide +kernel
theorem dX3_goTo_20 : decode cX3_goTo 20 = .ok (.aload_n 0, 1) := by decide +kernel
theorem dX3_goTo_21 : decode cX3_goTo 21 = .ok (.iload_n 1, 1) := by decide +kernel
theorem dX3_goTo_22 : decode cX3_goTo 22 = .ok (.putfield 95, 3) := by decide +kernel
theorem dX3_goTo_25 : decode cX3_goTo 25 = .ok (.goto 8, 3) := by decide +kernel
theorem dX3_goTo_28 : decode cX3_goTo 28 = .ok (.aload_n 0, 1) := by decide +kernel
theorem dX3_goTo_29 : decode cX3_goTo 29 = .ok (.iload_n 1, 1) := by decide +kernel
theorem dX3_goTo_30 : decode cX3_goTo 30 = .ok (.putfield 98, 3) := by decide +kernel
theorem dX3_goTo_33 : decode cX3_goTo 33 = .ok (.aload_n 0, 1) := by decide +kernel
theorem dX3_goTo_34 : decode cX3_goTo 34 = .ok (.dup, 1) := by decide +kernel
theorem dX3_goTo_35 : decode cX3_goTo 35 = .ok (.getfield 92, 3) := by decide +kernel
theorem dX3_goTo_38 : decode cX3_goTo 38 = .ok (.iconst 1, 1) := by decide +kernel
theorem dX3_goTo_39 : decode cX3_goTo 39 = .ok (.iadd, 1) := by decide +kernel
theorem dX3_goTo_40 : decode cX3_goTo 40 = .ok (.putfield 92, 3) := by decide +kernel
theorem dX3_goTo_43 : decode cX3_goTo 43 = .ok (.aload_n 0, 1) := by decide +kernel
theorem dX3_goTo_44 : decode cX3_goTo 44 = .ok (.getfield 95, 3) := by decide +kernel
theorem dX3_goTo_47 : decode cX3_goTo 47 = .ok (.aload_n 0, 1) := by decide +kernel
theorem dX3_goTo_48 : decode cX3_goTo 48 = .ok (.getfield 98, 3) := by decide +kernel
theorem dX3_goTo_51 : decode cX3_goTo 51 = .ok (.if_icmp .ne 16, 3) := by decide +kernel
theorem dX3_goTo_54 : decode cX3_goTo 54 = .ok (.aload_n 0, 1) := by decide +kernel
theorem dX3_goTo_55 : decode cX3_goTo 55 = .ok (.iconst 0, 1) := by decide +kernel
theorem dX3_goTo_56 : decode cX3_goTo 56 = .ok (.putfield 85, 3) := by decide +kernel
theorem dX3_goTo_59 : decode cX3_goTo 59 = .ok (.aload_n 0, 1) := by decide +kernel
theorem dX3_goTo_60 : decode cX3_goTo 60 = .ok (.iconst 1, 1) := by decide +kernel
theorem dX3_goTo_61 : decode cX3_goTo 61 = .ok (.putfield 107, 3) := by decide +kernel
theorem dX3_goTo_64 : decode cX3_goTo 64 = .ok (.goto 42, 3) := by decide +kernel
theorem dX3_goTo_67 : decode cX3_goTo 67 = .ok (.iload_n 2, 1) := by decide +kernel
theorem dX3_goTo_68 : decode cX3_goTo 68 = .ok (.ifCond .ne 38, 3) := by decide +kernel
theorem dX3_goTo_71 : decode cX3_goTo 71 = .ok (.aload_n 0, 1) := by decide +kernel
theorem dX3_goTo_72 : decode cX3_goTo 72 = .ok (.getfield 13, 3) := by decide +kernel
theorem dX3_goTo_75 : decode cX3_goTo 75 = .ok (.aload_n 0, 1) := by decide +kernel
theorem dX3_goTo_76 : decode cX3_goTo 76 = .ok (.getfield 98, 3) := by decide +kernel
theorem dX3_goTo_79 : decode cX3_goTo 79 = .ok (.iaload, 1) := by decide +kernel
theorem dX3_goTo_80 : decode cX3_goTo 80 = .ok (.ifCond .le 26, 3) := by decide +kernel
theorem dX3_goTo_83 : decode cX3_goTo 83 = .ok (.aload_n 0, 1) := by decide +kernel
theorem dX3_goTo_84 : decode cX3_goTo 84 = .ok (.getfield 13, 3) := by decide +kernel
theorem dX3_goTo_87 : decode cX3_goTo 87 = .ok (.aload_n 0, 1) := by decide +kernel
theorem dX3_goTo_88 : decode cX3_goTo 88 = .ok (.getfield 98, 3) := by decide +kernel
theorem dX3_goTo_91 : decode cX3_goTo 91 = .ok (.dup2, 1) := by decide +kernel
theorem dX3_goTo_92 : decode cX3_goTo 92 = .ok (.iaload, 1) := by decide +kernel
theorem dX3_goTo_93 : decode cX3_goTo 93 = .ok (.iconst 1, 1) := by decide +kernel
theorem dX3_goTo_94 : decode cX3_goTo 94 = .ok (.isub, 1) := by decide +kernel
theorem dX3_goTo_95 : decode cX3_goTo 95 = .ok (.iastore, 1) := by decide +kernel
theorem dX3_goTo_96 : decode cX3_goTo 96 = .ok (.aload_n 0, 1) := by decide +kernel
theorem dX3_goTo_97 : decode cX3_goTo 97 = .ok (.dup, 1) := by decide +kernel
theorem dX3_goTo_98 : decode cX3_goTo 98 = .ok (.getfield 110, 3) := by decide +kernel
theorem dX3_goTo_101 : decode cX3_goTo 101 = .ok (.iconst 1, 1) := by decide +kernel
theorem dX3_goTo_102 : decode cX3_goTo 102 = .ok (.iadd, 1) := by decide +kernel
theorem dX3_goTo_103 : decode cX3_goTo 103 = .ok (.putfield 110, 3) := by decide +kernel
theorem dX3_goTo_106 : decode cX3_goTo 106 = .ok (.return_, 1) := by decide +kernel
set_option maxRecDepth 20000 in
theorem ggX3_go_X3_isNoRoom : GoodIn wsX3_go wsX3_isNoRoom := goodIn_r _ [11, 12, 13, 14, 10, 15, 16, 17, 18, 19, 20, 21, 22, 23, 24, 49, 50, 51, 52, 53, 54, 55, 56, 57, 58, 59, 60, 61, 62, 63, 64, 65, 66, 67, 68] (by decide +kernel) (by decide +kernel)
set_option maxRecDepth 20000 in
theorem gX3_go_X3_isNoRoom : GoodIn wsX3_go (wsV RX3 53 RX3 yX3_isNoRoom wsX3_isNoRoom) := goodIn_app (goodIn_of _ (by decide +kernel)) ggX3_go_X3_isNoRoom
set_option maxRecDepth 20000 in
theorem ggX3_go_X3_refuse : GoodIn wsX3_go wsX3_refuse := goodIn_r _ [24, 20, 49, 50, 51, 52, 53, 54, 55, 56, 57, 58, 59, 60, 61, 62, 63, 64, 65, 66, 67, 68] (by decide +kernel) (by decide +kernel)
set_option maxRecDepth 20000 in
theorem gX3_go_X3_refuse : GoodIn wsX3_go (wsV RX3 39 RX3 yX3_refuse wsX3_refuse) := goodIn_app (goodIn_of _ (by decide +kernel)) ggX3_go_X3_refuse
set_option maxRecDepth 20000 in
theorem ggX3_go_X3_isWay : GoodIn wsX3_go wsX3_isWay := goodIn_r _ [28, 29, 30, 31, 10, 32, 33, 34, 35, 36, 37, 38, 39, 40, 41, 42, 49, 50, 51, 52, 53, 54, 55, 56, 57, 58, 59, 60, 61, 62, 63, 64, 65, 66, 67, 68] (by decide +kernel) (by decide +kernel)
set_option maxRecDepth 20000 in
theorem gX3_go_X3_isWay : GoodIn wsX3_go (wsV RX3 78 RX3 yX3_isWay wsX3_isWay) := goodIn_app (goodIn_of _ (by decide +kernel)) ggX3_go_X3_isWay
set_option maxRecDepth 20000 in
theorem ggX3_go_X3_goTo : GoodIn wsX3_go wsX3_goTo := goodIn_r _ [46, 2, 3, 4, 1, 6, 47, 48, 49, 50, 51, 52, 53, 54, 55, 56, 57, 58, 59, 60, 61, 62, 63, 64, 65, 66, 67, 68] (by decide +kernel) (by decide +kernel)
set_option maxRecDepth 20000 in
theorem gX3_go_X3_goTo : GoodIn wsX3_go (wsV RX3 117 RX3 yX3_goTo wsX3_goTo) := goodIn_app (goodIn_of _ (by decide +kernel)) ggX3_go_X3_goTo
theorem dX3_go_0 : decode cX3_go 0 = .ok (.aload_n 0, 1) := by decide +kernel
theorem dX3_go_1 : decode cX3_go 1 = .ok (.iload_n 1, 1) := by decide +kernel
theorem dX3_go_2 : decode cX3_go 2 = .ok (.invokevirtual 53, 3) := by decide +kernel
theorem dX3_go_5 : decode cX3_go 5 = .ok (.ifCond .ne 88, 3) := by decide +kernel
theorem dX3_go_8 : decode cX3_go 8 = .ok (.aload_n 0, 1) := by decide +kernel
theorem dX3_go_9 : decode cX3_go 9 = .ok (.aload_n 0, 1) := by decide +kernel
theorem dX3_go_10 : decode cX3_go 10 = .ok (.getfield 85, 3) := by decide +kernel
theorem dX3_go_13 : decode cX3_go 13 = .ok (.ifCond .ne 7, 3) := by decide +kernel
theorem dX3_go_16 : decode cX3_go 16 = .ok (.iconst 1, 1) := by decide +kernel
theorem dX3_go_17 : decode cX3_go 17 = .ok (.goto 4, 3) := by decide +kernel
theorem dX3_go_20 : decode cX3_go 20 = .ok (.iconst 0, 1) := by decide +kernel
theorem dX3_go_21 : decode cX3_go 21 = .ok (.iconst 2, 1) := by decide +kernel
theorem dX3_go_22 : decode cX3_go 22 = .ok (.invokevirtual 39, 3) := by decide +kernel
theorem dX3_go_25 : decode cX3_go 25 = .ok (.ifCond .ne 68, 3) := by decide +kernel
theorem dX3_go_28 : decode cX3_go 28 = .ok (.aload_n 0, 1) := by decide +kernel
theorem dX3_go_29 : decode cX3_go 29 = .ok (.aload_n 0, 1) := by decide +kernel
theorem dX3_go_30 : decode cX3_go 30 = .ok (.aload_n 0, 1) := by decide +kernel
theorem dX3_go_31 : decode cX3_go 31 = .ok (.getfield 92, 3) := by decide +kernel
theorem dX3_go_34 : decode cX3_go 34 = .ok (.iconst 2, 1) := by decide +kernel
theorem dX3_go_35 : decode cX3_go 35 = .ok (.irem, 1) := by decide +kernel
theorem dX3_go_36 : decode cX3_go 36 = .ok (.iconst 1, 1) := by decide +kernel
theorem dX3_go_37 : decode cX3_go 37 = .ok (.if_icmp .ne 10, 3) := by decide +kernel
theorem dX3_go_40 : decode cX3_go 40 = .ok (.aload_n 0, 1) := by decide +kernel
theorem dX3_go_41 : decode cX3_go 41 = .ok (.getfield 95, 3) := by decide +kernel
theorem dX3_go_44 : decode cX3_go 44 = .ok (.goto 7, 3) := by decide +kernel
theorem dX3_go_47 : decode cX3_go 47 = .ok (.aload_n 0, 1) := by decide +kernel
theorem dX3_go_48 : decode cX3_go 48 = .ok (.getfield 98, 3) := by decide +kernel
theorem dX3_go_51 : decode cX3_go 51 = .ok (.iload_n 1, 1) := by decide +kernel
theorem dX3_go_52 : decode cX3_go 52 = .ok (.aload_n 0, 1) := by decide +kernel
theorem dX3_go_53 : decode cX3_go 53 = .ok (.getfield 92, 3) := by decide +kernel
theorem dX3_go_56 : decode cX3_go 56 = .ok (.invokevirtual 78, 3) := by decide +kernel
theorem dX3_go_59 : decode cX3_go 59 = .ok (.ifCond .eq 22, 3) := by decide +kernel
theorem dX3_go_62 : decode cX3_go 62 = .ok (.aload_n 0, 1) := by decide +kernel
theorem dX3_go_63 : decode cX3_go 63 = .ok (.getfield 92, 3) := by decide +kernel
theorem dX3_go_66 : decode cX3_go 66 = .ok (.iconst 2, 1) := by decide +kernel
theorem dX3_go_67 : decode cX3_go 67 = .ok (.irem, 1) := by decide +kernel
theorem dX3_go_68 : decode cX3_go 68 = .ok (.iconst 1, 1) := by decide +kernel
theorem dX3_go_69 : decode cX3_go 69 = .ok (.if_icmp .ne 16, 3) := by decide +kernel
theorem dX3_go_72 : decode cX3_go 72 = .ok (.aload_n 0, 1) := by decide +kernel
theorem dX3_go_73 : decode cX3_go 73 = .ok (.getfield 9, 3) := by decide +kernel
theorem dX3_go_76 : decode cX3_go 76 = .ok (.iload_n 1, 1) := by decide +kernel
theorem dX3_go_77 : decode cX3_go 77 = .ok (.baload, 1) := by decide +kernel
theorem dX3_go_78 : decode cX3_go 78 = .ok (.ifCond .eq 7, 3) := by decide +kernel
theorem dX3_go_81 : decode cX3_go 81 = .ok (.iconst 1, 1) := by decide +kernel
theorem dX3_go_82 : decode cX3_go 82 = .ok (.goto 4, 3) := by decide +kernel
theorem dX3_go_85 : decode cX3_go 85 = .ok (.iconst 0, 1) := by decide +kernel
theorem dX3_go_86 : decode cX3_go 86 = .ok (.iconst 2, 1) := by decide +kernel
theorem dX3_go_87 : decode cX3_go 87 = .ok (.invokevirtual 39, 3) := by decide +kernel
theorem dX3_go_90 : decode cX3_go 90 = .ok (.ifCond .eq 5, 3) := by decide +kernel
theorem dX3_go_93 : decode cX3_go 93 = .ok (.iconst 0, 1) := by decide +kernel
theorem dX3_go_94 : decode cX3_go 94 = .ok (.ireturn, 1) := by decide +kernel
theorem dX3_go_95 : decode cX3_go 95 = .ok (.aload_n 0, 1) := by decide +kernel
theorem dX3_go_96 : decode cX3_go 96 = .ok (.iload_n 1, 1) := by decide +kernel
theorem dX3_go_97 : decode cX3_go 97 = .ok (.invokevirtual 117, 3) := by decide +kernel
theorem dX3_go_100 : decode cX3_go 100 = .ok (.aload_n 0, 1) := by decide +kernel
theorem dX3_go_101 : decode cX3_go 101 = .ok (.getfield 107, 3) := by decide +kernel
theorem dX3_go_104 : decode cX3_go 104 = .ok (.ireturn, 1) := by decide +kernel
set_option maxRecDepth 20000 in
theorem ggX3_play_X3_isIn : GoodIn wsX3_play wsX3_isIn := goodIn_r _ [5] (by decide +kernel) (by decide +kernel)
set_option maxRecDepth 20000 in
theorem gX3_play_X3_isIn : GoodIn wsX3_play (va_wsS RX3 46 yX3_isIn wsX3_isIn) := goodIn_app (goodIn_of _ (by decide +kernel)) ggX3_play_X3_isIn
set_option maxRecDepth 20000 in
theorem ggX3_play_X3_start : GoodIn wsX3_play wsX3_start := goodIn_r _ [9, 10, 11, 12, 13, 4, 14, 67, 68, 69, 70, 71, 72, 73, 74, 75, 76, 77, 78, 79, 80, 81, 82, 83, 84, 85, 86] (by decide +kernel) (by decide +kernel)
set_option maxRecDepth 20000 in
theorem gX3_play_X3_start : GoodIn wsX3_play (wsV RX3 50 RX3 yX3_start wsX3_start) := goodIn_app (goodIn_of _ (by decide +kernel)) ggX3_play_X3_start
set_option maxRecDepth 20000 in
theorem ggX3_play_X3_refuse : GoodIn wsX3_play wsX3_refuse := goodIn_r _ [14, 10, 67, 68, 69, 70, 71, 72, 73, 74, 75, 76, 77, 78, 79, 80, 81, 82, 83, 84, 85, 86] (by decide +kernel) (by decide +kernel)
set_option maxRecDepth 20000 in
theorem gX3_play_X3_refuse : GoodIn wsX3_play (wsV RX3 39 RX3 yX3_refuse wsX3_refuse) := goodIn_app (goodIn_of _ (by decide +kernel)) ggX3_play_X3_refuse
set_option maxRecDepth 20000 in
theorem ggX3_play_X3_best : GoodIn wsX3_play wsX3_best := goodIn_r _ [18, 1, 19, 20, 21, 22, 23, 24, 25, 26, 27, 28, 4, 29, 30, 31, 32, 33, 34, 35, 36, 37, 38, 39, 40, 41, 42, 43, 44, 45, 46, 47, 48, 49, 50, 51, 52, 53, 54, 55, 56, 57, 58, 59, 67, 68, 69, 70, 71, 72, 73, 74, 75, 76, 77, 78, 79, 80, 81, 82, 83, 84, 85, 86] (by decide +kernel) (by decide +kernel)
set_option maxRecDepth 20000 in
theorem gX3_play_X3_best : GoodIn wsX3_play (wsV RX3 121 RX3 yX3_best wsX3_best) := goodIn_app (goodIn_of _ (by decide +kernel)) ggX3_play_X3_best
set_option maxRecDepth 20000 in
theorem ggX3_play_X3_goTo : GoodIn wsX3_play wsX3_goTo := goodIn_r _ [63, 21, 22, 23, 1, 64, 65, 66, 67, 68, 69, 70, 71, 72, 73, 74, 75, 76, 77, 78, 79, 80, 81, 82, 83, 84, 85, 86] (by decide +kernel) (by decide +kernel)
set_option maxRecDepth 20000 in
theorem gX3_play_X3_goTo : GoodIn wsX3_play (wsV RX3 117 RX3 yX3_goTo wsX3_goTo) := goodIn_app (goodIn_of _ (by decide +kernel)) ggX3_play_X3_goTo
theorem dX3_play_0 : decode cX3_play 0 = .ok (.aload_n 0, 1) := by decide +kernel
theorem dX3_play_1 : decode cX3_play 1 = .ok (.iload_n 1, 1) := by decide +kernel
theorem dX3_play_2 : decode cX3_play 2 = .ok (.iconst 1, 1) := by decide +kernel
theorem dX3_play_3 : decode cX3_play 3 = .ok (.bipush 60, 2) := by decide +kernel
theorem dX3_play_5 : decode cX3_play 5 = .ok (.invokestatic 46, 3) := by decide +kernel
theorem dX3_play_8 : decode cX3_play 8 = .ok (.ifCond .ne 7, 3) := by decide +kernel
theorem dX3_play_11 : decode cX3_play 11 = .ok (.iconst 1, 1) := by decide +kernel
theorem dX3_play_12 : decode cX3_play 12 = .ok (.goto 4, 3) := by decide +kernel
theorem dX3_play_15 : decode cX3_play 15 = .ok (.iconst 0, 1) := by decide +kernel
theorem dX3_play_16 : decode cX3_play 16 = .ok (.iconst 1, 1) := by decide +kernel
theorem dX3_play_17 : decode cX3_play 17 = .ok (.invokevirtual 50, 3) := by decide +kernel
theorem dX3_play_20 : decode cX3_play 20 = .ok (.ifCond .ne 23, 3) := by decide +kernel
theorem dX3_play_23 : decode cX3_play 23 = .ok (.aload_n 0, 1) := by decide +kernel
theorem dX3_play_24 : decode cX3_play 24 = .ok (.aload_n 0, 1) := by decide +kernel
theorem dX3_play_25 : decode cX3_play 25 = .ok (.getfield 85, 3) := by decide +kernel
theorem dX3_play_28 : decode cX3_play 28 = .ok (.ifCond .ne 7, 3) := by decide +kernel
theorem dX3_play_31 : decode cX3_play 31 = .ok (.iconst 1, 1) := by decide +kernel
theorem dX3_play_32 : decode cX3_play 32 = .ok (.goto 4, 3) := by decide +kernel
theorem dX3_play_35 : decode cX3_play 35 = .ok (.iconst 0, 1) := by decide +kernel
theorem dX3_play_36 : decode cX3_play 36 = .ok (.iconst 2, 1) := by decide +kernel
theorem dX3_play_37 : decode cX3_play 37 = .ok (.invokevirtual 39, 3) := by decide +kernel
theorem dX3_play_40 : decode cX3_play 40 = .ok (.ifCond .eq 5, 3) := by decide +kernel
theorem dX3_play_43 : decode cX3_play 43 = .ok (.iconst 0, 1) := by decide +kernel
theorem dX3_play_44 : decode cX3_play 44 = .ok (.ireturn, 1) := by decide +kernel
theorem dX3_play_45 : decode cX3_play 45 = .ok (.iconst 0, 1) := by decide +kernel
theorem dX3_play_46 : decode cX3_play 46 = .ok (.istore_n 2, 1) := by decide +kernel
theorem dX3_play_47 : decode cX3_play 47 = .ok (.iload_n 2, 1) := by decide +kernel
theorem dX3_play_48 : decode cX3_play 48 = .ok (.iload_n 1, 1) := by decide +kernel
theorem dX3_play_49 : decode cX3_play 49 = .ok (.if_icmp .ge 24, 3) := by decide +kernel
theorem dX3_play_52 : decode cX3_play 52 = .ok (.aload_n 0, 1) := by decide +kernel
theorem dX3_play_53 : decode cX3_play 53 = .ok (.getfield 85, 3) := by decide +kernel
theorem dX3_play_56 : decode cX3_play 56 = .ok (.ifCond .eq 17, 3) := by decide +kernel
theorem dX3_play_59 : decode cX3_play 59 = .ok (.aload_n 0, 1) := by decide +kernel
theorem dX3_play_60 : decode cX3_play 60 = .ok (.aload_n 0, 1) := by decide +kernel
theorem dX3_play_61 : decode cX3_play 61 = .ok (.invokevirtual 121, 3) := by decide +kernel
theorem dX3_play_64 : decode cX3_play 64 = .ok (.invokevirtual 117, 3) := by decide +kernel
theorem dX3_play_67 : decode cX3_play 67 = .ok (.iinc 2 1, 3) := by decide +kernel
theorem dX3_play_70 : decode cX3_play 70 = .ok (.goto (-23), 3) := by decide +kernel
theorem dX3_play_73 : decode cX3_play 73 = .ok (.iload_n 2, 1) := by decide +kernel
theorem dX3_play_74 : decode cX3_play 74 = .ok (.ireturn, 1) := by decide +kernel
set_option maxRecDepth 20000 in
theorem ggX3_turn_X3_plain : GoodIn wsX3_turn wsX3_plain := goodIn_r _ [6, 7, 8, 9, 10, 11, 12, 13, 14, 15, 16, 17, 18, 19, 20, 21, 22, 23, 24, 25, 26, 27] (by decide +kernel) (by decide +kernel)
set_option maxRecDepth 20000 in
theorem gX3_turn_X3_plain : GoodIn wsX3_turn (wsV RX3 124 RX3 yX3_plain wsX3_plain) := goodIn_app (goodIn_of _ (by decide +kernel)) ggX3_turn_X3_plain
theorem dX3_turn_0 : decode cX3_turn 0 = .ok (.aload_n 0, 1) := by decide +kernel
theorem dX3_turn_1 : decode cX3_turn 1 = .ok (.aload_n 0, 1) := by decide +kernel
theorem dX3_turn_2 : decode cX3_turn 2 = .ok (.getfield 92, 3) := by decide +kernel
theorem dX3_turn_5 : decode cX3_turn 5 = .ok (.invokevirtual 124, 3) := by decide +kernel
theorem dX3_turn_8 : decode cX3_turn 8 = .ok (.ireturn, 1) := by decide +kernel
set_option maxRecDepth 20000 in
theorem ggX3_rooms_X3_plain : GoodIn wsX3_rooms wsX3_plain := goodIn_r _ [6, 7, 8, 9, 10, 11, 12, 13, 14, 15, 16, 17, 18, 19, 20, 21, 22, 23, 24, 25, 26, 27] (by decide +kernel) (by decide +kernel)
set_option maxRecDepth 20000 in
theorem gX3_rooms_X3_plain : GoodIn wsX3_rooms (wsV RX3 124 RX3 yX3_plain wsX3_plain) := goodIn_app (goodIn_of _ (by decide +kernel)) ggX3_rooms_X3_plain
theorem dX3_rooms_0 : decode cX3_rooms 0 = .ok (.aload_n 0, 1) := by decide +kernel
theorem dX3_rooms_1 : decode cX3_rooms 1 = .ok (.aload_n 0, 1) := by decide +kernel
theorem dX3_rooms_2 : decode cX3_rooms 2 = .ok (.getfield 43, 3) := by decide +kernel
theorem dX3_rooms_5 : decode cX3_rooms 5 = .ok (.invokevirtual 124, 3) := by decide +kernel
theorem dX3_rooms_8 : decode cX3_rooms 8 = .ok (.ireturn, 1) := by decide +kernel
set_option maxRecDepth 20000 in
theorem ggX3_doors_X3_plain : GoodIn wsX3_doors wsX3_plain := goodIn_r _ [6, 7, 8, 9, 10, 11, 12, 13, 14, 15, 16, 17, 18, 19, 20, 21, 22, 23, 24, 25, 26, 27] (by decide +kernel) (by decide +kernel)
set_option maxRecDepth 20000 in
theorem gX3_doors_X3_plain : GoodIn wsX3_doors (wsV RX3 124 RX3 yX3_plain wsX3_plain) := goodIn_app (goodIn_of _ (by decide +kernel)) ggX3_doors_X3_plain
theorem dX3_doors_0 : decode cX3_doors 0 = .ok (.aload_n 0, 1) := by decide +kernel
theorem dX3_doors_1 : decode cX3_doors 1 = .ok (.aload_n 0, 1) := by decide +kernel
theorem dX3_doors_2 : decode cX3_doors 2 = .ok (.getfield 57, 3) := by decide +kernel
theorem dX3_doors_5 : decode cX3_doors 5 = .ok (.invokevirtual 124, 3) := by decide +kernel
theorem dX3_doors_8 : decode cX3_doors 8 = .ok (.ireturn, 1) := by decide +kernel
set_option maxRecDepth 20000 in
theorem ggX3_isOn_X3_plain_ : GoodIn wsX3_isOn wsX3_plain_ := goodIn_r _ [6, 7, 8, 9, 10, 11, 12, 13, 14, 15, 16, 17, 18, 19, 20, 21, 22, 23, 24, 25, 26, 27] (by decide +kernel) (by decide +kernel)
set_option maxRecDepth 20000 in
theorem gX3_isOn_X3_plain_ : GoodIn wsX3_isOn (wsV RX3 128 RX3 yX3_plain_ wsX3_plain_) := goodIn_app (goodIn_of _ (by decide +kernel)) ggX3_isOn_X3_plain_
theorem dX3_isOn_0 : decode cX3_isOn 0 = .ok (.aload_n 0, 1) := by decide +kernel
theorem dX3_isOn_1 : decode cX3_isOn 1 = .ok (.aload_n 0, 1) := by decide +kernel
theorem dX3_isOn_2 : decode cX3_isOn 2 = .ok (.getfield 85, 3) := by decide +kernel
theorem dX3_isOn_5 : decode cX3_isOn 5 = .ok (.invokevirtual 128, 3) := by decide +kernel
theorem dX3_isOn_8 : decode cX3_isOn 8 = .ok (.ireturn, 1) := by decide +kernel
set_option maxRecDepth 20000 in
theorem ggX3_isCaught_X3_plain_ : GoodIn wsX3_isCaught wsX3_plain_ := goodIn_r _ [6, 7, 8, 9, 10, 11, 12, 13, 14, 15, 16, 17, 18, 19, 20, 21, 22, 23, 24, 25, 26, 27] (by decide +kernel) (by decide +kernel)
set_option maxRecDepth 20000 in
theorem gX3_isCaught_X3_plain_ : GoodIn wsX3_isCaught (wsV RX3 128 RX3 yX3_plain_ wsX3_plain_) := goodIn_app (goodIn_of _ (by decide +kernel)) ggX3_isCaught_X3_plain_
theorem dX3_isCaught_0 : decode cX3_isCaught 0 = .ok (.aload_n 0, 1) := by decide +kernel
theorem dX3_isCaught_1 : decode cX3_isCaught 1 = .ok (.aload_n 0, 1) := by decide +kernel
theorem dX3_isCaught_2 : decode cX3_isCaught 2 = .ok (.getfield 107, 3) := by decide +kernel
theorem dX3_isCaught_5 : decode cX3_isCaught 5 = .ok (.invokevirtual 128, 3) := by decide +kernel
theorem dX3_isCaught_8 : decode cX3_isCaught 8 = .ok (.ireturn, 1) := by decide +kernel
set_option maxRecDepth 20000 in
theorem ggX3_isCatsTurn_X3_plain_ : GoodIn wsX3_isCatsTurn wsX3_plain_ := goodIn_r _ [6, 7, 8, 9, 10, 11, 12, 13, 14, 15, 16, 17, 18, 19, 20, 21, 22, 23, 24, 25, 26, 27] (by decide +kernel) (by decide +kernel)
set_option maxRecDepth 20000 in
theorem gX3_isCatsTurn_X3_plain_ : GoodIn wsX3_isCatsTurn (wsV RX3 128 RX3 yX3_plain_ wsX3_plain_) := goodIn_app (goodIn_of _ (by decide +kernel)) ggX3_isCatsTurn_X3_plain_
theorem dX3_isCatsTurn_0 : decode cX3_isCatsTurn 0 = .ok (.aload_n 0, 1) := by decide +kernel
theorem dX3_isCatsTurn_1 : decode cX3_isCatsTurn 1 = .ok (.aload_n 0, 1) := by decide +kernel
theorem dX3_isCatsTurn_2 : decode cX3_isCatsTurn 2 = .ok (.getfield 92, 3) := by decide +kernel
theorem dX3_isCatsTurn_5 : decode cX3_isCatsTurn 5 = .ok (.iconst 2, 1) := by decide +kernel
theorem dX3_isCatsTurn_6 : decode cX3_isCatsTurn 6 = .ok (.irem, 1) := by decide +kernel
theorem dX3_isCatsTurn_7 : decode cX3_isCatsTurn 7 = .ok (.iconst 1, 1) := by decide +kernel
theorem dX3_isCatsTurn_8 : decode cX3_isCatsTurn 8 = .ok (.if_icmp .ne 7, 3) := by decide +kernel
theorem dX3_isCatsTurn_11 : decode cX3_isCatsTurn 11 = .ok (.iconst 1, 1) := by decide +kernel
theorem dX3_isCatsTurn_12 : decode cX3_isCatsTurn 12 = .ok (.goto 4, 3) := by decide +kernel
theorem dX3_isCatsTurn_15 : decode cX3_isCatsTurn 15 = .ok (.iconst 0, 1) := by decide +kernel
theorem dX3_isCatsTurn_16 : decode cX3_isCatsTurn 16 = .ok (.invokevirtual 128, 3) := by decide +kernel
theorem dX3_isCatsTurn_19 : decode cX3_isCatsTurn 19 = .ok (.ireturn, 1) := by decide +kernel
set_option maxRecDepth 20000 in
theorem ggX3_catIn_X3_plain : GoodIn wsX3_catIn wsX3_plain := goodIn_r _ [7, 8, 9, 10, 11, 12, 13, 14, 15, 16, 17, 18, 19, 20, 21, 22, 23, 24, 25, 26, 27, 28] (by decide +kernel) (by decide +kernel)
set_option maxRecDepth 20000 in
theorem gX3_catIn_X3_plain : GoodIn wsX3_catIn (wsV RX3 124 RX3 yX3_plain wsX3_plain) := goodIn_app (goodIn_of _ (by decide +kernel)) ggX3_catIn_X3_plain
theorem dX3_catIn_0 : decode cX3_catIn 0 = .ok (.aload_n 0, 1) := by decide +kernel
theorem dX3_catIn_1 : decode cX3_catIn 1 = .ok (.aload_n 0, 1) := by decide +kernel
theorem dX3_catIn_2 : decode cX3_catIn 2 = .ok (.getfield 85, 3) := by decide +kernel
theorem dX3_catIn_5 : decode cX3_catIn 5 = .ok (.ifCond .eq 10, 3) := by decide +kernel
theorem dX3_catIn_8 : decode cX3_catIn 8 = .ok (.aload_n 0, 1) := by decide +kernel
theorem dX3_catIn_9 : decode cX3_catIn 9 = .ok (.getfield 95, 3) := by decide +kernel
theorem dX3_catIn_12 : decode cX3_catIn 12 = .ok (.goto 4, 3) := by decide +kernel
theorem dX3_catIn_15 : decode cX3_catIn 15 = .ok (.iconst (-1), 1) := by decide +kernel
theorem dX3_catIn_16 : decode cX3_catIn 16 = .ok (.invokevirtual 124, 3) := by decide +kernel
theorem dX3_catIn_19 : decode cX3_catIn 19 = .ok (.ireturn, 1) := by decide +kernel
set_option maxRecDepth 20000 in
theorem ggX3_mouseIn_X3_plain : GoodIn wsX3_mouseIn wsX3_plain := goodIn_r _ [7, 8, 9, 10, 11, 12, 13, 14, 15, 16, 17, 18, 19, 20, 21, 22, 23, 24, 25, 26, 27, 28] (by decide +kernel) (by decide +kernel)
set_option maxRecDepth 20000 in
theorem gX3_mouseIn_X3_plain : GoodIn wsX3_mouseIn (wsV RX3 124 RX3 yX3_plain wsX3_plain) := goodIn_app (goodIn_of _ (by decide +kernel)) ggX3_mouseIn_X3_plain
theorem dX3_mouseIn_0 : decode cX3_mouseIn 0 = .ok (.aload_n 0, 1) := by decide +kernel
theorem dX3_mouseIn_1 : decode cX3_mouseIn 1 = .ok (.aload_n 0, 1) := by decide +kernel
theorem dX3_mouseIn_2 : decode cX3_mouseIn 2 = .ok (.getfield 85, 3) := by decide +kernel
theorem dX3_mouseIn_5 : decode cX3_mouseIn 5 = .ok (.ifCond .eq 10, 3) := by decide +kernel
theorem dX3_mouseIn_8 : decode cX3_mouseIn 8 = .ok (.aload_n 0, 1) := by decide +kernel
theorem dX3_mouseIn_9 : decode cX3_mouseIn 9 = .ok (.getfield 98, 3) := by decide +kernel
theorem dX3_mouseIn_12 : decode cX3_mouseIn 12 = .ok (.goto 4, 3) := by decide +kernel
theorem dX3_mouseIn_15 : decode cX3_mouseIn 15 = .ok (.iconst (-1), 1) := by decide +kernel
theorem dX3_mouseIn_16 : decode cX3_mouseIn 16 = .ok (.invokevirtual 124, 3) := by decide +kernel
theorem dX3_mouseIn_19 : decode cX3_mouseIn 19 = .ok (.ireturn, 1) := by decide +kernel
set_option maxRecDepth 20000 in
theorem ggX3_eaten_X3_plain : GoodIn wsX3_eaten wsX3_plain := goodIn_r _ [6, 7, 8, 9, 10, 11, 12, 13, 14, 15, 16, 17, 18, 19, 20, 21, 22, 23, 24, 25, 26, 27] (by decide +kernel) (by decide +kernel)
set_option maxRecDepth 20000 in
theorem gX3_eaten_X3_plain : GoodIn wsX3_eaten (wsV RX3 124 RX3 yX3_plain wsX3_plain) := goodIn_app (goodIn_of _ (by decide +kernel)) ggX3_eaten_X3_plain
theorem dX3_eaten_0 : decode cX3_eaten 0 = .ok (.aload_n 0, 1) := by decide +kernel
theorem dX3_eaten_1 : decode cX3_eaten 1 = .ok (.aload_n 0, 1) := by decide +kernel
theorem dX3_eaten_2 : decode cX3_eaten 2 = .ok (.getfield 110, 3) := by decide +kernel
theorem dX3_eaten_5 : decode cX3_eaten 5 = .ok (.invokevirtual 124, 3) := by decide +kernel
theorem dX3_eaten_8 : decode cX3_eaten 8 = .ok (.ireturn, 1) := by decide +kernel
set_option maxRecDepth 20000 in
theorem ggX3_isSafe_X3_isNoRoom : GoodIn wsX3_isSafe wsX3_isNoRoom := goodIn_r _ [6, 7, 8, 9, 5, 10, 11, 12, 13, 14, 15, 16, 17, 18, 19, 20, 21, 22, 23, 24, 25, 26, 27, 28, 29, 30, 31, 32, 33, 34, 35, 36, 37, 38, 39] (by decide +kernel) (by decide +kernel)
set_option maxRecDepth 20000 in
theorem gX3_isSafe_X3_isNoRoom : GoodIn wsX3_isSafe (wsV RX3 53 RX3 yX3_isNoRoom wsX3_isNoRoom) := goodIn_app (goodIn_of _ (by decide +kernel)) ggX3_isSafe_X3_isNoRoom
theorem dX3_isSafe_0 : decode cX3_isSafe 0 = .ok (.aload_n 0, 1) := by decide +kernel
theorem dX3_isSafe_1 : decode cX3_isSafe 1 = .ok (.iload_n 1, 1) := by decide +kernel
theorem dX3_isSafe_2 : decode cX3_isSafe 2 = .ok (.invokevirtual 53, 3) := by decide +kernel
theorem dX3_isSafe_5 : decode cX3_isSafe 5 = .ok (.ifCond .ne 16, 3) := by decide +kernel
theorem dX3_isSafe_8 : decode cX3_isSafe 8 = .ok (.aload_n 0, 1) := by decide +kernel
theorem dX3_isSafe_9 : decode cX3_isSafe 9 = .ok (.getfield 9, 3) := by decide +kernel
theorem dX3_isSafe_12 : decode cX3_isSafe 12 = .ok (.iload_n 1, 1) := by decide +kernel
theorem dX3_isSafe_13 : decode cX3_isSafe 13 = .ok (.baload, 1) := by decide +kernel
theorem dX3_isSafe_14 : decode cX3_isSafe 14 = .ok (.ifCond .eq 7, 3) := by decide +kernel
theorem dX3_isSafe_17 : decode cX3_isSafe 17 = .ok (.iconst 1, 1) := by decide +kernel
theorem dX3_isSafe_18 : decode cX3_isSafe 18 = .ok (.goto 4, 3) := by decide +kernel
theorem dX3_isSafe_21 : decode cX3_isSafe 21 = .ok (.iconst 0, 1) := by decide +kernel
theorem dX3_isSafe_22 : decode cX3_isSafe 22 = .ok (.ireturn, 1) := by decide +kernel
set_option maxRecDepth 20000 in
theorem ggX3_cheeseIn_X3_isNoRoom : GoodIn wsX3_cheeseIn wsX3_isNoRoom := goodIn_r _ [6, 7, 8, 9, 5, 10, 11, 12, 13, 14, 15, 16, 17, 18, 19, 20, 21, 22, 23, 24, 25, 26, 27, 28, 29, 30, 31, 32, 33, 34, 35, 36, 37, 38, 39] (by decide +kernel) (by decide +kernel)
set_option maxRecDepth 20000 in
theorem gX3_cheeseIn_X3_isNoRoom : GoodIn wsX3_cheeseIn (wsV RX3 53 RX3 yX3_isNoRoom wsX3_isNoRoom) := goodIn_app (goodIn_of _ (by decide +kernel)) ggX3_cheeseIn_X3_isNoRoom
theorem dX3_cheeseIn_0 : decode cX3_cheeseIn 0 = .ok (.aload_n 0, 1) := by decide +kernel
theorem dX3_cheeseIn_1 : decode cX3_cheeseIn 1 = .ok (.iload_n 1, 1) := by decide +kernel
theorem dX3_cheeseIn_2 : decode cX3_cheeseIn 2 = .ok (.invokevirtual 53, 3) := by decide +kernel
theorem dX3_cheeseIn_5 : decode cX3_cheeseIn 5 = .ok (.ifCond .eq 7, 3) := by decide +kernel
theorem dX3_cheeseIn_8 : decode cX3_cheeseIn 8 = .ok (.iconst 0, 1) := by decide +kernel
theorem dX3_cheeseIn_9 : decode cX3_cheeseIn 9 = .ok (.goto 9, 3) := by decide +kernel
theorem dX3_cheeseIn_12 : decode cX3_cheeseIn 12 = .ok (.aload_n 0, 1) := by decide +kernel
theorem dX3_cheeseIn_13 : decode cX3_cheeseIn 13 = .ok (.getfield 13, 3) := by decide +kernel
theorem dX3_cheeseIn_16 : decode cX3_cheeseIn 16 = .ok (.iload_n 1, 1) := by decide +kernel
theorem dX3_cheeseIn_17 : decode cX3_cheeseIn 17 = .ok (.iaload, 1) := by decide +kernel
theorem dX3_cheeseIn_18 : decode cX3_cheeseIn 18 = .ok (.ireturn, 1) := by decide +kernel
theorem dX3_doorsAt_0 : decode cX3_doorsAt 0 = .ok (.iconst 0, 1) := by decide +kernel
theorem dX3_doorsAt_1 : decode cX3_doorsAt 1 = .ok (.istore_n 2, 1) := by decide +kernel
theorem dX3_doorsAt_2 : decode cX3_doorsAt 2 = .ok (.iconst 0, 1) := by decide +kernel
theorem dX3_doorsAt_3 : decode cX3_doorsAt 3 = .ok (.istore_n 3, 1) := by decide +kernel
theorem dX3_doorsAt_4 : decode cX3_doorsAt 4 = .ok (.iload_n 3, 1) := by decide +kernel
theorem dX3_doorsAt_5 : decode cX3_doorsAt 5 = .ok (.aload_n 0, 1) := by decide +kernel
theorem dX3_doorsAt_6 : decode cX3_doorsAt 6 = .ok (.getfield 57, 3) := by decide +kernel
theorem dX3_doorsAt_9 : decode cX3_doorsAt 9 = .ok (.if_icmp .ge 46, 3) := by decide +kernel
theorem dX3_doorsAt_12 : decode cX3_doorsAt 12 = .ok (.iload_n 2, 1) := by decide +kernel
theorem dX3_doorsAt_13 : decode cX3_doorsAt 13 = .ok (.aload_n 0, 1) := by decide +kernel
theorem dX3_doorsAt_14 : decode cX3_doorsAt 14 = .ok (.getfield 29, 3) := by decide +kernel
theorem dX3_doorsAt_17 : decode cX3_doorsAt 17 = .ok (.iload_n 3, 1) := by decide +kernel
theorem dX3_doorsAt_18 : decode cX3_doorsAt 18 = .ok (.baload, 1) := by decide +kernel
theorem dX3_doorsAt_19 : decode cX3_doorsAt 19 = .ok (.ifCond .ne 27, 3) := by decide +kernel
theorem dX3_doorsAt_22 : decode cX3_doorsAt 22 = .ok (.aload_n 0, 1) := by decide +kernel
theorem dX3_doorsAt_23 : decode cX3_doorsAt 23 = .ok (.getfield 17, 3) := by decide +kernel
theorem dX3_doorsAt_26 : decode cX3_doorsAt 26 = .ok (.iload_n 3, 1) := by decide +kernel
theorem dX3_doorsAt_27 : decode cX3_doorsAt 27 = .ok (.iaload, 1) := by decide +kernel
theorem dX3_doorsAt_28 : decode cX3_doorsAt 28 = .ok (.iload_n 1, 1) := by decide +kernel
theorem dX3_doorsAt_29 : decode cX3_doorsAt 29 = .ok (.if_icmp .eq 13, 3) := by decide +kernel
theorem dX3_doorsAt_32 : decode cX3_doorsAt 32 = .ok (.aload_n 0, 1) := by decide +kernel
theorem dX3_doorsAt_33 : decode cX3_doorsAt 33 = .ok (.getfield 20, 3) := by decide +kernel
theorem dX3_doorsAt_36 : decode cX3_doorsAt 36 = .ok (.iload_n 3, 1) := by decide +kernel
theorem dX3_doorsAt_37 : decode cX3_doorsAt 37 = .ok (.iaload, 1) := by decide +kernel
theorem dX3_doorsAt_38 : decode cX3_doorsAt 38 = .ok (.iload_n 1, 1) := by decide +kernel
theorem dX3_doorsAt_39 : decode cX3_doorsAt 39 = .ok (.if_icmp .ne 7, 3) := by decide +kernel
theorem dX3_doorsAt_42 : decode cX3_doorsAt 42 = .ok (.iconst 1, 1) := by decide +kernel
theorem dX3_doorsAt_43 : decode cX3_doorsAt 43 = .ok (.goto 4, 3) := by decide +kernel
theorem dX3_doorsAt_46 : decode cX3_doorsAt 46 = .ok (.iconst 0, 1) := by decide +kernel
theorem dX3_doorsAt_47 : decode cX3_doorsAt 47 = .ok (.iadd, 1) := by decide +kernel
theorem dX3_doorsAt_48 : decode cX3_doorsAt 48 = .ok (.istore_n 2, 1) := by decide +kernel
theorem dX3_doorsAt_49 : decode cX3_doorsAt 49 = .ok (.iinc 3 1, 3) := by decide +kernel
theorem dX3_doorsAt_52 : decode cX3_doorsAt 52 = .ok (.goto (-48), 3) := by decide +kernel
theorem dX3_doorsAt_55 : decode cX3_doorsAt 55 = .ok (.iload_n 2, 1) := by decide +kernel
theorem dX3_doorsAt_56 : decode cX3_doorsAt 56 = .ok (.ireturn, 1) := by decide +kernel
set_option maxRecDepth 20000 in
theorem ggX3_doorsOf_X3_isNoRoom : GoodIn wsX3_doorsOf wsX3_isNoRoom := goodIn_r _ [5, 6, 7, 8, 4, 9, 10, 11, 12, 13, 14, 15, 16, 17, 18, 27, 28, 29, 30, 31, 32, 33, 34, 35, 36, 37, 38, 39, 40, 41, 42, 43, 44, 45, 46] (by decide +kernel) (by decide +kernel)
set_option maxRecDepth 20000 in
theorem gX3_doorsOf_X3_isNoRoom : GoodIn wsX3_doorsOf (wsV RX3 53 RX3 yX3_isNoRoom wsX3_isNoRoom) := goodIn_app (goodIn_of _ (by decide +kernel)) ggX3_doorsOf_X3_isNoRoom
set_option maxRecDepth 20000 in
theorem ggX3_doorsOf_X3_doorsAt : GoodIn wsX3_doorsOf wsX3_doorsAt := goodIn_r _ [22, 23, 24, 25, 26, 27, 28, 29, 30, 31, 32, 33, 34, 35, 36, 37, 38, 39, 40, 41, 42, 43, 44, 45, 46] (by decide +kernel) (by decide +kernel)
set_option maxRecDepth 20000 in
theorem gX3_doorsOf_X3_doorsAt : GoodIn wsX3_doorsOf (wsV RX3 131 RX3 yX3_doorsAt wsX3_doorsAt) := goodIn_app (goodIn_of _ (by decide +kernel)) ggX3_doorsOf_X3_doorsAt
theorem dX3_doorsOf_0 : decode cX3_doorsOf 0 = .ok (.aload_n 0, 1) := by decide +kernel
theorem dX3_doorsOf_1 : decode cX3_doorsOf 1 = .ok (.iload_n 1, 1) := by decide +kernel
theorem dX3_doorsOf_2 : decode cX3_doorsOf 2 = .ok (.invokevirtual 53, 3) := by decide +kernel
theorem dX3_doorsOf_5 : decode cX3_doorsOf 5 = .ok (.ifCond .eq 7, 3) := by decide +kernel
theorem dX3_doorsOf_8 : decode cX3_doorsOf 8 = .ok (.iconst 0, 1) := by decide +kernel
theorem dX3_doorsOf_9 : decode cX3_doorsOf 9 = .ok (.goto 8, 3) := by decide +kernel
theorem dX3_doorsOf_12 : decode cX3_doorsOf 12 = .ok (.aload_n 0, 1) := by decide +kernel
theorem dX3_doorsOf_13 : decode cX3_doorsOf 13 = .ok (.iload_n 1, 1) := by decide +kernel
theorem dX3_doorsOf_14 : decode cX3_doorsOf 14 = .ok (.invokevirtual 131, 3) := by decide +kernel
theorem dX3_doorsOf_17 : decode cX3_doorsOf 17 = .ok (.ireturn, 1) := by decide +kernel
set_option maxRecDepth 20000 in
theorem ggX3_isLocked_X3_isNoDoor : GoodIn wsX3_isLocked wsX3_isNoDoor := goodIn_r _ [6, 7, 8, 9, 5, 10, 11, 12, 13, 14, 15, 16, 17, 18, 19, 20, 21, 22, 23, 24, 25, 26, 27, 28, 29, 30, 31, 32, 33, 34, 35, 36, 37, 38, 39] (by decide +kernel) (by decide +kernel)
set_option maxRecDepth 20000 in
theorem gX3_isLocked_X3_isNoDoor : GoodIn wsX3_isLocked (wsV RX3 68 RX3 yX3_isNoDoor wsX3_isNoDoor) := goodIn_app (goodIn_of _ (by decide +kernel)) ggX3_isLocked_X3_isNoDoor
theorem dX3_isLocked_0 : decode cX3_isLocked 0 = .ok (.aload_n 0, 1) := by decide +kernel
theorem dX3_isLocked_1 : decode cX3_isLocked 1 = .ok (.iload_n 1, 1) := by decide +kernel
theorem dX3_isLocked_2 : decode cX3_isLocked 2 = .ok (.invokevirtual 68, 3) := by decide +kernel
theorem dX3_isLocked_5 : decode cX3_isLocked 5 = .ok (.ifCond .ne 16, 3) := by decide +kernel
theorem dX3_isLocked_8 : decode cX3_isLocked 8 = .ok (.aload_n 0, 1) := by decide +kernel
theorem dX3_isLocked_9 : decode cX3_isLocked 9 = .ok (.getfield 29, 3) := by decide +kernel
theorem dX3_isLocked_12 : decode cX3_isLocked 12 = .ok (.iload_n 1, 1) := by decide +kernel
theorem dX3_isLocked_13 : decode cX3_isLocked 13 = .ok (.baload, 1) := by decide +kernel
theorem dX3_isLocked_14 : decode cX3_isLocked 14 = .ok (.ifCond .eq 7, 3) := by decide +kernel
theorem dX3_isLocked_17 : decode cX3_isLocked 17 = .ok (.iconst 1, 1) := by decide +kernel
theorem dX3_isLocked_18 : decode cX3_isLocked 18 = .ok (.goto 4, 3) := by decide +kernel
theorem dX3_isLocked_21 : decode cX3_isLocked 21 = .ok (.iconst 0, 1) := by decide +kernel
theorem dX3_isLocked_22 : decode cX3_isLocked 22 = .ok (.ireturn, 1) := by decide +kernel
set_option maxRecDepth 20000 in
theorem ggX3_isOpen_X3_isNoDoor : GoodIn wsX3_isOpen wsX3_isNoDoor := goodIn_r _ [6, 7, 8, 9, 5, 10, 11, 12, 13, 14, 15, 16, 17, 18, 19, 27, 28, 29, 30, 31, 32, 33, 34, 35, 36, 37, 38, 39, 40, 41, 42, 43, 44, 45, 46] (by decide +kernel) (by decide +kernel)
set_option maxRecDepth 20000 in
theorem gX3_isOpen_X3_isNoDoor : GoodIn wsX3_isOpen (wsV RX3 68 RX3 yX3_isNoDoor wsX3_isNoDoor) := goodIn_app (goodIn_of _ (by decide +kernel)) ggX3_isOpen_X3_isNoDoor
set_option maxRecDepth 20000 in
theorem ggX3_isOpen_X3_isOpenIn : GoodIn wsX3_isOpen wsX3_isOpenIn := goodIn_r _ [23, 24, 25, 26, 27, 28, 29, 30, 31, 32, 33, 34, 35, 36, 37, 38, 39, 40, 41, 42, 43, 44, 45, 46] (by decide +kernel) (by decide +kernel)
set_option maxRecDepth 20000 in
theorem gX3_isOpen_X3_isOpenIn : GoodIn wsX3_isOpen (wsV RX3 71 RX3 yX3_isOpenIn wsX3_isOpenIn) := goodIn_app (goodIn_of _ (by decide +kernel)) ggX3_isOpen_X3_isOpenIn
theorem dX3_isOpen_0 : decode cX3_isOpen 0 = .ok (.aload_n 0, 1) := by decide +kernel
theorem dX3_isOpen_1 : decode cX3_isOpen 1 = .ok (.iload_n 1, 1) := by decide +kernel
theorem dX3_isOpen_2 : decode cX3_isOpen 2 = .ok (.invokevirtual 68, 3) := by decide +kernel
theorem dX3_isOpen_5 : decode cX3_isOpen 5 = .ok (.ifCond .ne 19, 3) := by decide +kernel
theorem dX3_isOpen_8 : decode cX3_isOpen 8 = .ok (.aload_n 0, 1) := by decide +kernel
theorem dX3_isOpen_9 : decode cX3_isOpen 9 = .ok (.iload_n 1, 1) := by decide +kernel
theorem dX3_isOpen_10 : decode cX3_isOpen 10 = .ok (.aload_n 0, 1) := by decide +kernel
theorem dX3_isOpen_11 : decode cX3_isOpen 11 = .ok (.getfield 92, 3) := by decide +kernel
theorem dX3_isOpen_14 : decode cX3_isOpen 14 = .ok (.invokevirtual 71, 3) := by decide +kernel
theorem dX3_isOpen_17 : decode cX3_isOpen 17 = .ok (.ifCond .eq 7, 3) := by decide +kernel
theorem dX3_isOpen_20 : decode cX3_isOpen 20 = .ok (.iconst 1, 1) := by decide +kernel
theorem dX3_isOpen_21 : decode cX3_isOpen 21 = .ok (.goto 4, 3) := by decide +kernel
theorem dX3_isOpen_24 : decode cX3_isOpen 24 = .ok (.iconst 0, 1) := by decide +kernel
theorem dX3_isOpen_25 : decode cX3_isOpen 25 = .ok (.ireturn, 1) := by decide +kernel
set_option maxRecDepth 20000 in
theorem ggX3_untilOpen_X3_isOpenIn : GoodIn wsX3_untilOpen wsX3_isOpenIn := goodIn_r _ [7, 1, 8, 9, 10, 11, 12, 13, 14, 15, 16, 17, 18, 19, 20, 21, 22, 23, 24, 25, 26, 27, 28, 29] (by decide +kernel) (by decide +kernel)
set_option maxRecDepth 20000 in
theorem gX3_untilOpen_X3_isOpenIn : GoodIn wsX3_untilOpen (wsV RX3 71 RX3 yX3_isOpenIn wsX3_isOpenIn) := goodIn_app (goodIn_of _ (by decide +kernel)) ggX3_untilOpen_X3_isOpenIn
theorem dX3_untilOpen_0 : decode cX3_untilOpen 0 = .ok (.aload_n 0, 1) := by decide +kernel
theorem dX3_untilOpen_1 : decode cX3_untilOpen 1 = .ok (.getfield 29, 3) := by decide +kernel
theorem dX3_untilOpen_4 : decode cX3_untilOpen 4 = .ok (.iload_n 1, 1) := by decide +kernel
theorem dX3_untilOpen_5 : decode cX3_untilOpen 5 = .ok (.baload, 1) := by decide +kernel
theorem dX3_untilOpen_6 : decode cX3_untilOpen 6 = .ok (.ifCond .eq 5, 3) := by decide +kernel
theorem dX3_untilOpen_9 : decode cX3_untilOpen 9 = .ok (.iconst (-1), 1) := by decide +kernel
theorem dX3_untilOpen_10 : decode cX3_untilOpen 10 = .ok (.ireturn, 1) := by decide +kernel
theorem dX3_untilOpen_11 : decode cX3_untilOpen 11 = .ok (.iconst 0, 1) := by decide +kernel
theorem dX3_untilOpen_12 : decode cX3_untilOpen 12 = .ok (.istore_n 2, 1) := by decide +kernel
theorem dX3_untilOpen_13 : decode cX3_untilOpen 13 = .ok (.aload_n 0, 1) := by decide +kernel
theorem dX3_untilOpen_14 : decode cX3_untilOpen 14 = .ok (.iload_n 1, 1) := by decide +kernel
theorem dX3_untilOpen_15 : decode cX3_untilOpen 15 = .ok (.aload_n 0, 1) := by decide +kernel
theorem dX3_untilOpen_16 : decode cX3_untilOpen 16 = .ok (.getfield 92, 3) := by decide +kernel
theorem dX3_untilOpen_19 : decode cX3_untilOpen 19 = .ok (.iload_n 2, 1) := by decide +kernel
theorem dX3_untilOpen_20 : decode cX3_untilOpen 20 = .ok (.iadd, 1) := by decide +kernel
theorem dX3_untilOpen_21 : decode cX3_untilOpen 21 = .ok (.invokevirtual 71, 3) := by decide +kernel
theorem dX3_untilOpen_24 : decode cX3_untilOpen 24 = .ok (.ifCond .ne 9, 3) := by decide +kernel
theorem dX3_untilOpen_27 : decode cX3_untilOpen 27 = .ok (.iinc 2 1, 3) := by decide +kernel
theorem dX3_untilOpen_30 : decode cX3_untilOpen 30 = .ok (.goto (-17), 3) := by decide +kernel
theorem dX3_untilOpen_33 : decode cX3_untilOpen 33 = .ok (.iload_n 2, 1) := by decide +kernel
theorem dX3_untilOpen_34 : decode cX3_untilOpen 34 = .ok (.ireturn, 1) := by decide +kernel
set_option maxRecDepth 20000 in
theorem ggX3_turnsUntilOpen_X3_isNoDoor : GoodIn wsX3_turnsUntilOpen wsX3_isNoDoor := goodIn_r _ [5, 6, 7, 8, 4, 9, 10, 11, 12, 13, 14, 15, 16, 17, 18, 31, 32, 33, 34, 35, 36, 37, 38, 39, 40, 41, 42, 43, 44, 45, 46, 47, 48, 49, 50] (by decide +kernel) (by decide +kernel)
set_option maxRecDepth 20000 in
theorem gX3_turnsUntilOpen_X3_isNoDoor : GoodIn wsX3_turnsUntilOpen (wsV RX3 68 RX3 yX3_isNoDoor wsX3_isNoDoor) := goodIn_app (goodIn_of _ (by decide +kernel)) ggX3_turnsUntilOpen_X3_isNoDoor
set_option maxRecDepth 20000 in
theorem ggX3_turnsUntilOpen_X3_untilOpen : GoodIn wsX3_turnsUntilOpen wsX3_untilOpen := goodIn_r _ [22, 23, 24, 25, 26, 27, 4, 28, 29, 30, 31, 32, 33, 34, 35, 36, 37, 38, 39, 40, 41, 42, 43, 44, 45, 46, 47, 48, 49, 50] (by decide +kernel) (by decide +kernel)
set_option maxRecDepth 20000 in
theorem gX3_turnsUntilOpen_X3_untilOpen : GoodIn wsX3_turnsUntilOpen (wsV RX3 134 RX3 yX3_untilOpen wsX3_untilOpen) := goodIn_app (goodIn_of _ (by decide +kernel)) ggX3_turnsUntilOpen_X3_untilOpen
theorem dX3_turnsUntilOpen_0 : decode cX3_turnsUntilOpen 0 = .ok (.aload_n 0, 1) := by decide +kernel
theorem dX3_turnsUntilOpen_1 : decode cX3_turnsUntilOpen 1 = .ok (.iload_n 1, 1) := by decide +kernel
theorem dX3_turnsUntilOpen_2 : decode cX3_turnsUntilOpen 2 = .ok (.invokevirtual 68, 3) := by decide +kernel
theorem dX3_turnsUntilOpen_5 : decode cX3_turnsUntilOpen 5 = .ok (.ifCond .eq 7, 3) := by decide +kernel
theorem dX3_turnsUntilOpen_8 : decode cX3_turnsUntilOpen 8 = .ok (.iconst 0, 1) := by decide +kernel
theorem dX3_turnsUntilOpen_9 : decode cX3_turnsUntilOpen 9 = .ok (.goto 8, 3) := by decide +kernel
theorem dX3_turnsUntilOpen_12 : decode cX3_turnsUntilOpen 12 = .ok (.aload_n 0, 1) := by decide +kernel
theorem dX3_turnsUntilOpen_13 : decode cX3_turnsUntilOpen 13 = .ok (.iload_n 1, 1) := by decide +kernel
theorem dX3_turnsUntilOpen_14 : decode cX3_turnsUntilOpen 14 = .ok (.invokevirtual 134, 3) := by decide +kernel
theorem dX3_turnsUntilOpen_17 : decode cX3_turnsUntilOpen 17 = .ok (.ireturn, 1) := by decide +kernel
set_option maxRecDepth 20000 in
theorem ggX3_doorBetween_X3_areNoRooms : GoodIn wsX3_doorBetween wsX3_areNoRooms := goodIn_r _ [5, 6, 7, 8, 9, 4, 10, 11, 12, 13, 14, 15, 16, 17, 18, 19, 20, 21, 22, 30, 31, 32, 33, 34, 35, 36, 37, 38, 39, 40, 41, 42, 43, 44, 45, 46, 47, 48, 49] (by decide +kernel) (by decide +kernel)
set_option maxRecDepth 20000 in
theorem gX3_doorBetween_X3_areNoRooms : GoodIn wsX3_doorBetween (wsV RX3 60 RX3 yX3_areNoRooms wsX3_areNoRooms) := goodIn_app (goodIn_of _ (by decide +kernel)) ggX3_doorBetween_X3_areNoRooms
set_option maxRecDepth 20000 in
theorem ggX3_doorBetween_X3_between : GoodIn wsX3_doorBetween wsX3_between := goodIn_r _ [26, 27, 28, 29, 30, 31, 32, 33, 34, 35, 36, 37, 38, 39, 40, 41, 42, 43, 44, 45, 46, 47, 48, 49] (by decide +kernel) (by decide +kernel)
set_option maxRecDepth 20000 in
theorem gX3_doorBetween_X3_between : GoodIn wsX3_doorBetween (wsV RX3 64 RX3 yX3_between wsX3_between) := goodIn_app (goodIn_of _ (by decide +kernel)) ggX3_doorBetween_X3_between
theorem dX3_doorBetween_0 : decode cX3_doorBetween 0 = .ok (.aload_n 0, 1) := by decide +kernel
theorem dX3_doorBetween_1 : decode cX3_doorBetween 1 = .ok (.iload_n 1, 1) := by decide +kernel
theorem dX3_doorBetween_2 : decode cX3_doorBetween 2 = .ok (.iload_n 2, 1) := by decide +kernel
theorem dX3_doorBetween_3 : decode cX3_doorBetween 3 = .ok (.invokevirtual 60, 3) := by decide +kernel
theorem dX3_doorBetween_6 : decode cX3_doorBetween 6 = .ok (.ifCond .eq 7, 3) := by decide +kernel
theorem dX3_doorBetween_9 : decode cX3_doorBetween 9 = .ok (.iconst 0, 1) := by decide +kernel
theorem dX3_doorBetween_10 : decode cX3_doorBetween 10 = .ok (.goto 9, 3) := by decide +kernel
theorem dX3_doorBetween_13 : decode cX3_doorBetween 13 = .ok (.aload_n 0, 1) := by decide +kernel
theorem dX3_doorBetween_14 : decode cX3_doorBetween 14 = .ok (.iload_n 1, 1) := by decide +kernel
theorem dX3_doorBetween_15 : decode cX3_doorBetween 15 = .ok (.iload_n 2, 1) := by decide +kernel
theorem dX3_doorBetween_16 : decode cX3_doorBetween 16 = .ok (.invokevirtual 64, 3) := by decide +kernel
theorem dX3_doorBetween_19 : decode cX3_doorBetween 19 = .ok (.ireturn, 1) := by decide +kernel
set_option maxRecDepth 20000 in
theorem ggX3_isWayOpen_X3_areNoRooms : GoodIn wsX3_isWayOpen wsX3_areNoRooms := goodIn_r _ [6, 7, 8, 9, 10, 5, 11, 12, 13, 14, 15, 16, 17, 18, 19, 20, 21, 22, 23, 38, 39, 40, 41, 42, 43, 44, 45, 46, 47, 48, 49, 50, 51, 52, 53, 54, 55, 56, 57] (by decide +kernel) (by decide +kernel)
set_option maxRecDepth 20000 in
theorem gX3_isWayOpen_X3_areNoRooms : GoodIn wsX3_isWayOpen (wsV RX3 60 RX3 yX3_areNoRooms wsX3_areNoRooms) := goodIn_app (goodIn_of _ (by decide +kernel)) ggX3_isWayOpen_X3_areNoRooms
set_option maxRecDepth 20000 in
theorem ggX3_isWayOpen_X3_between : GoodIn wsX3_isWayOpen wsX3_between := goodIn_r _ [27, 28, 29, 30, 38, 39, 40, 41, 42, 43, 44, 45, 46, 47, 48, 49, 50, 51, 52, 53, 54, 55, 56, 57] (by decide +kernel) (by decide +kernel)
set_option maxRecDepth 20000 in
theorem gX3_isWayOpen_X3_between : GoodIn wsX3_isWayOpen (wsV RX3 64 RX3 yX3_between wsX3_between) := goodIn_app (goodIn_of _ (by decide +kernel)) ggX3_isWayOpen_X3_between
set_option maxRecDepth 20000 in
theorem ggX3_isWayOpen_X3_isOpenIn : GoodIn wsX3_isWayOpen wsX3_isOpenIn := goodIn_r _ [34, 35, 36, 37, 38, 39, 40, 41, 42, 43, 44, 45, 46, 47, 48, 49, 50, 51, 52, 53, 54, 55, 56, 57] (by decide +kernel) (by decide +kernel)
set_option maxRecDepth 20000 in
theorem gX3_isWayOpen_X3_isOpenIn : GoodIn wsX3_isWayOpen (wsV RX3 71 RX3 yX3_isOpenIn wsX3_isOpenIn) := goodIn_app (goodIn_of _ (by decide +kernel)) ggX3_isWayOpen_X3_isOpenIn
theorem dX3_isWayOpen_0 : decode cX3_isWayOpen 0 = .ok (.aload_n 0, 1) := by decide +kernel
theorem dX3_isWayOpen_1 : decode cX3_isWayOpen 1 = .ok (.iload_n 1, 1) := by decide +kernel
theorem dX3_isWayOpen_2 : decode cX3_isWayOpen 2 = .ok (.iload_n 2, 1) := by decide +kernel
theorem dX3_isWayOpen_3 : decode cX3_isWayOpen 3 = .ok (.invokevirtual 60, 3) := by decide +kernel
theorem dX3_isWayOpen_6 : decode cX3_isWayOpen 6 = .ok (.ifCond .ne 33, 3) := by decide +kernel
theorem dX3_isWayOpen_9 : decode cX3_isWayOpen 9 = .ok (.aload_n 0, 1) := by decide +kernel
theorem dX3_isWayOpen_10 : decode cX3_isWayOpen 10 = .ok (.iload_n 1, 1) := by decide +kernel
theorem dX3_isWayOpen_11 : decode cX3_isWayOpen 11 = .ok (.iload_n 2, 1) := by decide +kernel
theorem dX3_isWayOpen_12 : decode cX3_isWayOpen 12 = .ok (.invokevirtual 64, 3) := by decide +kernel
theorem dX3_isWayOpen_15 : decode cX3_isWayOpen 15 = .ok (.ifCond .lt 24, 3) := by decide +kernel
theorem dX3_isWayOpen_18 : decode cX3_isWayOpen 18 = .ok (.aload_n 0, 1) := by decide +kernel
theorem dX3_isWayOpen_19 : decode cX3_isWayOpen 19 = .ok (.aload_n 0, 1) := by decide +kernel
theorem dX3_isWayOpen_20 : decode cX3_isWayOpen 20 = .ok (.iload_n 1, 1) := by decide +kernel
theorem dX3_isWayOpen_21 : decode cX3_isWayOpen 21 = .ok (.iload_n 2, 1) := by decide +kernel
theorem dX3_isWayOpen_22 : decode cX3_isWayOpen 22 = .ok (.invokevirtual 64, 3) := by decide +kernel
theorem dX3_isWayOpen_25 : decode cX3_isWayOpen 25 = .ok (.aload_n 0, 1) := by decide +kernel
theorem dX3_isWayOpen_26 : decode cX3_isWayOpen 26 = .ok (.getfield 92, 3) := by decide +kernel
theorem dX3_isWayOpen_29 : decode cX3_isWayOpen 29 = .ok (.invokevirtual 71, 3) := by decide +kernel
theorem dX3_isWayOpen_32 : decode cX3_isWayOpen 32 = .ok (.ifCond .eq 7, 3) := by decide +kernel
theorem dX3_isWayOpen_35 : decode cX3_isWayOpen 35 = .ok (.iconst 1, 1) := by decide +kernel
theorem dX3_isWayOpen_36 : decode cX3_isWayOpen 36 = .ok (.goto 4, 3) := by decide +kernel
theorem dX3_isWayOpen_39 : decode cX3_isWayOpen 39 = .ok (.iconst 0, 1) := by decide +kernel
theorem dX3_isWayOpen_40 : decode cX3_isWayOpen 40 = .ok (.ireturn, 1) := by decide +kernel
set_option maxRecDepth 20000 in
theorem ggX3_away_X3_between : GoodIn wsX3_away wsX3_between := goodIn_r _ [8, 9, 10, 11, 12, 13, 14, 15, 16, 17, 18, 19, 20, 21, 22, 23, 24, 25, 26, 27, 28, 29, 30, 31] (by decide +kernel) (by decide +kernel)
set_option maxRecDepth 20000 in
theorem gX3_away_X3_between : GoodIn wsX3_away (wsV RX3 64 RX3 yX3_between wsX3_between) := goodIn_app (goodIn_of _ (by decide +kernel)) ggX3_away_X3_between
theorem dX3_away_0 : decode cX3_away 0 = .ok (.bipush 8, 2) := by decide +kernel
theorem dX3_away_2 : decode cX3_away 2 = .ok (.newarray .boolean, 2) := by decide +kernel
theorem dX3_away_4 : decode cX3_away 4 = .ok (.astore_n 3, 1) := by decide +kernel
theorem dX3_away_5 : decode cX3_away 5 = .ok (.aload_n 3, 1) := by decide +kernel
theorem dX3_away_6 : decode cX3_away 6 = .ok (.iload_n 1, 1) := by decide +kernel
theorem dX3_away_7 : decode cX3_away 7 = .ok (.iconst 1, 1) := by decide +kernel
theorem dX3_away_8 : decode cX3_away 8 = .ok (.bastore, 1) := by decide +kernel
theorem dX3_away_9 : decode cX3_away 9 = .ok (.iconst 0, 1) := by decide +kernel
theorem dX3_away_10 : decode cX3_away 10 = .ok (.istore 4, 2) := by decide +kernel
theorem dX3_away_12 : decode cX3_away 12 = .ok (.iload 4, 2) := by decide +kernel
theorem dX3_away_14 : decode cX3_away 14 = .ok (.bipush 8, 2) := by decide +kernel
theorem dX3_away_16 : decode cX3_away 16 = .ok (.if_icmp .ge 119, 3) := by decide +kernel
theorem dX3_away_19 : decode cX3_away 19 = .ok (.aload_n 3, 1) := by decide +kernel
theorem dX3_away_20 : decode cX3_away 20 = .ok (.iload_n 2, 1) := by decide +kernel
theorem dX3_away_21 : decode cX3_away 21 = .ok (.baload, 1) := by decide +kernel
theorem dX3_away_22 : decode cX3_away 22 = .ok (.ifCond .eq 6, 3) := by decide +kernel
theorem dX3_away_25 : decode cX3_away 25 = .ok (.iload 4, 2) := by decide +kernel
theorem dX3_away_27 : decode cX3_away 27 = .ok (.ireturn, 1) := by decide +kernel
theorem dX3_away_28 : decode cX3_away 28 = .ok (.bipush 8, 2) := by decide +kernel
theorem dX3_away_30 : decode cX3_away 30 = .ok (.newarray .boolean, 2) := by decide +kernel
theorem dX3_away_32 : decode cX3_away 32 = .ok (.astore 5, 2) := by decide +kernel
theorem dX3_away_34 : decode cX3_away 34 = .ok (.iconst 0, 1) := by decide +kernel
theorem dX3_away_35 : decode cX3_away 35 = .ok (.istore 6, 2) := by decide +kernel
theorem dX3_away_37 : decode cX3_away 37 = .ok (.iload 6, 2) := by decide +kernel
theorem dX3_away_39 : decode cX3_away 39 = .ok (.aload_n 0, 1) := by decide +kernel
theorem dX3_away_40 : decode cX3_away 40 = .ok (.getfield 43, 3) := by decide +kernel
theorem dX3_away_43 : decode cX3_away 43 = .ok (.if_icmp .ge 83, 3) := by decide +kernel
theorem dX3_away_46 : decode cX3_away 46 = .ok (.aload 5, 2) := by decide +kernel
theorem dX3_away_48 : decode cX3_away 48 = .ok (.iload 6, 2) := by decide +kernel
theorem dX3_away_50 : decode cX3_away 50 = .ok (.aload_n 3, 1) := by decide +kernel
theorem dX3_away_51 : decode cX3_away 51 = .ok (.iload 6, 2) := by decide +kernel
theorem dX3_away_53 : decode cX3_away 53 = .ok (.baload, 1) := by decide +kernel
theorem dX3_away_54 : decode cX3_away 54 = .ok (.bastore, 1) := by decide +kernel
theorem dX3_away_55 : decode cX3_away 55 = .ok (.iconst 0, 1) := by decide +kernel
theorem dX3_away_56 : decode cX3_away 56 = .ok (.istore 7, 2) := by decide +kernel
theorem dX3_away_58 : decode cX3_away 58 = .ok (.iload 7, 2) := by decide +kernel
theorem dX3_away_60 : decode cX3_away 60 = .ok (.aload_n 0, 1) := by decide +kernel
theorem dX3_away_61 : decode cX3_away 61 = .ok (.getfield 43, 3) := by decide +kernel
theorem dX3_away_64 : decode cX3_away 64 = .ok (.if_icmp .ge 56, 3) := by decide +kernel
theorem dX3_away_67 : decode cX3_away 67 = .ok (.aload 5, 2) := by decide +kernel
theorem dX3_away_69 : decode cX3_away 69 = .ok (.iload 6, 2) := by decide +kernel
theorem dX3_away_71 : decode cX3_away 71 = .ok (.dup2, 1) := by decide +kernel
theorem dX3_away_72 : decode cX3_away 72 = .ok (.baload, 1) := by decide +kernel
theorem dX3_away_73 : decode cX3_away 73 = .ok (.aload_n 3, 1) := by decide +kernel
theorem dX3_away_74 : decode cX3_away 74 = .ok (.iload 7, 2) := by decide +kernel
theorem dX3_away_76 : decode cX3_away 76 = .ok (.baload, 1) := by decide +kernel
theorem dX3_away_77 : decode cX3_away 77 = .ok (.ifCond .eq 34, 3) := by decide +kernel
theorem dX3_away_80 : decode cX3_away 80 = .ok (.aload_n 0, 1) := by decide +kernel
theorem dX3_away_81 : decode cX3_away 81 = .ok (.iload 7, 2) := by decide +kernel
theorem dX3_away_83 : decode cX3_away 83 = .ok (.iload 6, 2) := by decide +kernel
theorem dX3_away_85 : decode cX3_away 85 = .ok (.invokevirtual 64, 3) := by decide +kernel
theorem dX3_away_88 : decode cX3_away 88 = .ok (.ifCond .lt 23, 3) := by decide +kernel
theorem dX3_away_91 : decode cX3_away 91 = .ok (.aload_n 0, 1) := by decide +kernel
theorem dX3_away_92 : decode cX3_away 92 = .ok (.getfield 29, 3) := by decide +kernel
theorem dX3_away_95 : decode cX3_away 95 = .ok (.aload_n 0, 1) := by decide +kernel
theorem dX3_away_96 : decode cX3_away 96 = .ok (.iload 7, 2) := by decide +kernel
theorem dX3_away_98 : decode cX3_away 98 = .ok (.iload 6, 2) := by decide +kernel
theorem dX3_away_100 : decode cX3_away 100 = .ok (.invokevirtual 64, 3) := by decide +kernel
theorem dX3_away_103 : decode cX3_away 103 = .ok (.baload, 1) := by decide +kernel
theorem dX3_away_104 : decode cX3_away 104 = .ok (.ifCond .ne 7, 3) := by decide +kernel
theorem dX3_away_107 : decode cX3_away 107 = .ok (.iconst 1, 1) := by decide +kernel
theorem dX3_away_108 : decode cX3_away 108 = .ok (.goto 4, 3) := by decide +kernel
theorem dX3_away_111 : decode cX3_away 111 = .ok (.iconst 0, 1) := by decide +kernel
theorem dX3_away_112 : decode cX3_away 112 = .ok (.ior, 1) := by decide +kernel
theorem dX3_away_113 : decode cX3_away 113 = .ok (.bastore, 1) := by decide +kernel
theorem dX3_away_114 : decode cX3_away 114 = .ok (.iinc 7 1, 3) := by decide +kernel
theorem dX3_away_117 : decode cX3_away 117 = .ok (.goto (-59), 3) := by decide +kernel
theorem dX3_away_120 : decode cX3_away 120 = .ok (.iinc 6 1, 3) := by decide +kernel
theorem dX3_away_123 : decode cX3_away 123 = .ok (.goto (-86), 3) := by decide +kernel
theorem dX3_away_126 : decode cX3_away 126 = .ok (.aload 5, 2) := by decide +kernel
theorem dX3_away_128 : decode cX3_away 128 = .ok (.astore_n 3, 1) := by decide +kernel
theorem dX3_away_129 : decode cX3_away 129 = .ok (.iinc 4 1, 3) := by decide +kernel
theorem dX3_away_132 : decode cX3_away 132 = .ok (.goto (-120), 3) := by decide +kernel
theorem dX3_away_135 : decode cX3_away 135 = .ok (.iconst (-1), 1) := by decide +kernel
theorem dX3_away_136 : decode cX3_away 136 = .ok (.ireturn, 1) := by decide +kernel
set_option maxRecDepth 20000 in
theorem ggX3_distance_X3_areNoRooms : GoodIn wsX3_distance wsX3_areNoRooms := goodIn_r _ [5, 6, 7, 8, 9, 4, 10, 11, 12, 13, 14, 15, 16, 17, 18, 19, 20, 21, 22, 36, 37, 38, 39, 40, 41, 42, 43, 44, 45, 46, 47, 48, 49, 50, 51, 52, 53, 54, 55] (by decide +kernel) (by decide +kernel)
set_option maxRecDepth 20000 in
theorem gX3_distance_X3_areNoRooms : GoodIn wsX3_distance (wsV RX3 60 RX3 yX3_areNoRooms wsX3_areNoRooms) := goodIn_app (goodIn_of _ (by decide +kernel)) ggX3_distance_X3_areNoRooms
set_option maxRecDepth 20000 in
theorem ggX3_distance_X3_away : GoodIn wsX3_distance wsX3_away := goodIn_r _ [26, 27, 6, 28, 29, 30, 31, 4, 32, 33, 34, 35, 36, 37, 38, 39, 40, 41, 42, 43, 44, 45, 46, 47, 48, 49, 50, 51, 52, 53, 54, 55] (by decide +kernel) (by decide +kernel)
set_option maxRecDepth 20000 in
theorem gX3_distance_X3_away : GoodIn wsX3_distance (wsV RX3 104 RX3 yX3_away wsX3_away) := goodIn_app (goodIn_of _ (by decide +kernel)) ggX3_distance_X3_away
theorem dX3_distance_0 : decode cX3_distance 0 = .ok (.aload_n 0, 1) := by decide +kernel
theorem dX3_distance_1 : decode cX3_distance 1 = .ok (.iload_n 1, 1) := by decide +kernel
theorem dX3_distance_2 : decode cX3_distance 2 = .ok (.iload_n 2, 1) := by decide +kernel
theorem dX3_distance_3 : decode cX3_distance 3 = .ok (.invokevirtual 60, 3) := by decide +kernel
theorem dX3_distance_6 : decode cX3_distance 6 = .ok (.ifCond .eq 7, 3) := by decide +kernel
theorem dX3_distance_9 : decode cX3_distance 9 = .ok (.iconst 0, 1) := by decide +kernel
theorem dX3_distance_10 : decode cX3_distance 10 = .ok (.goto 9, 3) := by decide +kernel
theorem dX3_distance_13 : decode cX3_distance 13 = .ok (.aload_n 0, 1) := by decide +kernel
theorem dX3_distance_14 : decode cX3_distance 14 = .ok (.iload_n 1, 1) := by decide +kernel
theorem dX3_distance_15 : decode cX3_distance 15 = .ok (.iload_n 2, 1) := by decide +kernel
theorem dX3_distance_16 : decode cX3_distance 16 = .ok (.invokevirtual 104, 3) := by decide +kernel
theorem dX3_distance_19 : decode cX3_distance 19 = .ok (.ireturn, 1) := by decide +kernel
set_option maxRecDepth 20000 in
theorem ggX3_arrives_X3_isWay : GoodIn wsX3_arrives wsX3_isWay := goodIn_r _ [9, 10, 11, 12, 8, 13, 14, 15, 16, 17, 18, 19, 20, 21, 22, 23, 24, 25, 26, 27, 28, 29, 30, 31, 32, 33, 34, 35, 36, 37, 38, 39, 40, 41, 42, 43] (by decide +kernel) (by decide +kernel)
set_option maxRecDepth 20000 in
theorem gX3_arrives_X3_isWay : GoodIn wsX3_arrives (wsV RX3 78 RX3 yX3_isWay wsX3_isWay) := goodIn_app (goodIn_of _ (by decide +kernel)) ggX3_arrives_X3_isWay
theorem dX3_arrives_0 : decode cX3_arrives 0 = .ok (.bipush 8, 2) := by decide +kernel
theorem dX3_arrives_2 : decode cX3_arrives 2 = .ok (.newarray .boolean, 2) := by decide +kernel
theorem dX3_arrives_4 : decode cX3_arrives 4 = .ok (.astore 4, 2) := by decide +kernel
theorem dX3_arrives_6 : decode cX3_arrives 6 = .ok (.aload 4, 2) := by decide +kernel
theorem dX3_arrives_8 : decode cX3_arrives 8 = .ok (.iload_n 1, 1) := by decide +kernel
theorem dX3_arrives_9 : decode cX3_arrives 9 = .ok (.iconst 1, 1) := by decide +kernel
theorem dX3_arrives_10 : decode cX3_arrives 10 = .ok (.bastore, 1) := by decide +kernel
theorem dX3_arrives_11 : decode cX3_arrives 11 = .ok (.iconst 0, 1) := by decide +kernel
theorem dX3_arrives_12 : decode cX3_arrives 12 = .ok (.istore 5, 2) := by decide +kernel
theorem dX3_arrives_14 : decode cX3_arrives 14 = .ok (.iload 5, 2) := by decide +kernel
theorem dX3_arrives_16 : decode cX3_arrives 16 = .ok (.bipush 108, 2) := by decide +kernel
theorem dX3_arrives_18 : decode cX3_arrives 18 = .ok (.if_icmp .gt 143, 3) := by decide +kernel
theorem dX3_arrives_21 : decode cX3_arrives 21 = .ok (.aload 4, 2) := by decide +kernel
theorem dX3_arrives_23 : decode cX3_arrives 23 = .ok (.iload_n 2, 1) := by decide +kernel
theorem dX3_arrives_24 : decode cX3_arrives 24 = .ok (.baload, 1) := by decide +kernel
theorem dX3_arrives_25 : decode cX3_arrives 25 = .ok (.ifCond .eq 6, 3) := by decide +kernel
theorem dX3_arrives_28 : decode cX3_arrives 28 = .ok (.iload 5, 2) := by decide +kernel
theorem dX3_arrives_30 : decode cX3_arrives 30 = .ok (.ireturn, 1) := by decide +kernel
theorem dX3_arrives_31 : decode cX3_arrives 31 = .ok (.aload_n 0, 1) := by decide +kernel
theorem dX3_arrives_32 : decode cX3_arrives 32 = .ok (.getfield 92, 3) := by decide +kernel
theorem dX3_arrives_35 : decode cX3_arrives 35 = .ok (.iload 5, 2) := by decide +kernel
theorem dX3_arrives_37 : decode cX3_arrives 37 = .ok (.iadd, 1) := by decide +kernel
theorem dX3_arrives_38 : decode cX3_arrives 38 = .ok (.iconst 2, 1) := by decide +kernel
theorem dX3_arrives_39 : decode cX3_arrives 39 = .ok (.irem, 1) := by decide +kernel
theorem dX3_arrives_40 : decode cX3_arrives 40 = .ok (.iconst 1, 1) := by decide +kernel
theorem dX3_arrives_41 : decode cX3_arrives 41 = .ok (.if_icmp .ne 7, 3) := by decide +kernel
theorem dX3_arrives_44 : decode cX3_arrives 44 = .ok (.iconst 1, 1) := by decide +kernel
theorem dX3_arrives_45 : decode cX3_arrives 45 = .ok (.goto 4, 3) := by decide +kernel
theorem dX3_arrives_48 : decode cX3_arrives 48 = .ok (.iconst 0, 1) := by decide +kernel
theorem dX3_arrives_49 : decode cX3_arrives 49 = .ok (.iload_n 3, 1) := by decide +kernel
theorem dX3_arrives_50 : decode cX3_arrives 50 = .ok (.if_icmp .eq 6, 3) := by decide +kernel
theorem dX3_arrives_53 : decode cX3_arrives 53 = .ok (.goto 102, 3) := by decide +kernel
theorem dX3_arrives_56 : decode cX3_arrives 56 = .ok (.bipush 8, 2) := by decide +kernel
theorem dX3_arrives_58 : decode cX3_arrives 58 = .ok (.newarray .boolean, 2) := by decide +kernel
theorem dX3_arrives_60 : decode cX3_arrives 60 = .ok (.astore 6, 2) := by decide +kernel
theorem dX3_arrives_62 : decode cX3_arrives 62 = .ok (.iconst 0, 1) := by decide +kernel
theorem dX3_arrives_63 : decode cX3_arrives 63 = .ok (.istore 7, 2) := by decide +kernel
theorem dX3_arrives_65 : decode cX3_arrives 65 = .ok (.iload 7, 2) := by decide +kernel
theorem dX3_arrives_67 : decode cX3_arrives 67 = .ok (.aload_n 0, 1) := by decide +kernel
theorem dX3_arrives_68 : decode cX3_arrives 68 = .ok (.getfield 43, 3) := by decide +kernel
theorem dX3_arrives_71 : decode cX3_arrives 71 = .ok (.if_icmp .ge 80, 3) := by decide +kernel
theorem dX3_arrives_74 : decode cX3_arrives 74 = .ok (.iconst 0, 1) := by decide +kernel
theorem dX3_arrives_75 : decode cX3_arrives 75 = .ok (.istore 8, 2) := by decide +kernel
theorem dX3_arrives_77 : decode cX3_arrives 77 = .ok (.iload 8, 2) := by decide +kernel
theorem dX3_arrives_79 : decode cX3_arrives 79 = .ok (.aload_n 0, 1) := by decide +kernel
theorem dX3_arrives_80 : decode cX3_arrives 80 = .ok (.getfield 43, 3) := by decide +kernel
theorem dX3_arrives_83 : decode cX3_arrives 83 = .ok (.if_icmp .ge 62, 3) := by decide +kernel
theorem dX3_arrives_86 : decode cX3_arrives 86 = .ok (.aload 6, 2) := by decide +kernel
theorem dX3_arrives_88 : decode cX3_arrives 88 = .ok (.iload 7, 2) := by decide +kernel
theorem dX3_arrives_90 : decode cX3_arrives 90 = .ok (.dup2, 1) := by decide +kernel
theorem dX3_arrives_91 : decode cX3_arrives 91 = .ok (.baload, 1) := by decide +kernel
theorem dX3_arrives_92 : decode cX3_arrives 92 = .ok (.aload 4, 2) := by decide +kernel
theorem dX3_arrives_94 : decode cX3_arrives 94 = .ok (.iload 8, 2) := by decide +kernel
theorem dX3_arrives_96 : decode cX3_arrives 96 = .ok (.baload, 1) := by decide +kernel
theorem dX3_arrives_97 : decode cX3_arrives 97 = .ok (.ifCond .eq 39, 3) := by decide +kernel
theorem dX3_arrives_100 : decode cX3_arrives 100 = .ok (.aload_n 0, 1) := by decide +kernel
theorem dX3_arrives_101 : decode cX3_arrives 101 = .ok (.iload 8, 2) := by decide +kernel
theorem dX3_arrives_103 : decode cX3_arrives 103 = .ok (.iload 7, 2) := by decide +kernel
theorem dX3_arrives_105 : decode cX3_arrives 105 = .ok (.aload_n 0, 1) := by decide +kernel
theorem dX3_arrives_106 : decode cX3_arrives 106 = .ok (.getfield 92, 3) := by decide +kernel
theorem dX3_arrives_109 : decode cX3_arrives 109 = .ok (.iload 5, 2) := by decide +kernel
theorem dX3_arrives_111 : decode cX3_arrives 111 = .ok (.iadd, 1) := by decide +kernel
theorem dX3_arrives_112 : decode cX3_arrives 112 = .ok (.invokevirtual 78, 3) := by decide +kernel
theorem dX3_arrives_115 : decode cX3_arrives 115 = .ok (.ifCond .eq 21, 3) := by decide +kernel
theorem dX3_arrives_118 : decode cX3_arrives 118 = .ok (.iload_n 3, 1) := by decide +kernel
theorem dX3_arrives_119 : decode cX3_arrives 119 = .ok (.ifCond .eq 13, 3) := by decide +kernel
theorem dX3_arrives_122 : decode cX3_arrives 122 = .ok (.aload_n 0, 1) := by decide +kernel
theorem dX3_arrives_123 : decode cX3_arrives 123 = .ok (.getfield 9, 3) := by decide +kernel
theorem dX3_arrives_126 : decode cX3_arrives 126 = .ok (.iload 7, 2) := by decide +kernel
theorem dX3_arrives_128 : decode cX3_arrives 128 = .ok (.baload, 1) := by decide +kernel
theorem dX3_arrives_129 : decode cX3_arrives 129 = .ok (.ifCond .ne 7, 3) := by decide +kernel
theorem dX3_arrives_132 : decode cX3_arrives 132 = .ok (.iconst 1, 1) := by decide +kernel
theorem dX3_arrives_133 : decode cX3_arrives 133 = .ok (.goto 4, 3) := by decide +kernel
theorem dX3_arrives_136 : decode cX3_arrives 136 = .ok (.iconst 0, 1) := by decide +kernel
theorem dX3_arrives_137 : decode cX3_arrives 137 = .ok (.ior, 1) := by decide +kernel
theorem dX3_arrives_138 : decode cX3_arrives 138 = .ok (.bastore, 1) := by decide +kernel
theorem dX3_arrives_139 : decode cX3_arrives 139 = .ok (.iinc 8 1, 3) := by decide +kernel
theorem dX3_arrives_142 : decode cX3_arrives 142 = .ok (.goto (-65), 3) := by decide +kernel
theorem dX3_arrives_145 : decode cX3_arrives 145 = .ok (.iinc 7 1, 3) := by decide +kernel
theorem dX3_arrives_148 : decode cX3_arrives 148 = .ok (.goto (-83), 3) := by decide +kernel
theorem dX3_arrives_151 : decode cX3_arrives 151 = .ok (.aload 6, 2) := by decide +kernel
theorem dX3_arrives_153 : decode cX3_arrives 153 = .ok (.astore 4, 2) := by decide +kernel
theorem dX3_arrives_155 : decode cX3_arrives 155 = .ok (.iinc 5 1, 3) := by decide +kernel
theorem dX3_arrives_158 : decode cX3_arrives 158 = .ok (.goto (-144), 3) := by decide +kernel
theorem dX3_arrives_161 : decode cX3_arrives 161 = .ok (.iconst (-1), 1) := by decide +kernel
theorem dX3_arrives_162 : decode cX3_arrives 162 = .ok (.ireturn, 1) := by decide +kernel
set_option maxRecDepth 20000 in
theorem ggX3_isNoneOn_X3_isNoRoom : GoodIn wsX3_isNoneOn wsX3_isNoRoom := goodIn_r _ [6, 7, 8, 9, 5, 10, 11, 12, 13, 14, 15, 16, 17, 18, 19, 20, 21, 22, 23, 24, 25, 26, 27, 28, 29, 30, 31, 32, 33, 34, 35, 36, 37, 38, 39] (by decide +kernel) (by decide +kernel)
set_option maxRecDepth 20000 in
theorem gX3_isNoneOn_X3_isNoRoom : GoodIn wsX3_isNoneOn (wsV RX3 53 RX3 yX3_isNoRoom wsX3_isNoRoom) := goodIn_app (goodIn_of _ (by decide +kernel)) ggX3_isNoneOn_X3_isNoRoom
set_option maxRecDepth 20000 in
theorem ggX3_isNoneOn_X3_refuse : GoodIn wsX3_isNoneOn wsX3_refuse := goodIn_r _ [19, 15, 20, 21, 22, 23, 24, 25, 26, 27, 28, 29, 30, 31, 32, 33, 34, 35, 36, 37, 38, 39] (by decide +kernel) (by decide +kernel)
set_option maxRecDepth 20000 in
theorem gX3_isNoneOn_X3_refuse : GoodIn wsX3_isNoneOn (wsV RX3 39 RX3 yX3_refuse wsX3_refuse) := goodIn_app (goodIn_of _ (by decide +kernel)) ggX3_isNoneOn_X3_refuse
theorem dX3_isNoneOn_0 : decode cX3_isNoneOn 0 = .ok (.aload_n 0, 1) := by decide +kernel
theorem dX3_isNoneOn_1 : decode cX3_isNoneOn 1 = .ok (.iload_n 1, 1) := by decide +kernel
theorem dX3_isNoneOn_2 : decode cX3_isNoneOn 2 = .ok (.invokevirtual 53, 3) := by decide +kernel
theorem dX3_isNoneOn_5 : decode cX3_isNoneOn 5 = .ok (.ifCond .ne 23, 3) := by decide +kernel
theorem dX3_isNoneOn_8 : decode cX3_isNoneOn 8 = .ok (.aload_n 0, 1) := by decide +kernel
theorem dX3_isNoneOn_9 : decode cX3_isNoneOn 9 = .ok (.aload_n 0, 1) := by decide +kernel
theorem dX3_isNoneOn_10 : decode cX3_isNoneOn 10 = .ok (.getfield 85, 3) := by decide +kernel
theorem dX3_isNoneOn_13 : decode cX3_isNoneOn 13 = .ok (.ifCond .ne 7, 3) := by decide +kernel
theorem dX3_isNoneOn_16 : decode cX3_isNoneOn 16 = .ok (.iconst 1, 1) := by decide +kernel
theorem dX3_isNoneOn_17 : decode cX3_isNoneOn 17 = .ok (.goto 4, 3) := by decide +kernel
theorem dX3_isNoneOn_20 : decode cX3_isNoneOn 20 = .ok (.iconst 0, 1) := by decide +kernel
theorem dX3_isNoneOn_21 : decode cX3_isNoneOn 21 = .ok (.iconst 2, 1) := by decide +kernel
theorem dX3_isNoneOn_22 : decode cX3_isNoneOn 22 = .ok (.invokevirtual 39, 3) := by decide +kernel
theorem dX3_isNoneOn_25 : decode cX3_isNoneOn 25 = .ok (.ifCond .eq 7, 3) := by decide +kernel
theorem dX3_isNoneOn_28 : decode cX3_isNoneOn 28 = .ok (.iconst 1, 1) := by decide +kernel
theorem dX3_isNoneOn_29 : decode cX3_isNoneOn 29 = .ok (.goto 4, 3) := by decide +kernel
theorem dX3_isNoneOn_32 : decode cX3_isNoneOn 32 = .ok (.iconst 0, 1) := by decide +kernel
theorem dX3_isNoneOn_33 : decode cX3_isNoneOn 33 = .ok (.ireturn, 1) := by decide +kernel
set_option maxRecDepth 20000 in
theorem ggX3_catArrives_X3_isNoneOn : GoodIn wsX3_catArrives wsX3_isNoneOn := goodIn_r _ [6, 7, 8, 9, 10, 5, 11, 12, 13, 14, 15, 16, 17, 18, 19, 20, 21, 22, 23, 24, 50, 51, 52, 53, 54, 55, 56, 57, 58, 59, 60, 61, 62, 63, 64, 65, 66, 67, 68, 69] (by decide +kernel) (by decide +kernel)
set_option maxRecDepth 20000 in
theorem gX3_catArrives_X3_isNoneOn : GoodIn wsX3_catArrives (wsV RX3 137 RX3 yX3_isNoneOn wsX3_isNoneOn) := goodIn_app (goodIn_of _ (by decide +kernel)) ggX3_catArrives_X3_isNoneOn
set_option maxRecDepth 20000 in
theorem ggX3_catArrives_X3_arrives : GoodIn wsX3_catArrives wsX3_arrives := goodIn_r _ [28, 29, 30, 12, 31, 32, 33, 34, 5, 35, 36, 37, 38, 39, 40, 41, 42, 43, 44, 45, 46, 47, 48, 49, 50, 51, 52, 53, 54, 55, 56, 57, 58, 59, 60, 61, 62, 63, 64, 65, 66, 67, 68, 69] (by decide +kernel) (by decide +kernel)
set_option maxRecDepth 20000 in
theorem gX3_catArrives_X3_arrives : GoodIn wsX3_catArrives (wsV RX3 140 RX3 yX3_arrives wsX3_arrives) := goodIn_app (goodIn_of _ (by decide +kernel)) ggX3_catArrives_X3_arrives
theorem dX3_catArrives_0 : decode cX3_catArrives 0 = .ok (.aload_n 0, 1) := by decide +kernel
theorem dX3_catArrives_1 : decode cX3_catArrives 1 = .ok (.iload_n 1, 1) := by decide +kernel
theorem dX3_catArrives_2 : decode cX3_catArrives 2 = .ok (.invokevirtual 137, 3) := by decide +kernel
theorem dX3_catArrives_5 : decode cX3_catArrives 5 = .ok (.ifCond .eq 7, 3) := by decide +kernel
theorem dX3_catArrives_8 : decode cX3_catArrives 8 = .ok (.iconst 0, 1) := by decide +kernel
theorem dX3_catArrives_9 : decode cX3_catArrives 9 = .ok (.goto 13, 3) := by decide +kernel
theorem dX3_catArrives_12 : decode cX3_catArrives 12 = .ok (.aload_n 0, 1) := by decide +kernel
theorem dX3_catArrives_13 : decode cX3_catArrives 13 = .ok (.aload_n 0, 1) := by decide +kernel
theorem dX3_catArrives_14 : decode cX3_catArrives 14 = .ok (.getfield 95, 3) := by decide +kernel
theorem dX3_catArrives_17 : decode cX3_catArrives 17 = .ok (.iload_n 1, 1) := by decide +kernel
theorem dX3_catArrives_18 : decode cX3_catArrives 18 = .ok (.iconst 1, 1) := by decide +kernel
theorem dX3_catArrives_19 : decode cX3_catArrives 19 = .ok (.invokevirtual 140, 3) := by decide +kernel
theorem dX3_catArrives_22 : decode cX3_catArrives 22 = .ok (.ireturn, 1) := by decide +kernel
set_option maxRecDepth 20000 in
theorem ggX3_mouseArrives_X3_isNoneOn : GoodIn wsX3_mouseArrives wsX3_isNoneOn := goodIn_r _ [6, 7, 8, 9, 10, 5, 11, 12, 13, 14, 15, 16, 17, 18, 19, 20, 21, 22, 23, 24, 50, 51, 52, 53, 54, 55, 56, 57, 58, 59, 60, 61, 62, 63, 64, 65, 66, 67, 68, 69] (by decide +kernel) (by decide +kernel)
set_option maxRecDepth 20000 in
theorem gX3_mouseArrives_X3_isNoneOn : GoodIn wsX3_mouseArrives (wsV RX3 137 RX3 yX3_isNoneOn wsX3_isNoneOn) := goodIn_app (goodIn_of _ (by decide +kernel)) ggX3_mouseArrives_X3_isNoneOn
set_option maxRecDepth 20000 in
theorem ggX3_mouseArrives_X3_arrives : GoodIn wsX3_mouseArrives wsX3_arrives := goodIn_r _ [28, 29, 30, 12, 31, 32, 33, 34, 5, 35, 36, 37, 38, 39, 40, 41, 42, 43, 44, 45, 46, 47, 48, 49, 50, 51, 52, 53, 54, 55, 56, 57, 58, 59, 60, 61, 62, 63, 64, 65, 66, 67, 68, 69] (by decide +kernel) (by decide +kernel)
set_option maxRecDepth 20000 in
theorem gX3_mouseArrives_X3_arrives : GoodIn wsX3_mouseArrives (wsV RX3 140 RX3 yX3_arrives wsX3_arrives) := goodIn_app (goodIn_of _ (by decide +kernel)) ggX3_mouseArrives_X3_arrives
theorem dX3_mouseArrives_0 : decode cX3_mouseArrives 0 = .ok (.aload_n 0, 1) := by decide +kernel
theorem dX3_mouseArrives_1 : decode cX3_mouseArrives 1 = .ok (.iload_n 1, 1) := by decide +kernel
theorem dX3_mouseArrives_2 : decode cX3_mouseArrives 2 = .ok (.invokevirtual 137, 3) := by decide +kernel
theorem dX3_mouseArrives_5 : decode cX3_mouseArrives 5 = .ok (.ifCond .eq 7, 3) := by decide +kernel
theorem dX3_mouseArrives_8 : decode cX3_mouseArrives 8 = .ok (.iconst 0, 1) := by decide +kernel
theorem dX3_mouseArrives_9 : decode cX3_mouseArrives 9 = .ok (.goto 13, 3) := by decide +kernel
theorem dX3_mouseArrives_12 : decode cX3_mouseArrives 12 = .ok (.aload_n 0, 1) := by decide +kernel
theorem dX3_mouseArrives_13 : decode cX3_mouseArrives 13 = .ok (.aload_n 0, 1) := by decide +kernel
theorem dX3_mouseArrives_14 : decode cX3_mouseArrives 14 = .ok (.getfield 98, 3) := by decide +kernel
theorem dX3_mouseArrives_17 : decode cX3_mouseArrives 17 = .ok (.iload_n 1, 1) := by decide +kernel
theorem dX3_mouseArrives_18 : decode cX3_mouseArrives 18 = .ok (.iconst 0, 1) := by decide +kernel
theorem dX3_mouseArrives_19 : decode cX3_mouseArrives 19 = .ok (.invokevirtual 140, 3) := by decide +kernel
theorem dX3_mouseArrives_22 : decode cX3_mouseArrives 22 = .ok (.ireturn, 1) := by decide +kernel
set_option maxRecDepth 20000 in
theorem ggX3_turnsToCatch_X3_toCatch : GoodIn wsX3_turnsToCatch wsX3_toCatch := goodIn_r _ [5, 6, 7, 8, 9, 10, 11, 12, 13, 4, 14, 15, 16, 17, 18, 19, 20, 21, 22, 23, 24, 25, 26, 27, 28, 29, 30, 31, 32, 33, 34, 35, 36, 37, 38, 39, 40, 41, 42, 48, 49, 50, 51, 52, 53, 54, 55, 56, 57, 58, 59, 60, 61, 62, 63, 64, 65, 66, 67] (by decide +kernel) (by decide +kernel)
set_option maxRecDepth 20000 in
theorem gX3_turnsToCatch_X3_toCatch : GoodIn wsX3_turnsToCatch (wsV RX3 113 RX3 yX3_toCatch wsX3_toCatch) := goodIn_app (goodIn_of _ (by decide +kernel)) ggX3_turnsToCatch_X3_toCatch
set_option maxRecDepth 20000 in
theorem ggX3_turnsToCatch_X3_plain : GoodIn wsX3_turnsToCatch wsX3_plain := goodIn_r _ [46, 47, 48, 49, 50, 51, 52, 53, 54, 55, 56, 57, 58, 59, 60, 61, 62, 63, 64, 65, 66, 67] (by decide +kernel) (by decide +kernel)
set_option maxRecDepth 20000 in
theorem gX3_turnsToCatch_X3_plain : GoodIn wsX3_turnsToCatch (wsV RX3 124 RX3 yX3_plain wsX3_plain) := goodIn_app (goodIn_of _ (by decide +kernel)) ggX3_turnsToCatch_X3_plain
theorem dX3_turnsToCatch_0 : decode cX3_turnsToCatch 0 = .ok (.aload_n 0, 1) := by decide +kernel
theorem dX3_turnsToCatch_1 : decode cX3_turnsToCatch 1 = .ok (.aload_n 0, 1) := by decide +kernel
theorem dX3_turnsToCatch_2 : decode cX3_turnsToCatch 2 = .ok (.invokevirtual 113, 3) := by decide +kernel
theorem dX3_turnsToCatch_5 : decode cX3_turnsToCatch 5 = .ok (.invokevirtual 124, 3) := by decide +kernel
theorem dX3_turnsToCatch_8 : decode cX3_turnsToCatch 8 = .ok (.ireturn, 1) := by decide +kernel
set_option maxRecDepth 20000 in
theorem ggX3_turnsFrom_X3_areNoRooms : GoodIn wsX3_turnsFrom wsX3_areNoRooms := goodIn_r _ [8, 9, 10, 11, 12, 7, 13, 14, 15, 16, 17, 18, 19, 20, 21, 22, 23, 24, 25, 56, 57, 58, 59, 60, 61, 62, 63, 64, 65, 66, 67, 68, 69, 70, 71, 72, 73, 74, 75] (by decide +kernel) (by decide +kernel)
set_option maxRecDepth 20000 in
theorem gX3_turnsFrom_X3_areNoRooms : GoodIn wsX3_turnsFrom (wsV RX3 60 RX3 yX3_areNoRooms wsX3_areNoRooms) := goodIn_app (goodIn_of _ (by decide +kernel)) ggX3_turnsFrom_X3_areNoRooms
set_option maxRecDepth 20000 in
theorem ggX3_turnsFrom_X3_refuse : GoodIn wsX3_turnsFrom wsX3_refuse := goodIn_r _ [25, 21, 56, 57, 58, 59, 60, 61, 62, 63, 64, 65, 66, 67, 68, 69, 70, 71, 72, 73, 74, 75] (by decide +kernel) (by decide +kernel)
set_option maxRecDepth 20000 in
theorem gX3_turnsFrom_X3_refuse : GoodIn wsX3_turnsFrom (wsV RX3 39 RX3 yX3_refuse wsX3_refuse) := goodIn_app (goodIn_of _ (by decide +kernel)) ggX3_turnsFrom_X3_refuse
set_option maxRecDepth 20000 in
theorem ggX3_turnsFrom_X3_reckon : GoodIn wsX3_turnsFrom wsX3_reckon := goodIn_r _ [29, 30, 9, 2, 1, 31, 32, 7, 33, 34, 35, 36, 37, 38, 39, 40, 41, 42, 43, 44, 45, 46, 47, 48, 49, 50, 51, 52, 53, 54, 55, 56, 57, 58, 59, 60, 61, 62, 63, 64, 65, 66, 67, 68, 69, 70, 71, 72, 73, 74, 75] (by decide +kernel) (by decide +kernel)
set_option maxRecDepth 20000 in
theorem gX3_turnsFrom_X3_reckon : GoodIn wsX3_turnsFrom (wsV RX3 89 RX3 yX3_reckon wsX3_reckon) := goodIn_app (goodIn_of _ (by decide +kernel)) ggX3_turnsFrom_X3_reckon
set_option maxRecDepth 20000 in
theorem ggX3_turnsFrom_X3_place : GoodIn wsX3_turnsFrom wsX3_place := goodIn_r _ [33] (by decide +kernel) (by decide +kernel)
set_option maxRecDepth 20000 in
theorem gX3_turnsFrom_X3_place : GoodIn wsX3_turnsFrom (va_wsS RX3 74 yX3_place wsX3_place) := goodIn_app (goodIn_of _ (by decide +kernel)) ggX3_turnsFrom_X3_place
theorem dX3_turnsFrom_0 : decode cX3_turnsFrom 0 = .ok (.aload_n 0, 1) := by decide +kernel
theorem dX3_turnsFrom_1 : decode cX3_turnsFrom 1 = .ok (.iload_n 1, 1) := by decide +kernel
theorem dX3_turnsFrom_2 : decode cX3_turnsFrom 2 = .ok (.iload_n 2, 1) := by decide +kernel
theorem dX3_turnsFrom_3 : decode cX3_turnsFrom 3 = .ok (.invokevirtual 60, 3) := by decide +kernel
theorem dX3_turnsFrom_6 : decode cX3_turnsFrom 6 = .ok (.ifCond .ne 17, 3) := by decide +kernel
theorem dX3_turnsFrom_9 : decode cX3_turnsFrom 9 = .ok (.aload_n 0, 1) := by decide +kernel
theorem dX3_turnsFrom_10 : decode cX3_turnsFrom 10 = .ok (.aload_n 0, 1) := by decide +kernel
theorem dX3_turnsFrom_11 : decode cX3_turnsFrom 11 = .ok (.getfield 9, 3) := by decide +kernel
theorem dX3_turnsFrom_14 : decode cX3_turnsFrom 14 = .ok (.iload_n 1, 1) := by decide +kernel
theorem dX3_turnsFrom_15 : decode cX3_turnsFrom 15 = .ok (.baload, 1) := by decide +kernel
theorem dX3_turnsFrom_16 : decode cX3_turnsFrom 16 = .ok (.iconst 2, 1) := by decide +kernel
theorem dX3_turnsFrom_17 : decode cX3_turnsFrom 17 = .ok (.invokevirtual 39, 3) := by decide +kernel
theorem dX3_turnsFrom_20 : decode cX3_turnsFrom 20 = .ok (.ifCond .eq 5, 3) := by decide +kernel
theorem dX3_turnsFrom_23 : decode cX3_turnsFrom 23 = .ok (.iconst 0, 1) := by decide +kernel
theorem dX3_turnsFrom_24 : decode cX3_turnsFrom 24 = .ok (.ireturn, 1) := by decide +kernel
theorem dX3_turnsFrom_25 : decode cX3_turnsFrom 25 = .ok (.aload_n 0, 1) := by decide +kernel
theorem dX3_turnsFrom_26 : decode cX3_turnsFrom 26 = .ok (.invokevirtual 89, 3) := by decide +kernel
theorem dX3_turnsFrom_29 : decode cX3_turnsFrom 29 = .ok (.aload_n 0, 1) := by decide +kernel
theorem dX3_turnsFrom_30 : decode cX3_turnsFrom 30 = .ok (.getfield 32, 3) := by decide +kernel
theorem dX3_turnsFrom_33 : decode cX3_turnsFrom 33 = .ok (.aload_n 0, 1) := by decide +kernel
theorem dX3_turnsFrom_34 : decode cX3_turnsFrom 34 = .ok (.getfield 92, 3) := by decide +kernel
theorem dX3_turnsFrom_37 : decode cX3_turnsFrom 37 = .ok (.iload_n 1, 1) := by decide +kernel
theorem dX3_turnsFrom_38 : decode cX3_turnsFrom 38 = .ok (.iload_n 2, 1) := by decide +kernel
theorem dX3_turnsFrom_39 : decode cX3_turnsFrom 39 = .ok (.invokestatic 74, 3) := by decide +kernel
theorem dX3_turnsFrom_42 : decode cX3_turnsFrom 42 = .ok (.iaload, 1) := by decide +kernel
theorem dX3_turnsFrom_43 : decode cX3_turnsFrom 43 = .ok (.ireturn, 1) := by decide +kernel
set_option maxRecDepth 20000 in
theorem ggX3_safeRooms_X3_reckon : GoodIn wsX3_safeRooms wsX3_reckon := goodIn_r _ [10, 11, 2, 3, 12, 13, 14, 9, 15, 16, 17, 18, 19, 20, 21, 22, 23, 24, 25, 26, 27, 28, 29, 30, 31, 32, 33, 34, 35, 36, 37, 38, 39, 40, 41, 42, 43, 44, 45, 46, 47, 48, 49, 50, 51, 52, 53, 54, 55, 56, 57] (by decide +kernel) (by decide +kernel)
set_option maxRecDepth 20000 in
theorem gX3_safeRooms_X3_reckon : GoodIn wsX3_safeRooms (wsV RX3 89 RX3 yX3_reckon wsX3_reckon) := goodIn_app (goodIn_of _ (by decide +kernel)) ggX3_safeRooms_X3_reckon
set_option maxRecDepth 20000 in
theorem ggX3_safeRooms_X3_place : GoodIn wsX3_safeRooms wsX3_place := goodIn_r _ [15] (by decide +kernel) (by decide +kernel)
set_option maxRecDepth 20000 in
theorem gX3_safeRooms_X3_place : GoodIn wsX3_safeRooms (va_wsS RX3 74 yX3_place wsX3_place) := goodIn_app (goodIn_of _ (by decide +kernel)) ggX3_safeRooms_X3_place
theorem dX3_safeRooms_0 : decode cX3_safeRooms 0 = .ok (.aload_n 0, 1) := by decide +kernel
theorem dX3_safeRooms_1 : decode cX3_safeRooms 1 = .ok (.getfield 85, 3) := by decide +kernel
theorem dX3_safeRooms_4 : decode cX3_safeRooms 4 = .ok (.ifCond .ne 5, 3) := by decide +kernel
theorem dX3_safeRooms_7 : decode cX3_safeRooms 7 = .ok (.iconst 0, 1) := by decide +kernel
theorem dX3_safeRooms_8 : decode cX3_safeRooms 8 = .ok (.ireturn, 1) := by decide +kernel
theorem dX3_safeRooms_9 : decode cX3_safeRooms 9 = .ok (.aload_n 0, 1) := by decide +kernel
theorem dX3_safeRooms_10 : decode cX3_safeRooms 10 = .ok (.invokevirtual 89, 3) := by decide +kernel
theorem dX3_safeRooms_13 : decode cX3_safeRooms 13 = .ok (.iconst 0, 1) := by decide +kernel
theorem dX3_safeRooms_14 : decode cX3_safeRooms 14 = .ok (.istore_n 1, 1) := by decide +kernel
theorem dX3_safeRooms_15 : decode cX3_safeRooms 15 = .ok (.iconst 0, 1) := by decide +kernel
theorem dX3_safeRooms_16 : decode cX3_safeRooms 16 = .ok (.istore_n 2, 1) := by decide +kernel
theorem dX3_safeRooms_17 : decode cX3_safeRooms 17 = .ok (.iload_n 2, 1) := by decide +kernel
theorem dX3_safeRooms_18 : decode cX3_safeRooms 18 = .ok (.aload_n 0, 1) := by decide +kernel
theorem dX3_safeRooms_19 : decode cX3_safeRooms 19 = .ok (.getfield 43, 3) := by decide +kernel
theorem dX3_safeRooms_22 : decode cX3_safeRooms 22 = .ok (.if_icmp .ge 37, 3) := by decide +kernel
theorem dX3_safeRooms_25 : decode cX3_safeRooms 25 = .ok (.iload_n 1, 1) := by decide +kernel
theorem dX3_safeRooms_26 : decode cX3_safeRooms 26 = .ok (.aload_n 0, 1) := by decide +kernel
theorem dX3_safeRooms_27 : decode cX3_safeRooms 27 = .ok (.getfield 32, 3) := by decide +kernel
theorem dX3_safeRooms_30 : decode cX3_safeRooms 30 = .ok (.aload_n 0, 1) := by decide +kernel
theorem dX3_safeRooms_31 : decode cX3_safeRooms 31 = .ok (.getfield 92, 3) := by decide +kernel
theorem dX3_safeRooms_34 : decode cX3_safeRooms 34 = .ok (.aload_n 0, 1) := by decide +kernel
theorem dX3_safeRooms_35 : decode cX3_safeRooms 35 = .ok (.getfield 95, 3) := by decide +kernel
theorem dX3_safeRooms_38 : decode cX3_safeRooms 38 = .ok (.iload_n 2, 1) := by decide +kernel
theorem dX3_safeRooms_39 : decode cX3_safeRooms 39 = .ok (.invokestatic 74, 3) := by decide +kernel
theorem dX3_safeRooms_42 : decode cX3_safeRooms 42 = .ok (.iaload, 1) := by decide +kernel
theorem dX3_safeRooms_43 : decode cX3_safeRooms 43 = .ok (.ifCond .ge 7, 3) := by decide +kernel
theorem dX3_safeRooms_46 : decode cX3_safeRooms 46 = .ok (.iconst 1, 1) := by decide +kernel
theorem dX3_safeRooms_47 : decode cX3_safeRooms 47 = .ok (.goto 4, 3) := by decide +kernel
theorem dX3_safeRooms_50 : decode cX3_safeRooms 50 = .ok (.iconst 0, 1) := by decide +kernel
theorem dX3_safeRooms_51 : decode cX3_safeRooms 51 = .ok (.iadd, 1) := by decide +kernel
theorem dX3_safeRooms_52 : decode cX3_safeRooms 52 = .ok (.istore_n 1, 1) := by decide +kernel
theorem dX3_safeRooms_53 : decode cX3_safeRooms 53 = .ok (.iinc 2 1, 3) := by decide +kernel
theorem dX3_safeRooms_56 : decode cX3_safeRooms 56 = .ok (.goto (-39), 3) := by decide +kernel
theorem dX3_safeRooms_59 : decode cX3_safeRooms 59 = .ok (.iload_n 1, 1) := by decide +kernel
theorem dX3_safeRooms_60 : decode cX3_safeRooms 60 = .ok (.ireturn, 1) := by decide +kernel
set_option maxRecDepth 20000 in
theorem ggX3_safeNow_X3_safeRooms : GoodIn wsX3_safeNow wsX3_safeRooms := goodIn_r _ [5, 6, 7, 8, 9, 10, 11, 12, 13, 4, 14, 15, 16, 17, 18, 19, 20, 21, 22, 23, 24, 25, 26, 27, 28, 29, 30, 31, 32, 33, 34, 35, 36, 37, 38, 39, 40, 41, 47, 48, 49, 50, 51, 52, 53, 54, 55, 56, 57, 58, 59, 60, 61, 62, 63, 64, 65, 66] (by decide +kernel) (by decide +kernel)
set_option maxRecDepth 20000 in
theorem gX3_safeNow_X3_safeRooms : GoodIn wsX3_safeNow (wsV RX3 144 RX3 yX3_safeRooms wsX3_safeRooms) := goodIn_app (goodIn_of _ (by decide +kernel)) ggX3_safeNow_X3_safeRooms
set_option maxRecDepth 20000 in
theorem ggX3_safeNow_X3_plain : GoodIn wsX3_safeNow wsX3_plain := goodIn_r _ [45, 46, 47, 48, 49, 50, 51, 52, 53, 54, 55, 56, 57, 58, 59, 60, 61, 62, 63, 64, 65, 66] (by decide +kernel) (by decide +kernel)
set_option maxRecDepth 20000 in
theorem gX3_safeNow_X3_plain : GoodIn wsX3_safeNow (wsV RX3 124 RX3 yX3_plain wsX3_plain) := goodIn_app (goodIn_of _ (by decide +kernel)) ggX3_safeNow_X3_plain
theorem dX3_safeNow_0 : decode cX3_safeNow 0 = .ok (.aload_n 0, 1) := by decide +kernel
theorem dX3_safeNow_1 : decode cX3_safeNow 1 = .ok (.aload_n 0, 1) := by decide +kernel
theorem dX3_safeNow_2 : decode cX3_safeNow 2 = .ok (.invokevirtual 144, 3) := by decide +kernel
theorem dX3_safeNow_5 : decode cX3_safeNow 5 = .ok (.invokevirtual 124, 3) := by decide +kernel
theorem dX3_safeNow_8 : decode cX3_safeNow 8 = .ok (.ireturn, 1) := by decide +kernel
set_option maxRecDepth 20000 in
theorem ggX3_bestGo_X3_best : GoodIn wsX3_bestGo wsX3_best := goodIn_r _ [5, 6, 7, 8, 9, 10, 11, 12, 13, 14, 15, 16, 4, 17, 18, 19, 20, 21, 22, 23, 24, 25, 26, 27, 28, 29, 30, 31, 32, 33, 34, 35, 36, 37, 38, 39, 40, 41, 42, 43, 44, 45, 46, 47, 53, 54, 55, 56, 57, 58, 59, 60, 61, 62, 63, 64, 65, 66, 67, 68, 69, 70, 71, 72] (by decide +kernel) (by decide +kernel)
set_option maxRecDepth 20000 in
theorem gX3_bestGo_X3_best : GoodIn wsX3_bestGo (wsV RX3 121 RX3 yX3_best wsX3_best) := goodIn_app (goodIn_of _ (by decide +kernel)) ggX3_bestGo_X3_best
set_option maxRecDepth 20000 in
theorem ggX3_bestGo_X3_plain : GoodIn wsX3_bestGo wsX3_plain := goodIn_r _ [51, 52, 53, 54, 55, 56, 57, 58, 59, 60, 61, 62, 63, 64, 65, 66, 67, 68, 69, 70, 71, 72] (by decide +kernel) (by decide +kernel)
set_option maxRecDepth 20000 in
theorem gX3_bestGo_X3_plain : GoodIn wsX3_bestGo (wsV RX3 124 RX3 yX3_plain wsX3_plain) := goodIn_app (goodIn_of _ (by decide +kernel)) ggX3_bestGo_X3_plain
theorem dX3_bestGo_0 : decode cX3_bestGo 0 = .ok (.aload_n 0, 1) := by decide +kernel
theorem dX3_bestGo_1 : decode cX3_bestGo 1 = .ok (.aload_n 0, 1) := by decide +kernel
theorem dX3_bestGo_2 : decode cX3_bestGo 2 = .ok (.invokevirtual 121, 3) := by decide +kernel
theorem dX3_bestGo_5 : decode cX3_bestGo 5 = .ok (.invokevirtual 124, 3) := by decide +kernel
theorem dX3_bestGo_8 : decode cX3_bestGo 8 = .ok (.ireturn, 1) := by decide +kernel
set_option maxRecDepth 20000 in
theorem ggX3_count_X3_reckon : GoodIn wsX3_count wsX3_reckon := goodIn_r _ [16, 17, 4, 5, 7, 18, 19, 15, 20, 21, 22, 23, 24, 25, 26, 27, 28, 29, 30, 31, 32, 33, 34, 35, 36, 37, 38, 39, 40, 41, 42, 43, 44, 45, 46, 47, 48, 49, 50, 51, 52, 53, 54, 55, 56, 57, 58, 59, 60, 61, 62] (by decide +kernel) (by decide +kernel)
set_option maxRecDepth 20000 in
theorem gX3_count_X3_reckon : GoodIn wsX3_count (wsV RX3 89 RX3 yX3_reckon wsX3_reckon) := goodIn_app (goodIn_of _ (by decide +kernel)) ggX3_count_X3_reckon
set_option maxRecDepth 20000 in
theorem ggX3_count_X3_place : GoodIn wsX3_count wsX3_place := goodIn_r _ [20] (by decide +kernel) (by decide +kernel)
set_option maxRecDepth 20000 in
theorem gX3_count_X3_place : GoodIn wsX3_count (va_wsS RX3 74 yX3_place wsX3_place) := goodIn_app (goodIn_of _ (by decide +kernel)) ggX3_count_X3_place
theorem dX3_count_0 : decode cX3_count 0 = .ok (.aload_n 0, 1) := by decide +kernel
theorem dX3_count_1 : decode cX3_count 1 = .ok (.invokevirtual 89, 3) := by decide +kernel
theorem dX3_count_4 : decode cX3_count 4 = .ok (.aload_n 0, 1) := by decide +kernel
theorem dX3_count_5 : decode cX3_count 5 = .ok (.iconst 0, 1) := by decide +kernel
theorem dX3_count_6 : decode cX3_count 6 = .ok (.putfield 147, 3) := by decide +kernel
theorem dX3_count_9 : decode cX3_count 9 = .ok (.aload_n 0, 1) := by decide +kernel
theorem dX3_count_10 : decode cX3_count 10 = .ok (.iconst (-1), 1) := by decide +kernel
theorem dX3_count_11 : decode cX3_count 11 = .ok (.putfield 150, 3) := by decide +kernel
theorem dX3_count_14 : decode cX3_count 14 = .ok (.aload_n 0, 1) := by decide +kernel
theorem dX3_count_15 : decode cX3_count 15 = .ok (.iconst 0, 1) := by decide +kernel
theorem dX3_count_16 : decode cX3_count 16 = .ok (.putfield 153, 3) := by decide +kernel
theorem dX3_count_19 : decode cX3_count 19 = .ok (.iconst 0, 1) := by decide +kernel
theorem dX3_count_20 : decode cX3_count 20 = .ok (.istore_n 1, 1) := by decide +kernel
theorem dX3_count_21 : decode cX3_count 21 = .ok (.iload_n 1, 1) := by decide +kernel
theorem dX3_count_22 : decode cX3_count 22 = .ok (.aload_n 0, 1) := by decide +kernel
theorem dX3_count_23 : decode cX3_count 23 = .ok (.getfield 43, 3) := by decide +kernel
theorem dX3_count_26 : decode cX3_count 26 = .ok (.if_icmp .ge 93, 3) := by decide +kernel
theorem dX3_count_29 : decode cX3_count 29 = .ok (.iconst 0, 1) := by decide +kernel
theorem dX3_count_30 : decode cX3_count 30 = .ok (.istore_n 2, 1) := by decide +kernel
theorem dX3_count_31 : decode cX3_count 31 = .ok (.iload_n 2, 1) := by decide +kernel
theorem dX3_count_32 : decode cX3_count 32 = .ok (.aload_n 0, 1) := by decide +kernel
theorem dX3_count_33 : decode cX3_count 33 = .ok (.getfield 43, 3) := by decide +kernel
theorem dX3_count_36 : decode cX3_count 36 = .ok (.if_icmp .ge 77, 3) := by decide +kernel
theorem dX3_count_39 : decode cX3_count 39 = .ok (.aload_n 0, 1) := by decide +kernel
theorem dX3_count_40 : decode cX3_count 40 = .ok (.getfield 32, 3) := by decide +kernel
theorem dX3_count_43 : decode cX3_count 43 = .ok (.aload_n 0, 1) := by decide +kernel
theorem dX3_count_44 : decode cX3_count 44 = .ok (.getfield 92, 3) := by decide +kernel
theorem dX3_count_47 : decode cX3_count 47 = .ok (.iload_n 1, 1) := by decide +kernel
theorem dX3_count_48 : decode cX3_count 48 = .ok (.iload_n 2, 1) := by decide +kernel
theorem dX3_count_49 : decode cX3_count 49 = .ok (.invokestatic 74, 3) := by decide +kernel
theorem dX3_count_52 : decode cX3_count 52 = .ok (.iaload, 1) := by decide +kernel
theorem dX3_count_53 : decode cX3_count 53 = .ok (.istore_n 3, 1) := by decide +kernel
theorem dX3_count_54 : decode cX3_count 54 = .ok (.iload_n 1, 1) := by decide +kernel
theorem dX3_count_55 : decode cX3_count 55 = .ok (.iload_n 2, 1) := by decide +kernel
theorem dX3_count_56 : decode cX3_count 56 = .ok (.if_icmp .eq 51, 3) := by decide +kernel
theorem dX3_count_59 : decode cX3_count 59 = .ok (.aload_n 0, 1) := by decide +kernel
theorem dX3_count_60 : decode cX3_count 60 = .ok (.getfield 9, 3) := by decide +kernel
theorem dX3_count_63 : decode cX3_count 63 = .ok (.iload_n 1, 1) := by decide +kernel
theorem dX3_count_64 : decode cX3_count 64 = .ok (.baload, 1) := by decide +kernel
theorem dX3_count_65 : decode cX3_count 65 = .ok (.ifCond .ne 42, 3) := by decide +kernel
theorem dX3_count_68 : decode cX3_count 68 = .ok (.iload_n 3, 1) := by decide +kernel
theorem dX3_count_69 : decode cX3_count 69 = .ok (.ifCond .ge 6, 3) := by decide +kernel
theorem dX3_count_72 : decode cX3_count 72 = .ok (.goto 35, 3) := by decide +kernel
theorem dX3_count_75 : decode cX3_count 75 = .ok (.aload_n 0, 1) := by decide +kernel
theorem dX3_count_76 : decode cX3_count 76 = .ok (.dup, 1) := by decide +kernel
theorem dX3_count_77 : decode cX3_count 77 = .ok (.getfield 147, 3) := by decide +kernel
theorem dX3_count_80 : decode cX3_count 80 = .ok (.iconst 1, 1) := by decide +kernel
theorem dX3_count_81 : decode cX3_count 81 = .ok (.iadd, 1) := by decide +kernel
theorem dX3_count_82 : decode cX3_count 82 = .ok (.putfield 147, 3) := by decide +kernel
theorem dX3_count_85 : decode cX3_count 85 = .ok (.aload_n 0, 1) := by decide +kernel
theorem dX3_count_86 : decode cX3_count 86 = .ok (.dup, 1) := by decide +kernel
theorem dX3_count_87 : decode cX3_count 87 = .ok (.getfield 153, 3) := by decide +kernel
theorem dX3_count_90 : decode cX3_count 90 = .ok (.iload_n 3, 1) := by decide +kernel
theorem dX3_count_91 : decode cX3_count 91 = .ok (.iadd, 1) := by decide +kernel
theorem dX3_count_92 : decode cX3_count 92 = .ok (.putfield 153, 3) := by decide +kernel
theorem dX3_count_95 : decode cX3_count 95 = .ok (.aload_n 0, 1) := by decide +kernel
theorem dX3_count_96 : decode cX3_count 96 = .ok (.aload_n 0, 1) := by decide +kernel
theorem dX3_count_97 : decode cX3_count 97 = .ok (.getfield 150, 3) := by decide +kernel
theorem dX3_count_100 : decode cX3_count 100 = .ok (.iload_n 3, 1) := by decide +kernel
theorem dX3_count_101 : decode cX3_count 101 = .ok (.invokestatic 156, 3) := by decide +kernel
theorem dX3_count_104 : decode cX3_count 104 = .ok (.putfield 150, 3) := by decide +kernel
theorem dX3_count_107 : decode cX3_count 107 = .ok (.iinc 2 1, 3) := by decide +kernel
theorem dX3_count_110 : decode cX3_count 110 = .ok (.goto (-79), 3) := by decide +kernel
theorem dX3_count_113 : decode cX3_count 113 = .ok (.iinc 1 1, 3) := by decide +kernel
theorem dX3_count_116 : decode cX3_count 116 = .ok (.goto (-95), 3) := by decide +kernel
theorem dX3_count_119 : decode cX3_count 119 = .ok (.return_, 1) := by decide +kernel
set_option maxRecDepth 20000 in
theorem ggX3_counted_X3_count : GoodIn wsX3_counted wsX3_count := goodIn_r _ [7, 1, 2, 8, 9, 10, 11, 12, 13, 14, 15, 16, 17, 18, 19, 6, 20, 21, 22, 23, 24, 25, 26, 27, 28, 29, 30, 31, 32, 33, 34, 35, 36, 37, 38, 39, 40, 41, 42, 43, 44, 45, 46, 47, 48, 49, 50, 51, 52, 53, 54, 55, 56, 57, 58, 59, 60, 61, 62, 63, 64, 65, 66] (by decide +kernel) (by decide +kernel)
set_option maxRecDepth 20000 in
theorem gX3_counted_X3_count : GoodIn wsX3_counted (wsV RX3 161 RX3 yX3_count wsX3_count) := goodIn_app (goodIn_of _ (by decide +kernel)) ggX3_counted_X3_count
theorem dX3_counted_0 : decode cX3_counted 0 = .ok (.aload_n 0, 1) := by decide +kernel
theorem dX3_counted_1 : decode cX3_counted 1 = .ok (.invokevirtual 161, 3) := by decide +kernel
theorem dX3_counted_4 : decode cX3_counted 4 = .ok (.iload_n 1, 1) := by decide +kernel
theorem dX3_counted_5 : decode cX3_counted 5 = .ok (.ifCond .ne 10, 3) := by decide +kernel
theorem dX3_counted_8 : decode cX3_counted 8 = .ok (.aload_n 0, 1) := by decide +kernel
theorem dX3_counted_9 : decode cX3_counted 9 = .ok (.getfield 147, 3) := by decide +kernel
theorem dX3_counted_12 : decode cX3_counted 12 = .ok (.goto 7, 3) := by decide +kernel
theorem dX3_counted_15 : decode cX3_counted 15 = .ok (.aload_n 0, 1) := by decide +kernel
theorem dX3_counted_16 : decode cX3_counted 16 = .ok (.getfield 150, 3) := by decide +kernel
theorem dX3_counted_19 : decode cX3_counted 19 = .ok (.ireturn, 1) := by decide +kernel
set_option maxRecDepth 20000 in
theorem ggX3_pairsCaught_X3_counted : GoodIn wsX3_pairsCaught wsX3_counted := goodIn_r _ [5, 6, 7, 8, 9, 10, 4, 11, 12, 13, 14, 15, 16, 17, 18, 19, 20, 21, 22, 23, 24, 25, 26, 27, 28, 29, 30, 31, 32, 33, 34, 35, 36, 37, 38, 39, 40, 41, 42, 43, 44, 45, 46, 47, 48, 49, 50, 56, 57, 58, 59, 60, 61, 62, 63, 64, 65, 66, 67, 68, 69, 70, 71, 72, 73, 74, 75] (by decide +kernel) (by decide +kernel)
set_option maxRecDepth 20000 in
theorem gX3_pairsCaught_X3_counted : GoodIn wsX3_pairsCaught (wsV RX3 164 RX3 yX3_counted wsX3_counted) := goodIn_app (goodIn_of _ (by decide +kernel)) ggX3_pairsCaught_X3_counted
set_option maxRecDepth 20000 in
theorem ggX3_pairsCaught_X3_plain : GoodIn wsX3_pairsCaught wsX3_plain := goodIn_r _ [54, 55, 56, 57, 58, 59, 60, 61, 62, 63, 64, 65, 66, 67, 68, 69, 70, 71, 72, 73, 74, 75] (by decide +kernel) (by decide +kernel)
set_option maxRecDepth 20000 in
theorem gX3_pairsCaught_X3_plain : GoodIn wsX3_pairsCaught (wsV RX3 124 RX3 yX3_plain wsX3_plain) := goodIn_app (goodIn_of _ (by decide +kernel)) ggX3_pairsCaught_X3_plain
theorem dX3_pairsCaught_0 : decode cX3_pairsCaught 0 = .ok (.aload_n 0, 1) := by decide +kernel
theorem dX3_pairsCaught_1 : decode cX3_pairsCaught 1 = .ok (.aload_n 0, 1) := by decide +kernel
theorem dX3_pairsCaught_2 : decode cX3_pairsCaught 2 = .ok (.iconst 0, 1) := by decide +kernel
theorem dX3_pairsCaught_3 : decode cX3_pairsCaught 3 = .ok (.invokevirtual 164, 3) := by decide +kernel
theorem dX3_pairsCaught_6 : decode cX3_pairsCaught 6 = .ok (.invokevirtual 124, 3) := by decide +kernel
theorem dX3_pairsCaught_9 : decode cX3_pairsCaught 9 = .ok (.ireturn, 1) := by decide +kernel
set_option maxRecDepth 20000 in
theorem ggX3_longestChase_X3_counted : GoodIn wsX3_longestChase wsX3_counted := goodIn_r _ [5, 6, 7, 8, 9, 10, 4, 11, 12, 13, 14, 15, 16, 17, 18, 19, 20, 21, 22, 23, 24, 25, 26, 27, 28, 29, 30, 31, 32, 33, 34, 35, 36, 37, 38, 39, 40, 41, 42, 43, 44, 45, 46, 47, 48, 49, 50, 56, 57, 58, 59, 60, 61, 62, 63, 64, 65, 66, 67, 68, 69, 70, 71, 72, 73, 74, 75] (by decide +kernel) (by decide +kernel)
set_option maxRecDepth 20000 in
theorem gX3_longestChase_X3_counted : GoodIn wsX3_longestChase (wsV RX3 164 RX3 yX3_counted wsX3_counted) := goodIn_app (goodIn_of _ (by decide +kernel)) ggX3_longestChase_X3_counted
set_option maxRecDepth 20000 in
theorem ggX3_longestChase_X3_plain : GoodIn wsX3_longestChase wsX3_plain := goodIn_r _ [54, 55, 56, 57, 58, 59, 60, 61, 62, 63, 64, 65, 66, 67, 68, 69, 70, 71, 72, 73, 74, 75] (by decide +kernel) (by decide +kernel)
set_option maxRecDepth 20000 in
theorem gX3_longestChase_X3_plain : GoodIn wsX3_longestChase (wsV RX3 124 RX3 yX3_plain wsX3_plain) := goodIn_app (goodIn_of _ (by decide +kernel)) ggX3_longestChase_X3_plain
theorem dX3_longestChase_0 : decode cX3_longestChase 0 = .ok (.aload_n 0, 1) := by decide +kernel
theorem dX3_longestChase_1 : decode cX3_longestChase 1 = .ok (.aload_n 0, 1) := by decide +kernel
theorem dX3_longestChase_2 : decode cX3_longestChase 2 = .ok (.iconst 1, 1) := by decide +kernel
theorem dX3_longestChase_3 : decode cX3_longestChase 3 = .ok (.invokevirtual 164, 3) := by decide +kernel
theorem dX3_longestChase_6 : decode cX3_longestChase 6 = .ok (.invokevirtual 124, 3) := by decide +kernel
theorem dX3_longestChase_9 : decode cX3_longestChase 9 = .ok (.ireturn, 1) := by decide +kernel
set_option maxRecDepth 20000 in
theorem ggX3_doorToLock_X3_toCatch : GoodIn wsX3_doorToLock wsX3_toCatch := goodIn_r _ [8, 1, 9, 10, 11, 12, 13, 14, 15, 7, 16, 17, 18, 19, 20, 21, 22, 23, 24, 25, 26, 27, 28, 29, 30, 2, 31, 32, 33, 34, 35, 36, 3, 37, 38, 39, 40, 41, 42, 43, 44, 45, 46, 47, 48, 49, 50, 51, 52, 53, 54, 55, 56, 57, 58, 59, 60, 61, 62] (by decide +kernel) (by decide +kernel)
set_option maxRecDepth 20000 in
theorem gX3_doorToLock_X3_toCatch : GoodIn wsX3_doorToLock (wsV RX3 113 RX3 yX3_toCatch wsX3_toCatch) := goodIn_app (goodIn_of _ (by decide +kernel)) ggX3_doorToLock_X3_toCatch
theorem dX3_doorToLock_0 : decode cX3_doorToLock 0 = .ok (.aload_n 0, 1) := by decide +kernel
theorem dX3_doorToLock_1 : decode cX3_doorToLock 1 = .ok (.getfield 85, 3) := by decide +kernel
theorem dX3_doorToLock_4 : decode cX3_doorToLock 4 = .ok (.ifCond .ne 5, 3) := by decide +kernel
theorem dX3_doorToLock_7 : decode cX3_doorToLock 7 = .ok (.iconst (-1), 1) := by decide +kernel
theorem dX3_doorToLock_8 : decode cX3_doorToLock 8 = .ok (.ireturn, 1) := by decide +kernel
theorem dX3_doorToLock_9 : decode cX3_doorToLock 9 = .ok (.iconst (-1), 1) := by decide +kernel
theorem dX3_doorToLock_10 : decode cX3_doorToLock 10 = .ok (.istore_n 1, 1) := by decide +kernel
theorem dX3_doorToLock_11 : decode cX3_doorToLock 11 = .ok (.aload_n 0, 1) := by decide +kernel
theorem dX3_doorToLock_12 : decode cX3_doorToLock 12 = .ok (.invokevirtual 113, 3) := by decide +kernel
theorem dX3_doorToLock_15 : decode cX3_doorToLock 15 = .ok (.istore_n 2, 1) := by decide +kernel
theorem dX3_doorToLock_16 : decode cX3_doorToLock 16 = .ok (.iconst 0, 1) := by decide +kernel
theorem dX3_doorToLock_17 : decode cX3_doorToLock 17 = .ok (.istore_n 3, 1) := by decide +kernel
theorem dX3_doorToLock_18 : decode cX3_doorToLock 18 = .ok (.iload_n 3, 1) := by decide +kernel
theorem dX3_doorToLock_19 : decode cX3_doorToLock 19 = .ok (.aload_n 0, 1) := by decide +kernel
theorem dX3_doorToLock_20 : decode cX3_doorToLock 20 = .ok (.getfield 57, 3) := by decide +kernel
theorem dX3_doorToLock_23 : decode cX3_doorToLock 23 = .ok (.if_icmp .ge 64, 3) := by decide +kernel
theorem dX3_doorToLock_26 : decode cX3_doorToLock 26 = .ok (.iload_n 2, 1) := by decide +kernel
theorem dX3_doorToLock_27 : decode cX3_doorToLock 27 = .ok (.ifCond .lt 60, 3) := by decide +kernel
theorem dX3_doorToLock_30 : decode cX3_doorToLock 30 = .ok (.aload_n 0, 1) := by decide +kernel
theorem dX3_doorToLock_31 : decode cX3_doorToLock 31 = .ok (.getfield 29, 3) := by decide +kernel
theorem dX3_doorToLock_34 : decode cX3_doorToLock 34 = .ok (.iload_n 3, 1) := by decide +kernel
theorem dX3_doorToLock_35 : decode cX3_doorToLock 35 = .ok (.baload, 1) := by decide +kernel
theorem dX3_doorToLock_36 : decode cX3_doorToLock 36 = .ok (.ifCond .eq 6, 3) := by decide +kernel
theorem dX3_doorToLock_39 : decode cX3_doorToLock 39 = .ok (.goto 42, 3) := by decide +kernel
theorem dX3_doorToLock_42 : decode cX3_doorToLock 42 = .ok (.aload_n 0, 1) := by decide +kernel
theorem dX3_doorToLock_43 : decode cX3_doorToLock 43 = .ok (.getfield 29, 3) := by decide +kernel
theorem dX3_doorToLock_46 : decode cX3_doorToLock 46 = .ok (.iload_n 3, 1) := by decide +kernel
theorem dX3_doorToLock_47 : decode cX3_doorToLock 47 = .ok (.iconst 1, 1) := by decide +kernel
theorem dX3_doorToLock_48 : decode cX3_doorToLock 48 = .ok (.bastore, 1) := by decide +kernel
theorem dX3_doorToLock_49 : decode cX3_doorToLock 49 = .ok (.aload_n 0, 1) := by decide +kernel
theorem dX3_doorToLock_50 : decode cX3_doorToLock 50 = .ok (.invokevirtual 113, 3) := by decide +kernel
theorem dX3_doorToLock_53 : decode cX3_doorToLock 53 = .ok (.istore 4, 2) := by decide +kernel
theorem dX3_doorToLock_55 : decode cX3_doorToLock 55 = .ok (.aload_n 0, 1) := by decide +kernel
theorem dX3_doorToLock_56 : decode cX3_doorToLock 56 = .ok (.getfield 29, 3) := by decide +kernel
theorem dX3_doorToLock_59 : decode cX3_doorToLock 59 = .ok (.iload_n 3, 1) := by decide +kernel
theorem dX3_doorToLock_60 : decode cX3_doorToLock 60 = .ok (.iconst 0, 1) := by decide +kernel
theorem dX3_doorToLock_61 : decode cX3_doorToLock 61 = .ok (.bastore, 1) := by decide +kernel
theorem dX3_doorToLock_62 : decode cX3_doorToLock 62 = .ok (.iload 4, 2) := by decide +kernel
theorem dX3_doorToLock_64 : decode cX3_doorToLock 64 = .ok (.ifCond .lt 12, 3) := by decide +kernel
theorem dX3_doorToLock_67 : decode cX3_doorToLock 67 = .ok (.iload 4, 2) := by decide +kernel
theorem dX3_doorToLock_69 : decode cX3_doorToLock 69 = .ok (.iload_n 2, 1) := by decide +kernel
theorem dX3_doorToLock_70 : decode cX3_doorToLock 70 = .ok (.if_icmp .gt 6, 3) := by decide +kernel
theorem dX3_doorToLock_73 : decode cX3_doorToLock 73 = .ok (.goto 8, 3) := by decide +kernel
theorem dX3_doorToLock_76 : decode cX3_doorToLock 76 = .ok (.iload 4, 2) := by decide +kernel
theorem dX3_doorToLock_78 : decode cX3_doorToLock 78 = .ok (.istore_n 2, 1) := by decide +kernel
theorem dX3_doorToLock_79 : decode cX3_doorToLock 79 = .ok (.iload_n 3, 1) := by decide +kernel
theorem dX3_doorToLock_80 : decode cX3_doorToLock 80 = .ok (.istore_n 1, 1) := by decide +kernel
theorem dX3_doorToLock_81 : decode cX3_doorToLock 81 = .ok (.iinc 3 1, 3) := by decide +kernel
theorem dX3_doorToLock_84 : decode cX3_doorToLock 84 = .ok (.goto (-66), 3) := by decide +kernel
theorem dX3_doorToLock_87 : decode cX3_doorToLock 87 = .ok (.iload_n 1, 1) := by decide +kernel
theorem dX3_doorToLock_88 : decode cX3_doorToLock 88 = .ok (.ireturn, 1) := by decide +kernel
set_option maxRecDepth 20000 in
theorem ggX3_bestDoorToLock_X3_doorToLock : GoodIn wsX3_bestDoorToLock wsX3_doorToLock := goodIn_r _ [5, 6, 7, 8, 9, 10, 11, 4, 12, 13, 14, 15, 16, 17, 18, 19, 20, 21, 22, 23, 24, 25, 26, 27, 28, 29, 30, 31, 32, 33, 34, 35, 36, 37, 38, 39, 40, 41, 42, 43, 44, 45, 46, 52, 53, 54, 55, 56, 57, 58, 59, 60, 61, 62, 63, 64, 65, 66, 67, 68, 69, 70, 71] (by decide +kernel) (by decide +kernel)
set_option maxRecDepth 20000 in
theorem gX3_bestDoorToLock_X3_doorToLock : GoodIn wsX3_bestDoorToLock (wsV RX3 167 RX3 yX3_doorToLock wsX3_doorToLock) := goodIn_app (goodIn_of _ (by decide +kernel)) ggX3_bestDoorToLock_X3_doorToLock
set_option maxRecDepth 20000 in
theorem ggX3_bestDoorToLock_X3_plain : GoodIn wsX3_bestDoorToLock wsX3_plain := goodIn_r _ [50, 51, 52, 53, 54, 55, 56, 57, 58, 59, 60, 61, 62, 63, 64, 65, 66, 67, 68, 69, 70, 71] (by decide +kernel) (by decide +kernel)
set_option maxRecDepth 20000 in
theorem gX3_bestDoorToLock_X3_plain : GoodIn wsX3_bestDoorToLock (wsV RX3 124 RX3 yX3_plain wsX3_plain) := goodIn_app (goodIn_of _ (by decide +kernel)) ggX3_bestDoorToLock_X3_plain
theorem dX3_bestDoorToLock_0 : decode cX3_bestDoorToLock 0 = .ok (.aload_n 0, 1) := by decide +kernel
theorem dX3_bestDoorToLock_1 : decode cX3_bestDoorToLock 1 = .ok (.aload_n 0, 1) := by decide +kernel
theorem dX3_bestDoorToLock_2 : decode cX3_bestDoorToLock 2 = .ok (.invokevirtual 167, 3) := by decide +kernel
theorem dX3_bestDoorToLock_5 : decode cX3_bestDoorToLock 5 = .ok (.invokevirtual 124, 3) := by decide +kernel
theorem dX3_bestDoorToLock_8 : decode cX3_bestDoorToLock 8 = .ok (.ireturn, 1) := by decide +kernel
set_option maxRecDepth 20000 in
theorem ggX3_meanTurns_X3_count : GoodIn wsX3_meanTurns wsX3_count := goodIn_r _ [8, 2, 9, 3, 10, 11, 12, 13, 14, 15, 16, 17, 18, 19, 20, 7, 21, 22, 23, 24, 25, 26, 27, 28, 29, 30, 31, 32, 33, 34, 35, 36, 37, 38, 39, 40, 41, 42, 43, 44, 45, 46, 47, 48, 49, 50, 51, 52, 53, 54, 55, 56, 57, 58, 59, 60, 61, 62, 63, 64, 65, 66, 67] (by decide +kernel) (by decide +kernel)
set_option maxRecDepth 20000 in
theorem gX3_meanTurns_X3_count : GoodIn wsX3_meanTurns (wsV RX3 161 RX3 yX3_count wsX3_count) := goodIn_app (goodIn_of _ (by decide +kernel)) ggX3_meanTurns_X3_count
theorem dX3_meanTurns_0 : decode cX3_meanTurns 0 = .ok (.aload_n 0, 1) := by decide +kernel
theorem dX3_meanTurns_1 : decode cX3_meanTurns 1 = .ok (.iconst 0, 1) := by decide +kernel
theorem dX3_meanTurns_2 : decode cX3_meanTurns 2 = .ok (.putfield 35, 3) := by decide +kernel
theorem dX3_meanTurns_5 : decode cX3_meanTurns 5 = .ok (.aload_n 0, 1) := by decide +kernel
theorem dX3_meanTurns_6 : decode cX3_meanTurns 6 = .ok (.invokevirtual 161, 3) := by decide +kernel
theorem dX3_meanTurns_9 : decode cX3_meanTurns 9 = .ok (.aload_n 0, 1) := by decide +kernel
theorem dX3_meanTurns_10 : decode cX3_meanTurns 10 = .ok (.getfield 147, 3) := by decide +kernel
theorem dX3_meanTurns_13 : decode cX3_meanTurns 13 = .ok (.ifCond .ne 7, 3) := by decide +kernel
theorem dX3_meanTurns_16 : decode cX3_meanTurns 16 = .ok (.dconst 0, 1) := by decide +kernel
theorem dX3_meanTurns_17 : decode cX3_meanTurns 17 = .ok (.goto 14, 3) := by decide +kernel
theorem dX3_meanTurns_20 : decode cX3_meanTurns 20 = .ok (.aload_n 0, 1) := by decide +kernel
theorem dX3_meanTurns_21 : decode cX3_meanTurns 21 = .ok (.getfield 153, 3) := by decide +kernel
theorem dX3_meanTurns_24 : decode cX3_meanTurns 24 = .ok (.i2d, 1) := by decide +kernel
theorem dX3_meanTurns_25 : decode cX3_meanTurns 25 = .ok (.aload_n 0, 1) := by decide +kernel
theorem dX3_meanTurns_26 : decode cX3_meanTurns 26 = .ok (.getfield 147, 3) := by decide +kernel
theorem dX3_meanTurns_29 : decode cX3_meanTurns 29 = .ok (.i2d, 1) := by decide +kernel
theorem dX3_meanTurns_30 : decode cX3_meanTurns 30 = .ok (.ddiv, 1) := by decide +kernel
theorem dX3_meanTurns_31 : decode cX3_meanTurns 31 = .ok (.dreturn, 1) := by decide +kernel
theorem dX3_add_0 : decode cX3_add 0 = .ok (.lload_n 0, 1) := by decide +kernel
theorem dX3_add_1 : decode cX3_add 1 = .ok (.ldc2_w 170, 3) := by decide +kernel
theorem dX3_add_4 : decode cX3_add 4 = .ok (.lmul, 1) := by decide +kernel
theorem dX3_add_5 : decode cX3_add 5 = .ok (.lload_n 2, 1) := by decide +kernel
theorem dX3_add_6 : decode cX3_add 6 = .ok (.ladd, 1) := by decide +kernel
theorem dX3_add_7 : decode cX3_add 7 = .ok (.lreturn, 1) := by decide +kernel
set_option maxRecDepth 20000 in
theorem ggX3_digest_X3_add : GoodIn wsX3_digest wsX3_add := goodIn_r _ [18, 19] (by decide +kernel) (by decide +kernel)
set_option maxRecDepth 20000 in
theorem gX3_digest_X3_add : GoodIn wsX3_digest (va_wsS RX3 174 yX3_add wsX3_add) := goodIn_app (goodIn_of _ (by decide +kernel)) ggX3_digest_X3_add
set_option maxRecDepth 20000 in
theorem ggX3_digest_X3_toCatch : GoodIn wsX3_digest wsX3_toCatch := goodIn_r _ [23, 6, 24, 3, 8, 10, 25, 26, 27, 17, 28, 29, 4, 12, 30, 31, 32, 33, 34, 35, 36, 37, 38, 39, 40, 5, 41, 42, 43, 44, 45, 46, 14, 47, 48, 49, 50, 51, 52, 93, 94, 95, 96, 97, 98, 99, 100, 101, 102, 103, 104, 105, 106, 107, 108, 109, 110, 111, 112] (by decide +kernel) (by decide +kernel)
set_option maxRecDepth 20000 in
theorem gX3_digest_X3_toCatch : GoodIn wsX3_digest (wsV RX3 113 RX3 yX3_toCatch wsX3_toCatch) := goodIn_app (goodIn_of _ (by decide +kernel)) ggX3_digest_X3_toCatch
set_option maxRecDepth 20000 in
theorem ggX3_digest_X3_safeRooms : GoodIn wsX3_digest wsX3_safeRooms := goodIn_r _ [56, 6, 4, 24, 3, 8, 25, 26, 27, 17, 28, 29, 12, 30, 31, 32, 33, 34, 35, 36, 37, 38, 39, 40, 5, 41, 42, 43, 44, 45, 46, 14, 47, 48, 49, 50, 51, 52, 93, 94, 95, 96, 97, 98, 99, 100, 101, 102, 103, 104, 105, 106, 107, 108, 109, 110, 111, 112] (by decide +kernel) (by decide +kernel)
set_option maxRecDepth 20000 in
theorem gX3_digest_X3_safeRooms : GoodIn wsX3_digest (wsV RX3 144 RX3 yX3_safeRooms wsX3_safeRooms) := goodIn_app (goodIn_of _ (by decide +kernel)) ggX3_digest_X3_safeRooms
set_option maxRecDepth 20000 in
theorem ggX3_digest_X3_best : GoodIn wsX3_digest wsX3_best := goodIn_r _ [60, 6, 61, 4, 3, 8, 10, 12, 24, 25, 26, 27, 17, 28, 29, 30, 31, 32, 33, 34, 35, 36, 37, 38, 39, 40, 5, 41, 42, 43, 44, 45, 46, 14, 47, 48, 49, 50, 51, 52, 62, 63, 64, 65, 93, 94, 95, 96, 97, 98, 99, 100, 101, 102, 103, 104, 105, 106, 107, 108, 109, 110, 111, 112] (by decide +kernel) (by decide +kernel)
set_option maxRecDepth 20000 in
theorem gX3_digest_X3_best : GoodIn wsX3_digest (wsV RX3 121 RX3 yX3_best wsX3_best) := goodIn_app (goodIn_of _ (by decide +kernel)) ggX3_digest_X3_best
set_option maxRecDepth 20000 in
theorem ggX3_digest_X3_counted : GoodIn wsX3_digest wsX3_counted := goodIn_r _ [69, 70, 71, 72, 73, 74, 17, 75, 76, 4, 24, 3, 12, 77, 78, 79, 80, 25, 26, 27, 28, 29, 30, 31, 32, 33, 34, 35, 36, 37, 38, 39, 40, 5, 41, 42, 43, 44, 45, 46, 14, 47, 48, 49, 50, 51, 52, 93, 94, 95, 96, 97, 98, 99, 100, 101, 102, 103, 104, 105, 106, 107, 108, 109, 110, 111, 112] (by decide +kernel) (by decide +kernel)
set_option maxRecDepth 20000 in
theorem gX3_digest_X3_counted : GoodIn wsX3_digest (wsV RX3 164 RX3 yX3_counted wsX3_counted) := goodIn_app (goodIn_of _ (by decide +kernel)) ggX3_digest_X3_counted
set_option maxRecDepth 20000 in
theorem ggX3_digest_X3_doorToLock : GoodIn wsX3_digest wsX3_doorToLock := goodIn_r _ [84, 6, 5, 14, 20, 21, 22, 17, 23, 24, 3, 8, 10, 25, 26, 27, 28, 29, 4, 12, 30, 31, 32, 33, 34, 35, 36, 37, 38, 39, 40, 41, 42, 43, 44, 45, 46, 47, 48, 49, 50, 51, 52, 93, 94, 95, 96, 97, 98, 99, 100, 101, 102, 103, 104, 105, 106, 107, 108, 109, 110, 111, 112] (by decide +kernel) (by decide +kernel)
set_option maxRecDepth 20000 in
theorem gX3_digest_X3_doorToLock : GoodIn wsX3_digest (wsV RX3 167 RX3 yX3_doorToLock wsX3_doorToLock) := goodIn_app (goodIn_of _ (by decide +kernel)) ggX3_digest_X3_doorToLock
set_option maxRecDepth 20000 in
theorem ggX3_digest_X3_doorsAt : GoodIn wsX3_digest wsX3_doorsAt := goodIn_r _ [88, 5, 14, 41, 42, 93, 94, 95, 96, 97, 98, 99, 100, 101, 102, 103, 104, 105, 106, 107, 108, 109, 110, 111, 112] (by decide +kernel) (by decide +kernel)
set_option maxRecDepth 20000 in
theorem gX3_digest_X3_doorsAt : GoodIn wsX3_digest (wsV RX3 131 RX3 yX3_doorsAt wsX3_doorsAt) := goodIn_app (goodIn_of _ (by decide +kernel)) ggX3_digest_X3_doorsAt
set_option maxRecDepth 20000 in
theorem ggX3_digest_X3_away : GoodIn wsX3_digest wsX3_away := goodIn_r _ [65, 29, 4, 14, 37, 38, 39, 17, 40, 5, 41, 42, 93, 94, 95, 96, 97, 98, 99, 100, 101, 102, 103, 104, 105, 106, 107, 108, 109, 110, 111, 112] (by decide +kernel) (by decide +kernel)
set_option maxRecDepth 20000 in
theorem gX3_digest_X3_away : GoodIn wsX3_digest (wsV RX3 104 RX3 yX3_away wsX3_away) := goodIn_app (goodIn_of _ (by decide +kernel)) ggX3_digest_X3_away
set_option maxRecDepth 20000 in
theorem ggX3_digest_X3_isOpenIn : GoodIn wsX3_digest wsX3_isOpenIn := goodIn_r _ [46, 14, 47, 48, 93, 94, 95, 96, 97, 98, 99, 100, 101, 102, 103, 104, 105, 106, 107, 108, 109, 110, 111, 112] (by decide +kernel) (by decide +kernel)
set_option maxRecDepth 20000 in
theorem gX3_digest_X3_isOpenIn : GoodIn wsX3_digest (wsV RX3 71 RX3 yX3_isOpenIn wsX3_isOpenIn) := goodIn_app (goodIn_of _ (by decide +kernel)) ggX3_digest_X3_isOpenIn
set_option maxRecDepth 20000 in
theorem ggX3_digest_X3_untilOpen : GoodIn wsX3_digest wsX3_untilOpen := goodIn_r _ [92, 14, 3, 43, 44, 45, 17, 46, 47, 48, 93, 94, 95, 96, 97, 98, 99, 100, 101, 102, 103, 104, 105, 106, 107, 108, 109, 110, 111, 112] (by decide +kernel) (by decide +kernel)
set_option maxRecDepth 20000 in
theorem gX3_digest_X3_untilOpen : GoodIn wsX3_digest (wsV RX3 134 RX3 yX3_untilOpen wsX3_untilOpen) := goodIn_app (goodIn_of _ (by decide +kernel)) ggX3_digest_X3_untilOpen
theorem dX3_digest_0 : decode cX3_digest 0 = .ok (.aload_n 0, 1) := by decide +kernel
theorem dX3_digest_1 : decode cX3_digest 1 = .ok (.iconst 0, 1) := by decide +kernel
theorem dX3_digest_2 : decode cX3_digest 2 = .ok (.putfield 35, 3) := by decide +kernel
theorem dX3_digest_5 : decode cX3_digest 5 = .ok (.ldc2_w 172, 3) := by decide +kernel
theorem dX3_digest_8 : decode cX3_digest 8 = .ok (.aload_n 0, 1) := by decide +kernel
theorem dX3_digest_9 : decode cX3_digest 9 = .ok (.getfield 92, 3) := by decide +kernel
theorem dX3_digest_12 : decode cX3_digest 12 = .ok (.i2l, 1) := by decide +kernel
theorem dX3_digest_13 : decode cX3_digest 13 = .ok (.invokestatic 174, 3) := by decide +kernel
theorem dX3_digest_16 : decode cX3_digest 16 = .ok (.aload_n 0, 1) := by decide +kernel
theorem dX3_digest_17 : decode cX3_digest 17 = .ok (.getfield 43, 3) := by decide +kernel
theorem dX3_digest_20 : decode cX3_digest 20 = .ok (.i2l, 1) := by decide +kernel
theorem dX3_digest_21 : decode cX3_digest 21 = .ok (.invokestatic 174, 3) := by decide +kernel
theorem dX3_digest_24 : decode cX3_digest 24 = .ok (.aload_n 0, 1) := by decide +kernel
theorem dX3_digest_25 : decode cX3_digest 25 = .ok (.getfield 57, 3) := by decide +kernel
theorem dX3_digest_28 : decode cX3_digest 28 = .ok (.i2l, 1) := by decide +kernel
theorem dX3_digest_29 : decode cX3_digest 29 = .ok (.invokestatic 174, 3) := by decide +kernel
theorem dX3_digest_32 : decode cX3_digest 32 = .ok (.aload_n 0, 1) := by decide +kernel
theorem dX3_digest_33 : decode cX3_digest 33 = .ok (.getfield 85, 3) := by decide +kernel
theorem dX3_digest_36 : decode cX3_digest 36 = .ok (.ifCond .eq 7, 3) := by decide +kernel
theorem dX3_digest_39 : decode cX3_digest 39 = .ok (.lconst 1, 1) := by decide +kernel
theorem dX3_digest_40 : decode cX3_digest 40 = .ok (.goto 4, 3) := by decide +kernel
theorem dX3_digest_43 : decode cX3_digest 43 = .ok (.lconst 0, 1) := by decide +kernel
theorem dX3_digest_44 : decode cX3_digest 44 = .ok (.invokestatic 174, 3) := by decide +kernel
theorem dX3_digest_47 : decode cX3_digest 47 = .ok (.aload_n 0, 1) := by decide +kernel
theorem dX3_digest_48 : decode cX3_digest 48 = .ok (.getfield 107, 3) := by decide +kernel
theorem dX3_digest_51 : decode cX3_digest 51 = .ok (.ifCond .eq 7, 3) := by decide +kernel
theorem dX3_digest_54 : decode cX3_digest 54 = .ok (.lconst 1, 1) := by decide +kernel
theorem dX3_digest_55 : decode cX3_digest 55 = .ok (.goto 4, 3) := by decide +kernel
theorem dX3_digest_58 : decode cX3_digest 58 = .ok (.lconst 0, 1) := by decide +kernel
theorem dX3_digest_59 : decode cX3_digest 59 = .ok (.invokestatic 174, 3) := by decide +kernel
theorem dX3_digest_62 : decode cX3_digest 62 = .ok (.lstore_n 1, 1) := by decide +kernel
theorem dX3_digest_63 : decode cX3_digest 63 = .ok (.lload_n 1, 1) := by decide +kernel
theorem dX3_digest_64 : decode cX3_digest 64 = .ok (.aload_n 0, 1) := by decide +kernel
theorem dX3_digest_65 : decode cX3_digest 65 = .ok (.getfield 85, 3) := by decide +kernel
theorem dX3_digest_68 : decode cX3_digest 68 = .ok (.ifCond .eq 11, 3) := by decide +kernel
theorem dX3_digest_71 : decode cX3_digest 71 = .ok (.aload_n 0, 1) := by decide +kernel
theorem dX3_digest_72 : decode cX3_digest 72 = .ok (.getfield 95, 3) := by decide +kernel
theorem dX3_digest_75 : decode cX3_digest 75 = .ok (.i2l, 1) := by decide +kernel
theorem dX3_digest_76 : decode cX3_digest 76 = .ok (.goto 6, 3) := by decide +kernel
theorem dX3_digest_79 : decode cX3_digest 79 = .ok (.ldc2_w 178, 3) := by decide +kernel
theorem dX3_digest_82 : decode cX3_digest 82 = .ok (.invokestatic 174, 3) := by decide +kernel
theorem dX3_digest_85 : decode cX3_digest 85 = .ok (.aload_n 0, 1) := by decide +kernel
theorem dX3_digest_86 : decode cX3_digest 86 = .ok (.getfield 85, 3) := by decide +kernel
theorem dX3_digest_89 : decode cX3_digest 89 = .ok (.ifCond .eq 11, 3) := by decide +kernel
theorem dX3_digest_92 : decode cX3_digest 92 = .ok (.aload_n 0, 1) := by decide +kernel
theorem dX3_digest_93 : decode cX3_digest 93 = .ok (.getfield 98, 3) := by decide +kernel
theorem dX3_digest_96 : decode cX3_digest 96 = .ok (.i2l, 1) := by decide +kernel
theorem dX3_digest_97 : decode cX3_digest 97 = .ok (.goto 6, 3) := by decide +kernel
theorem dX3_digest_100 : decode cX3_digest 100 = .ok (.ldc2_w 178, 3) := by decide +kernel
theorem dX3_digest_103 : decode cX3_digest 103 = .ok (.invokestatic 174, 3) := by decide +kernel
theorem dX3_digest_106 : decode cX3_digest 106 = .ok (.aload_n 0, 1) := by decide +kernel
theorem dX3_digest_107 : decode cX3_digest 107 = .ok (.getfield 110, 3) := by decide +kernel
theorem dX3_digest_110 : decode cX3_digest 110 = .ok (.i2l, 1) := by decide +kernel
theorem dX3_digest_111 : decode cX3_digest 111 = .ok (.invokestatic 174, 3) := by decide +kernel
theorem dX3_digest_114 : decode cX3_digest 114 = .ok (.lstore_n 1, 1) := by decide +kernel
theorem dX3_digest_115 : decode cX3_digest 115 = .ok (.lload_n 1, 1) := by decide +kernel
theorem dX3_digest_116 : decode cX3_digest 116 = .ok (.aload_n 0, 1) := by decide +kernel
theorem dX3_digest_117 : decode cX3_digest 117 = .ok (.invokevirtual 113, 3) := by decide +kernel
theorem dX3_digest_120 : decode cX3_digest 120 = .ok (.i2l, 1) := by decide +kernel
theorem dX3_digest_121 : decode cX3_digest 121 = .ok (.invokestatic 174, 3) := by decide +kernel
theorem dX3_digest_124 : decode cX3_digest 124 = .ok (.aload_n 0, 1) := by decide +kernel
theorem dX3_digest_125 : decode cX3_digest 125 = .ok (.invokevirtual 144, 3) := by decide +kernel
theorem dX3_digest_128 : decode cX3_digest 128 = .ok (.i2l, 1) := by decide +kernel
theorem dX3_digest_129 : decode cX3_digest 129 = .ok (.invokestatic 174, 3) := by decide +kernel
theorem dX3_digest_132 : decode cX3_digest 132 = .ok (.aload_n 0, 1) := by decide +kernel
theorem dX3_digest_133 : decode cX3_digest 133 = .ok (.invokevirtual 121, 3) := by decide +kernel
theorem dX3_digest_136 : decode cX3_digest 136 = .ok (.i2l, 1) := by decide +kernel
theorem dX3_digest_137 : decode cX3_digest 137 = .ok (.invokestatic 174, 3) := by decide +kernel
theorem dX3_digest_140 : decode cX3_digest 140 = .ok (.lstore_n 1, 1) := by decide +kernel
theorem dX3_digest_141 : decode cX3_digest 141 = .ok (.lload_n 1, 1) := by decide +kernel
theorem dX3_digest_142 : decode cX3_digest 142 = .ok (.aload_n 0, 1) := by decide +kernel
theorem dX3_digest_143 : decode cX3_digest 143 = .ok (.iconst 0, 1) := by decide +kernel
theorem dX3_digest_144 : decode cX3_digest 144 = .ok (.invokevirtual 164, 3) := by decide +kernel
theorem dX3_digest_147 : decode cX3_digest 147 = .ok (.i2l, 1) := by decide +kernel
theorem dX3_digest_148 : decode cX3_digest 148 = .ok (.invokestatic 174, 3) := by decide +kernel
theorem dX3_digest_151 : decode cX3_digest 151 = .ok (.aload_n 0, 1) := by decide +kernel
theorem dX3_digest_152 : decode cX3_digest 152 = .ok (.iconst 1, 1) := by decide +kernel
theorem dX3_digest_153 : decode cX3_digest 153 = .ok (.invokevirtual 164, 3) := by decide +kernel
theorem dX3_digest_156 : decode cX3_digest 156 = .ok (.i2l, 1) := by decide +kernel
theorem dX3_digest_157 : decode cX3_digest 157 = .ok (.invokestatic 174, 3) := by decide +kernel
theorem dX3_digest_160 : decode cX3_digest 160 = .ok (.aload_n 0, 1) := by decide +kernel
theorem dX3_digest_161 : decode cX3_digest 161 = .ok (.invokevirtual 167, 3) := by decide +kernel
theorem dX3_digest_164 : decode cX3_digest 164 = .ok (.i2l, 1) := by decide +kernel
theorem dX3_digest_165 : decode cX3_digest 165 = .ok (.invokestatic 174, 3) := by decide +kernel
theorem dX3_digest_168 : decode cX3_digest 168 = .ok (.lstore_n 1, 1) := by decide +kernel
theorem dX3_digest_169 : decode cX3_digest 169 = .ok (.iconst 0, 1) := by decide +kernel
theorem dX3_digest_170 : decode cX3_digest 170 = .ok (.istore_n 3, 1) := by decide +kernel
theorem dX3_digest_171 : decode cX3_digest 171 = .ok (.iload_n 3, 1) := by decide +kernel
theorem dX3_digest_172 : decode cX3_digest 172 = .ok (.aload_n 0, 1) := by decide +kernel
theorem dX3_digest_173 : decode cX3_digest 173 = .ok (.getfield 43, 3) := by decide +kernel
theorem dX3_digest_176 : decode cX3_digest 176 = .ok (.if_icmp .ge 57, 3) := by decide +kernel
theorem dX3_digest_179 : decode cX3_digest 179 = .ok (.lload_n 1, 1) := by decide +kernel
theorem dX3_digest_180 : decode cX3_digest 180 = .ok (.aload_n 0, 1) := by decide +kernel
theorem dX3_digest_181 : decode cX3_digest 181 = .ok (.getfield 9, 3) := by decide +kernel
theorem dX3_digest_184 : decode cX3_digest 184 = .ok (.iload_n 3, 1) := by decide +kernel
theorem dX3_digest_185 : decode cX3_digest 185 = .ok (.baload, 1) := by decide +kernel
theorem dX3_digest_186 : decode cX3_digest 186 = .ok (.ifCond .eq 7, 3) := by decide +kernel
theorem dX3_digest_189 : decode cX3_digest 189 = .ok (.lconst 1, 1) := by decide +kernel
theorem dX3_digest_190 : decode cX3_digest 190 = .ok (.goto 4, 3) := by decide +kernel
theorem dX3_digest_193 : decode cX3_digest 193 = .ok (.lconst 0, 1) := by decide +kernel
theorem dX3_digest_194 : decode cX3_digest 194 = .ok (.invokestatic 174, 3) := by decide +kernel
theorem dX3_digest_197 : decode cX3_digest 197 = .ok (.aload_n 0, 1) := by decide +kernel
theorem dX3_digest_198 : decode cX3_digest 198 = .ok (.getfield 13, 3) := by decide +kernel
theorem dX3_digest_201 : decode cX3_digest 201 = .ok (.iload_n 3, 1) := by decide +kernel
theorem dX3_digest_202 : decode cX3_digest 202 = .ok (.iaload, 1) := by decide +kernel
theorem dX3_digest_203 : decode cX3_digest 203 = .ok (.i2l, 1) := by decide +kernel
theorem dX3_digest_204 : decode cX3_digest 204 = .ok (.invokestatic 174, 3) := by decide +kernel
theorem dX3_digest_207 : decode cX3_digest 207 = .ok (.aload_n 0, 1) := by decide +kernel
theorem dX3_digest_208 : decode cX3_digest 208 = .ok (.iload_n 3, 1) := by decide +kernel
theorem dX3_digest_209 : decode cX3_digest 209 = .ok (.invokevirtual 131, 3) := by decide +kernel
theorem dX3_digest_212 : decode cX3_digest 212 = .ok (.i2l, 1) := by decide +kernel
theorem dX3_digest_213 : decode cX3_digest 213 = .ok (.invokestatic 174, 3) := by decide +kernel
theorem dX3_digest_216 : decode cX3_digest 216 = .ok (.aload_n 0, 1) := by decide +kernel
theorem dX3_digest_217 : decode cX3_digest 217 = .ok (.iconst 0, 1) := by decide +kernel
theorem dX3_digest_218 : decode cX3_digest 218 = .ok (.iload_n 3, 1) := by decide +kernel
theorem dX3_digest_219 : decode cX3_digest 219 = .ok (.invokevirtual 104, 3) := by decide +kernel
theorem dX3_digest_222 : decode cX3_digest 222 = .ok (.i2l, 1) := by decide +kernel
theorem dX3_digest_223 : decode cX3_digest 223 = .ok (.invokestatic 174, 3) := by decide +kernel
theorem dX3_digest_226 : decode cX3_digest 226 = .ok (.lstore_n 1, 1) := by decide +kernel
theorem dX3_digest_227 : decode cX3_digest 227 = .ok (.iinc 3 1, 3) := by decide +kernel
theorem dX3_digest_230 : decode cX3_digest 230 = .ok (.goto (-59), 3) := by decide +kernel
theorem dX3_digest_233 : decode cX3_digest 233 = .ok (.iconst 0, 1) := by decide +kernel
theorem dX3_digest_234 : decode cX3_digest 234 = .ok (.istore_n 3, 1) := by decide +kernel
theorem dX3_digest_235 : decode cX3_digest 235 = .ok (.iload_n 3, 1) := by decide +kernel
theorem dX3_digest_236 : decode cX3_digest 236 = .ok (.aload_n 0, 1) := by decide +kernel
theorem dX3_digest_237 : decode cX3_digest 237 = .ok (.getfield 57, 3) := by decide +kernel
theorem dX3_digest_240 : decode cX3_digest 240 = .ok (.if_icmp .ge 57, 3) := by decide +kernel
theorem dX3_digest_243 : decode cX3_digest 243 = .ok (.lload_n 1, 1) := by decide +kernel
theorem dX3_digest_244 : decode cX3_digest 244 = .ok (.aload_n 0, 1) := by decide +kernel
theorem dX3_digest_245 : decode cX3_digest 245 = .ok (.getfield 29, 3) := by decide +kernel
theorem dX3_digest_248 : decode cX3_digest 248 = .ok (.iload_n 3, 1) := by decide +kernel
theorem dX3_digest_249 : decode cX3_digest 249 = .ok (.baload, 1) := by decide +kernel
theorem dX3_digest_250 : decode cX3_digest 250 = .ok (.ifCond .eq 7, 3) := by decide +kernel
theorem dX3_digest_253 : decode cX3_digest 253 = .ok (.lconst 1, 1) := by decide +kernel
theorem dX3_digest_254 : decode cX3_digest 254 = .ok (.goto 4, 3) := by decide +kernel
theorem dX3_digest_257 : decode cX3_digest 257 = .ok (.lconst 0, 1) := by decide +kernel
theorem dX3_digest_258 : decode cX3_digest 258 = .ok (.invokestatic 174, 3) := by decide +kernel
theorem dX3_digest_261 : decode cX3_digest 261 = .ok (.aload_n 0, 1) := by decide +kernel
theorem dX3_digest_262 : decode cX3_digest 262 = .ok (.iload_n 3, 1) := by decide +kernel
theorem dX3_digest_263 : decode cX3_digest 263 = .ok (.aload_n 0, 1) := by decide +kernel
theorem dX3_digest_264 : decode cX3_digest 264 = .ok (.getfield 92, 3) := by decide +kernel
theorem dX3_digest_267 : decode cX3_digest 267 = .ok (.invokevirtual 71, 3) := by decide +kernel
theorem dX3_digest_270 : decode cX3_digest 270 = .ok (.ifCond .eq 7, 3) := by decide +kernel
theorem dX3_digest_273 : decode cX3_digest 273 = .ok (.lconst 1, 1) := by decide +kernel
theorem dX3_digest_274 : decode cX3_digest 274 = .ok (.goto 4, 3) := by decide +kernel
theorem dX3_digest_277 : decode cX3_digest 277 = .ok (.lconst 0, 1) := by decide +kernel
theorem dX3_digest_278 : decode cX3_digest 278 = .ok (.invokestatic 174, 3) := by decide +kernel
theorem dX3_digest_281 : decode cX3_digest 281 = .ok (.aload_n 0, 1) := by decide +kernel
theorem dX3_digest_282 : decode cX3_digest 282 = .ok (.iload_n 3, 1) := by decide +kernel
theorem dX3_digest_283 : decode cX3_digest 283 = .ok (.invokevirtual 134, 3) := by decide +kernel
theorem dX3_digest_286 : decode cX3_digest 286 = .ok (.i2l, 1) := by decide +kernel
theorem dX3_digest_287 : decode cX3_digest 287 = .ok (.invokestatic 174, 3) := by decide +kernel
theorem dX3_digest_290 : decode cX3_digest 290 = .ok (.lstore_n 1, 1) := by decide +kernel
theorem dX3_digest_291 : decode cX3_digest 291 = .ok (.iinc 3 1, 3) := by decide +kernel
theorem dX3_digest_294 : decode cX3_digest 294 = .ok (.goto (-59), 3) := by decide +kernel
theorem dX3_digest_297 : decode cX3_digest 297 = .ok (.lload_n 1, 1) := by decide +kernel
theorem dX3_digest_298 : decode cX3_digest 298 = .ok (.lreturn, 1) := by decide +kernel
