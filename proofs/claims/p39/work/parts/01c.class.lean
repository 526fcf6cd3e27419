theorem dX0_init_0 : decode cX0_init 0 = .ok (.aload_n 0, 1) := by decide +kernel
theorem dX0_init_1 : decode cX0_init 1 = .ok (.invokespecial 3, 3) := by decide +kernel
theorem dX0_init_4 : decode cX0_init 4 = .ok (.aload_n 0, 1) := by decide +kernel
theorem dX0_init_5 : decode cX0_init 5 = .ok (.bipush 8, 2) := by decide +kernel
theorem dX0_init_7 : decode cX0_init 7 = .ok (.newarray .boolean, 2) := by decide +kernel
theorem dX0_init_9 : decode cX0_init 9 = .ok (.putfield 9, 3) := by decide +kernel
theorem dX0_init_12 : decode cX0_init 12 = .ok (.aload_n 0, 1) := by decide +kernel
theorem dX0_init_13 : decode cX0_init 13 = .ok (.bipush 8, 2) := by decide +kernel
theorem dX0_init_15 : decode cX0_init 15 = .ok (.newarray .int, 2) := by decide +kernel
theorem dX0_init_17 : decode cX0_init 17 = .ok (.putfield 15, 3) := by decide +kernel
theorem dX0_init_20 : decode cX0_init 20 = .ok (.aload_n 0, 1) := by decide +kernel
theorem dX0_init_21 : decode cX0_init 21 = .ok (.bipush 14, 2) := by decide +kernel
theorem dX0_init_23 : decode cX0_init 23 = .ok (.newarray .int, 2) := by decide +kernel
theorem dX0_init_25 : decode cX0_init 25 = .ok (.putfield 19, 3) := by decide +kernel
theorem dX0_init_28 : decode cX0_init 28 = .ok (.aload_n 0, 1) := by decide +kernel
theorem dX0_init_29 : decode cX0_init 29 = .ok (.bipush 14, 2) := by decide +kernel
theorem dX0_init_31 : decode cX0_init 31 = .ok (.newarray .int, 2) := by decide +kernel
theorem dX0_init_33 : decode cX0_init 33 = .ok (.putfield 22, 3) := by decide +kernel
theorem dX0_init_36 : decode cX0_init 36 = .ok (.aload_n 0, 1) := by decide +kernel
theorem dX0_init_37 : decode cX0_init 37 = .ok (.bipush 14, 2) := by decide +kernel
theorem dX0_init_39 : decode cX0_init 39 = .ok (.newarray .int, 2) := by decide +kernel
theorem dX0_init_41 : decode cX0_init 41 = .ok (.putfield 25, 3) := by decide +kernel
theorem dX0_init_44 : decode cX0_init 44 = .ok (.aload_n 0, 1) := by decide +kernel
theorem dX0_init_45 : decode cX0_init 45 = .ok (.bipush 14, 2) := by decide +kernel
theorem dX0_init_47 : decode cX0_init 47 = .ok (.newarray .int, 2) := by decide +kernel
theorem dX0_init_49 : decode cX0_init 49 = .ok (.putfield 28, 3) := by decide +kernel
theorem dX0_init_52 : decode cX0_init 52 = .ok (.aload_n 0, 1) := by decide +kernel
theorem dX0_init_53 : decode cX0_init 53 = .ok (.bipush 14, 2) := by decide +kernel
theorem dX0_init_55 : decode cX0_init 55 = .ok (.newarray .boolean, 2) := by decide +kernel
theorem dX0_init_57 : decode cX0_init 57 = .ok (.putfield 31, 3) := by decide +kernel
theorem dX0_init_60 : decode cX0_init 60 = .ok (.return_, 1) := by decide +kernel
theorem dX0_makeRoom_0 : decode cX0_makeRoom 0 = .ok (.aload_n 0, 1) := by decide +kernel
theorem dX0_makeRoom_1 : decode cX0_makeRoom 1 = .ok (.getfield 9, 3) := by decide +kernel
theorem dX0_makeRoom_4 : decode cX0_makeRoom 4 = .ok (.aload_n 0, 1) := by decide +kernel
theorem dX0_makeRoom_5 : decode cX0_makeRoom 5 = .ok (.getfield 34, 3) := by decide +kernel
theorem dX0_makeRoom_8 : decode cX0_makeRoom 8 = .ok (.iload_n 1, 1) := by decide +kernel
theorem dX0_makeRoom_9 : decode cX0_makeRoom 9 = .ok (.bastore, 1) := by decide +kernel
theorem dX0_makeRoom_10 : decode cX0_makeRoom 10 = .ok (.aload_n 0, 1) := by decide +kernel
theorem dX0_makeRoom_11 : decode cX0_makeRoom 11 = .ok (.dup, 1) := by decide +kernel
theorem dX0_makeRoom_12 : decode cX0_makeRoom 12 = .ok (.getfield 34, 3) := by decide +kernel
theorem dX0_makeRoom_15 : decode cX0_makeRoom 15 = .ok (.iconst 1, 1) := by decide +kernel
theorem dX0_makeRoom_16 : decode cX0_makeRoom 16 = .ok (.iadd, 1) := by decide +kernel
theorem dX0_makeRoom_17 : decode cX0_makeRoom 17 = .ok (.putfield 34, 3) := by decide +kernel
theorem dX0_makeRoom_20 : decode cX0_makeRoom 20 = .ok (.aload_n 0, 1) := by decide +kernel
theorem dX0_makeRoom_21 : decode cX0_makeRoom 21 = .ok (.getfield 34, 3) := by decide +kernel
theorem dX0_makeRoom_24 : decode cX0_makeRoom 24 = .ok (.iconst 1, 1) := by decide +kernel
theorem dX0_makeRoom_25 : decode cX0_makeRoom 25 = .ok (.isub, 1) := by decide +kernel
theorem dX0_makeRoom_26 : decode cX0_makeRoom 26 = .ok (.ireturn, 1) := by decide +kernel
theorem dX0_makeDoor_0 : decode cX0_makeDoor 0 = .ok (.aload_n 0, 1) := by decide +kernel
theorem dX0_makeDoor_1 : decode cX0_makeDoor 1 = .ok (.getfield 19, 3) := by decide +kernel
theorem dX0_makeDoor_4 : decode cX0_makeDoor 4 = .ok (.aload_n 0, 1) := by decide +kernel
theorem dX0_makeDoor_5 : decode cX0_makeDoor 5 = .ok (.getfield 38, 3) := by decide +kernel
theorem dX0_makeDoor_8 : decode cX0_makeDoor 8 = .ok (.iload_n 1, 1) := by decide +kernel
theorem dX0_makeDoor_9 : decode cX0_makeDoor 9 = .ok (.iastore, 1) := by decide +kernel
theorem dX0_makeDoor_10 : decode cX0_makeDoor 10 = .ok (.aload_n 0, 1) := by decide +kernel
theorem dX0_makeDoor_11 : decode cX0_makeDoor 11 = .ok (.getfield 22, 3) := by decide +kernel
theorem dX0_makeDoor_14 : decode cX0_makeDoor 14 = .ok (.aload_n 0, 1) := by decide +kernel
theorem dX0_makeDoor_15 : decode cX0_makeDoor 15 = .ok (.getfield 38, 3) := by decide +kernel
theorem dX0_makeDoor_18 : decode cX0_makeDoor 18 = .ok (.iload_n 2, 1) := by decide +kernel
theorem dX0_makeDoor_19 : decode cX0_makeDoor 19 = .ok (.iastore, 1) := by decide +kernel
theorem dX0_makeDoor_20 : decode cX0_makeDoor 20 = .ok (.aload_n 0, 1) := by decide +kernel
theorem dX0_makeDoor_21 : decode cX0_makeDoor 21 = .ok (.getfield 25, 3) := by decide +kernel
theorem dX0_makeDoor_24 : decode cX0_makeDoor 24 = .ok (.aload_n 0, 1) := by decide +kernel
theorem dX0_makeDoor_25 : decode cX0_makeDoor 25 = .ok (.getfield 38, 3) := by decide +kernel
theorem dX0_makeDoor_28 : decode cX0_makeDoor 28 = .ok (.iload_n 3, 1) := by decide +kernel
theorem dX0_makeDoor_29 : decode cX0_makeDoor 29 = .ok (.iastore, 1) := by decide +kernel
theorem dX0_makeDoor_30 : decode cX0_makeDoor 30 = .ok (.aload_n 0, 1) := by decide +kernel
theorem dX0_makeDoor_31 : decode cX0_makeDoor 31 = .ok (.getfield 28, 3) := by decide +kernel
theorem dX0_makeDoor_34 : decode cX0_makeDoor 34 = .ok (.aload_n 0, 1) := by decide +kernel
theorem dX0_makeDoor_35 : decode cX0_makeDoor 35 = .ok (.getfield 38, 3) := by decide +kernel
theorem dX0_makeDoor_38 : decode cX0_makeDoor 38 = .ok (.iload 4, 2) := by decide +kernel
theorem dX0_makeDoor_40 : decode cX0_makeDoor 40 = .ok (.iastore, 1) := by decide +kernel
theorem dX0_makeDoor_41 : decode cX0_makeDoor 41 = .ok (.aload_n 0, 1) := by decide +kernel
theorem dX0_makeDoor_42 : decode cX0_makeDoor 42 = .ok (.dup, 1) := by decide +kernel
theorem dX0_makeDoor_43 : decode cX0_makeDoor 43 = .ok (.getfield 38, 3) := by decide +kernel
theorem dX0_makeDoor_46 : decode cX0_makeDoor 46 = .ok (.iconst 1, 1) := by decide +kernel
theorem dX0_makeDoor_47 : decode cX0_makeDoor 47 = .ok (.iadd, 1) := by decide +kernel
theorem dX0_makeDoor_48 : decode cX0_makeDoor 48 = .ok (.putfield 38, 3) := by decide +kernel
theorem dX0_makeDoor_51 : decode cX0_makeDoor 51 = .ok (.aload_n 0, 1) := by decide +kernel
theorem dX0_makeDoor_52 : decode cX0_makeDoor 52 = .ok (.getfield 38, 3) := by decide +kernel
theorem dX0_makeDoor_55 : decode cX0_makeDoor 55 = .ok (.iconst 1, 1) := by decide +kernel
theorem dX0_makeDoor_56 : decode cX0_makeDoor 56 = .ok (.isub, 1) := by decide +kernel
theorem dX0_makeDoor_57 : decode cX0_makeDoor 57 = .ok (.ireturn, 1) := by decide +kernel
theorem dX0_joining_0 : decode cX0_joining 0 = .ok (.iconst 0, 1) := by decide +kernel
theorem dX0_joining_1 : decode cX0_joining 1 = .ok (.istore_n 3, 1) := by decide +kernel
theorem dX0_joining_2 : decode cX0_joining 2 = .ok (.iload_n 3, 1) := by decide +kernel
theorem dX0_joining_3 : decode cX0_joining 3 = .ok (.aload_n 0, 1) := by decide +kernel
theorem dX0_joining_4 : decode cX0_joining 4 = .ok (.getfield 38, 3) := by decide +kernel
theorem dX0_joining_7 : decode cX0_joining 7 = .ok (.if_icmp .ge 51, 3) := by decide +kernel
theorem dX0_joining_10 : decode cX0_joining 10 = .ok (.aload_n 0, 1) := by decide +kernel
theorem dX0_joining_11 : decode cX0_joining 11 = .ok (.getfield 19, 3) := by decide +kernel
theorem dX0_joining_14 : decode cX0_joining 14 = .ok (.iload_n 3, 1) := by decide +kernel
theorem dX0_joining_15 : decode cX0_joining 15 = .ok (.iaload, 1) := by decide +kernel
theorem dX0_joining_16 : decode cX0_joining 16 = .ok (.iload_n 1, 1) := by decide +kernel
theorem dX0_joining_17 : decode cX0_joining 17 = .ok (.if_icmp .ne 13, 3) := by decide +kernel
theorem dX0_joining_20 : decode cX0_joining 20 = .ok (.aload_n 0, 1) := by decide +kernel
theorem dX0_joining_21 : decode cX0_joining 21 = .ok (.getfield 22, 3) := by decide +kernel
theorem dX0_joining_24 : decode cX0_joining 24 = .ok (.iload_n 3, 1) := by decide +kernel
theorem dX0_joining_25 : decode cX0_joining 25 = .ok (.iaload, 1) := by decide +kernel
theorem dX0_joining_26 : decode cX0_joining 26 = .ok (.iload_n 2, 1) := by decide +kernel
theorem dX0_joining_27 : decode cX0_joining 27 = .ok (.if_icmp .eq 23, 3) := by decide +kernel
theorem dX0_joining_30 : decode cX0_joining 30 = .ok (.aload_n 0, 1) := by decide +kernel
theorem dX0_joining_31 : decode cX0_joining 31 = .ok (.getfield 19, 3) := by decide +kernel
theorem dX0_joining_34 : decode cX0_joining 34 = .ok (.iload_n 3, 1) := by decide +kernel
theorem dX0_joining_35 : decode cX0_joining 35 = .ok (.iaload, 1) := by decide +kernel
theorem dX0_joining_36 : decode cX0_joining 36 = .ok (.iload_n 2, 1) := by decide +kernel
theorem dX0_joining_37 : decode cX0_joining 37 = .ok (.if_icmp .ne 15, 3) := by decide +kernel
theorem dX0_joining_40 : decode cX0_joining 40 = .ok (.aload_n 0, 1) := by decide +kernel
theorem dX0_joining_41 : decode cX0_joining 41 = .ok (.getfield 22, 3) := by decide +kernel
theorem dX0_joining_44 : decode cX0_joining 44 = .ok (.iload_n 3, 1) := by decide +kernel
theorem dX0_joining_45 : decode cX0_joining 45 = .ok (.iaload, 1) := by decide +kernel
theorem dX0_joining_46 : decode cX0_joining 46 = .ok (.iload_n 1, 1) := by decide +kernel
theorem dX0_joining_47 : decode cX0_joining 47 = .ok (.if_icmp .ne 5, 3) := by decide +kernel
theorem dX0_joining_50 : decode cX0_joining 50 = .ok (.iload_n 3, 1) := by decide +kernel
theorem dX0_joining_51 : decode cX0_joining 51 = .ok (.ireturn, 1) := by decide +kernel
theorem dX0_joining_52 : decode cX0_joining 52 = .ok (.iinc 3 1, 3) := by decide +kernel
theorem dX0_joining_55 : decode cX0_joining 55 = .ok (.goto (-53), 3) := by decide +kernel
theorem dX0_joining_58 : decode cX0_joining 58 = .ok (.iconst (-1), 1) := by decide +kernel
theorem dX0_joining_59 : decode cX0_joining 59 = .ok (.ireturn, 1) := by decide +kernel
theorem dX0_isOpenIn_0 : decode cX0_isOpenIn 0 = .ok (.aload_n 0, 1) := by decide +kernel
theorem dX0_isOpenIn_1 : decode cX0_isOpenIn 1 = .ok (.getfield 31, 3) := by decide +kernel
theorem dX0_isOpenIn_4 : decode cX0_isOpenIn 4 = .ok (.iload_n 1, 1) := by decide +kernel
theorem dX0_isOpenIn_5 : decode cX0_isOpenIn 5 = .ok (.baload, 1) := by decide +kernel
theorem dX0_isOpenIn_6 : decode cX0_isOpenIn 6 = .ok (.ifCond .eq 5, 3) := by decide +kernel
theorem dX0_isOpenIn_9 : decode cX0_isOpenIn 9 = .ok (.iconst 0, 1) := by decide +kernel
theorem dX0_isOpenIn_10 : decode cX0_isOpenIn 10 = .ok (.ireturn, 1) := by decide +kernel
theorem dX0_isOpenIn_11 : decode cX0_isOpenIn 11 = .ok (.aload_n 0, 1) := by decide +kernel
theorem dX0_isOpenIn_12 : decode cX0_isOpenIn 12 = .ok (.getfield 25, 3) := by decide +kernel
theorem dX0_isOpenIn_15 : decode cX0_isOpenIn 15 = .ok (.iload_n 1, 1) := by decide +kernel
theorem dX0_isOpenIn_16 : decode cX0_isOpenIn 16 = .ok (.iaload, 1) := by decide +kernel
theorem dX0_isOpenIn_17 : decode cX0_isOpenIn 17 = .ok (.istore_n 3, 1) := by decide +kernel
theorem dX0_isOpenIn_18 : decode cX0_isOpenIn 18 = .ok (.iload_n 3, 1) := by decide +kernel
theorem dX0_isOpenIn_19 : decode cX0_isOpenIn 19 = .ok (.iconst 1, 1) := by decide +kernel
theorem dX0_isOpenIn_20 : decode cX0_isOpenIn 20 = .ok (.if_icmp .le 15, 3) := by decide +kernel
theorem dX0_isOpenIn_23 : decode cX0_isOpenIn 23 = .ok (.iload_n 2, 1) := by decide +kernel
theorem dX0_isOpenIn_24 : decode cX0_isOpenIn 24 = .ok (.iload_n 3, 1) := by decide +kernel
theorem dX0_isOpenIn_25 : decode cX0_isOpenIn 25 = .ok (.irem, 1) := by decide +kernel
theorem dX0_isOpenIn_26 : decode cX0_isOpenIn 26 = .ok (.aload_n 0, 1) := by decide +kernel
theorem dX0_isOpenIn_27 : decode cX0_isOpenIn 27 = .ok (.getfield 28, 3) := by decide +kernel
theorem dX0_isOpenIn_30 : decode cX0_isOpenIn 30 = .ok (.iload_n 1, 1) := by decide +kernel
theorem dX0_isOpenIn_31 : decode cX0_isOpenIn 31 = .ok (.iaload, 1) := by decide +kernel
theorem dX0_isOpenIn_32 : decode cX0_isOpenIn 32 = .ok (.if_icmp .eq 7, 3) := by decide +kernel
theorem dX0_isOpenIn_35 : decode cX0_isOpenIn 35 = .ok (.iconst 1, 1) := by decide +kernel
theorem dX0_isOpenIn_36 : decode cX0_isOpenIn 36 = .ok (.goto 4, 3) := by decide +kernel
theorem dX0_isOpenIn_39 : decode cX0_isOpenIn 39 = .ok (.iconst 0, 1) := by decide +kernel
theorem dX0_isOpenIn_40 : decode cX0_isOpenIn 40 = .ok (.ireturn, 1) := by decide +kernel
theorem dX0_unlockedDoorsAt_0 : decode cX0_unlockedDoorsAt 0 = .ok (.iconst 0, 1) := by decide +kernel
theorem dX0_unlockedDoorsAt_1 : decode cX0_unlockedDoorsAt 1 = .ok (.istore_n 2, 1) := by decide +kernel
theorem dX0_unlockedDoorsAt_2 : decode cX0_unlockedDoorsAt 2 = .ok (.iconst 0, 1) := by decide +kernel
theorem dX0_unlockedDoorsAt_3 : decode cX0_unlockedDoorsAt 3 = .ok (.istore_n 3, 1) := by decide +kernel
theorem dX0_unlockedDoorsAt_4 : decode cX0_unlockedDoorsAt 4 = .ok (.iload_n 3, 1) := by decide +kernel
theorem dX0_unlockedDoorsAt_5 : decode cX0_unlockedDoorsAt 5 = .ok (.aload_n 0, 1) := by decide +kernel
theorem dX0_unlockedDoorsAt_6 : decode cX0_unlockedDoorsAt 6 = .ok (.getfield 38, 3) := by decide +kernel
theorem dX0_unlockedDoorsAt_9 : decode cX0_unlockedDoorsAt 9 = .ok (.if_icmp .ge 41, 3) := by decide +kernel
theorem dX0_unlockedDoorsAt_12 : decode cX0_unlockedDoorsAt 12 = .ok (.aload_n 0, 1) := by decide +kernel
theorem dX0_unlockedDoorsAt_13 : decode cX0_unlockedDoorsAt 13 = .ok (.getfield 31, 3) := by decide +kernel
theorem dX0_unlockedDoorsAt_16 : decode cX0_unlockedDoorsAt 16 = .ok (.iload_n 3, 1) := by decide +kernel
theorem dX0_unlockedDoorsAt_17 : decode cX0_unlockedDoorsAt 17 = .ok (.baload, 1) := by decide +kernel
theorem dX0_unlockedDoorsAt_18 : decode cX0_unlockedDoorsAt 18 = .ok (.ifCond .ne 26, 3) := by decide +kernel
theorem dX0_unlockedDoorsAt_21 : decode cX0_unlockedDoorsAt 21 = .ok (.aload_n 0, 1) := by decide +kernel
theorem dX0_unlockedDoorsAt_22 : decode cX0_unlockedDoorsAt 22 = .ok (.getfield 19, 3) := by decide +kernel
theorem dX0_unlockedDoorsAt_25 : decode cX0_unlockedDoorsAt 25 = .ok (.iload_n 3, 1) := by decide +kernel
theorem dX0_unlockedDoorsAt_26 : decode cX0_unlockedDoorsAt 26 = .ok (.iaload, 1) := by decide +kernel
theorem dX0_unlockedDoorsAt_27 : decode cX0_unlockedDoorsAt 27 = .ok (.iload_n 1, 1) := by decide +kernel
theorem dX0_unlockedDoorsAt_28 : decode cX0_unlockedDoorsAt 28 = .ok (.if_icmp .eq 13, 3) := by decide +kernel
theorem dX0_unlockedDoorsAt_31 : decode cX0_unlockedDoorsAt 31 = .ok (.aload_n 0, 1) := by decide +kernel
theorem dX0_unlockedDoorsAt_32 : decode cX0_unlockedDoorsAt 32 = .ok (.getfield 22, 3) := by decide +kernel
theorem dX0_unlockedDoorsAt_35 : decode cX0_unlockedDoorsAt 35 = .ok (.iload_n 3, 1) := by decide +kernel
theorem dX0_unlockedDoorsAt_36 : decode cX0_unlockedDoorsAt 36 = .ok (.iaload, 1) := by decide +kernel
theorem dX0_unlockedDoorsAt_37 : decode cX0_unlockedDoorsAt 37 = .ok (.iload_n 1, 1) := by decide +kernel
theorem dX0_unlockedDoorsAt_38 : decode cX0_unlockedDoorsAt 38 = .ok (.if_icmp .ne 6, 3) := by decide +kernel
theorem dX0_unlockedDoorsAt_41 : decode cX0_unlockedDoorsAt 41 = .ok (.iinc 2 1, 3) := by decide +kernel
theorem dX0_unlockedDoorsAt_44 : decode cX0_unlockedDoorsAt 44 = .ok (.iinc 3 1, 3) := by decide +kernel
theorem dX0_unlockedDoorsAt_47 : decode cX0_unlockedDoorsAt 47 = .ok (.goto (-43), 3) := by decide +kernel
theorem dX0_unlockedDoorsAt_50 : decode cX0_unlockedDoorsAt 50 = .ok (.iload_n 2, 1) := by decide +kernel
theorem dX0_unlockedDoorsAt_51 : decode cX0_unlockedDoorsAt 51 = .ok (.ireturn, 1) := by decide +kernel
set_option maxRecDepth 20000 in
theorem ggX0_doorsFrom_X2_bit : GoodIn wsX0_doorsFrom wsX2_bit := goodIn_r _ [3] (by decide +kernel) (by decide +kernel)
set_option maxRecDepth 20000 in
theorem gX0_doorsFrom_X2_bit_n41 : GoodIn wsX0_doorsFrom (wsX2_bit) := ggX0_doorsFrom_X2_bit
set_option maxRecDepth 20000 in
theorem ggX0_doorsFrom_X2_holds : GoodIn wsX0_doorsFrom wsX2_holds := goodIn_r _ [5] (by decide +kernel) (by decide +kernel)
set_option maxRecDepth 20000 in
theorem gX0_doorsFrom_X2_holds_n45 : GoodIn wsX0_doorsFrom (wsX2_holds) := ggX0_doorsFrom_X2_holds
set_option maxRecDepth 20000 in
theorem ggX0_doorsFrom_X0_oneDoorFarther : GoodIn wsX0_doorsFrom wsX0_oneDoorFarther := goodIn_r _ [10, 11, 12, 13, 14, 1, 2, 3, 15, 16, 17, 18, 19, 20, 21, 22, 23] (by decide +kernel) (by decide +kernel)
set_option maxRecDepth 20000 in
theorem gX0_doorsFrom_X0_oneDoorFarther : GoodIn wsX0_doorsFrom (wsV RX0 49 RX0 yX0_oneDoorFarther wsX0_oneDoorFarther) := goodIn_app (goodIn_of _ (by decide +kernel)) ggX0_doorsFrom_X0_oneDoorFarther
theorem dX0_doorsFrom_0 : decode cX0_doorsFrom 0 = .ok (.iload_n 1, 1) := by decide +kernel
theorem dX0_doorsFrom_1 : decode cX0_doorsFrom 1 = .ok (.invokestatic 41, 3) := by decide +kernel
theorem dX0_doorsFrom_4 : decode cX0_doorsFrom 4 = .ok (.istore_n 3, 1) := by decide +kernel
theorem dX0_doorsFrom_5 : decode cX0_doorsFrom 5 = .ok (.iconst 0, 1) := by decide +kernel
theorem dX0_doorsFrom_6 : decode cX0_doorsFrom 6 = .ok (.istore 4, 2) := by decide +kernel
theorem dX0_doorsFrom_8 : decode cX0_doorsFrom 8 = .ok (.iload 4, 2) := by decide +kernel
theorem dX0_doorsFrom_10 : decode cX0_doorsFrom 10 = .ok (.bipush 8, 2) := by decide +kernel
theorem dX0_doorsFrom_12 : decode cX0_doorsFrom 12 = .ok (.if_icmp .ge 26, 3) := by decide +kernel
theorem dX0_doorsFrom_15 : decode cX0_doorsFrom 15 = .ok (.iload_n 3, 1) := by decide +kernel
theorem dX0_doorsFrom_16 : decode cX0_doorsFrom 16 = .ok (.iload_n 2, 1) := by decide +kernel
theorem dX0_doorsFrom_17 : decode cX0_doorsFrom 17 = .ok (.invokestatic 45, 3) := by decide +kernel
theorem dX0_doorsFrom_20 : decode cX0_doorsFrom 20 = .ok (.ifCond .eq 6, 3) := by decide +kernel
theorem dX0_doorsFrom_23 : decode cX0_doorsFrom 23 = .ok (.iload 4, 2) := by decide +kernel
theorem dX0_doorsFrom_25 : decode cX0_doorsFrom 25 = .ok (.ireturn, 1) := by decide +kernel
theorem dX0_doorsFrom_26 : decode cX0_doorsFrom 26 = .ok (.aload_n 0, 1) := by decide +kernel
theorem dX0_doorsFrom_27 : decode cX0_doorsFrom 27 = .ok (.iload_n 3, 1) := by decide +kernel
theorem dX0_doorsFrom_28 : decode cX0_doorsFrom 28 = .ok (.invokevirtual 49, 3) := by decide +kernel
theorem dX0_doorsFrom_31 : decode cX0_doorsFrom 31 = .ok (.istore_n 3, 1) := by decide +kernel
theorem dX0_doorsFrom_32 : decode cX0_doorsFrom 32 = .ok (.iinc 4 1, 3) := by decide +kernel
theorem dX0_doorsFrom_35 : decode cX0_doorsFrom 35 = .ok (.goto (-27), 3) := by decide +kernel
theorem dX0_doorsFrom_38 : decode cX0_doorsFrom 38 = .ok (.iconst (-1), 1) := by decide +kernel
theorem dX0_doorsFrom_39 : decode cX0_doorsFrom 39 = .ok (.ireturn, 1) := by decide +kernel
set_option maxRecDepth 20000 in
theorem ggX0_oneDoorFarther_X2_bit : GoodIn wsX0_oneDoorFarther wsX2_bit := goodIn_r _ [7] (by decide +kernel) (by decide +kernel)
set_option maxRecDepth 20000 in
theorem gX0_oneDoorFarther_X2_bit_n41 : GoodIn wsX0_oneDoorFarther (wsX2_bit) := ggX0_oneDoorFarther_X2_bit
theorem dX0_oneDoorFarther_0 : decode cX0_oneDoorFarther 0 = .ok (.iload_n 1, 1) := by decide +kernel
theorem dX0_oneDoorFarther_1 : decode cX0_oneDoorFarther 1 = .ok (.istore_n 2, 1) := by decide +kernel
theorem dX0_oneDoorFarther_2 : decode cX0_oneDoorFarther 2 = .ok (.iconst 0, 1) := by decide +kernel
theorem dX0_oneDoorFarther_3 : decode cX0_oneDoorFarther 3 = .ok (.istore_n 3, 1) := by decide +kernel
theorem dX0_oneDoorFarther_4 : decode cX0_oneDoorFarther 4 = .ok (.iload_n 3, 1) := by decide +kernel
theorem dX0_oneDoorFarther_5 : decode cX0_oneDoorFarther 5 = .ok (.aload_n 0, 1) := by decide +kernel
theorem dX0_oneDoorFarther_6 : decode cX0_oneDoorFarther 6 = .ok (.getfield 38, 3) := by decide +kernel
theorem dX0_oneDoorFarther_9 : decode cX0_oneDoorFarther 9 = .ok (.if_icmp .ge 51, 3) := by decide +kernel
theorem dX0_oneDoorFarther_12 : decode cX0_oneDoorFarther 12 = .ok (.aload_n 0, 1) := by decide +kernel
theorem dX0_oneDoorFarther_13 : decode cX0_oneDoorFarther 13 = .ok (.getfield 19, 3) := by decide +kernel
theorem dX0_oneDoorFarther_16 : decode cX0_oneDoorFarther 16 = .ok (.iload_n 3, 1) := by decide +kernel
theorem dX0_oneDoorFarther_17 : decode cX0_oneDoorFarther 17 = .ok (.iaload, 1) := by decide +kernel
theorem dX0_oneDoorFarther_18 : decode cX0_oneDoorFarther 18 = .ok (.invokestatic 41, 3) := by decide +kernel
theorem dX0_oneDoorFarther_21 : decode cX0_oneDoorFarther 21 = .ok (.aload_n 0, 1) := by decide +kernel
theorem dX0_oneDoorFarther_22 : decode cX0_oneDoorFarther 22 = .ok (.getfield 22, 3) := by decide +kernel
theorem dX0_oneDoorFarther_25 : decode cX0_oneDoorFarther 25 = .ok (.iload_n 3, 1) := by decide +kernel
theorem dX0_oneDoorFarther_26 : decode cX0_oneDoorFarther 26 = .ok (.iaload, 1) := by decide +kernel
theorem dX0_oneDoorFarther_27 : decode cX0_oneDoorFarther 27 = .ok (.invokestatic 41, 3) := by decide +kernel
theorem dX0_oneDoorFarther_30 : decode cX0_oneDoorFarther 30 = .ok (.ior, 1) := by decide +kernel
theorem dX0_oneDoorFarther_31 : decode cX0_oneDoorFarther 31 = .ok (.istore 4, 2) := by decide +kernel
theorem dX0_oneDoorFarther_33 : decode cX0_oneDoorFarther 33 = .ok (.aload_n 0, 1) := by decide +kernel
theorem dX0_oneDoorFarther_34 : decode cX0_oneDoorFarther 34 = .ok (.getfield 31, 3) := by decide +kernel
theorem dX0_oneDoorFarther_37 : decode cX0_oneDoorFarther 37 = .ok (.iload_n 3, 1) := by decide +kernel
theorem dX0_oneDoorFarther_38 : decode cX0_oneDoorFarther 38 = .ok (.baload, 1) := by decide +kernel
theorem dX0_oneDoorFarther_39 : decode cX0_oneDoorFarther 39 = .ok (.ifCond .ne 15, 3) := by decide +kernel
theorem dX0_oneDoorFarther_42 : decode cX0_oneDoorFarther 42 = .ok (.iload_n 1, 1) := by decide +kernel
theorem dX0_oneDoorFarther_43 : decode cX0_oneDoorFarther 43 = .ok (.iload 4, 2) := by decide +kernel
theorem dX0_oneDoorFarther_45 : decode cX0_oneDoorFarther 45 = .ok (.iand, 1) := by decide +kernel
theorem dX0_oneDoorFarther_46 : decode cX0_oneDoorFarther 46 = .ok (.ifCond .eq 8, 3) := by decide +kernel
theorem dX0_oneDoorFarther_49 : decode cX0_oneDoorFarther 49 = .ok (.iload_n 2, 1) := by decide +kernel
theorem dX0_oneDoorFarther_50 : decode cX0_oneDoorFarther 50 = .ok (.iload 4, 2) := by decide +kernel
theorem dX0_oneDoorFarther_52 : decode cX0_oneDoorFarther 52 = .ok (.ior, 1) := by decide +kernel
theorem dX0_oneDoorFarther_53 : decode cX0_oneDoorFarther 53 = .ok (.istore_n 2, 1) := by decide +kernel
theorem dX0_oneDoorFarther_54 : decode cX0_oneDoorFarther 54 = .ok (.iinc 3 1, 3) := by decide +kernel
theorem dX0_oneDoorFarther_57 : decode cX0_oneDoorFarther 57 = .ok (.goto (-53), 3) := by decide +kernel
theorem dX0_oneDoorFarther_60 : decode cX0_oneDoorFarther 60 = .ok (.iload_n 2, 1) := by decide +kernel
theorem dX0_oneDoorFarther_61 : decode cX0_oneDoorFarther 61 = .ok (.ireturn, 1) := by decide +kernel
theorem dX1_init_0 : decode cX1_init 0 = .ok (.aload_n 0, 1) := by decide +kernel
theorem dX1_init_1 : decode cX1_init 1 = .ok (.invokespecial 5, 3) := by decide +kernel
theorem dX1_init_4 : decode cX1_init 4 = .ok (.aload_n 0, 1) := by decide +kernel
theorem dX1_init_5 : decode cX1_init 5 = .ok (.bipush 96, 2) := by decide +kernel
theorem dX1_init_7 : decode cX1_init 7 = .ok (.newarray .int, 2) := by decide +kernel
theorem dX1_init_9 : decode cX1_init 9 = .ok (.putfield 11, 3) := by decide +kernel
theorem dX1_init_12 : decode cX1_init 12 = .ok (.aload_n 0, 1) := by decide +kernel
theorem dX1_init_13 : decode cX1_init 13 = .ok (.bipush 96, 2) := by decide +kernel
theorem dX1_init_15 : decode cX1_init 15 = .ok (.newarray .int, 2) := by decide +kernel
theorem dX1_init_17 : decode cX1_init 17 = .ok (.putfield 15, 3) := by decide +kernel
theorem dX1_init_20 : decode cX1_init 20 = .ok (.aload_n 0, 1) := by decide +kernel
theorem dX1_init_21 : decode cX1_init 21 = .ok (.bipush 96, 2) := by decide +kernel
theorem dX1_init_23 : decode cX1_init 23 = .ok (.newarray .int, 2) := by decide +kernel
theorem dX1_init_25 : decode cX1_init 25 = .ok (.putfield 18, 3) := by decide +kernel
theorem dX1_init_28 : decode cX1_init 28 = .ok (.aload_n 0, 1) := by decide +kernel
theorem dX1_init_29 : decode cX1_init 29 = .ok (.sipush 768, 3) := by decide +kernel
theorem dX1_init_32 : decode cX1_init 32 = .ok (.newarray .int, 2) := by decide +kernel
theorem dX1_init_34 : decode cX1_init 34 = .ok (.putfield 21, 3) := by decide +kernel
theorem dX1_init_37 : decode cX1_init 37 = .ok (.return_, 1) := by decide +kernel
set_option maxRecDepth 20000 in
theorem ggX1_canGo_X1_placeOf : GoodIn wsX1_canGo wsX1_placeOf := goodIn_r _ [5] (by decide +kernel) (by decide +kernel)
set_option maxRecDepth 20000 in
theorem gX1_canGo_X1_placeOf : GoodIn wsX1_canGo (va_wsS RX1 24 yX1_placeOf wsX1_placeOf) := goodIn_app (goodIn_of _ (by decide +kernel)) ggX1_canGo_X1_placeOf
set_option maxRecDepth 20000 in
theorem ggX1_canGo_X2_holds : GoodIn wsX1_canGo wsX2_holds := goodIn_r _ [8] (by decide +kernel) (by decide +kernel)
set_option maxRecDepth 20000 in
theorem gX1_canGo_X2_holds_n28 : GoodIn wsX1_canGo (wsX2_holds) := ggX1_canGo_X2_holds
theorem dX1_canGo_0 : decode cX1_canGo 0 = .ok (.aload_n 0, 1) := by decide +kernel
theorem dX1_canGo_1 : decode cX1_canGo 1 = .ok (.getfield 11, 3) := by decide +kernel
theorem dX1_canGo_4 : decode cX1_canGo 4 = .ok (.iload_n 1, 1) := by decide +kernel
theorem dX1_canGo_5 : decode cX1_canGo 5 = .ok (.iload_n 2, 1) := by decide +kernel
theorem dX1_canGo_6 : decode cX1_canGo 6 = .ok (.invokestatic 24, 3) := by decide +kernel
theorem dX1_canGo_9 : decode cX1_canGo 9 = .ok (.iaload, 1) := by decide +kernel
theorem dX1_canGo_10 : decode cX1_canGo 10 = .ok (.iload_n 3, 1) := by decide +kernel
theorem dX1_canGo_11 : decode cX1_canGo 11 = .ok (.invokestatic 28, 3) := by decide +kernel
theorem dX1_canGo_14 : decode cX1_canGo 14 = .ok (.ireturn, 1) := by decide +kernel
set_option maxRecDepth 20000 in
theorem ggX1_turnsToCatchFrom_X1_placeOf : GoodIn wsX1_turnsToCatchFrom wsX1_placeOf := goodIn_r _ [5] (by decide +kernel) (by decide +kernel)
set_option maxRecDepth 20000 in
theorem gX1_turnsToCatchFrom_X1_placeOf : GoodIn wsX1_turnsToCatchFrom (va_wsS RX1 24 yX1_placeOf wsX1_placeOf) := goodIn_app (goodIn_of _ (by decide +kernel)) ggX1_turnsToCatchFrom_X1_placeOf
theorem dX1_turnsToCatchFrom_0 : decode cX1_turnsToCatchFrom 0 = .ok (.aload_n 0, 1) := by decide +kernel
theorem dX1_turnsToCatchFrom_1 : decode cX1_turnsToCatchFrom 1 = .ok (.getfield 21, 3) := by decide +kernel
theorem dX1_turnsToCatchFrom_4 : decode cX1_turnsToCatchFrom 4 = .ok (.iload_n 1, 1) := by decide +kernel
theorem dX1_turnsToCatchFrom_5 : decode cX1_turnsToCatchFrom 5 = .ok (.iload_n 2, 1) := by decide +kernel
theorem dX1_turnsToCatchFrom_6 : decode cX1_turnsToCatchFrom 6 = .ok (.invokestatic 24, 3) := by decide +kernel
theorem dX1_turnsToCatchFrom_9 : decode cX1_turnsToCatchFrom 9 = .ok (.bipush 8, 2) := by decide +kernel
theorem dX1_turnsToCatchFrom_11 : decode cX1_turnsToCatchFrom 11 = .ok (.imul, 1) := by decide +kernel
theorem dX1_turnsToCatchFrom_12 : decode cX1_turnsToCatchFrom 12 = .ok (.iload_n 3, 1) := by decide +kernel
theorem dX1_turnsToCatchFrom_13 : decode cX1_turnsToCatchFrom 13 = .ok (.iadd, 1) := by decide +kernel
theorem dX1_turnsToCatchFrom_14 : decode cX1_turnsToCatchFrom 14 = .ok (.iaload, 1) := by decide +kernel
theorem dX1_turnsToCatchFrom_15 : decode cX1_turnsToCatchFrom 15 = .ok (.ireturn, 1) := by decide +kernel
set_option maxRecDepth 20000 in
theorem ggX1_lookOut_X1_layWays : GoodIn wsX1_lookOut wsX1_layWays := goodIn_r _ [11, 12, 13, 14, 15, 16, 17, 10, 18, 19, 20, 21, 22, 23, 24, 25, 26, 27, 28, 29, 30, 31, 32, 33, 34, 35, 36, 64, 65, 66, 67, 68, 69, 70, 71, 72, 73, 74, 75, 76] (by decide +kernel) (by decide +kernel)
set_option maxRecDepth 20000 in
theorem gX1_lookOut_X1_layWays : GoodIn wsX1_lookOut (wsV RX1 32 RX1 yX1_layWays wsX1_layWays) := goodIn_app (goodIn_of _ (by decide +kernel)) ggX1_lookOut_X1_layWays
set_option maxRecDepth 20000 in
theorem ggX1_lookOut_X1_startInOneRoom : GoodIn wsX1_lookOut wsX1_startInOneRoom := goodIn_r _ [40, 41, 1, 42, 34, 16, 17, 10, 18, 19, 20, 21, 43, 44, 45, 46, 47, 48, 64, 65, 66, 67, 68, 69, 70, 71, 72, 73, 74, 75, 76] (by decide +kernel) (by decide +kernel)
set_option maxRecDepth 20000 in
theorem gX1_lookOut_X1_startInOneRoom : GoodIn wsX1_lookOut (wsV RX1 36 RX1 yX1_startInOneRoom wsX1_startInOneRoom) := goodIn_app (goodIn_of _ (by decide +kernel)) ggX1_lookOut_X1_startInOneRoom
set_option maxRecDepth 20000 in
theorem ggX1_lookOut_X1_lookOneTurnFarther : GoodIn wsX1_lookOut wsX1_lookOneTurnFarther := goodIn_r _ [52, 42, 2, 34, 35, 20, 36, 53, 54, 55, 10, 56, 12, 57, 58, 59, 16, 17, 18, 47, 48, 60, 61, 62, 63, 19, 21, 43, 44, 45, 46, 1, 41, 68, 69, 70, 71, 72, 73, 74, 75, 76, 64, 65, 66, 67] (by decide +kernel) (by decide +kernel)
set_option maxRecDepth 20000 in
theorem gX1_lookOut_X1_lookOneTurnFarther : GoodIn wsX1_lookOut (wsV RX1 46 RX1 yX1_lookOneTurnFarther wsX1_lookOneTurnFarther) := goodIn_app (goodIn_of _ (by decide +kernel)) ggX1_lookOut_X1_lookOneTurnFarther
theorem dX1_lookOut_0 : decode cX1_lookOut 0 = .ok (.aload_n 0, 1) := by decide +kernel
theorem dX1_lookOut_1 : decode cX1_lookOut 1 = .ok (.aload_n 1, 1) := by decide +kernel
theorem dX1_lookOut_2 : decode cX1_lookOut 2 = .ok (.iload_n 2, 1) := by decide +kernel
theorem dX1_lookOut_3 : decode cX1_lookOut 3 = .ok (.invokevirtual 32, 3) := by decide +kernel
theorem dX1_lookOut_6 : decode cX1_lookOut 6 = .ok (.aload_n 0, 1) := by decide +kernel
theorem dX1_lookOut_7 : decode cX1_lookOut 7 = .ok (.aload_n 1, 1) := by decide +kernel
theorem dX1_lookOut_8 : decode cX1_lookOut 8 = .ok (.invokevirtual 36, 3) := by decide +kernel
theorem dX1_lookOut_11 : decode cX1_lookOut 11 = .ok (.iconst 1, 1) := by decide +kernel
theorem dX1_lookOut_12 : decode cX1_lookOut 12 = .ok (.istore_n 3, 1) := by decide +kernel
theorem dX1_lookOut_13 : decode cX1_lookOut 13 = .ok (.iconst 1, 1) := by decide +kernel
theorem dX1_lookOut_14 : decode cX1_lookOut 14 = .ok (.istore 4, 2) := by decide +kernel
theorem dX1_lookOut_16 : decode cX1_lookOut 16 = .ok (.iload_n 3, 1) := by decide +kernel
theorem dX1_lookOut_17 : decode cX1_lookOut 17 = .ok (.ifCond .eq 40, 3) := by decide +kernel
theorem dX1_lookOut_20 : decode cX1_lookOut 20 = .ok (.iload 4, 2) := by decide +kernel
theorem dX1_lookOut_22 : decode cX1_lookOut 22 = .ok (.sipush 768, 3) := by decide +kernel
theorem dX1_lookOut_25 : decode cX1_lookOut 25 = .ok (.if_icmp .gt 32, 3) := by decide +kernel
theorem dX1_lookOut_28 : decode cX1_lookOut 28 = .ok (.aload_n 0, 1) := by decide +kernel
theorem dX1_lookOut_29 : decode cX1_lookOut 29 = .ok (.getfield 15, 3) := by decide +kernel
theorem dX1_lookOut_32 : decode cX1_lookOut 32 = .ok (.iconst 0, 1) := by decide +kernel
theorem dX1_lookOut_33 : decode cX1_lookOut 33 = .ok (.aload_n 0, 1) := by decide +kernel
theorem dX1_lookOut_34 : decode cX1_lookOut 34 = .ok (.getfield 18, 3) := by decide +kernel
theorem dX1_lookOut_37 : decode cX1_lookOut 37 = .ok (.iconst 0, 1) := by decide +kernel
theorem dX1_lookOut_38 : decode cX1_lookOut 38 = .ok (.bipush 96, 2) := by decide +kernel
theorem dX1_lookOut_40 : decode cX1_lookOut 40 = .ok (.invokestatic 40, 3) := by decide +kernel
theorem dX1_lookOut_43 : decode cX1_lookOut 43 = .ok (.aload_n 0, 1) := by decide +kernel
theorem dX1_lookOut_44 : decode cX1_lookOut 44 = .ok (.aload_n 1, 1) := by decide +kernel
theorem dX1_lookOut_45 : decode cX1_lookOut 45 = .ok (.iload 4, 2) := by decide +kernel
theorem dX1_lookOut_47 : decode cX1_lookOut 47 = .ok (.invokevirtual 46, 3) := by decide +kernel
theorem dX1_lookOut_50 : decode cX1_lookOut 50 = .ok (.istore_n 3, 1) := by decide +kernel
theorem dX1_lookOut_51 : decode cX1_lookOut 51 = .ok (.iinc 4 1, 3) := by decide +kernel
theorem dX1_lookOut_54 : decode cX1_lookOut 54 = .ok (.goto (-38), 3) := by decide +kernel
theorem dX1_lookOut_57 : decode cX1_lookOut 57 = .ok (.return_, 1) := by decide +kernel
set_option maxRecDepth 20000 in
theorem ggX1_layWays_X1_placeOf : GoodIn wsX1_layWays wsX1_placeOf := goodIn_r _ [8] (by decide +kernel) (by decide +kernel)
set_option maxRecDepth 20000 in
theorem gX1_layWays_X1_placeOf : GoodIn wsX1_layWays (va_wsS RX1 24 yX1_placeOf wsX1_placeOf) := goodIn_app (goodIn_of _ (by decide +kernel)) ggX1_layWays_X1_placeOf
set_option maxRecDepth 20000 in
theorem ggX1_layWays_X2_bit : GoodIn wsX1_layWays wsX2_bit := goodIn_r _ [11] (by decide +kernel) (by decide +kernel)
set_option maxRecDepth 20000 in
theorem gX1_layWays_X2_bit_n50 : GoodIn wsX1_layWays (wsX2_bit) := ggX1_layWays_X2_bit
set_option maxRecDepth 20000 in
theorem ggX1_layWays_X0_isOpenIn : GoodIn wsX1_layWays wsX0_isOpenIn := goodIn_r _ [16, 17, 18, 19, 31, 32, 33, 34, 35, 36, 37, 38, 39] (by decide +kernel) (by decide +kernel)
set_option maxRecDepth 20000 in
theorem gX1_layWays_X0_isOpenIn : GoodIn wsX1_layWays (wsV RX1 60 RX0 yX0_isOpenIn wsX0_isOpenIn) := goodIn_app (goodIn_of _ (by decide +kernel)) ggX1_layWays_X0_isOpenIn
set_option maxRecDepth 20000 in
theorem ggX1_layWays_X1_layWay : GoodIn wsX1_layWays wsX1_layWay := goodIn_r _ [23, 24, 1, 25, 10, 26, 5, 6, 7, 8, 9, 11, 31, 32, 33, 34, 35, 36, 37, 38, 39, 27, 28, 29, 30] (by decide +kernel) (by decide +kernel)
set_option maxRecDepth 20000 in
theorem gX1_layWays_X1_layWay : GoodIn wsX1_layWays (wsV RX1 69 RX1 yX1_layWay wsX1_layWay) := goodIn_app (goodIn_of _ (by decide +kernel)) ggX1_layWays_X1_layWay
theorem dX1_layWays_0 : decode cX1_layWays 0 = .ok (.iconst 0, 1) := by decide +kernel
theorem dX1_layWays_1 : decode cX1_layWays 1 = .ok (.istore_n 3, 1) := by decide +kernel
theorem dX1_layWays_2 : decode cX1_layWays 2 = .ok (.iload_n 3, 1) := by decide +kernel
theorem dX1_layWays_3 : decode cX1_layWays 3 = .ok (.bipush 12, 2) := by decide +kernel
theorem dX1_layWays_5 : decode cX1_layWays 5 = .ok (.if_icmp .ge 115, 3) := by decide +kernel
theorem dX1_layWays_8 : decode cX1_layWays 8 = .ok (.iconst 0, 1) := by decide +kernel
theorem dX1_layWays_9 : decode cX1_layWays 9 = .ok (.istore 4, 2) := by decide +kernel
theorem dX1_layWays_11 : decode cX1_layWays 11 = .ok (.iload 4, 2) := by decide +kernel
theorem dX1_layWays_13 : decode cX1_layWays 13 = .ok (.bipush 8, 2) := by decide +kernel
theorem dX1_layWays_15 : decode cX1_layWays 15 = .ok (.if_icmp .ge 25, 3) := by decide +kernel
theorem dX1_layWays_18 : decode cX1_layWays 18 = .ok (.aload_n 0, 1) := by decide +kernel
theorem dX1_layWays_19 : decode cX1_layWays 19 = .ok (.getfield 11, 3) := by decide +kernel
theorem dX1_layWays_22 : decode cX1_layWays 22 = .ok (.iload_n 3, 1) := by decide +kernel
theorem dX1_layWays_23 : decode cX1_layWays 23 = .ok (.iload 4, 2) := by decide +kernel
theorem dX1_layWays_25 : decode cX1_layWays 25 = .ok (.invokestatic 24, 3) := by decide +kernel
theorem dX1_layWays_28 : decode cX1_layWays 28 = .ok (.iload 4, 2) := by decide +kernel
theorem dX1_layWays_30 : decode cX1_layWays 30 = .ok (.invokestatic 50, 3) := by decide +kernel
theorem dX1_layWays_33 : decode cX1_layWays 33 = .ok (.iastore, 1) := by decide +kernel
theorem dX1_layWays_34 : decode cX1_layWays 34 = .ok (.iinc 4 1, 3) := by decide +kernel
theorem dX1_layWays_37 : decode cX1_layWays 37 = .ok (.goto (-26), 3) := by decide +kernel
theorem dX1_layWays_40 : decode cX1_layWays 40 = .ok (.iconst 0, 1) := by decide +kernel
theorem dX1_layWays_41 : decode cX1_layWays 41 = .ok (.istore 4, 2) := by decide +kernel
theorem dX1_layWays_43 : decode cX1_layWays 43 = .ok (.iload 4, 2) := by decide +kernel
theorem dX1_layWays_45 : decode cX1_layWays 45 = .ok (.aload_n 1, 1) := by decide +kernel
theorem dX1_layWays_46 : decode cX1_layWays 46 = .ok (.getfield 54, 3) := by decide +kernel
theorem dX1_layWays_49 : decode cX1_layWays 49 = .ok (.if_icmp .ge 65, 3) := by decide +kernel
theorem dX1_layWays_52 : decode cX1_layWays 52 = .ok (.iload 4, 2) := by decide +kernel
theorem dX1_layWays_54 : decode cX1_layWays 54 = .ok (.iload_n 2, 1) := by decide +kernel
theorem dX1_layWays_55 : decode cX1_layWays 55 = .ok (.if_icmp .eq 53, 3) := by decide +kernel
theorem dX1_layWays_58 : decode cX1_layWays 58 = .ok (.aload_n 1, 1) := by decide +kernel
theorem dX1_layWays_59 : decode cX1_layWays 59 = .ok (.iload 4, 2) := by decide +kernel
theorem dX1_layWays_61 : decode cX1_layWays 61 = .ok (.iload_n 3, 1) := by decide +kernel
theorem dX1_layWays_62 : decode cX1_layWays 62 = .ok (.invokevirtual 60, 3) := by decide +kernel
theorem dX1_layWays_65 : decode cX1_layWays 65 = .ok (.ifCond .eq 43, 3) := by decide +kernel
theorem dX1_layWays_68 : decode cX1_layWays 68 = .ok (.aload_n 0, 1) := by decide +kernel
theorem dX1_layWays_69 : decode cX1_layWays 69 = .ok (.aload_n 1, 1) := by decide +kernel
theorem dX1_layWays_70 : decode cX1_layWays 70 = .ok (.iload_n 3, 1) := by decide +kernel
theorem dX1_layWays_71 : decode cX1_layWays 71 = .ok (.aload_n 1, 1) := by decide +kernel
theorem dX1_layWays_72 : decode cX1_layWays 72 = .ok (.getfield 63, 3) := by decide +kernel
theorem dX1_layWays_75 : decode cX1_layWays 75 = .ok (.iload 4, 2) := by decide +kernel
theorem dX1_layWays_77 : decode cX1_layWays 77 = .ok (.iaload, 1) := by decide +kernel
theorem dX1_layWays_78 : decode cX1_layWays 78 = .ok (.aload_n 1, 1) := by decide +kernel
theorem dX1_layWays_79 : decode cX1_layWays 79 = .ok (.getfield 66, 3) := by decide +kernel
theorem dX1_layWays_82 : decode cX1_layWays 82 = .ok (.iload 4, 2) := by decide +kernel
theorem dX1_layWays_84 : decode cX1_layWays 84 = .ok (.iaload, 1) := by decide +kernel
theorem dX1_layWays_85 : decode cX1_layWays 85 = .ok (.invokevirtual 69, 3) := by decide +kernel
theorem dX1_layWays_88 : decode cX1_layWays 88 = .ok (.aload_n 0, 1) := by decide +kernel
theorem dX1_layWays_89 : decode cX1_layWays 89 = .ok (.aload_n 1, 1) := by decide +kernel
theorem dX1_layWays_90 : decode cX1_layWays 90 = .ok (.iload_n 3, 1) := by decide +kernel
theorem dX1_layWays_91 : decode cX1_layWays 91 = .ok (.aload_n 1, 1) := by decide +kernel
theorem dX1_layWays_92 : decode cX1_layWays 92 = .ok (.getfield 66, 3) := by decide +kernel
theorem dX1_layWays_95 : decode cX1_layWays 95 = .ok (.iload 4, 2) := by decide +kernel
theorem dX1_layWays_97 : decode cX1_layWays 97 = .ok (.iaload, 1) := by decide +kernel
theorem dX1_layWays_98 : decode cX1_layWays 98 = .ok (.aload_n 1, 1) := by decide +kernel
theorem dX1_layWays_99 : decode cX1_layWays 99 = .ok (.getfield 63, 3) := by decide +kernel
theorem dX1_layWays_102 : decode cX1_layWays 102 = .ok (.iload 4, 2) := by decide +kernel
theorem dX1_layWays_104 : decode cX1_layWays 104 = .ok (.iaload, 1) := by decide +kernel
theorem dX1_layWays_105 : decode cX1_layWays 105 = .ok (.invokevirtual 69, 3) := by decide +kernel
theorem dX1_layWays_108 : decode cX1_layWays 108 = .ok (.iinc 4 1, 3) := by decide +kernel
theorem dX1_layWays_111 : decode cX1_layWays 111 = .ok (.goto (-68), 3) := by decide +kernel
theorem dX1_layWays_114 : decode cX1_layWays 114 = .ok (.iinc 3 1, 3) := by decide +kernel
theorem dX1_layWays_117 : decode cX1_layWays 117 = .ok (.goto (-115), 3) := by decide +kernel
theorem dX1_layWays_120 : decode cX1_layWays 120 = .ok (.return_, 1) := by decide +kernel
set_option maxRecDepth 20000 in
theorem ggX1_layWay_X2_isCatsPhase : GoodIn wsX1_layWay wsX2_isCatsPhase := goodIn_r _ [5] (by decide +kernel) (by decide +kernel)
set_option maxRecDepth 20000 in
theorem gX1_layWay_X2_isCatsPhase_n73 : GoodIn wsX1_layWay (wsX2_isCatsPhase) := ggX1_layWay_X2_isCatsPhase
set_option maxRecDepth 20000 in
theorem ggX1_layWay_X1_placeOf : GoodIn wsX1_layWay wsX1_placeOf := goodIn_r _ [9] (by decide +kernel) (by decide +kernel)
set_option maxRecDepth 20000 in
theorem gX1_layWay_X1_placeOf : GoodIn wsX1_layWay (va_wsS RX1 24 yX1_placeOf wsX1_placeOf) := goodIn_app (goodIn_of _ (by decide +kernel)) ggX1_layWay_X1_placeOf
set_option maxRecDepth 20000 in
theorem ggX1_layWay_X2_bit : GoodIn wsX1_layWay wsX2_bit := goodIn_r _ [11] (by decide +kernel) (by decide +kernel)
set_option maxRecDepth 20000 in
theorem gX1_layWay_X2_bit_n50 : GoodIn wsX1_layWay (wsX2_bit) := ggX1_layWay_X2_bit
theorem dX1_layWay_0 : decode cX1_layWay 0 = .ok (.iload_n 2, 1) := by decide +kernel
theorem dX1_layWay_1 : decode cX1_layWay 1 = .ok (.invokestatic 73, 3) := by decide +kernel
theorem dX1_layWay_4 : decode cX1_layWay 4 = .ok (.ifCond .eq 13, 3) := by decide +kernel
theorem dX1_layWay_7 : decode cX1_layWay 7 = .ok (.aload_n 1, 1) := by decide +kernel
theorem dX1_layWay_8 : decode cX1_layWay 8 = .ok (.getfield 77, 3) := by decide +kernel
theorem dX1_layWay_11 : decode cX1_layWay 11 = .ok (.iload 4, 2) := by decide +kernel
theorem dX1_layWay_13 : decode cX1_layWay 13 = .ok (.baload, 1) := by decide +kernel
theorem dX1_layWay_14 : decode cX1_layWay 14 = .ok (.ifCond .ne 21, 3) := by decide +kernel
theorem dX1_layWay_17 : decode cX1_layWay 17 = .ok (.aload_n 0, 1) := by decide +kernel
theorem dX1_layWay_18 : decode cX1_layWay 18 = .ok (.getfield 11, 3) := by decide +kernel
theorem dX1_layWay_21 : decode cX1_layWay 21 = .ok (.iload_n 2, 1) := by decide +kernel
theorem dX1_layWay_22 : decode cX1_layWay 22 = .ok (.iload_n 3, 1) := by decide +kernel
theorem dX1_layWay_23 : decode cX1_layWay 23 = .ok (.invokestatic 24, 3) := by decide +kernel
theorem dX1_layWay_26 : decode cX1_layWay 26 = .ok (.dup2, 1) := by decide +kernel
theorem dX1_layWay_27 : decode cX1_layWay 27 = .ok (.iaload, 1) := by decide +kernel
theorem dX1_layWay_28 : decode cX1_layWay 28 = .ok (.iload 4, 2) := by decide +kernel
theorem dX1_layWay_30 : decode cX1_layWay 30 = .ok (.invokestatic 50, 3) := by decide +kernel
theorem dX1_layWay_33 : decode cX1_layWay 33 = .ok (.ior, 1) := by decide +kernel
theorem dX1_layWay_34 : decode cX1_layWay 34 = .ok (.iastore, 1) := by decide +kernel
theorem dX1_layWay_35 : decode cX1_layWay 35 = .ok (.return_, 1) := by decide +kernel
set_option maxRecDepth 20000 in
theorem ggX1_startInOneRoom_X1_placeOf : GoodIn wsX1_startInOneRoom wsX1_placeOf := goodIn_r _ [8] (by decide +kernel) (by decide +kernel)
set_option maxRecDepth 20000 in
theorem gX1_startInOneRoom_X1_placeOf : GoodIn wsX1_startInOneRoom (va_wsS RX1 24 yX1_placeOf wsX1_placeOf) := goodIn_app (goodIn_of _ (by decide +kernel)) ggX1_startInOneRoom_X1_placeOf
set_option maxRecDepth 20000 in
theorem ggX1_startInOneRoom_X2_bit : GoodIn wsX1_startInOneRoom wsX2_bit := goodIn_r _ [11] (by decide +kernel) (by decide +kernel)
set_option maxRecDepth 20000 in
theorem gX1_startInOneRoom_X2_bit_n50 : GoodIn wsX1_startInOneRoom (wsX2_bit) := ggX1_startInOneRoom_X2_bit
set_option maxRecDepth 20000 in
theorem ggX1_startInOneRoom_X1_keepSure : GoodIn wsX1_startInOneRoom wsX1_keepSure := goodIn_r _ [15, 2, 1, 5, 6, 7, 8, 16, 10, 17, 18, 19, 20, 21] (by decide +kernel) (by decide +kernel)
set_option maxRecDepth 20000 in
theorem gX1_startInOneRoom_X1_keepSure : GoodIn wsX1_startInOneRoom (wsV RX1 84 RX1 yX1_keepSure wsX1_keepSure) := goodIn_app (goodIn_of _ (by decide +kernel)) ggX1_startInOneRoom_X1_keepSure
theorem dX1_startInOneRoom_0 : decode cX1_startInOneRoom 0 = .ok (.iconst 0, 1) := by decide +kernel
theorem dX1_startInOneRoom_1 : decode cX1_startInOneRoom 1 = .ok (.istore_n 2, 1) := by decide +kernel
theorem dX1_startInOneRoom_2 : decode cX1_startInOneRoom 2 = .ok (.iload_n 2, 1) := by decide +kernel
theorem dX1_startInOneRoom_3 : decode cX1_startInOneRoom 3 = .ok (.sipush 768, 3) := by decide +kernel
theorem dX1_startInOneRoom_6 : decode cX1_startInOneRoom 6 = .ok (.if_icmp .ge 16, 3) := by decide +kernel
theorem dX1_startInOneRoom_9 : decode cX1_startInOneRoom 9 = .ok (.aload_n 0, 1) := by decide +kernel
theorem dX1_startInOneRoom_10 : decode cX1_startInOneRoom 10 = .ok (.getfield 21, 3) := by decide +kernel
theorem dX1_startInOneRoom_13 : decode cX1_startInOneRoom 13 = .ok (.iload_n 2, 1) := by decide +kernel
theorem dX1_startInOneRoom_14 : decode cX1_startInOneRoom 14 = .ok (.iconst (-1), 1) := by decide +kernel
theorem dX1_startInOneRoom_15 : decode cX1_startInOneRoom 15 = .ok (.iastore, 1) := by decide +kernel
theorem dX1_startInOneRoom_16 : decode cX1_startInOneRoom 16 = .ok (.iinc 2 1, 3) := by decide +kernel
theorem dX1_startInOneRoom_19 : decode cX1_startInOneRoom 19 = .ok (.goto (-17), 3) := by decide +kernel
theorem dX1_startInOneRoom_22 : decode cX1_startInOneRoom 22 = .ok (.iconst 0, 1) := by decide +kernel
theorem dX1_startInOneRoom_23 : decode cX1_startInOneRoom 23 = .ok (.istore_n 2, 1) := by decide +kernel
theorem dX1_startInOneRoom_24 : decode cX1_startInOneRoom 24 = .ok (.iload_n 2, 1) := by decide +kernel
theorem dX1_startInOneRoom_25 : decode cX1_startInOneRoom 25 = .ok (.bipush 12, 2) := by decide +kernel
theorem dX1_startInOneRoom_27 : decode cX1_startInOneRoom 27 = .ok (.if_icmp .ge 62, 3) := by decide +kernel
theorem dX1_startInOneRoom_30 : decode cX1_startInOneRoom 30 = .ok (.iconst 0, 1) := by decide +kernel
theorem dX1_startInOneRoom_31 : decode cX1_startInOneRoom 31 = .ok (.istore_n 3, 1) := by decide +kernel
theorem dX1_startInOneRoom_32 : decode cX1_startInOneRoom 32 = .ok (.iload_n 3, 1) := by decide +kernel
theorem dX1_startInOneRoom_33 : decode cX1_startInOneRoom 33 = .ok (.bipush 8, 2) := by decide +kernel
theorem dX1_startInOneRoom_35 : decode cX1_startInOneRoom 35 = .ok (.if_icmp .ge 48, 3) := by decide +kernel
theorem dX1_startInOneRoom_38 : decode cX1_startInOneRoom 38 = .ok (.aload_n 0, 1) := by decide +kernel
theorem dX1_startInOneRoom_39 : decode cX1_startInOneRoom 39 = .ok (.getfield 15, 3) := by decide +kernel
theorem dX1_startInOneRoom_42 : decode cX1_startInOneRoom 42 = .ok (.iload_n 2, 1) := by decide +kernel
theorem dX1_startInOneRoom_43 : decode cX1_startInOneRoom 43 = .ok (.iload_n 3, 1) := by decide +kernel
theorem dX1_startInOneRoom_44 : decode cX1_startInOneRoom 44 = .ok (.invokestatic 24, 3) := by decide +kernel
theorem dX1_startInOneRoom_47 : decode cX1_startInOneRoom 47 = .ok (.iconst 0, 1) := by decide +kernel
theorem dX1_startInOneRoom_48 : decode cX1_startInOneRoom 48 = .ok (.iastore, 1) := by decide +kernel
theorem dX1_startInOneRoom_49 : decode cX1_startInOneRoom 49 = .ok (.iload_n 3, 1) := by decide +kernel
theorem dX1_startInOneRoom_50 : decode cX1_startInOneRoom 50 = .ok (.aload_n 1, 1) := by decide +kernel
theorem dX1_startInOneRoom_51 : decode cX1_startInOneRoom 51 = .ok (.getfield 81, 3) := by decide +kernel
theorem dX1_startInOneRoom_54 : decode cX1_startInOneRoom 54 = .ok (.if_icmp .ge 23, 3) := by decide +kernel
theorem dX1_startInOneRoom_57 : decode cX1_startInOneRoom 57 = .ok (.aload_n 1, 1) := by decide +kernel
theorem dX1_startInOneRoom_58 : decode cX1_startInOneRoom 58 = .ok (.getfield 77, 3) := by decide +kernel
theorem dX1_startInOneRoom_61 : decode cX1_startInOneRoom 61 = .ok (.iload_n 3, 1) := by decide +kernel
theorem dX1_startInOneRoom_62 : decode cX1_startInOneRoom 62 = .ok (.baload, 1) := by decide +kernel
theorem dX1_startInOneRoom_63 : decode cX1_startInOneRoom 63 = .ok (.ifCond .ne 14, 3) := by decide +kernel
theorem dX1_startInOneRoom_66 : decode cX1_startInOneRoom 66 = .ok (.aload_n 0, 1) := by decide +kernel
theorem dX1_startInOneRoom_67 : decode cX1_startInOneRoom 67 = .ok (.iload_n 2, 1) := by decide +kernel
theorem dX1_startInOneRoom_68 : decode cX1_startInOneRoom 68 = .ok (.iload_n 3, 1) := by decide +kernel
theorem dX1_startInOneRoom_69 : decode cX1_startInOneRoom 69 = .ok (.iload_n 3, 1) := by decide +kernel
theorem dX1_startInOneRoom_70 : decode cX1_startInOneRoom 70 = .ok (.invokestatic 50, 3) := by decide +kernel
theorem dX1_startInOneRoom_73 : decode cX1_startInOneRoom 73 = .ok (.iconst 0, 1) := by decide +kernel
theorem dX1_startInOneRoom_74 : decode cX1_startInOneRoom 74 = .ok (.invokevirtual 84, 3) := by decide +kernel
theorem dX1_startInOneRoom_77 : decode cX1_startInOneRoom 77 = .ok (.iinc 3 1, 3) := by decide +kernel
theorem dX1_startInOneRoom_80 : decode cX1_startInOneRoom 80 = .ok (.goto (-48), 3) := by decide +kernel
theorem dX1_startInOneRoom_83 : decode cX1_startInOneRoom 83 = .ok (.iinc 2 1, 3) := by decide +kernel
theorem dX1_startInOneRoom_86 : decode cX1_startInOneRoom 86 = .ok (.goto (-62), 3) := by decide +kernel
theorem dX1_startInOneRoom_89 : decode cX1_startInOneRoom 89 = .ok (.return_, 1) := by decide +kernel
set_option maxRecDepth 20000 in
theorem ggX1_lookOneTurnFarther_X2_isCatsPhase : GoodIn wsX1_lookOneTurnFarther wsX2_isCatsPhase := goodIn_r _ [6] (by decide +kernel) (by decide +kernel)
set_option maxRecDepth 20000 in
theorem gX1_lookOneTurnFarther_X2_isCatsPhase_n73 : GoodIn wsX1_lookOneTurnFarther (wsX2_isCatsPhase) := ggX1_lookOneTurnFarther_X2_isCatsPhase
set_option maxRecDepth 20000 in
theorem ggX1_lookOneTurnFarther_X1_sureIfCatGoes : GoodIn wsX1_lookOneTurnFarther wsX1_sureIfCatGoes := goodIn_r _ [11, 12, 2, 13, 14, 10, 15, 16, 17, 18, 19, 5, 20, 42, 43, 44, 45] (by decide +kernel) (by decide +kernel)
set_option maxRecDepth 20000 in
theorem gX1_lookOneTurnFarther_X1_sureIfCatGoes : GoodIn wsX1_lookOneTurnFarther (wsV RX1 88 RX1 yX1_sureIfCatGoes wsX1_sureIfCatGoes) := goodIn_app (goodIn_of _ (by decide +kernel)) ggX1_lookOneTurnFarther_X1_sureIfCatGoes
set_option maxRecDepth 20000 in
theorem ggX1_lookOneTurnFarther_X1_sureIfMouseGoes : GoodIn wsX1_lookOneTurnFarther wsX1_sureIfMouseGoes := goodIn_r _ [24, 2, 1, 12, 13, 14, 10, 15, 16, 17, 18, 25, 5, 26, 42, 43, 44, 45, 33, 34, 35, 36, 37, 38, 39, 40, 41] (by decide +kernel) (by decide +kernel)
set_option maxRecDepth 20000 in
theorem gX1_lookOneTurnFarther_X1_sureIfMouseGoes : GoodIn wsX1_lookOneTurnFarther (wsV RX1 91 RX1 yX1_sureIfMouseGoes wsX1_sureIfMouseGoes) := goodIn_app (goodIn_of _ (by decide +kernel)) ggX1_lookOneTurnFarther_X1_sureIfMouseGoes
set_option maxRecDepth 20000 in
theorem ggX1_lookOneTurnFarther_X1_placeOf : GoodIn wsX1_lookOneTurnFarther wsX1_placeOf := goodIn_r _ [18] (by decide +kernel) (by decide +kernel)
set_option maxRecDepth 20000 in
theorem gX1_lookOneTurnFarther_X1_placeOf : GoodIn wsX1_lookOneTurnFarther (va_wsS RX1 24 yX1_placeOf wsX1_placeOf) := goodIn_app (goodIn_of _ (by decide +kernel)) ggX1_lookOneTurnFarther_X1_placeOf
set_option maxRecDepth 20000 in
theorem ggX1_lookOneTurnFarther_X1_keepSure : GoodIn wsX1_lookOneTurnFarther wsX1_keepSure := goodIn_r _ [30, 31, 32, 16, 17, 10, 18, 19, 5, 20, 42, 43, 44, 45] (by decide +kernel) (by decide +kernel)
set_option maxRecDepth 20000 in
theorem gX1_lookOneTurnFarther_X1_keepSure : GoodIn wsX1_lookOneTurnFarther (wsV RX1 84 RX1 yX1_keepSure wsX1_keepSure) := goodIn_app (goodIn_of _ (by decide +kernel)) ggX1_lookOneTurnFarther_X1_keepSure
theorem dX1_lookOneTurnFarther_0 : decode cX1_lookOneTurnFarther 0 = .ok (.iconst 0, 1) := by decide +kernel
theorem dX1_lookOneTurnFarther_1 : decode cX1_lookOneTurnFarther 1 = .ok (.istore_n 3, 1) := by decide +kernel
theorem dX1_lookOneTurnFarther_2 : decode cX1_lookOneTurnFarther 2 = .ok (.iconst 0, 1) := by decide +kernel
theorem dX1_lookOneTurnFarther_3 : decode cX1_lookOneTurnFarther 3 = .ok (.istore 4, 2) := by decide +kernel
theorem dX1_lookOneTurnFarther_5 : decode cX1_lookOneTurnFarther 5 = .ok (.iload 4, 2) := by decide +kernel
theorem dX1_lookOneTurnFarther_7 : decode cX1_lookOneTurnFarther 7 = .ok (.bipush 12, 2) := by decide +kernel
theorem dX1_lookOneTurnFarther_9 : decode cX1_lookOneTurnFarther 9 = .ok (.if_icmp .ge 104, 3) := by decide +kernel
theorem dX1_lookOneTurnFarther_12 : decode cX1_lookOneTurnFarther 12 = .ok (.iconst 0, 1) := by decide +kernel
theorem dX1_lookOneTurnFarther_13 : decode cX1_lookOneTurnFarther 13 = .ok (.istore 5, 2) := by decide +kernel
theorem dX1_lookOneTurnFarther_15 : decode cX1_lookOneTurnFarther 15 = .ok (.iload 5, 2) := by decide +kernel
theorem dX1_lookOneTurnFarther_17 : decode cX1_lookOneTurnFarther 17 = .ok (.aload_n 1, 1) := by decide +kernel
theorem dX1_lookOneTurnFarther_18 : decode cX1_lookOneTurnFarther 18 = .ok (.getfield 81, 3) := by decide +kernel
theorem dX1_lookOneTurnFarther_21 : decode cX1_lookOneTurnFarther 21 = .ok (.if_icmp .ge 86, 3) := by decide +kernel
theorem dX1_lookOneTurnFarther_24 : decode cX1_lookOneTurnFarther 24 = .ok (.iload 4, 2) := by decide +kernel
theorem dX1_lookOneTurnFarther_26 : decode cX1_lookOneTurnFarther 26 = .ok (.invokestatic 73, 3) := by decide +kernel
theorem dX1_lookOneTurnFarther_29 : decode cX1_lookOneTurnFarther 29 = .ok (.ifCond .eq 14, 3) := by decide +kernel
theorem dX1_lookOneTurnFarther_32 : decode cX1_lookOneTurnFarther 32 = .ok (.aload_n 0, 1) := by decide +kernel
theorem dX1_lookOneTurnFarther_33 : decode cX1_lookOneTurnFarther 33 = .ok (.iload 4, 2) := by decide +kernel
theorem dX1_lookOneTurnFarther_35 : decode cX1_lookOneTurnFarther 35 = .ok (.iload 5, 2) := by decide +kernel
theorem dX1_lookOneTurnFarther_37 : decode cX1_lookOneTurnFarther 37 = .ok (.invokevirtual 88, 3) := by decide +kernel
theorem dX1_lookOneTurnFarther_40 : decode cX1_lookOneTurnFarther 40 = .ok (.goto 12, 3) := by decide +kernel
theorem dX1_lookOneTurnFarther_43 : decode cX1_lookOneTurnFarther 43 = .ok (.aload_n 0, 1) := by decide +kernel
theorem dX1_lookOneTurnFarther_44 : decode cX1_lookOneTurnFarther 44 = .ok (.aload_n 1, 1) := by decide +kernel
theorem dX1_lookOneTurnFarther_45 : decode cX1_lookOneTurnFarther 45 = .ok (.iload 4, 2) := by decide +kernel
theorem dX1_lookOneTurnFarther_47 : decode cX1_lookOneTurnFarther 47 = .ok (.iload 5, 2) := by decide +kernel
theorem dX1_lookOneTurnFarther_49 : decode cX1_lookOneTurnFarther 49 = .ok (.invokevirtual 91, 3) := by decide +kernel
theorem dX1_lookOneTurnFarther_52 : decode cX1_lookOneTurnFarther 52 = .ok (.istore 6, 2) := by decide +kernel
theorem dX1_lookOneTurnFarther_54 : decode cX1_lookOneTurnFarther 54 = .ok (.iload 6, 2) := by decide +kernel
theorem dX1_lookOneTurnFarther_56 : decode cX1_lookOneTurnFarther 56 = .ok (.aload_n 0, 1) := by decide +kernel
theorem dX1_lookOneTurnFarther_57 : decode cX1_lookOneTurnFarther 57 = .ok (.getfield 18, 3) := by decide +kernel
theorem dX1_lookOneTurnFarther_60 : decode cX1_lookOneTurnFarther 60 = .ok (.iload 4, 2) := by decide +kernel
theorem dX1_lookOneTurnFarther_62 : decode cX1_lookOneTurnFarther 62 = .ok (.iload 5, 2) := by decide +kernel
theorem dX1_lookOneTurnFarther_64 : decode cX1_lookOneTurnFarther 64 = .ok (.invokestatic 24, 3) := by decide +kernel
theorem dX1_lookOneTurnFarther_67 : decode cX1_lookOneTurnFarther 67 = .ok (.iaload, 1) := by decide +kernel
theorem dX1_lookOneTurnFarther_68 : decode cX1_lookOneTurnFarther 68 = .ok (.iconst (-1), 1) := by decide +kernel
theorem dX1_lookOneTurnFarther_69 : decode cX1_lookOneTurnFarther 69 = .ok (.ixor, 1) := by decide +kernel
theorem dX1_lookOneTurnFarther_70 : decode cX1_lookOneTurnFarther 70 = .ok (.iand, 1) := by decide +kernel
theorem dX1_lookOneTurnFarther_71 : decode cX1_lookOneTurnFarther 71 = .ok (.istore 7, 2) := by decide +kernel
theorem dX1_lookOneTurnFarther_73 : decode cX1_lookOneTurnFarther 73 = .ok (.iload 7, 2) := by decide +kernel
theorem dX1_lookOneTurnFarther_75 : decode cX1_lookOneTurnFarther 75 = .ok (.ifCond .eq 26, 3) := by decide +kernel
theorem dX1_lookOneTurnFarther_78 : decode cX1_lookOneTurnFarther 78 = .ok (.aload_n 1, 1) := by decide +kernel
theorem dX1_lookOneTurnFarther_79 : decode cX1_lookOneTurnFarther 79 = .ok (.getfield 77, 3) := by decide +kernel
theorem dX1_lookOneTurnFarther_82 : decode cX1_lookOneTurnFarther 82 = .ok (.iload 5, 2) := by decide +kernel
theorem dX1_lookOneTurnFarther_84 : decode cX1_lookOneTurnFarther 84 = .ok (.baload, 1) := by decide +kernel
theorem dX1_lookOneTurnFarther_85 : decode cX1_lookOneTurnFarther 85 = .ok (.ifCond .ne 16, 3) := by decide +kernel
theorem dX1_lookOneTurnFarther_88 : decode cX1_lookOneTurnFarther 88 = .ok (.aload_n 0, 1) := by decide +kernel
theorem dX1_lookOneTurnFarther_89 : decode cX1_lookOneTurnFarther 89 = .ok (.iload 4, 2) := by decide +kernel
theorem dX1_lookOneTurnFarther_91 : decode cX1_lookOneTurnFarther 91 = .ok (.iload 5, 2) := by decide +kernel
theorem dX1_lookOneTurnFarther_93 : decode cX1_lookOneTurnFarther 93 = .ok (.iload 7, 2) := by decide +kernel
theorem dX1_lookOneTurnFarther_95 : decode cX1_lookOneTurnFarther 95 = .ok (.iload_n 2, 1) := by decide +kernel
theorem dX1_lookOneTurnFarther_96 : decode cX1_lookOneTurnFarther 96 = .ok (.invokevirtual 84, 3) := by decide +kernel
theorem dX1_lookOneTurnFarther_99 : decode cX1_lookOneTurnFarther 99 = .ok (.iconst 1, 1) := by decide +kernel
theorem dX1_lookOneTurnFarther_100 : decode cX1_lookOneTurnFarther 100 = .ok (.istore_n 3, 1) := by decide +kernel
theorem dX1_lookOneTurnFarther_101 : decode cX1_lookOneTurnFarther 101 = .ok (.iinc 5 1, 3) := by decide +kernel
theorem dX1_lookOneTurnFarther_104 : decode cX1_lookOneTurnFarther 104 = .ok (.goto (-89), 3) := by decide +kernel
theorem dX1_lookOneTurnFarther_107 : decode cX1_lookOneTurnFarther 107 = .ok (.iinc 4 1, 3) := by decide +kernel
theorem dX1_lookOneTurnFarther_110 : decode cX1_lookOneTurnFarther 110 = .ok (.goto (-105), 3) := by decide +kernel
theorem dX1_lookOneTurnFarther_113 : decode cX1_lookOneTurnFarther 113 = .ok (.iload_n 3, 1) := by decide +kernel
theorem dX1_lookOneTurnFarther_114 : decode cX1_lookOneTurnFarther 114 = .ok (.ireturn, 1) := by decide +kernel
set_option maxRecDepth 20000 in
theorem ggX1_sureIfCatGoes_X1_phaseBehind : GoodIn wsX1_sureIfCatGoes wsX1_phaseBehind := goodIn_r _ [6] (by decide +kernel) (by decide +kernel)
set_option maxRecDepth 20000 in
theorem gX1_sureIfCatGoes_X1_phaseBehind : GoodIn wsX1_sureIfCatGoes (va_wsS RX1 95 yX1_phaseBehind wsX1_phaseBehind) := goodIn_app (goodIn_of _ (by decide +kernel)) ggX1_sureIfCatGoes_X1_phaseBehind
set_option maxRecDepth 20000 in
theorem ggX1_sureIfCatGoes_X1_placeOf : GoodIn wsX1_sureIfCatGoes wsX1_placeOf := goodIn_r _ [9] (by decide +kernel) (by decide +kernel)
set_option maxRecDepth 20000 in
theorem gX1_sureIfCatGoes_X1_placeOf : GoodIn wsX1_sureIfCatGoes (va_wsS RX1 24 yX1_placeOf wsX1_placeOf) := goodIn_app (goodIn_of _ (by decide +kernel)) ggX1_sureIfCatGoes_X1_placeOf
set_option maxRecDepth 20000 in
theorem ggX1_sureIfCatGoes_X2_holds : GoodIn wsX1_sureIfCatGoes wsX2_holds := goodIn_r _ [12] (by decide +kernel) (by decide +kernel)
set_option maxRecDepth 20000 in
theorem gX1_sureIfCatGoes_X2_holds_n28 : GoodIn wsX1_sureIfCatGoes (wsX2_holds) := ggX1_sureIfCatGoes_X2_holds
theorem dX1_sureIfCatGoes_0 : decode cX1_sureIfCatGoes 0 = .ok (.iload_n 1, 1) := by decide +kernel
theorem dX1_sureIfCatGoes_1 : decode cX1_sureIfCatGoes 1 = .ok (.invokestatic 95, 3) := by decide +kernel
theorem dX1_sureIfCatGoes_4 : decode cX1_sureIfCatGoes 4 = .ok (.istore_n 3, 1) := by decide +kernel
theorem dX1_sureIfCatGoes_5 : decode cX1_sureIfCatGoes 5 = .ok (.aload_n 0, 1) := by decide +kernel
theorem dX1_sureIfCatGoes_6 : decode cX1_sureIfCatGoes 6 = .ok (.getfield 11, 3) := by decide +kernel
theorem dX1_sureIfCatGoes_9 : decode cX1_sureIfCatGoes 9 = .ok (.iload_n 1, 1) := by decide +kernel
theorem dX1_sureIfCatGoes_10 : decode cX1_sureIfCatGoes 10 = .ok (.iload_n 2, 1) := by decide +kernel
theorem dX1_sureIfCatGoes_11 : decode cX1_sureIfCatGoes 11 = .ok (.invokestatic 24, 3) := by decide +kernel
theorem dX1_sureIfCatGoes_14 : decode cX1_sureIfCatGoes 14 = .ok (.iaload, 1) := by decide +kernel
theorem dX1_sureIfCatGoes_15 : decode cX1_sureIfCatGoes 15 = .ok (.istore 4, 2) := by decide +kernel
theorem dX1_sureIfCatGoes_17 : decode cX1_sureIfCatGoes 17 = .ok (.iconst 0, 1) := by decide +kernel
theorem dX1_sureIfCatGoes_18 : decode cX1_sureIfCatGoes 18 = .ok (.istore 5, 2) := by decide +kernel
theorem dX1_sureIfCatGoes_20 : decode cX1_sureIfCatGoes 20 = .ok (.iconst 0, 1) := by decide +kernel
theorem dX1_sureIfCatGoes_21 : decode cX1_sureIfCatGoes 21 = .ok (.istore 6, 2) := by decide +kernel
theorem dX1_sureIfCatGoes_23 : decode cX1_sureIfCatGoes 23 = .ok (.iload 6, 2) := by decide +kernel
theorem dX1_sureIfCatGoes_25 : decode cX1_sureIfCatGoes 25 = .ok (.bipush 8, 2) := by decide +kernel
theorem dX1_sureIfCatGoes_27 : decode cX1_sureIfCatGoes 27 = .ok (.if_icmp .ge 35, 3) := by decide +kernel
theorem dX1_sureIfCatGoes_30 : decode cX1_sureIfCatGoes 30 = .ok (.iload 4, 2) := by decide +kernel
theorem dX1_sureIfCatGoes_32 : decode cX1_sureIfCatGoes 32 = .ok (.iload 6, 2) := by decide +kernel
theorem dX1_sureIfCatGoes_34 : decode cX1_sureIfCatGoes 34 = .ok (.invokestatic 28, 3) := by decide +kernel
theorem dX1_sureIfCatGoes_37 : decode cX1_sureIfCatGoes 37 = .ok (.ifCond .eq 19, 3) := by decide +kernel
theorem dX1_sureIfCatGoes_40 : decode cX1_sureIfCatGoes 40 = .ok (.iload 5, 2) := by decide +kernel
theorem dX1_sureIfCatGoes_42 : decode cX1_sureIfCatGoes 42 = .ok (.aload_n 0, 1) := by decide +kernel
theorem dX1_sureIfCatGoes_43 : decode cX1_sureIfCatGoes 43 = .ok (.getfield 18, 3) := by decide +kernel
theorem dX1_sureIfCatGoes_46 : decode cX1_sureIfCatGoes 46 = .ok (.iload_n 3, 1) := by decide +kernel
theorem dX1_sureIfCatGoes_47 : decode cX1_sureIfCatGoes 47 = .ok (.iload 6, 2) := by decide +kernel
theorem dX1_sureIfCatGoes_49 : decode cX1_sureIfCatGoes 49 = .ok (.invokestatic 24, 3) := by decide +kernel
theorem dX1_sureIfCatGoes_52 : decode cX1_sureIfCatGoes 52 = .ok (.iaload, 1) := by decide +kernel
theorem dX1_sureIfCatGoes_53 : decode cX1_sureIfCatGoes 53 = .ok (.ior, 1) := by decide +kernel
theorem dX1_sureIfCatGoes_54 : decode cX1_sureIfCatGoes 54 = .ok (.istore 5, 2) := by decide +kernel
theorem dX1_sureIfCatGoes_56 : decode cX1_sureIfCatGoes 56 = .ok (.iinc 6 1, 3) := by decide +kernel
theorem dX1_sureIfCatGoes_59 : decode cX1_sureIfCatGoes 59 = .ok (.goto (-36), 3) := by decide +kernel
theorem dX1_sureIfCatGoes_62 : decode cX1_sureIfCatGoes 62 = .ok (.iload 5, 2) := by decide +kernel
theorem dX1_sureIfCatGoes_64 : decode cX1_sureIfCatGoes 64 = .ok (.ireturn, 1) := by decide +kernel
set_option maxRecDepth 20000 in
theorem ggX1_sureIfMouseGoes_X1_phaseBehind : GoodIn wsX1_sureIfMouseGoes wsX1_phaseBehind := goodIn_r _ [7] (by decide +kernel) (by decide +kernel)
set_option maxRecDepth 20000 in
theorem gX1_sureIfMouseGoes_X1_phaseBehind : GoodIn wsX1_sureIfMouseGoes (va_wsS RX1 95 yX1_phaseBehind wsX1_phaseBehind) := goodIn_app (goodIn_of _ (by decide +kernel)) ggX1_sureIfMouseGoes_X1_phaseBehind
set_option maxRecDepth 20000 in
theorem ggX1_sureIfMouseGoes_X1_placeOf : GoodIn wsX1_sureIfMouseGoes wsX1_placeOf := goodIn_r _ [10] (by decide +kernel) (by decide +kernel)
set_option maxRecDepth 20000 in
theorem gX1_sureIfMouseGoes_X1_placeOf : GoodIn wsX1_sureIfMouseGoes (va_wsS RX1 24 yX1_placeOf wsX1_placeOf) := goodIn_app (goodIn_of _ (by decide +kernel)) ggX1_sureIfMouseGoes_X1_placeOf
set_option maxRecDepth 20000 in
theorem ggX1_sureIfMouseGoes_X2_bit : GoodIn wsX1_sureIfMouseGoes wsX2_bit := goodIn_r _ [13] (by decide +kernel) (by decide +kernel)
set_option maxRecDepth 20000 in
theorem gX1_sureIfMouseGoes_X2_bit_n50 : GoodIn wsX1_sureIfMouseGoes (wsX2_bit) := ggX1_sureIfMouseGoes_X2_bit
theorem dX1_sureIfMouseGoes_0 : decode cX1_sureIfMouseGoes 0 = .ok (.aload_n 0, 1) := by decide +kernel
theorem dX1_sureIfMouseGoes_1 : decode cX1_sureIfMouseGoes 1 = .ok (.getfield 18, 3) := by decide +kernel
theorem dX1_sureIfMouseGoes_4 : decode cX1_sureIfMouseGoes 4 = .ok (.iload_n 2, 1) := by decide +kernel
theorem dX1_sureIfMouseGoes_5 : decode cX1_sureIfMouseGoes 5 = .ok (.invokestatic 95, 3) := by decide +kernel
theorem dX1_sureIfMouseGoes_8 : decode cX1_sureIfMouseGoes 8 = .ok (.iload_n 3, 1) := by decide +kernel
theorem dX1_sureIfMouseGoes_9 : decode cX1_sureIfMouseGoes 9 = .ok (.invokestatic 24, 3) := by decide +kernel
theorem dX1_sureIfMouseGoes_12 : decode cX1_sureIfMouseGoes 12 = .ok (.iaload, 1) := by decide +kernel
theorem dX1_sureIfMouseGoes_13 : decode cX1_sureIfMouseGoes 13 = .ok (.istore 4, 2) := by decide +kernel
theorem dX1_sureIfMouseGoes_15 : decode cX1_sureIfMouseGoes 15 = .ok (.iconst 0, 1) := by decide +kernel
theorem dX1_sureIfMouseGoes_16 : decode cX1_sureIfMouseGoes 16 = .ok (.istore 5, 2) := by decide +kernel
theorem dX1_sureIfMouseGoes_18 : decode cX1_sureIfMouseGoes 18 = .ok (.iconst 0, 1) := by decide +kernel
theorem dX1_sureIfMouseGoes_19 : decode cX1_sureIfMouseGoes 19 = .ok (.istore 6, 2) := by decide +kernel
theorem dX1_sureIfMouseGoes_21 : decode cX1_sureIfMouseGoes 21 = .ok (.iload 6, 2) := by decide +kernel
theorem dX1_sureIfMouseGoes_23 : decode cX1_sureIfMouseGoes 23 = .ok (.aload_n 1, 1) := by decide +kernel
theorem dX1_sureIfMouseGoes_24 : decode cX1_sureIfMouseGoes 24 = .ok (.getfield 81, 3) := by decide +kernel
theorem dX1_sureIfMouseGoes_27 : decode cX1_sureIfMouseGoes 27 = .ok (.if_icmp .ge 38, 3) := by decide +kernel
theorem dX1_sureIfMouseGoes_30 : decode cX1_sureIfMouseGoes 30 = .ok (.aload_n 0, 1) := by decide +kernel
theorem dX1_sureIfMouseGoes_31 : decode cX1_sureIfMouseGoes 31 = .ok (.getfield 11, 3) := by decide +kernel
theorem dX1_sureIfMouseGoes_34 : decode cX1_sureIfMouseGoes 34 = .ok (.iload_n 2, 1) := by decide +kernel
theorem dX1_sureIfMouseGoes_35 : decode cX1_sureIfMouseGoes 35 = .ok (.iload 6, 2) := by decide +kernel
theorem dX1_sureIfMouseGoes_37 : decode cX1_sureIfMouseGoes 37 = .ok (.invokestatic 24, 3) := by decide +kernel
theorem dX1_sureIfMouseGoes_40 : decode cX1_sureIfMouseGoes 40 = .ok (.iaload, 1) := by decide +kernel
theorem dX1_sureIfMouseGoes_41 : decode cX1_sureIfMouseGoes 41 = .ok (.iload 4, 2) := by decide +kernel
theorem dX1_sureIfMouseGoes_43 : decode cX1_sureIfMouseGoes 43 = .ok (.iconst (-1), 1) := by decide +kernel
theorem dX1_sureIfMouseGoes_44 : decode cX1_sureIfMouseGoes 44 = .ok (.ixor, 1) := by decide +kernel
theorem dX1_sureIfMouseGoes_45 : decode cX1_sureIfMouseGoes 45 = .ok (.iand, 1) := by decide +kernel
theorem dX1_sureIfMouseGoes_46 : decode cX1_sureIfMouseGoes 46 = .ok (.ifCond .ne 13, 3) := by decide +kernel
theorem dX1_sureIfMouseGoes_49 : decode cX1_sureIfMouseGoes 49 = .ok (.iload 5, 2) := by decide +kernel
theorem dX1_sureIfMouseGoes_51 : decode cX1_sureIfMouseGoes 51 = .ok (.iload 6, 2) := by decide +kernel
theorem dX1_sureIfMouseGoes_53 : decode cX1_sureIfMouseGoes 53 = .ok (.invokestatic 50, 3) := by decide +kernel
theorem dX1_sureIfMouseGoes_56 : decode cX1_sureIfMouseGoes 56 = .ok (.ior, 1) := by decide +kernel
theorem dX1_sureIfMouseGoes_57 : decode cX1_sureIfMouseGoes 57 = .ok (.istore 5, 2) := by decide +kernel
theorem dX1_sureIfMouseGoes_59 : decode cX1_sureIfMouseGoes 59 = .ok (.iinc 6 1, 3) := by decide +kernel
theorem dX1_sureIfMouseGoes_62 : decode cX1_sureIfMouseGoes 62 = .ok (.goto (-41), 3) := by decide +kernel
theorem dX1_sureIfMouseGoes_65 : decode cX1_sureIfMouseGoes 65 = .ok (.iload 5, 2) := by decide +kernel
theorem dX1_sureIfMouseGoes_67 : decode cX1_sureIfMouseGoes 67 = .ok (.ireturn, 1) := by decide +kernel
set_option maxRecDepth 20000 in
theorem ggX1_keepSure_X1_placeOf : GoodIn wsX1_keepSure wsX1_placeOf := goodIn_r _ [6] (by decide +kernel) (by decide +kernel)
set_option maxRecDepth 20000 in
theorem gX1_keepSure_X1_placeOf : GoodIn wsX1_keepSure (va_wsS RX1 24 yX1_placeOf wsX1_placeOf) := goodIn_app (goodIn_of _ (by decide +kernel)) ggX1_keepSure_X1_placeOf
set_option maxRecDepth 20000 in
theorem ggX1_keepSure_X2_holds : GoodIn wsX1_keepSure wsX2_holds := goodIn_r _ [9] (by decide +kernel) (by decide +kernel)
set_option maxRecDepth 20000 in
theorem gX1_keepSure_X2_holds_n28 : GoodIn wsX1_keepSure (wsX2_holds) := ggX1_keepSure_X2_holds
theorem dX1_keepSure_0 : decode cX1_keepSure 0 = .ok (.iload_n 1, 1) := by decide +kernel
theorem dX1_keepSure_1 : decode cX1_keepSure 1 = .ok (.iload_n 2, 1) := by decide +kernel
theorem dX1_keepSure_2 : decode cX1_keepSure 2 = .ok (.invokestatic 24, 3) := by decide +kernel
theorem dX1_keepSure_5 : decode cX1_keepSure 5 = .ok (.istore 5, 2) := by decide +kernel
theorem dX1_keepSure_7 : decode cX1_keepSure 7 = .ok (.aload_n 0, 1) := by decide +kernel
theorem dX1_keepSure_8 : decode cX1_keepSure 8 = .ok (.getfield 15, 3) := by decide +kernel
theorem dX1_keepSure_11 : decode cX1_keepSure 11 = .ok (.iload 5, 2) := by decide +kernel
theorem dX1_keepSure_13 : decode cX1_keepSure 13 = .ok (.dup2, 1) := by decide +kernel
theorem dX1_keepSure_14 : decode cX1_keepSure 14 = .ok (.iaload, 1) := by decide +kernel
theorem dX1_keepSure_15 : decode cX1_keepSure 15 = .ok (.iload_n 3, 1) := by decide +kernel
theorem dX1_keepSure_16 : decode cX1_keepSure 16 = .ok (.ior, 1) := by decide +kernel
theorem dX1_keepSure_17 : decode cX1_keepSure 17 = .ok (.iastore, 1) := by decide +kernel
theorem dX1_keepSure_18 : decode cX1_keepSure 18 = .ok (.iconst 0, 1) := by decide +kernel
theorem dX1_keepSure_19 : decode cX1_keepSure 19 = .ok (.istore 6, 2) := by decide +kernel
theorem dX1_keepSure_21 : decode cX1_keepSure 21 = .ok (.iload 6, 2) := by decide +kernel
theorem dX1_keepSure_23 : decode cX1_keepSure 23 = .ok (.bipush 8, 2) := by decide +kernel
theorem dX1_keepSure_25 : decode cX1_keepSure 25 = .ok (.if_icmp .ge 33, 3) := by decide +kernel
theorem dX1_keepSure_28 : decode cX1_keepSure 28 = .ok (.iload_n 3, 1) := by decide +kernel
theorem dX1_keepSure_29 : decode cX1_keepSure 29 = .ok (.iload 6, 2) := by decide +kernel
theorem dX1_keepSure_31 : decode cX1_keepSure 31 = .ok (.invokestatic 28, 3) := by decide +kernel
theorem dX1_keepSure_34 : decode cX1_keepSure 34 = .ok (.ifCond .eq 18, 3) := by decide +kernel
theorem dX1_keepSure_37 : decode cX1_keepSure 37 = .ok (.aload_n 0, 1) := by decide +kernel
theorem dX1_keepSure_38 : decode cX1_keepSure 38 = .ok (.getfield 21, 3) := by decide +kernel
theorem dX1_keepSure_41 : decode cX1_keepSure 41 = .ok (.iload 5, 2) := by decide +kernel
theorem dX1_keepSure_43 : decode cX1_keepSure 43 = .ok (.bipush 8, 2) := by decide +kernel
theorem dX1_keepSure_45 : decode cX1_keepSure 45 = .ok (.imul, 1) := by decide +kernel
theorem dX1_keepSure_46 : decode cX1_keepSure 46 = .ok (.iload 6, 2) := by decide +kernel
theorem dX1_keepSure_48 : decode cX1_keepSure 48 = .ok (.iadd, 1) := by decide +kernel
theorem dX1_keepSure_49 : decode cX1_keepSure 49 = .ok (.iload 4, 2) := by decide +kernel
theorem dX1_keepSure_51 : decode cX1_keepSure 51 = .ok (.iastore, 1) := by decide +kernel
theorem dX1_keepSure_52 : decode cX1_keepSure 52 = .ok (.iinc 6 1, 3) := by decide +kernel
theorem dX1_keepSure_55 : decode cX1_keepSure 55 = .ok (.goto (-34), 3) := by decide +kernel
theorem dX1_keepSure_58 : decode cX1_keepSure 58 = .ok (.return_, 1) := by decide +kernel
theorem dX1_placeOf_0 : decode cX1_placeOf 0 = .ok (.iload_n 0, 1) := by decide +kernel
theorem dX1_placeOf_1 : decode cX1_placeOf 1 = .ok (.bipush 8, 2) := by decide +kernel
theorem dX1_placeOf_3 : decode cX1_placeOf 3 = .ok (.imul, 1) := by decide +kernel
theorem dX1_placeOf_4 : decode cX1_placeOf 4 = .ok (.iload_n 1, 1) := by decide +kernel
theorem dX1_placeOf_5 : decode cX1_placeOf 5 = .ok (.iadd, 1) := by decide +kernel
theorem dX1_placeOf_6 : decode cX1_placeOf 6 = .ok (.ireturn, 1) := by decide +kernel
theorem dX1_phaseBehind_0 : decode cX1_phaseBehind 0 = .ok (.iload_n 0, 1) := by decide +kernel
theorem dX1_phaseBehind_1 : decode cX1_phaseBehind 1 = .ok (.iconst 1, 1) := by decide +kernel
theorem dX1_phaseBehind_2 : decode cX1_phaseBehind 2 = .ok (.iadd, 1) := by decide +kernel
theorem dX1_phaseBehind_3 : decode cX1_phaseBehind 3 = .ok (.bipush 12, 2) := by decide +kernel
theorem dX1_phaseBehind_5 : decode cX1_phaseBehind 5 = .ok (.if_icmp .ge 9, 3) := by decide +kernel
theorem dX1_phaseBehind_8 : decode cX1_phaseBehind 8 = .ok (.iload_n 0, 1) := by decide +kernel
theorem dX1_phaseBehind_9 : decode cX1_phaseBehind 9 = .ok (.iconst 1, 1) := by decide +kernel
theorem dX1_phaseBehind_10 : decode cX1_phaseBehind 10 = .ok (.iadd, 1) := by decide +kernel
theorem dX1_phaseBehind_11 : decode cX1_phaseBehind 11 = .ok (.goto 4, 3) := by decide +kernel
theorem dX1_phaseBehind_14 : decode cX1_phaseBehind 14 = .ok (.iconst 0, 1) := by decide +kernel
theorem dX1_phaseBehind_15 : decode cX1_phaseBehind 15 = .ok (.ireturn, 1) := by decide +kernel
set_option maxRecDepth 20000 in
theorem ggX2_init_X0_init : GoodIn wsX2_init wsX0_init := goodIn_r _ [16, 17, 2, 3, 18, 19, 20, 21, 22, 23, 24, 25, 26, 34, 35, 36, 37, 38, 39, 40, 41, 42] (by decide +kernel) (by decide +kernel)
set_option maxRecDepth 20000 in
theorem gX2_init_X0_init_n9 : GoodIn wsX2_init (wsX0_init) := ggX2_init_X0_init
set_option maxRecDepth 20000 in
theorem ggX2_init_X1_init : GoodIn wsX2_init wsX1_init := goodIn_r _ [28, 29, 2, 3, 20, 30, 31, 32, 33, 52, 53, 54, 55] (by decide +kernel) (by decide +kernel)
set_option maxRecDepth 20000 in
theorem gX2_init_X1_init_n18 : GoodIn wsX2_init (wsX1_init) := ggX2_init_X1_init
theorem dX2_init_0 : decode cX2_init 0 = .ok (.aload_n 0, 1) := by decide +kernel
theorem dX2_init_1 : decode cX2_init 1 = .ok (.invokespecial 1, 3) := by decide +kernel
theorem dX2_init_4 : decode cX2_init 4 = .ok (.aload_n 0, 1) := by decide +kernel
theorem dX2_init_5 : decode cX2_init 5 = .ok (.new 7, 3) := by decide +kernel
theorem dX2_init_8 : decode cX2_init 8 = .ok (.dup, 1) := by decide +kernel
theorem dX2_init_9 : decode cX2_init 9 = .ok (.invokespecial 9, 3) := by decide +kernel
theorem dX2_init_12 : decode cX2_init 12 = .ok (.putfield 10, 3) := by decide +kernel
theorem dX2_init_15 : decode cX2_init 15 = .ok (.aload_n 0, 1) := by decide +kernel
theorem dX2_init_16 : decode cX2_init 16 = .ok (.new 16, 3) := by decide +kernel
theorem dX2_init_19 : decode cX2_init 19 = .ok (.dup, 1) := by decide +kernel
theorem dX2_init_20 : decode cX2_init 20 = .ok (.invokespecial 18, 3) := by decide +kernel
theorem dX2_init_23 : decode cX2_init 23 = .ok (.putfield 19, 3) := by decide +kernel
theorem dX2_init_26 : decode cX2_init 26 = .ok (.aload_n 0, 1) := by decide +kernel
theorem dX2_init_27 : decode cX2_init 27 = .ok (.new 16, 3) := by decide +kernel
theorem dX2_init_30 : decode cX2_init 30 = .ok (.dup, 1) := by decide +kernel
theorem dX2_init_31 : decode cX2_init 31 = .ok (.invokespecial 18, 3) := by decide +kernel
theorem dX2_init_34 : decode cX2_init 34 = .ok (.putfield 23, 3) := by decide +kernel
theorem dX2_init_37 : decode cX2_init 37 = .ok (.aload_n 0, 1) := by decide +kernel
theorem dX2_init_38 : decode cX2_init 38 = .ok (.iconst (-1), 1) := by decide +kernel
theorem dX2_init_39 : decode cX2_init 39 = .ok (.putfield 26, 3) := by decide +kernel
theorem dX2_init_42 : decode cX2_init 42 = .ok (.aload_n 0, 1) := by decide +kernel
theorem dX2_init_43 : decode cX2_init 43 = .ok (.iconst (-1), 1) := by decide +kernel
theorem dX2_init_44 : decode cX2_init 44 = .ok (.putfield 30, 3) := by decide +kernel
theorem dX2_init_47 : decode cX2_init 47 = .ok (.return_, 1) := by decide +kernel
set_option maxRecDepth 20000 in
theorem ggX2_addRoom_X0_makeRoom : GoodIn wsX2_addRoom wsX0_makeRoom := goodIn_r _ [10, 11, 12, 88, 89, 90, 91, 92, 93, 94, 95, 96] (by decide +kernel) (by decide +kernel)
set_option maxRecDepth 20000 in
theorem gX2_addRoom_X0_makeRoom : GoodIn wsX2_addRoom (wsV RX2 43 RX0 yX0_makeRoom wsX0_makeRoom) := goodIn_app (goodIn_of _ (by decide +kernel)) ggX2_addRoom_X0_makeRoom
set_option maxRecDepth 20000 in
theorem ggX2_addRoom_X1_lookOut : GoodIn wsX2_addRoom wsX1_lookOut := goodIn_r _ [17, 18, 19, 20, 21, 22, 23, 24, 25, 26, 16, 27, 28, 29, 30, 31, 32, 33, 34, 35, 36, 37, 38, 39, 40, 9, 41, 42, 43, 44, 45, 46, 47, 48, 49, 50, 51, 52, 53, 54, 55, 56, 57, 58, 59, 60, 61, 62, 63, 64, 65, 66, 67, 68, 69, 70, 71, 72, 73, 74, 75, 76, 77, 78, 97, 98, 99, 100, 88, 89, 90, 91, 92, 93, 94, 95, 96] (by decide +kernel) (by decide +kernel)
set_option maxRecDepth 20000 in
theorem gX2_addRoom_X1_lookOut : GoodIn wsX2_addRoom (wsV RX2 47 RX1 yX1_lookOut wsX1_lookOut) := goodIn_app (goodIn_of _ (by decide +kernel)) ggX2_addRoom_X1_lookOut
theorem dX2_addRoom_0 : decode cX2_addRoom 0 = .ok (.aload_n 0, 1) := by decide +kernel
theorem dX2_addRoom_1 : decode cX2_addRoom 1 = .ok (.getfield 10, 3) := by decide +kernel
theorem dX2_addRoom_4 : decode cX2_addRoom 4 = .ok (.getfield 33, 3) := by decide +kernel
theorem dX2_addRoom_7 : decode cX2_addRoom 7 = .ok (.bipush 8, 2) := by decide +kernel
theorem dX2_addRoom_9 : decode cX2_addRoom 9 = .ok (.if_icmp .lt 13, 3) := by decide +kernel
theorem dX2_addRoom_12 : decode cX2_addRoom 12 = .ok (.new 36, 3) := by decide +kernel
theorem dX2_addRoom_15 : decode cX2_addRoom 15 = .ok (.dup, 1) := by decide +kernel
theorem dX2_addRoom_16 : decode cX2_addRoom 16 = .ok (.ldc 38, 2) := by decide +kernel
theorem dX2_addRoom_18 : decode cX2_addRoom 18 = .ok (.invokespecial 40, 3) := by decide +kernel
theorem dX2_addRoom_21 : decode cX2_addRoom 21 = .ok (.athrow, 1) := by decide +kernel
theorem dX2_addRoom_22 : decode cX2_addRoom 22 = .ok (.aload_n 0, 1) := by decide +kernel
theorem dX2_addRoom_23 : decode cX2_addRoom 23 = .ok (.getfield 10, 3) := by decide +kernel
theorem dX2_addRoom_26 : decode cX2_addRoom 26 = .ok (.iload_n 1, 1) := by decide +kernel
theorem dX2_addRoom_27 : decode cX2_addRoom 27 = .ok (.invokevirtual 43, 3) := by decide +kernel
theorem dX2_addRoom_30 : decode cX2_addRoom 30 = .ok (.istore_n 2, 1) := by decide +kernel
theorem dX2_addRoom_31 : decode cX2_addRoom 31 = .ok (.aload_n 0, 1) := by decide +kernel
theorem dX2_addRoom_32 : decode cX2_addRoom 32 = .ok (.getfield 19, 3) := by decide +kernel
theorem dX2_addRoom_35 : decode cX2_addRoom 35 = .ok (.aload_n 0, 1) := by decide +kernel
theorem dX2_addRoom_36 : decode cX2_addRoom 36 = .ok (.getfield 10, 3) := by decide +kernel
theorem dX2_addRoom_39 : decode cX2_addRoom 39 = .ok (.iconst (-1), 1) := by decide +kernel
theorem dX2_addRoom_40 : decode cX2_addRoom 40 = .ok (.invokevirtual 47, 3) := by decide +kernel
theorem dX2_addRoom_43 : decode cX2_addRoom 43 = .ok (.iload_n 2, 1) := by decide +kernel
theorem dX2_addRoom_44 : decode cX2_addRoom 44 = .ok (.ireturn, 1) := by decide +kernel
set_option maxRecDepth 20000 in
theorem ggX2_addDoor_X2_requireRoom : GoodIn wsX2_addDoor wsX2_requireRoom := goodIn_ca (goodIn_r _ [12, 13, 14, 5, 15, 93, 94, 95, 96, 97, 98, 99, 100, 101, 102, 103, 104, 105, 106, 107, 108, 109, 110] (by decide +kernel) (by decide +kernel)) (goodIn_sub (fun _ h => List.mem_cons_of_mem _ (List.mem_append_right _ h)) (by decide +kernel))
set_option maxRecDepth 20000 in
theorem gX2_addDoor_X2_requireRoom : GoodIn wsX2_addDoor (wsV RX2 51 RX2 yX2_requireRoom wsX2_requireRoom) := goodIn_app (goodIn_of _ (by decide +kernel)) ggX2_addDoor_X2_requireRoom
set_option maxRecDepth 20000 in
theorem ggX2_addDoor_X0_joining : GoodIn wsX2_addDoor wsX0_joining := goodIn_r _ [20, 21, 22, 23, 102, 103, 104, 105, 106, 107, 108, 109, 110] (by decide +kernel) (by decide +kernel)
set_option maxRecDepth 20000 in
theorem gX2_addDoor_X0_joining : GoodIn wsX2_addDoor (wsV RX2 67 RX0 yX0_joining wsX0_joining) := goodIn_app (goodIn_of _ (by decide +kernel)) ggX2_addDoor_X0_joining
set_option maxRecDepth 20000 in
theorem ggX2_addDoor_X0_makeDoor : GoodIn wsX2_addDoor wsX0_makeDoor := goodIn_r _ [27, 22, 21, 23, 28, 29, 102, 103, 104, 105, 106, 107, 108, 109, 110] (by decide +kernel) (by decide +kernel)
set_option maxRecDepth 20000 in
theorem gX2_addDoor_X0_makeDoor : GoodIn wsX2_addDoor (wsV RX2 73 RX0 yX0_makeDoor wsX0_makeDoor) := goodIn_app (goodIn_of _ (by decide +kernel)) ggX2_addDoor_X0_makeDoor
set_option maxRecDepth 20000 in
theorem ggX2_addDoor_X1_lookOut : GoodIn wsX2_addDoor wsX1_lookOut := goodIn_r _ [34, 35, 36, 37, 38, 39, 40, 41, 42, 43, 33, 44, 45, 46, 47, 48, 49, 50, 51, 52, 11, 53, 54, 55, 56, 19, 57, 58, 28, 29, 59, 60, 61, 62, 63, 64, 65, 66, 67, 68, 69, 70, 71, 72, 73, 74, 75, 76, 77, 78, 79, 80, 81, 82, 83, 84, 85, 86, 87, 88, 89, 90, 91, 92, 111, 112, 113, 114, 102, 103, 104, 105, 106, 107, 108, 109, 110] (by decide +kernel) (by decide +kernel)
set_option maxRecDepth 20000 in
theorem gX2_addDoor_X1_lookOut : GoodIn wsX2_addDoor (wsV RX2 47 RX1 yX1_lookOut wsX1_lookOut) := goodIn_app (goodIn_of _ (by decide +kernel)) ggX2_addDoor_X1_lookOut
theorem dX2_addDoor_0 : decode cX2_addDoor 0 = .ok (.aload_n 0, 1) := by decide +kernel
theorem dX2_addDoor_1 : decode cX2_addDoor 1 = .ok (.iload_n 1, 1) := by decide +kernel
theorem dX2_addDoor_2 : decode cX2_addDoor 2 = .ok (.invokevirtual 51, 3) := by decide +kernel
theorem dX2_addDoor_5 : decode cX2_addDoor 5 = .ok (.aload_n 0, 1) := by decide +kernel
theorem dX2_addDoor_6 : decode cX2_addDoor 6 = .ok (.iload_n 2, 1) := by decide +kernel
theorem dX2_addDoor_7 : decode cX2_addDoor 7 = .ok (.invokevirtual 51, 3) := by decide +kernel
theorem dX2_addDoor_10 : decode cX2_addDoor 10 = .ok (.iload_n 1, 1) := by decide +kernel
theorem dX2_addDoor_11 : decode cX2_addDoor 11 = .ok (.iload_n 2, 1) := by decide +kernel
theorem dX2_addDoor_12 : decode cX2_addDoor 12 = .ok (.if_icmp .ne 13, 3) := by decide +kernel
theorem dX2_addDoor_15 : decode cX2_addDoor 15 = .ok (.new 55, 3) := by decide +kernel
theorem dX2_addDoor_18 : decode cX2_addDoor 18 = .ok (.dup, 1) := by decide +kernel
theorem dX2_addDoor_19 : decode cX2_addDoor 19 = .ok (.ldc 57, 2) := by decide +kernel
theorem dX2_addDoor_21 : decode cX2_addDoor 21 = .ok (.invokespecial 59, 3) := by decide +kernel
theorem dX2_addDoor_24 : decode cX2_addDoor 24 = .ok (.athrow, 1) := by decide +kernel
theorem dX2_addDoor_25 : decode cX2_addDoor 25 = .ok (.iload_n 3, 1) := by decide +kernel
theorem dX2_addDoor_26 : decode cX2_addDoor 26 = .ok (.iconst 1, 1) := by decide +kernel
theorem dX2_addDoor_27 : decode cX2_addDoor 27 = .ok (.if_icmp .lt 19, 3) := by decide +kernel
theorem dX2_addDoor_30 : decode cX2_addDoor 30 = .ok (.iload_n 3, 1) := by decide +kernel
theorem dX2_addDoor_31 : decode cX2_addDoor 31 = .ok (.iconst 4, 1) := by decide +kernel
theorem dX2_addDoor_32 : decode cX2_addDoor 32 = .ok (.if_icmp .gt 14, 3) := by decide +kernel
theorem dX2_addDoor_35 : decode cX2_addDoor 35 = .ok (.iload 4, 2) := by decide +kernel
theorem dX2_addDoor_37 : decode cX2_addDoor 37 = .ok (.ifCond .lt 9, 3) := by decide +kernel
theorem dX2_addDoor_40 : decode cX2_addDoor 40 = .ok (.iload 4, 2) := by decide +kernel
theorem dX2_addDoor_42 : decode cX2_addDoor 42 = .ok (.iload_n 3, 1) := by decide +kernel
theorem dX2_addDoor_43 : decode cX2_addDoor 43 = .ok (.if_icmp .lt 13, 3) := by decide +kernel
theorem dX2_addDoor_46 : decode cX2_addDoor 46 = .ok (.new 55, 3) := by decide +kernel
theorem dX2_addDoor_49 : decode cX2_addDoor 49 = .ok (.dup, 1) := by decide +kernel
theorem dX2_addDoor_50 : decode cX2_addDoor 50 = .ok (.ldc 60, 2) := by decide +kernel
theorem dX2_addDoor_52 : decode cX2_addDoor 52 = .ok (.invokespecial 59, 3) := by decide +kernel
theorem dX2_addDoor_55 : decode cX2_addDoor 55 = .ok (.athrow, 1) := by decide +kernel
theorem dX2_addDoor_56 : decode cX2_addDoor 56 = .ok (.aload_n 0, 1) := by decide +kernel
theorem dX2_addDoor_57 : decode cX2_addDoor 57 = .ok (.getfield 10, 3) := by decide +kernel
theorem dX2_addDoor_60 : decode cX2_addDoor 60 = .ok (.getfield 62, 3) := by decide +kernel
theorem dX2_addDoor_63 : decode cX2_addDoor 63 = .ok (.bipush 14, 2) := by decide +kernel
theorem dX2_addDoor_65 : decode cX2_addDoor 65 = .ok (.if_icmp .lt 13, 3) := by decide +kernel
theorem dX2_addDoor_68 : decode cX2_addDoor 68 = .ok (.new 36, 3) := by decide +kernel
theorem dX2_addDoor_71 : decode cX2_addDoor 71 = .ok (.dup, 1) := by decide +kernel
theorem dX2_addDoor_72 : decode cX2_addDoor 72 = .ok (.ldc 65, 2) := by decide +kernel
theorem dX2_addDoor_74 : decode cX2_addDoor 74 = .ok (.invokespecial 40, 3) := by decide +kernel
theorem dX2_addDoor_77 : decode cX2_addDoor 77 = .ok (.athrow, 1) := by decide +kernel
theorem dX2_addDoor_78 : decode cX2_addDoor 78 = .ok (.aload_n 0, 1) := by decide +kernel
theorem dX2_addDoor_79 : decode cX2_addDoor 79 = .ok (.getfield 10, 3) := by decide +kernel
theorem dX2_addDoor_82 : decode cX2_addDoor 82 = .ok (.iload_n 1, 1) := by decide +kernel
theorem dX2_addDoor_83 : decode cX2_addDoor 83 = .ok (.iload_n 2, 1) := by decide +kernel
theorem dX2_addDoor_84 : decode cX2_addDoor 84 = .ok (.invokevirtual 67, 3) := by decide +kernel
theorem dX2_addDoor_87 : decode cX2_addDoor 87 = .ok (.iconst (-1), 1) := by decide +kernel
theorem dX2_addDoor_88 : decode cX2_addDoor 88 = .ok (.if_icmp .eq 13, 3) := by decide +kernel
theorem dX2_addDoor_91 : decode cX2_addDoor 91 = .ok (.new 36, 3) := by decide +kernel
theorem dX2_addDoor_94 : decode cX2_addDoor 94 = .ok (.dup, 1) := by decide +kernel
theorem dX2_addDoor_95 : decode cX2_addDoor 95 = .ok (.ldc 71, 2) := by decide +kernel
theorem dX2_addDoor_97 : decode cX2_addDoor 97 = .ok (.invokespecial 40, 3) := by decide +kernel
theorem dX2_addDoor_100 : decode cX2_addDoor 100 = .ok (.athrow, 1) := by decide +kernel
theorem dX2_addDoor_101 : decode cX2_addDoor 101 = .ok (.aload_n 0, 1) := by decide +kernel
theorem dX2_addDoor_102 : decode cX2_addDoor 102 = .ok (.getfield 10, 3) := by decide +kernel
theorem dX2_addDoor_105 : decode cX2_addDoor 105 = .ok (.iload_n 1, 1) := by decide +kernel
theorem dX2_addDoor_106 : decode cX2_addDoor 106 = .ok (.iload_n 2, 1) := by decide +kernel
theorem dX2_addDoor_107 : decode cX2_addDoor 107 = .ok (.iload_n 3, 1) := by decide +kernel
theorem dX2_addDoor_108 : decode cX2_addDoor 108 = .ok (.iload 4, 2) := by decide +kernel
theorem dX2_addDoor_110 : decode cX2_addDoor 110 = .ok (.invokevirtual 73, 3) := by decide +kernel
theorem dX2_addDoor_113 : decode cX2_addDoor 113 = .ok (.istore 5, 2) := by decide +kernel
theorem dX2_addDoor_115 : decode cX2_addDoor 115 = .ok (.aload_n 0, 1) := by decide +kernel
theorem dX2_addDoor_116 : decode cX2_addDoor 116 = .ok (.getfield 19, 3) := by decide +kernel
theorem dX2_addDoor_119 : decode cX2_addDoor 119 = .ok (.aload_n 0, 1) := by decide +kernel
theorem dX2_addDoor_120 : decode cX2_addDoor 120 = .ok (.getfield 10, 3) := by decide +kernel
theorem dX2_addDoor_123 : decode cX2_addDoor 123 = .ok (.iconst (-1), 1) := by decide +kernel
theorem dX2_addDoor_124 : decode cX2_addDoor 124 = .ok (.invokevirtual 47, 3) := by decide +kernel
theorem dX2_addDoor_127 : decode cX2_addDoor 127 = .ok (.iload 5, 2) := by decide +kernel
theorem dX2_addDoor_129 : decode cX2_addDoor 129 = .ok (.ireturn, 1) := by decide +kernel
set_option maxRecDepth 20000 in
theorem ggX2_turnLock_X2_requireDoor : GoodIn wsX2_turnLock wsX2_requireDoor := goodIn_ca (goodIn_r _ [8, 9, 10, 1, 11, 78, 79, 80, 81, 82, 83, 84, 85, 86, 87, 88, 89, 90, 91, 92, 93, 94, 95] (by decide +kernel) (by decide +kernel)) (goodIn_sub (fun _ h => List.mem_cons_of_mem _ (List.mem_append_right _ h)) (by decide +kernel))
set_option maxRecDepth 20000 in
theorem gX2_turnLock_X2_requireDoor : GoodIn wsX2_turnLock (wsV RX2 77 RX2 yX2_requireDoor wsX2_requireDoor) := goodIn_app (goodIn_of _ (by decide +kernel)) ggX2_turnLock_X2_requireDoor
set_option maxRecDepth 20000 in
theorem ggX2_turnLock_X1_lookOut : GoodIn wsX2_turnLock wsX1_lookOut := goodIn_r _ [16, 17, 18, 19, 20, 21, 22, 23, 24, 25, 15, 26, 27, 28, 29, 30, 31, 32, 33, 34, 7, 35, 36, 37, 38, 39, 40, 41, 42, 43, 44, 45, 46, 47, 48, 49, 50, 51, 52, 53, 54, 55, 56, 57, 58, 59, 60, 61, 62, 63, 64, 65, 66, 67, 68, 69, 70, 71, 72, 73, 74, 75, 76, 77, 96, 97, 98, 99, 87, 88, 89, 90, 91, 92, 93, 94, 95] (by decide +kernel) (by decide +kernel)
set_option maxRecDepth 20000 in
theorem gX2_turnLock_X1_lookOut : GoodIn wsX2_turnLock (wsV RX2 47 RX1 yX1_lookOut wsX1_lookOut) := goodIn_app (goodIn_of _ (by decide +kernel)) ggX2_turnLock_X1_lookOut
theorem dX2_turnLock_0 : decode cX2_turnLock 0 = .ok (.aload_n 0, 1) := by decide +kernel
theorem dX2_turnLock_1 : decode cX2_turnLock 1 = .ok (.iload_n 1, 1) := by decide +kernel
theorem dX2_turnLock_2 : decode cX2_turnLock 2 = .ok (.invokevirtual 77, 3) := by decide +kernel
theorem dX2_turnLock_5 : decode cX2_turnLock 5 = .ok (.aload_n 0, 1) := by decide +kernel
theorem dX2_turnLock_6 : decode cX2_turnLock 6 = .ok (.getfield 10, 3) := by decide +kernel
theorem dX2_turnLock_9 : decode cX2_turnLock 9 = .ok (.getfield 80, 3) := by decide +kernel
theorem dX2_turnLock_12 : decode cX2_turnLock 12 = .ok (.iload_n 1, 1) := by decide +kernel
theorem dX2_turnLock_13 : decode cX2_turnLock 13 = .ok (.aload_n 0, 1) := by decide +kernel
theorem dX2_turnLock_14 : decode cX2_turnLock 14 = .ok (.getfield 10, 3) := by decide +kernel
theorem dX2_turnLock_17 : decode cX2_turnLock 17 = .ok (.getfield 80, 3) := by decide +kernel
theorem dX2_turnLock_20 : decode cX2_turnLock 20 = .ok (.iload_n 1, 1) := by decide +kernel
theorem dX2_turnLock_21 : decode cX2_turnLock 21 = .ok (.baload, 1) := by decide +kernel
theorem dX2_turnLock_22 : decode cX2_turnLock 22 = .ok (.ifCond .ne 7, 3) := by decide +kernel
theorem dX2_turnLock_25 : decode cX2_turnLock 25 = .ok (.iconst 1, 1) := by decide +kernel
theorem dX2_turnLock_26 : decode cX2_turnLock 26 = .ok (.goto 4, 3) := by decide +kernel
theorem dX2_turnLock_29 : decode cX2_turnLock 29 = .ok (.iconst 0, 1) := by decide +kernel
theorem dX2_turnLock_30 : decode cX2_turnLock 30 = .ok (.bastore, 1) := by decide +kernel
theorem dX2_turnLock_31 : decode cX2_turnLock 31 = .ok (.aload_n 0, 1) := by decide +kernel
theorem dX2_turnLock_32 : decode cX2_turnLock 32 = .ok (.getfield 19, 3) := by decide +kernel
theorem dX2_turnLock_35 : decode cX2_turnLock 35 = .ok (.aload_n 0, 1) := by decide +kernel
theorem dX2_turnLock_36 : decode cX2_turnLock 36 = .ok (.getfield 10, 3) := by decide +kernel
theorem dX2_turnLock_39 : decode cX2_turnLock 39 = .ok (.iconst (-1), 1) := by decide +kernel
theorem dX2_turnLock_40 : decode cX2_turnLock 40 = .ok (.invokevirtual 47, 3) := by decide +kernel
theorem dX2_turnLock_43 : decode cX2_turnLock 43 = .ok (.aload_n 0, 1) := by decide +kernel
theorem dX2_turnLock_44 : decode cX2_turnLock 44 = .ok (.getfield 10, 3) := by decide +kernel
theorem dX2_turnLock_47 : decode cX2_turnLock 47 = .ok (.getfield 80, 3) := by decide +kernel
theorem dX2_turnLock_50 : decode cX2_turnLock 50 = .ok (.iload_n 1, 1) := by decide +kernel
theorem dX2_turnLock_51 : decode cX2_turnLock 51 = .ok (.baload, 1) := by decide +kernel
theorem dX2_turnLock_52 : decode cX2_turnLock 52 = .ok (.ireturn, 1) := by decide +kernel
set_option maxRecDepth 20000 in
theorem ggX2_putCheese_X2_requireRoom : GoodIn wsX2_putCheese wsX2_requireRoom := goodIn_ca (goodIn_r _ [11, 12, 13, 5, 14, 15, 16, 17, 18, 19, 20, 21, 22, 23, 24, 25, 26, 27, 28, 29, 30, 31, 32] (by decide +kernel) (by decide +kernel)) (goodIn_sub (fun _ h => List.mem_cons_of_mem _ (List.mem_append_right _ h)) (by decide +kernel))
set_option maxRecDepth 20000 in
theorem gX2_putCheese_X2_requireRoom : GoodIn wsX2_putCheese (wsV RX2 51 RX2 yX2_requireRoom wsX2_requireRoom) := goodIn_app (goodIn_of _ (by decide +kernel)) ggX2_putCheese_X2_requireRoom
theorem dX2_putCheese_0 : decode cX2_putCheese 0 = .ok (.aload_n 0, 1) := by decide +kernel
theorem dX2_putCheese_1 : decode cX2_putCheese 1 = .ok (.iload_n 1, 1) := by decide +kernel
theorem dX2_putCheese_2 : decode cX2_putCheese 2 = .ok (.invokevirtual 51, 3) := by decide +kernel
theorem dX2_putCheese_5 : decode cX2_putCheese 5 = .ok (.iload_n 2, 1) := by decide +kernel
theorem dX2_putCheese_6 : decode cX2_putCheese 6 = .ok (.iconst 1, 1) := by decide +kernel
theorem dX2_putCheese_7 : decode cX2_putCheese 7 = .ok (.if_icmp .lt 9, 3) := by decide +kernel
theorem dX2_putCheese_10 : decode cX2_putCheese 10 = .ok (.iload_n 2, 1) := by decide +kernel
theorem dX2_putCheese_11 : decode cX2_putCheese 11 = .ok (.bipush 9, 2) := by decide +kernel
theorem dX2_putCheese_13 : decode cX2_putCheese 13 = .ok (.if_icmp .le 13, 3) := by decide +kernel
theorem dX2_putCheese_16 : decode cX2_putCheese 16 = .ok (.new 55, 3) := by decide +kernel
theorem dX2_putCheese_19 : decode cX2_putCheese 19 = .ok (.dup, 1) := by decide +kernel
theorem dX2_putCheese_20 : decode cX2_putCheese 20 = .ok (.ldc 84, 2) := by decide +kernel
theorem dX2_putCheese_22 : decode cX2_putCheese 22 = .ok (.invokespecial 59, 3) := by decide +kernel
theorem dX2_putCheese_25 : decode cX2_putCheese 25 = .ok (.athrow, 1) := by decide +kernel
theorem dX2_putCheese_26 : decode cX2_putCheese 26 = .ok (.aload_n 0, 1) := by decide +kernel
theorem dX2_putCheese_27 : decode cX2_putCheese 27 = .ok (.getfield 10, 3) := by decide +kernel
theorem dX2_putCheese_30 : decode cX2_putCheese 30 = .ok (.getfield 86, 3) := by decide +kernel
theorem dX2_putCheese_33 : decode cX2_putCheese 33 = .ok (.iload_n 1, 1) := by decide +kernel
theorem dX2_putCheese_34 : decode cX2_putCheese 34 = .ok (.iaload, 1) := by decide +kernel
theorem dX2_putCheese_35 : decode cX2_putCheese 35 = .ok (.iload_n 2, 1) := by decide +kernel
theorem dX2_putCheese_36 : decode cX2_putCheese 36 = .ok (.iadd, 1) := by decide +kernel
theorem dX2_putCheese_37 : decode cX2_putCheese 37 = .ok (.bipush 9, 2) := by decide +kernel
theorem dX2_putCheese_39 : decode cX2_putCheese 39 = .ok (.if_icmp .le 13, 3) := by decide +kernel
theorem dX2_putCheese_42 : decode cX2_putCheese 42 = .ok (.new 36, 3) := by decide +kernel
theorem dX2_putCheese_45 : decode cX2_putCheese 45 = .ok (.dup, 1) := by decide +kernel
theorem dX2_putCheese_46 : decode cX2_putCheese 46 = .ok (.ldc 90, 2) := by decide +kernel
theorem dX2_putCheese_48 : decode cX2_putCheese 48 = .ok (.invokespecial 40, 3) := by decide +kernel
theorem dX2_putCheese_51 : decode cX2_putCheese 51 = .ok (.athrow, 1) := by decide +kernel
theorem dX2_putCheese_52 : decode cX2_putCheese 52 = .ok (.aload_n 0, 1) := by decide +kernel
theorem dX2_putCheese_53 : decode cX2_putCheese 53 = .ok (.getfield 10, 3) := by decide +kernel
theorem dX2_putCheese_56 : decode cX2_putCheese 56 = .ok (.getfield 86, 3) := by decide +kernel
theorem dX2_putCheese_59 : decode cX2_putCheese 59 = .ok (.iload_n 1, 1) := by decide +kernel
theorem dX2_putCheese_60 : decode cX2_putCheese 60 = .ok (.dup2, 1) := by decide +kernel
theorem dX2_putCheese_61 : decode cX2_putCheese 61 = .ok (.iaload, 1) := by decide +kernel
theorem dX2_putCheese_62 : decode cX2_putCheese 62 = .ok (.iload_n 2, 1) := by decide +kernel
theorem dX2_putCheese_63 : decode cX2_putCheese 63 = .ok (.iadd, 1) := by decide +kernel
theorem dX2_putCheese_64 : decode cX2_putCheese 64 = .ok (.iastore, 1) := by decide +kernel
theorem dX2_putCheese_65 : decode cX2_putCheese 65 = .ok (.aload_n 0, 1) := by decide +kernel
theorem dX2_putCheese_66 : decode cX2_putCheese 66 = .ok (.getfield 10, 3) := by decide +kernel
theorem dX2_putCheese_69 : decode cX2_putCheese 69 = .ok (.getfield 86, 3) := by decide +kernel
theorem dX2_putCheese_72 : decode cX2_putCheese 72 = .ok (.iload_n 1, 1) := by decide +kernel
theorem dX2_putCheese_73 : decode cX2_putCheese 73 = .ok (.iaload, 1) := by decide +kernel
theorem dX2_putCheese_74 : decode cX2_putCheese 74 = .ok (.ireturn, 1) := by decide +kernel
set_option maxRecDepth 20000 in
theorem ggX2_begin_X2_requireRoom : GoodIn wsX2_begin wsX2_requireRoom := goodIn_ca (goodIn_r _ [13, 14, 15, 16, 17, 49, 50, 51, 52, 53, 54, 55, 56, 57, 58, 59, 60, 61, 62, 63, 64, 65, 66] (by decide +kernel) (by decide +kernel)) (goodIn_sub (fun _ h => List.mem_cons_of_mem _ (List.mem_append_right _ h)) (by decide +kernel))
set_option maxRecDepth 20000 in
theorem gX2_begin_X2_requireRoom : GoodIn wsX2_begin (wsV RX2 51 RX2 yX2_requireRoom wsX2_requireRoom) := goodIn_app (goodIn_of _ (by decide +kernel)) ggX2_begin_X2_requireRoom
set_option maxRecDepth 20000 in
theorem ggX2_begin_X2_requireCatsRoom : GoodIn wsX2_begin wsX2_requireCatsRoom := goodIn_ca (goodIn_r _ [21, 1, 2, 16, 22, 49, 50, 51, 52, 53, 54, 55, 56, 57, 58, 59, 60, 61, 62, 63, 64, 65, 66] (by decide +kernel) (by decide +kernel)) (goodIn_sub (fun _ h => List.mem_cons_of_mem _ (List.mem_append_left _ (List.mem_append_right _ h))) (by decide +kernel))
set_option maxRecDepth 20000 in
theorem gX2_begin_X2_requireCatsRoom : GoodIn wsX2_begin (wsV RX2 94 RX2 yX2_requireCatsRoom wsX2_requireCatsRoom) := goodIn_app (goodIn_of _ (by decide +kernel)) ggX2_begin_X2_requireCatsRoom
set_option maxRecDepth 20000 in
theorem ggX2_begin_X2_turnsToCatch : GoodIn wsX2_begin wsX2_turnsToCatch := goodIn_r _ [26, 8, 3, 4, 27, 28, 29, 12, 30, 31, 32, 33, 34, 35, 5, 36, 37, 38, 39, 40, 41, 42, 43, 44, 45, 46, 47, 48, 49, 50, 51, 52, 53, 54, 55, 56, 57, 67, 68, 69, 70] (by decide +kernel) (by decide +kernel)
set_option maxRecDepth 20000 in
theorem gX2_begin_X2_turnsToCatch : GoodIn wsX2_begin (wsV RX2 110 RX2 yX2_turnsToCatch wsX2_turnsToCatch) := goodIn_app (goodIn_of _ (by decide +kernel)) ggX2_begin_X2_turnsToCatch
theorem dX2_begin_0 : decode cX2_begin 0 = .ok (.aload_n 0, 1) := by decide +kernel
theorem dX2_begin_1 : decode cX2_begin 1 = .ok (.iload_n 1, 1) := by decide +kernel
theorem dX2_begin_2 : decode cX2_begin 2 = .ok (.invokevirtual 51, 3) := by decide +kernel
theorem dX2_begin_5 : decode cX2_begin 5 = .ok (.aload_n 0, 1) := by decide +kernel
theorem dX2_begin_6 : decode cX2_begin 6 = .ok (.iload_n 2, 1) := by decide +kernel
theorem dX2_begin_7 : decode cX2_begin 7 = .ok (.invokevirtual 51, 3) := by decide +kernel
theorem dX2_begin_10 : decode cX2_begin 10 = .ok (.iload_n 1, 1) := by decide +kernel
theorem dX2_begin_11 : decode cX2_begin 11 = .ok (.iload_n 2, 1) := by decide +kernel
theorem dX2_begin_12 : decode cX2_begin 12 = .ok (.if_icmp .ne 13, 3) := by decide +kernel
theorem dX2_begin_15 : decode cX2_begin 15 = .ok (.new 55, 3) := by decide +kernel
theorem dX2_begin_18 : decode cX2_begin 18 = .ok (.dup, 1) := by decide +kernel
theorem dX2_begin_19 : decode cX2_begin 19 = .ok (.ldc 92, 2) := by decide +kernel
theorem dX2_begin_21 : decode cX2_begin 21 = .ok (.invokespecial 59, 3) := by decide +kernel
theorem dX2_begin_24 : decode cX2_begin 24 = .ok (.athrow, 1) := by decide +kernel
theorem dX2_begin_25 : decode cX2_begin 25 = .ok (.aload_n 0, 1) := by decide +kernel
theorem dX2_begin_26 : decode cX2_begin 26 = .ok (.iload_n 1, 1) := by decide +kernel
theorem dX2_begin_27 : decode cX2_begin 27 = .ok (.invokevirtual 94, 3) := by decide +kernel
theorem dX2_begin_30 : decode cX2_begin 30 = .ok (.aload_n 0, 1) := by decide +kernel
theorem dX2_begin_31 : decode cX2_begin 31 = .ok (.iload_n 1, 1) := by decide +kernel
theorem dX2_begin_32 : decode cX2_begin 32 = .ok (.putfield 26, 3) := by decide +kernel
theorem dX2_begin_35 : decode cX2_begin 35 = .ok (.aload_n 0, 1) := by decide +kernel
theorem dX2_begin_36 : decode cX2_begin 36 = .ok (.iload_n 2, 1) := by decide +kernel
theorem dX2_begin_37 : decode cX2_begin 37 = .ok (.putfield 30, 3) := by decide +kernel
theorem dX2_begin_40 : decode cX2_begin 40 = .ok (.aload_n 0, 1) := by decide +kernel
theorem dX2_begin_41 : decode cX2_begin 41 = .ok (.iconst 0, 1) := by decide +kernel
theorem dX2_begin_42 : decode cX2_begin 42 = .ok (.putfield 97, 3) := by decide +kernel
theorem dX2_begin_45 : decode cX2_begin 45 = .ok (.aload_n 0, 1) := by decide +kernel
theorem dX2_begin_46 : decode cX2_begin 46 = .ok (.iconst 0, 1) := by decide +kernel
theorem dX2_begin_47 : decode cX2_begin 47 = .ok (.putfield 100, 3) := by decide +kernel
theorem dX2_begin_50 : decode cX2_begin 50 = .ok (.aload_n 0, 1) := by decide +kernel
theorem dX2_begin_51 : decode cX2_begin 51 = .ok (.iconst 0, 1) := by decide +kernel
theorem dX2_begin_52 : decode cX2_begin 52 = .ok (.putfield 103, 3) := by decide +kernel
theorem dX2_begin_55 : decode cX2_begin 55 = .ok (.aload_n 0, 1) := by decide +kernel
theorem dX2_begin_56 : decode cX2_begin 56 = .ok (.iconst 1, 1) := by decide +kernel
theorem dX2_begin_57 : decode cX2_begin 57 = .ok (.putfield 107, 3) := by decide +kernel
theorem dX2_begin_60 : decode cX2_begin 60 = .ok (.aload_n 0, 1) := by decide +kernel
theorem dX2_begin_61 : decode cX2_begin 61 = .ok (.invokevirtual 110, 3) := by decide +kernel
theorem dX2_begin_64 : decode cX2_begin 64 = .ok (.ireturn, 1) := by decide +kernel
set_option maxRecDepth 20000 in
theorem ggX2_go_X2_requireRoom : GoodIn wsX2_go wsX2_requireRoom := goodIn_ca (goodIn_r _ [9, 10, 11, 12, 13, 66, 67, 68, 69, 70, 71, 72, 73, 74, 75, 76, 77, 78, 79, 80, 81, 82, 83] (by decide +kernel) (by decide +kernel)) (goodIn_sub (fun _ h => List.mem_cons_of_mem _ (List.mem_append_right _ h)) (by decide +kernel))
set_option maxRecDepth 20000 in
theorem gX2_go_X2_requireRoom : GoodIn wsX2_go (wsV RX2 51 RX2 yX2_requireRoom wsX2_requireRoom) := goodIn_app (goodIn_of _ (by decide +kernel)) ggX2_go_X2_requireRoom
set_option maxRecDepth 20000 in
theorem ggX2_go_X2_requireChase : GoodIn wsX2_go wsX2_requireChase := goodIn_ca (goodIn_r _ [17, 1, 2, 4, 66, 67, 68, 69, 70, 71, 72, 73, 74] (by decide +kernel) (by decide +kernel)) (goodIn_sub (fun _ h => List.mem_cons_of_mem _ (List.mem_append_left _ (List.mem_append_right _ h))) (by decide +kernel))
set_option maxRecDepth 20000 in
theorem gX2_go_X2_requireChase : GoodIn wsX2_go (wsV RX2 114 RX2 yX2_requireChase wsX2_requireChase) := goodIn_app (goodIn_of _ (by decide +kernel)) ggX2_go_X2_requireChase
set_option maxRecDepth 20000 in
theorem ggX2_go_X2_phaseAfter : GoodIn wsX2_go wsX2_phaseAfter := goodIn_r _ [21, 22, 23, 24, 25, 26, 66, 67, 68, 69, 70, 71, 72, 73, 74] (by decide +kernel) (by decide +kernel)
set_option maxRecDepth 20000 in
theorem gX2_go_X2_phaseAfter : GoodIn wsX2_go (wsV RX2 117 RX2 yX2_phaseAfter wsX2_phaseAfter) := goodIn_app (goodIn_of _ (by decide +kernel)) ggX2_go_X2_phaseAfter
set_option maxRecDepth 20000 in
theorem ggX2_go_X2_whoGoesIn : GoodIn wsX2_go wsX2_whoGoesIn := goodIn_r _ [30, 31, 32, 33, 34, 35, 8, 36, 22, 37, 38, 39, 66, 67, 68, 69, 70, 71, 72, 73, 74] (by decide +kernel) (by decide +kernel)
set_option maxRecDepth 20000 in
theorem gX2_go_X2_whoGoesIn : GoodIn wsX2_go (wsV RX2 121 RX2 yX2_whoGoesIn wsX2_whoGoesIn) := goodIn_app (goodIn_of _ (by decide +kernel)) ggX2_go_X2_whoGoesIn
set_option maxRecDepth 20000 in
theorem ggX2_go_X1_canGo : GoodIn wsX2_go wsX1_canGo := goodIn_r _ [44, 45, 46, 47, 43, 48, 49, 8, 50, 84, 85, 86, 87] (by decide +kernel) (by decide +kernel)
set_option maxRecDepth 20000 in
theorem gX2_go_X1_canGo : GoodIn wsX2_go (wsV RX2 124 RX1 yX1_canGo wsX1_canGo) := goodIn_app (goodIn_of _ (by decide +kernel)) ggX2_go_X1_canGo
set_option maxRecDepth 20000 in
theorem ggX2_go_X2_moveTo : GoodIn wsX2_go wsX2_moveTo := goodIn_r _ [54, 32, 31, 22, 33, 34, 35, 8, 36, 37, 38, 39, 55, 56, 57, 58, 4, 59, 60, 61, 62, 63, 12, 64, 65, 66, 67, 68, 69, 70, 71, 72, 73, 74, 75, 76, 77, 78, 79, 80, 81, 82, 83] (by decide +kernel) (by decide +kernel)
set_option maxRecDepth 20000 in
theorem gX2_go_X2_moveTo : GoodIn wsX2_go (wsV RX2 130 RX2 yX2_moveTo wsX2_moveTo) := goodIn_app (goodIn_of _ (by decide +kernel)) ggX2_go_X2_moveTo
theorem dX2_go_0 : decode cX2_go 0 = .ok (.aload_n 0, 1) := by decide +kernel
theorem dX2_go_1 : decode cX2_go 1 = .ok (.iload_n 1, 1) := by decide +kernel
theorem dX2_go_2 : decode cX2_go 2 = .ok (.invokevirtual 51, 3) := by decide +kernel
theorem dX2_go_5 : decode cX2_go 5 = .ok (.aload_n 0, 1) := by decide +kernel
theorem dX2_go_6 : decode cX2_go 6 = .ok (.invokevirtual 114, 3) := by decide +kernel
theorem dX2_go_9 : decode cX2_go 9 = .ok (.aload_n 0, 1) := by decide +kernel
theorem dX2_go_10 : decode cX2_go 10 = .ok (.getfield 19, 3) := by decide +kernel
theorem dX2_go_13 : decode cX2_go 13 = .ok (.aload_n 0, 1) := by decide +kernel
theorem dX2_go_14 : decode cX2_go 14 = .ok (.iconst 0, 1) := by decide +kernel
theorem dX2_go_15 : decode cX2_go 15 = .ok (.invokevirtual 117, 3) := by decide +kernel
theorem dX2_go_18 : decode cX2_go 18 = .ok (.aload_n 0, 1) := by decide +kernel
theorem dX2_go_19 : decode cX2_go 19 = .ok (.invokevirtual 121, 3) := by decide +kernel
theorem dX2_go_22 : decode cX2_go 22 = .ok (.iload_n 1, 1) := by decide +kernel
theorem dX2_go_23 : decode cX2_go 23 = .ok (.invokevirtual 124, 3) := by decide +kernel
theorem dX2_go_26 : decode cX2_go 26 = .ok (.ifCond .ne 13, 3) := by decide +kernel
theorem dX2_go_29 : decode cX2_go 29 = .ok (.new 36, 3) := by decide +kernel
theorem dX2_go_32 : decode cX2_go 32 = .ok (.dup, 1) := by decide +kernel
theorem dX2_go_33 : decode cX2_go 33 = .ok (.ldc 128, 2) := by decide +kernel
theorem dX2_go_35 : decode cX2_go 35 = .ok (.invokespecial 40, 3) := by decide +kernel
theorem dX2_go_38 : decode cX2_go 38 = .ok (.athrow, 1) := by decide +kernel
theorem dX2_go_39 : decode cX2_go 39 = .ok (.aload_n 0, 1) := by decide +kernel
theorem dX2_go_40 : decode cX2_go 40 = .ok (.iload_n 1, 1) := by decide +kernel
theorem dX2_go_41 : decode cX2_go 41 = .ok (.invokevirtual 130, 3) := by decide +kernel
theorem dX2_go_44 : decode cX2_go 44 = .ok (.aload_n 0, 1) := by decide +kernel
theorem dX2_go_45 : decode cX2_go 45 = .ok (.getfield 107, 3) := by decide +kernel
theorem dX2_go_48 : decode cX2_go 48 = .ok (.ifCond .ne 7, 3) := by decide +kernel
theorem dX2_go_51 : decode cX2_go 51 = .ok (.iconst 1, 1) := by decide +kernel
theorem dX2_go_52 : decode cX2_go 52 = .ok (.goto 4, 3) := by decide +kernel
theorem dX2_go_55 : decode cX2_go 55 = .ok (.iconst 0, 1) := by decide +kernel
theorem dX2_go_56 : decode cX2_go 56 = .ok (.ireturn, 1) := by decide +kernel
set_option maxRecDepth 20000 in
theorem ggX2_play_X2_requireChase : GoodIn wsX2_play wsX2_requireChase := goodIn_ca (goodIn_r _ [8, 9, 10, 3, 94, 95, 96, 97, 98, 99, 100, 101, 102] (by decide +kernel) (by decide +kernel)) (goodIn_sub (fun _ h => List.mem_cons_of_mem _ (List.mem_append_right _ h)) (by decide +kernel))
set_option maxRecDepth 20000 in
theorem gX2_play_X2_requireChase : GoodIn wsX2_play (wsV RX2 114 RX2 yX2_requireChase wsX2_requireChase) := goodIn_app (goodIn_of _ (by decide +kernel)) ggX2_play_X2_requireChase
set_option maxRecDepth 20000 in
theorem ggX2_play_X2_bestGo : GoodIn wsX2_play wsX2_bestGo := goodIn_r _ [14, 3, 15, 16, 17, 7, 18, 19, 20, 21, 22, 23, 24, 25, 26, 27, 28, 29, 30, 31, 32, 33, 34, 35, 36, 37, 38, 39, 40, 41, 42, 43, 44, 45, 46, 47, 48, 49, 50, 51, 52, 53, 54, 55, 56, 57, 58, 59, 60, 61, 62, 63, 64, 65, 66, 67, 68, 69, 70, 71, 72, 73, 74, 75, 76, 77, 78, 94, 95, 96, 97, 98, 99, 100, 101, 102, 103, 104, 105, 106, 107, 108, 109, 110, 111, 112, 113, 114, 115] (by decide +kernel) (by decide +kernel)
set_option maxRecDepth 20000 in
theorem gX2_play_X2_bestGo : GoodIn wsX2_play (wsV RX2 135 RX2 yX2_bestGo wsX2_bestGo) := goodIn_app (goodIn_of _ (by decide +kernel)) ggX2_play_X2_bestGo
set_option maxRecDepth 20000 in
theorem ggX2_play_X2_moveTo : GoodIn wsX2_play wsX2_moveTo := goodIn_r _ [82, 27, 31, 19, 15, 16, 17, 7, 18, 20, 21, 22, 83, 84, 85, 86, 3, 87, 88, 89, 90, 91, 28, 92, 93, 94, 95, 96, 97, 98, 99, 100, 101, 102, 103, 104, 105, 106, 107, 108, 109, 110, 111] (by decide +kernel) (by decide +kernel)
set_option maxRecDepth 20000 in
theorem gX2_play_X2_moveTo : GoodIn wsX2_play (wsV RX2 130 RX2 yX2_moveTo wsX2_moveTo) := goodIn_app (goodIn_of _ (by decide +kernel)) ggX2_play_X2_moveTo
theorem dX2_play_0 : decode cX2_play 0 = .ok (.iload_n 1, 1) := by decide +kernel
theorem dX2_play_1 : decode cX2_play 1 = .ok (.iconst 1, 1) := by decide +kernel
theorem dX2_play_2 : decode cX2_play 2 = .ok (.if_icmp .lt 9, 3) := by decide +kernel
theorem dX2_play_5 : decode cX2_play 5 = .ok (.iload_n 1, 1) := by decide +kernel
theorem dX2_play_6 : decode cX2_play 6 = .ok (.bipush 60, 2) := by decide +kernel
theorem dX2_play_8 : decode cX2_play 8 = .ok (.if_icmp .le 13, 3) := by decide +kernel
theorem dX2_play_11 : decode cX2_play 11 = .ok (.new 55, 3) := by decide +kernel
theorem dX2_play_14 : decode cX2_play 14 = .ok (.dup, 1) := by decide +kernel
theorem dX2_play_15 : decode cX2_play 15 = .ok (.ldc 133, 2) := by decide +kernel
theorem dX2_play_17 : decode cX2_play 17 = .ok (.invokespecial 59, 3) := by decide +kernel
theorem dX2_play_20 : decode cX2_play 20 = .ok (.athrow, 1) := by decide +kernel
theorem dX2_play_21 : decode cX2_play 21 = .ok (.aload_n 0, 1) := by decide +kernel
theorem dX2_play_22 : decode cX2_play 22 = .ok (.invokevirtual 114, 3) := by decide +kernel
theorem dX2_play_25 : decode cX2_play 25 = .ok (.iconst 0, 1) := by decide +kernel
theorem dX2_play_26 : decode cX2_play 26 = .ok (.istore_n 2, 1) := by decide +kernel
theorem dX2_play_27 : decode cX2_play 27 = .ok (.iload_n 2, 1) := by decide +kernel
theorem dX2_play_28 : decode cX2_play 28 = .ok (.iload_n 1, 1) := by decide +kernel
theorem dX2_play_29 : decode cX2_play 29 = .ok (.if_icmp .ge 24, 3) := by decide +kernel
theorem dX2_play_32 : decode cX2_play 32 = .ok (.aload_n 0, 1) := by decide +kernel
theorem dX2_play_33 : decode cX2_play 33 = .ok (.getfield 107, 3) := by decide +kernel
theorem dX2_play_36 : decode cX2_play 36 = .ok (.ifCond .eq 17, 3) := by decide +kernel
theorem dX2_play_39 : decode cX2_play 39 = .ok (.aload_n 0, 1) := by decide +kernel
theorem dX2_play_40 : decode cX2_play 40 = .ok (.aload_n 0, 1) := by decide +kernel
theorem dX2_play_41 : decode cX2_play 41 = .ok (.invokevirtual 135, 3) := by decide +kernel
theorem dX2_play_44 : decode cX2_play 44 = .ok (.invokevirtual 130, 3) := by decide +kernel
theorem dX2_play_47 : decode cX2_play 47 = .ok (.iinc 2 1, 3) := by decide +kernel
theorem dX2_play_50 : decode cX2_play 50 = .ok (.goto (-23), 3) := by decide +kernel
theorem dX2_play_53 : decode cX2_play 53 = .ok (.iload_n 2, 1) := by decide +kernel
theorem dX2_play_54 : decode cX2_play 54 = .ok (.ireturn, 1) := by decide +kernel
theorem dX2_turn_0 : decode cX2_turn 0 = .ok (.aload_n 0, 1) := by decide +kernel
theorem dX2_turn_1 : decode cX2_turn 1 = .ok (.getfield 97, 3) := by decide +kernel
theorem dX2_turn_4 : decode cX2_turn 4 = .ok (.ireturn, 1) := by decide +kernel
theorem dX2_rooms_0 : decode cX2_rooms 0 = .ok (.aload_n 0, 1) := by decide +kernel
theorem dX2_rooms_1 : decode cX2_rooms 1 = .ok (.getfield 10, 3) := by decide +kernel
theorem dX2_rooms_4 : decode cX2_rooms 4 = .ok (.getfield 33, 3) := by decide +kernel
theorem dX2_rooms_7 : decode cX2_rooms 7 = .ok (.ireturn, 1) := by decide +kernel
theorem dX2_doors_0 : decode cX2_doors 0 = .ok (.aload_n 0, 1) := by decide +kernel
theorem dX2_doors_1 : decode cX2_doors 1 = .ok (.getfield 10, 3) := by decide +kernel
theorem dX2_doors_4 : decode cX2_doors 4 = .ok (.getfield 62, 3) := by decide +kernel
theorem dX2_doors_7 : decode cX2_doors 7 = .ok (.ireturn, 1) := by decide +kernel
theorem dX2_isOn_0 : decode cX2_isOn 0 = .ok (.aload_n 0, 1) := by decide +kernel
theorem dX2_isOn_1 : decode cX2_isOn 1 = .ok (.getfield 107, 3) := by decide +kernel
theorem dX2_isOn_4 : decode cX2_isOn 4 = .ok (.ireturn, 1) := by decide +kernel
theorem dX2_isCaught_0 : decode cX2_isCaught 0 = .ok (.aload_n 0, 1) := by decide +kernel
theorem dX2_isCaught_1 : decode cX2_isCaught 1 = .ok (.getfield 103, 3) := by decide +kernel
theorem dX2_isCaught_4 : decode cX2_isCaught 4 = .ok (.ireturn, 1) := by decide +kernel
set_option maxRecDepth 20000 in
theorem ggX2_isCatsTurn_X2_isCatsPhase : GoodIn wsX2_isCatsTurn wsX2_isCatsPhase := goodIn_r _ [5] (by decide +kernel) (by decide +kernel)
set_option maxRecDepth 20000 in
theorem gX2_isCatsTurn_X2_isCatsPhase : GoodIn wsX2_isCatsTurn (va_wsS RX2 138 yX2_isCatsPhase wsX2_isCatsPhase) := goodIn_app (goodIn_of _ (by decide +kernel)) ggX2_isCatsTurn_X2_isCatsPhase
theorem dX2_isCatsTurn_0 : decode cX2_isCatsTurn 0 = .ok (.aload_n 0, 1) := by decide +kernel
theorem dX2_isCatsTurn_1 : decode cX2_isCatsTurn 1 = .ok (.getfield 97, 3) := by decide +kernel
theorem dX2_isCatsTurn_4 : decode cX2_isCatsTurn 4 = .ok (.invokestatic 138, 3) := by decide +kernel
theorem dX2_isCatsTurn_7 : decode cX2_isCatsTurn 7 = .ok (.ireturn, 1) := by decide +kernel
theorem dX2_catIn_0 : decode cX2_catIn 0 = .ok (.aload_n 0, 1) := by decide +kernel
theorem dX2_catIn_1 : decode cX2_catIn 1 = .ok (.getfield 26, 3) := by decide +kernel
theorem dX2_catIn_4 : decode cX2_catIn 4 = .ok (.ireturn, 1) := by decide +kernel
theorem dX2_mouseIn_0 : decode cX2_mouseIn 0 = .ok (.aload_n 0, 1) := by decide +kernel
theorem dX2_mouseIn_1 : decode cX2_mouseIn 1 = .ok (.getfield 30, 3) := by decide +kernel
theorem dX2_mouseIn_4 : decode cX2_mouseIn 4 = .ok (.ireturn, 1) := by decide +kernel
theorem dX2_eaten_0 : decode cX2_eaten 0 = .ok (.aload_n 0, 1) := by decide +kernel
theorem dX2_eaten_1 : decode cX2_eaten 1 = .ok (.getfield 100, 3) := by decide +kernel
theorem dX2_eaten_4 : decode cX2_eaten 4 = .ok (.ireturn, 1) := by decide +kernel
set_option maxRecDepth 20000 in
theorem ggX2_isSafe_X2_requireRoom : GoodIn wsX2_isSafe wsX2_requireRoom := goodIn_ca (goodIn_r _ [7, 8, 9, 1, 10, 11, 12, 13, 14, 15, 16, 17, 18, 19, 20, 21, 22, 23, 24, 25, 26, 27, 28] (by decide +kernel) (by decide +kernel)) (goodIn_sub (fun _ h => List.mem_cons_of_mem _ (List.mem_append_right _ h)) (by decide +kernel))
set_option maxRecDepth 20000 in
theorem gX2_isSafe_X2_requireRoom : GoodIn wsX2_isSafe (wsV RX2 51 RX2 yX2_requireRoom wsX2_requireRoom) := goodIn_app (goodIn_of _ (by decide +kernel)) ggX2_isSafe_X2_requireRoom
theorem dX2_isSafe_0 : decode cX2_isSafe 0 = .ok (.aload_n 0, 1) := by decide +kernel
theorem dX2_isSafe_1 : decode cX2_isSafe 1 = .ok (.iload_n 1, 1) := by decide +kernel
theorem dX2_isSafe_2 : decode cX2_isSafe 2 = .ok (.invokevirtual 51, 3) := by decide +kernel
theorem dX2_isSafe_5 : decode cX2_isSafe 5 = .ok (.aload_n 0, 1) := by decide +kernel
theorem dX2_isSafe_6 : decode cX2_isSafe 6 = .ok (.getfield 10, 3) := by decide +kernel
theorem dX2_isSafe_9 : decode cX2_isSafe 9 = .ok (.getfield 142, 3) := by decide +kernel
theorem dX2_isSafe_12 : decode cX2_isSafe 12 = .ok (.iload_n 1, 1) := by decide +kernel
theorem dX2_isSafe_13 : decode cX2_isSafe 13 = .ok (.baload, 1) := by decide +kernel
theorem dX2_isSafe_14 : decode cX2_isSafe 14 = .ok (.ireturn, 1) := by decide +kernel
set_option maxRecDepth 20000 in
theorem ggX2_cheeseIn_X2_requireRoom : GoodIn wsX2_cheeseIn wsX2_requireRoom := goodIn_ca (goodIn_r _ [7, 8, 9, 1, 10, 11, 12, 13, 14, 15, 16, 17, 18, 19, 20, 21, 22, 23, 24, 25, 26, 27, 28] (by decide +kernel) (by decide +kernel)) (goodIn_sub (fun _ h => List.mem_cons_of_mem _ (List.mem_append_right _ h)) (by decide +kernel))
set_option maxRecDepth 20000 in
theorem gX2_cheeseIn_X2_requireRoom : GoodIn wsX2_cheeseIn (wsV RX2 51 RX2 yX2_requireRoom wsX2_requireRoom) := goodIn_app (goodIn_of _ (by decide +kernel)) ggX2_cheeseIn_X2_requireRoom
theorem dX2_cheeseIn_0 : decode cX2_cheeseIn 0 = .ok (.aload_n 0, 1) := by decide +kernel
theorem dX2_cheeseIn_1 : decode cX2_cheeseIn 1 = .ok (.iload_n 1, 1) := by decide +kernel
theorem dX2_cheeseIn_2 : decode cX2_cheeseIn 2 = .ok (.invokevirtual 51, 3) := by decide +kernel
theorem dX2_cheeseIn_5 : decode cX2_cheeseIn 5 = .ok (.aload_n 0, 1) := by decide +kernel
theorem dX2_cheeseIn_6 : decode cX2_cheeseIn 6 = .ok (.getfield 10, 3) := by decide +kernel
theorem dX2_cheeseIn_9 : decode cX2_cheeseIn 9 = .ok (.getfield 86, 3) := by decide +kernel
theorem dX2_cheeseIn_12 : decode cX2_cheeseIn 12 = .ok (.iload_n 1, 1) := by decide +kernel
theorem dX2_cheeseIn_13 : decode cX2_cheeseIn 13 = .ok (.iaload, 1) := by decide +kernel
theorem dX2_cheeseIn_14 : decode cX2_cheeseIn 14 = .ok (.ireturn, 1) := by decide +kernel
set_option maxRecDepth 20000 in
theorem ggX2_doorsOf_X2_requireRoom : GoodIn wsX2_doorsOf wsX2_requireRoom := goodIn_ca (goodIn_r _ [6, 7, 8, 1, 9, 19, 20, 21, 22, 23, 24, 25, 26, 27, 28, 29, 30, 31, 32, 33, 34, 35, 36] (by decide +kernel) (by decide +kernel)) (goodIn_sub (fun _ h => List.mem_cons_of_mem _ (List.mem_append_right _ h)) (by decide +kernel))
set_option maxRecDepth 20000 in
theorem gX2_doorsOf_X2_requireRoom : GoodIn wsX2_doorsOf (wsV RX2 51 RX2 yX2_requireRoom wsX2_requireRoom) := goodIn_app (goodIn_of _ (by decide +kernel)) ggX2_doorsOf_X2_requireRoom
set_option maxRecDepth 20000 in
theorem ggX2_doorsOf_X0_unlockedDoorsAt : GoodIn wsX2_doorsOf wsX0_unlockedDoorsAt := goodIn_r _ [14, 15, 16, 17, 18, 28, 29, 30, 31, 32, 33, 34, 35, 36] (by decide +kernel) (by decide +kernel)
set_option maxRecDepth 20000 in
theorem gX2_doorsOf_X0_unlockedDoorsAt : GoodIn wsX2_doorsOf (wsV RX2 145 RX0 yX0_unlockedDoorsAt wsX0_unlockedDoorsAt) := goodIn_app (goodIn_of _ (by decide +kernel)) ggX2_doorsOf_X0_unlockedDoorsAt
theorem dX2_doorsOf_0 : decode cX2_doorsOf 0 = .ok (.aload_n 0, 1) := by decide +kernel
theorem dX2_doorsOf_1 : decode cX2_doorsOf 1 = .ok (.iload_n 1, 1) := by decide +kernel
theorem dX2_doorsOf_2 : decode cX2_doorsOf 2 = .ok (.invokevirtual 51, 3) := by decide +kernel
theorem dX2_doorsOf_5 : decode cX2_doorsOf 5 = .ok (.aload_n 0, 1) := by decide +kernel
theorem dX2_doorsOf_6 : decode cX2_doorsOf 6 = .ok (.getfield 10, 3) := by decide +kernel
theorem dX2_doorsOf_9 : decode cX2_doorsOf 9 = .ok (.iload_n 1, 1) := by decide +kernel
theorem dX2_doorsOf_10 : decode cX2_doorsOf 10 = .ok (.invokevirtual 145, 3) := by decide +kernel
theorem dX2_doorsOf_13 : decode cX2_doorsOf 13 = .ok (.ireturn, 1) := by decide +kernel
set_option maxRecDepth 20000 in
theorem ggX2_isLocked_X2_requireDoor : GoodIn wsX2_isLocked wsX2_requireDoor := goodIn_ca (goodIn_r _ [7, 8, 9, 1, 10, 11, 12, 13, 14, 15, 16, 17, 18, 19, 20, 21, 22, 23, 24, 25, 26, 27, 28] (by decide +kernel) (by decide +kernel)) (goodIn_sub (fun _ h => List.mem_cons_of_mem _ (List.mem_append_right _ h)) (by decide +kernel))
set_option maxRecDepth 20000 in
theorem gX2_isLocked_X2_requireDoor : GoodIn wsX2_isLocked (wsV RX2 77 RX2 yX2_requireDoor wsX2_requireDoor) := goodIn_app (goodIn_of _ (by decide +kernel)) ggX2_isLocked_X2_requireDoor
theorem dX2_isLocked_0 : decode cX2_isLocked 0 = .ok (.aload_n 0, 1) := by decide +kernel
theorem dX2_isLocked_1 : decode cX2_isLocked 1 = .ok (.iload_n 1, 1) := by decide +kernel
theorem dX2_isLocked_2 : decode cX2_isLocked 2 = .ok (.invokevirtual 77, 3) := by decide +kernel
theorem dX2_isLocked_5 : decode cX2_isLocked 5 = .ok (.aload_n 0, 1) := by decide +kernel
theorem dX2_isLocked_6 : decode cX2_isLocked 6 = .ok (.getfield 10, 3) := by decide +kernel
theorem dX2_isLocked_9 : decode cX2_isLocked 9 = .ok (.getfield 80, 3) := by decide +kernel
theorem dX2_isLocked_12 : decode cX2_isLocked 12 = .ok (.iload_n 1, 1) := by decide +kernel
theorem dX2_isLocked_13 : decode cX2_isLocked 13 = .ok (.baload, 1) := by decide +kernel
theorem dX2_isLocked_14 : decode cX2_isLocked 14 = .ok (.ireturn, 1) := by decide +kernel
set_option maxRecDepth 20000 in
theorem ggX2_isOpen_X2_requireDoor : GoodIn wsX2_isOpen wsX2_requireDoor := goodIn_ca (goodIn_r _ [6, 7, 8, 1, 9, 27, 28, 29, 30, 31, 32, 33, 34, 35, 36, 37, 38, 39, 40, 41, 42, 43, 44] (by decide +kernel) (by decide +kernel)) (goodIn_sub (fun _ h => List.mem_cons_of_mem _ (List.mem_append_right _ h)) (by decide +kernel))
set_option maxRecDepth 20000 in
theorem gX2_isOpen_X2_requireDoor : GoodIn wsX2_isOpen (wsV RX2 77 RX2 yX2_requireDoor wsX2_requireDoor) := goodIn_app (goodIn_of _ (by decide +kernel)) ggX2_isOpen_X2_requireDoor
set_option maxRecDepth 20000 in
theorem ggX2_isOpen_X2_phaseAfter : GoodIn wsX2_isOpen wsX2_phaseAfter := goodIn_r _ [13, 14, 15, 16, 17, 18, 27, 28, 29, 30, 31, 32, 33, 34, 35] (by decide +kernel) (by decide +kernel)
set_option maxRecDepth 20000 in
theorem gX2_isOpen_X2_phaseAfter : GoodIn wsX2_isOpen (wsV RX2 117 RX2 yX2_phaseAfter wsX2_phaseAfter) := goodIn_app (goodIn_of _ (by decide +kernel)) ggX2_isOpen_X2_phaseAfter
set_option maxRecDepth 20000 in
theorem ggX2_isOpen_X0_isOpenIn : GoodIn wsX2_isOpen wsX0_isOpenIn := goodIn_r _ [23, 24, 25, 26, 36, 37, 38, 39, 40, 41, 42, 43, 44] (by decide +kernel) (by decide +kernel)
set_option maxRecDepth 20000 in
theorem gX2_isOpen_X0_isOpenIn : GoodIn wsX2_isOpen (wsV RX2 148 RX0 yX0_isOpenIn wsX0_isOpenIn) := goodIn_app (goodIn_of _ (by decide +kernel)) ggX2_isOpen_X0_isOpenIn
theorem dX2_isOpen_0 : decode cX2_isOpen 0 = .ok (.aload_n 0, 1) := by decide +kernel
theorem dX2_isOpen_1 : decode cX2_isOpen 1 = .ok (.iload_n 1, 1) := by decide +kernel
theorem dX2_isOpen_2 : decode cX2_isOpen 2 = .ok (.invokevirtual 77, 3) := by decide +kernel
theorem dX2_isOpen_5 : decode cX2_isOpen 5 = .ok (.aload_n 0, 1) := by decide +kernel
theorem dX2_isOpen_6 : decode cX2_isOpen 6 = .ok (.getfield 10, 3) := by decide +kernel
theorem dX2_isOpen_9 : decode cX2_isOpen 9 = .ok (.iload_n 1, 1) := by decide +kernel
theorem dX2_isOpen_10 : decode cX2_isOpen 10 = .ok (.aload_n 0, 1) := by decide +kernel
theorem dX2_isOpen_11 : decode cX2_isOpen 11 = .ok (.iconst 0, 1) := by decide +kernel
theorem dX2_isOpen_12 : decode cX2_isOpen 12 = .ok (.invokevirtual 117, 3) := by decide +kernel
theorem dX2_isOpen_15 : decode cX2_isOpen 15 = .ok (.invokevirtual 148, 3) := by decide +kernel
theorem dX2_isOpen_18 : decode cX2_isOpen 18 = .ok (.ireturn, 1) := by decide +kernel
set_option maxRecDepth 20000 in
theorem ggX2_turnsUntilOpen_X2_requireDoor : GoodIn wsX2_turnsUntilOpen wsX2_requireDoor := goodIn_ca (goodIn_r _ [6, 7, 8, 1, 9, 27, 28, 29, 30, 31, 32, 33, 34, 35, 36, 37, 38, 39, 40, 41, 42, 43, 44] (by decide +kernel) (by decide +kernel)) (goodIn_sub (fun _ h => List.mem_cons_of_mem _ (List.mem_append_right _ h)) (by decide +kernel))
set_option maxRecDepth 20000 in
theorem gX2_turnsUntilOpen_X2_requireDoor : GoodIn wsX2_turnsUntilOpen (wsV RX2 77 RX2 yX2_requireDoor wsX2_requireDoor) := goodIn_app (goodIn_of _ (by decide +kernel)) ggX2_turnsUntilOpen_X2_requireDoor
set_option maxRecDepth 20000 in
theorem ggX2_turnsUntilOpen_X2_phaseAfter : GoodIn wsX2_turnsUntilOpen wsX2_phaseAfter := goodIn_r _ [13, 14, 15, 16, 17, 18, 27, 28, 29, 30, 31, 32, 33, 34, 35] (by decide +kernel) (by decide +kernel)
set_option maxRecDepth 20000 in
theorem gX2_turnsUntilOpen_X2_phaseAfter : GoodIn wsX2_turnsUntilOpen (wsV RX2 117 RX2 yX2_phaseAfter wsX2_phaseAfter) := goodIn_app (goodIn_of _ (by decide +kernel)) ggX2_turnsUntilOpen_X2_phaseAfter
set_option maxRecDepth 20000 in
theorem ggX2_turnsUntilOpen_X0_isOpenIn : GoodIn wsX2_turnsUntilOpen wsX0_isOpenIn := goodIn_r _ [23, 24, 25, 26, 36, 37, 38, 39, 40, 41, 42, 43, 44] (by decide +kernel) (by decide +kernel)
set_option maxRecDepth 20000 in
theorem gX2_turnsUntilOpen_X0_isOpenIn : GoodIn wsX2_turnsUntilOpen (wsV RX2 148 RX0 yX0_isOpenIn wsX0_isOpenIn) := goodIn_app (goodIn_of _ (by decide +kernel)) ggX2_turnsUntilOpen_X0_isOpenIn
theorem dX2_turnsUntilOpen_0 : decode cX2_turnsUntilOpen 0 = .ok (.aload_n 0, 1) := by decide +kernel
theorem dX2_turnsUntilOpen_1 : decode cX2_turnsUntilOpen 1 = .ok (.iload_n 1, 1) := by decide +kernel
theorem dX2_turnsUntilOpen_2 : decode cX2_turnsUntilOpen 2 = .ok (.invokevirtual 77, 3) := by decide +kernel
theorem dX2_turnsUntilOpen_5 : decode cX2_turnsUntilOpen 5 = .ok (.iconst 0, 1) := by decide +kernel
theorem dX2_turnsUntilOpen_6 : decode cX2_turnsUntilOpen 6 = .ok (.istore_n 2, 1) := by decide +kernel
theorem dX2_turnsUntilOpen_7 : decode cX2_turnsUntilOpen 7 = .ok (.iload_n 2, 1) := by decide +kernel
theorem dX2_turnsUntilOpen_8 : decode cX2_turnsUntilOpen 8 = .ok (.bipush 12, 2) := by decide +kernel
theorem dX2_turnsUntilOpen_10 : decode cX2_turnsUntilOpen 10 = .ok (.if_icmp .ge 27, 3) := by decide +kernel
theorem dX2_turnsUntilOpen_13 : decode cX2_turnsUntilOpen 13 = .ok (.aload_n 0, 1) := by decide +kernel
theorem dX2_turnsUntilOpen_14 : decode cX2_turnsUntilOpen 14 = .ok (.getfield 10, 3) := by decide +kernel
theorem dX2_turnsUntilOpen_17 : decode cX2_turnsUntilOpen 17 = .ok (.iload_n 1, 1) := by decide +kernel
theorem dX2_turnsUntilOpen_18 : decode cX2_turnsUntilOpen 18 = .ok (.aload_n 0, 1) := by decide +kernel
theorem dX2_turnsUntilOpen_19 : decode cX2_turnsUntilOpen 19 = .ok (.iload_n 2, 1) := by decide +kernel
theorem dX2_turnsUntilOpen_20 : decode cX2_turnsUntilOpen 20 = .ok (.invokevirtual 117, 3) := by decide +kernel
theorem dX2_turnsUntilOpen_23 : decode cX2_turnsUntilOpen 23 = .ok (.invokevirtual 148, 3) := by decide +kernel
theorem dX2_turnsUntilOpen_26 : decode cX2_turnsUntilOpen 26 = .ok (.ifCond .eq 5, 3) := by decide +kernel
theorem dX2_turnsUntilOpen_29 : decode cX2_turnsUntilOpen 29 = .ok (.iload_n 2, 1) := by decide +kernel
theorem dX2_turnsUntilOpen_30 : decode cX2_turnsUntilOpen 30 = .ok (.ireturn, 1) := by decide +kernel
theorem dX2_turnsUntilOpen_31 : decode cX2_turnsUntilOpen 31 = .ok (.iinc 2 1, 3) := by decide +kernel
theorem dX2_turnsUntilOpen_34 : decode cX2_turnsUntilOpen 34 = .ok (.goto (-27), 3) := by decide +kernel
theorem dX2_turnsUntilOpen_37 : decode cX2_turnsUntilOpen 37 = .ok (.iconst (-1), 1) := by decide +kernel
theorem dX2_turnsUntilOpen_38 : decode cX2_turnsUntilOpen 38 = .ok (.ireturn, 1) := by decide +kernel
set_option maxRecDepth 20000 in
theorem ggX2_isWayOpen_X2_requireRoom : GoodIn wsX2_isWayOpen wsX2_requireRoom := goodIn_ca (goodIn_r _ [6, 7, 8, 1, 9, 34, 35, 36, 37, 38, 39, 40, 41, 42, 43, 44, 45, 46, 47, 48, 49, 50, 51] (by decide +kernel) (by decide +kernel)) (goodIn_sub (fun _ h => List.mem_cons_of_mem _ (List.mem_append_right _ h)) (by decide +kernel))
set_option maxRecDepth 20000 in
theorem gX2_isWayOpen_X2_requireRoom : GoodIn wsX2_isWayOpen (wsV RX2 51 RX2 yX2_requireRoom wsX2_requireRoom) := goodIn_app (goodIn_of _ (by decide +kernel)) ggX2_isWayOpen_X2_requireRoom
set_option maxRecDepth 20000 in
theorem ggX2_isWayOpen_X0_joining : GoodIn wsX2_isWayOpen wsX0_joining := goodIn_r _ [14, 15, 16, 17, 43, 44, 45, 46, 47, 48, 49, 50, 51] (by decide +kernel) (by decide +kernel)
set_option maxRecDepth 20000 in
theorem gX2_isWayOpen_X0_joining : GoodIn wsX2_isWayOpen (wsV RX2 67 RX0 yX0_joining wsX0_joining) := goodIn_app (goodIn_of _ (by decide +kernel)) ggX2_isWayOpen_X0_joining
set_option maxRecDepth 20000 in
theorem ggX2_isWayOpen_X2_phaseAfter : GoodIn wsX2_isWayOpen wsX2_phaseAfter := goodIn_r _ [21, 22, 23, 24, 25, 26, 34, 35, 36, 37, 38, 39, 40, 41, 42] (by decide +kernel) (by decide +kernel)
set_option maxRecDepth 20000 in
theorem gX2_isWayOpen_X2_phaseAfter : GoodIn wsX2_isWayOpen (wsV RX2 117 RX2 yX2_phaseAfter wsX2_phaseAfter) := goodIn_app (goodIn_of _ (by decide +kernel)) ggX2_isWayOpen_X2_phaseAfter
set_option maxRecDepth 20000 in
theorem ggX2_isWayOpen_X0_isOpenIn : GoodIn wsX2_isWayOpen wsX0_isOpenIn := goodIn_r _ [30, 31, 32, 33, 43, 44, 45, 46, 47, 48, 49, 50, 51] (by decide +kernel) (by decide +kernel)
set_option maxRecDepth 20000 in
theorem gX2_isWayOpen_X0_isOpenIn : GoodIn wsX2_isWayOpen (wsV RX2 148 RX0 yX0_isOpenIn wsX0_isOpenIn) := goodIn_app (goodIn_of _ (by decide +kernel)) ggX2_isWayOpen_X0_isOpenIn
theorem dX2_isWayOpen_0 : decode cX2_isWayOpen 0 = .ok (.aload_n 0, 1) := by decide +kernel
theorem dX2_isWayOpen_1 : decode cX2_isWayOpen 1 = .ok (.iload_n 1, 1) := by decide +kernel
theorem dX2_isWayOpen_2 : decode cX2_isWayOpen 2 = .ok (.invokevirtual 51, 3) := by decide +kernel
theorem dX2_isWayOpen_5 : decode cX2_isWayOpen 5 = .ok (.aload_n 0, 1) := by decide +kernel
theorem dX2_isWayOpen_6 : decode cX2_isWayOpen 6 = .ok (.iload_n 2, 1) := by decide +kernel
theorem dX2_isWayOpen_7 : decode cX2_isWayOpen 7 = .ok (.invokevirtual 51, 3) := by decide +kernel
theorem dX2_isWayOpen_10 : decode cX2_isWayOpen 10 = .ok (.aload_n 0, 1) := by decide +kernel
theorem dX2_isWayOpen_11 : decode cX2_isWayOpen 11 = .ok (.getfield 10, 3) := by decide +kernel
theorem dX2_isWayOpen_14 : decode cX2_isWayOpen 14 = .ok (.iload_n 1, 1) := by decide +kernel
theorem dX2_isWayOpen_15 : decode cX2_isWayOpen 15 = .ok (.iload_n 2, 1) := by decide +kernel
theorem dX2_isWayOpen_16 : decode cX2_isWayOpen 16 = .ok (.invokevirtual 67, 3) := by decide +kernel
theorem dX2_isWayOpen_19 : decode cX2_isWayOpen 19 = .ok (.istore_n 3, 1) := by decide +kernel
theorem dX2_isWayOpen_20 : decode cX2_isWayOpen 20 = .ok (.iload_n 3, 1) := by decide +kernel
theorem dX2_isWayOpen_21 : decode cX2_isWayOpen 21 = .ok (.iconst (-1), 1) := by decide +kernel
theorem dX2_isWayOpen_22 : decode cX2_isWayOpen 22 = .ok (.if_icmp .eq 23, 3) := by decide +kernel
theorem dX2_isWayOpen_25 : decode cX2_isWayOpen 25 = .ok (.aload_n 0, 1) := by decide +kernel
theorem dX2_isWayOpen_26 : decode cX2_isWayOpen 26 = .ok (.getfield 10, 3) := by decide +kernel
theorem dX2_isWayOpen_29 : decode cX2_isWayOpen 29 = .ok (.iload_n 3, 1) := by decide +kernel
theorem dX2_isWayOpen_30 : decode cX2_isWayOpen 30 = .ok (.aload_n 0, 1) := by decide +kernel
theorem dX2_isWayOpen_31 : decode cX2_isWayOpen 31 = .ok (.iconst 0, 1) := by decide +kernel
theorem dX2_isWayOpen_32 : decode cX2_isWayOpen 32 = .ok (.invokevirtual 117, 3) := by decide +kernel
theorem dX2_isWayOpen_35 : decode cX2_isWayOpen 35 = .ok (.invokevirtual 148, 3) := by decide +kernel
theorem dX2_isWayOpen_38 : decode cX2_isWayOpen 38 = .ok (.ifCond .eq 7, 3) := by decide +kernel
theorem dX2_isWayOpen_41 : decode cX2_isWayOpen 41 = .ok (.iconst 1, 1) := by decide +kernel
theorem dX2_isWayOpen_42 : decode cX2_isWayOpen 42 = .ok (.goto 4, 3) := by decide +kernel
theorem dX2_isWayOpen_45 : decode cX2_isWayOpen 45 = .ok (.iconst 0, 1) := by decide +kernel
theorem dX2_isWayOpen_46 : decode cX2_isWayOpen 46 = .ok (.ireturn, 1) := by decide +kernel
set_option maxRecDepth 20000 in
theorem ggX2_distance_X2_requireRoom : GoodIn wsX2_distance wsX2_requireRoom := goodIn_ca (goodIn_r _ [6, 7, 8, 1, 9, 27, 28, 29, 30, 31, 32, 33, 34, 35, 36, 37, 38, 39, 40, 41, 42, 43, 44] (by decide +kernel) (by decide +kernel)) (goodIn_sub (fun _ h => List.mem_cons_of_mem _ (List.mem_append_right _ h)) (by decide +kernel))
set_option maxRecDepth 20000 in
theorem gX2_distance_X2_requireRoom : GoodIn wsX2_distance (wsV RX2 51 RX2 yX2_requireRoom wsX2_requireRoom) := goodIn_app (goodIn_of _ (by decide +kernel)) ggX2_distance_X2_requireRoom
set_option maxRecDepth 20000 in
theorem ggX2_distance_X0_doorsFrom : GoodIn wsX2_distance wsX0_doorsFrom := goodIn_r _ [14, 15, 5, 16, 17, 18, 19, 20, 21, 13, 22, 23, 24, 25, 26, 36, 37, 38, 39, 40, 41, 42, 43, 44] (by decide +kernel) (by decide +kernel)
set_option maxRecDepth 20000 in
theorem gX2_distance_X0_doorsFrom : GoodIn wsX2_distance (wsV RX2 152 RX0 yX0_doorsFrom wsX0_doorsFrom) := goodIn_app (goodIn_of _ (by decide +kernel)) ggX2_distance_X0_doorsFrom
theorem dX2_distance_0 : decode cX2_distance 0 = .ok (.aload_n 0, 1) := by decide +kernel
theorem dX2_distance_1 : decode cX2_distance 1 = .ok (.iload_n 1, 1) := by decide +kernel
theorem dX2_distance_2 : decode cX2_distance 2 = .ok (.invokevirtual 51, 3) := by decide +kernel
theorem dX2_distance_5 : decode cX2_distance 5 = .ok (.aload_n 0, 1) := by decide +kernel
theorem dX2_distance_6 : decode cX2_distance 6 = .ok (.iload_n 2, 1) := by decide +kernel
theorem dX2_distance_7 : decode cX2_distance 7 = .ok (.invokevirtual 51, 3) := by decide +kernel
theorem dX2_distance_10 : decode cX2_distance 10 = .ok (.aload_n 0, 1) := by decide +kernel
theorem dX2_distance_11 : decode cX2_distance 11 = .ok (.getfield 10, 3) := by decide +kernel
theorem dX2_distance_14 : decode cX2_distance 14 = .ok (.iload_n 1, 1) := by decide +kernel
theorem dX2_distance_15 : decode cX2_distance 15 = .ok (.iload_n 2, 1) := by decide +kernel
theorem dX2_distance_16 : decode cX2_distance 16 = .ok (.invokevirtual 152, 3) := by decide +kernel
theorem dX2_distance_19 : decode cX2_distance 19 = .ok (.ireturn, 1) := by decide +kernel
set_option maxRecDepth 20000 in
theorem ggX2_turnsToCatch_X2_turnsOf : GoodIn wsX2_turnsToCatch wsX2_turnsOf := goodIn_r _ [8, 9, 10, 11, 12, 7, 13, 14, 15, 16, 17, 18, 19, 20, 21, 22, 23, 24, 25, 26, 27, 28, 29, 30, 31, 32, 33, 34, 35, 36, 37, 38, 39, 40] (by decide +kernel) (by decide +kernel)
set_option maxRecDepth 20000 in
theorem gX2_turnsToCatch_X2_turnsOf : GoodIn wsX2_turnsToCatch (wsV RX2 159 RX2 yX2_turnsOf wsX2_turnsOf) := goodIn_app (goodIn_of _ (by decide +kernel)) ggX2_turnsToCatch_X2_turnsOf
theorem dX2_turnsToCatch_0 : decode cX2_turnsToCatch 0 = .ok (.aload_n 0, 1) := by decide +kernel
theorem dX2_turnsToCatch_1 : decode cX2_turnsToCatch 1 = .ok (.getfield 107, 3) := by decide +kernel
theorem dX2_turnsToCatch_4 : decode cX2_turnsToCatch 4 = .ok (.ifCond .eq 18, 3) := by decide +kernel
theorem dX2_turnsToCatch_7 : decode cX2_turnsToCatch 7 = .ok (.aload_n 0, 1) := by decide +kernel
theorem dX2_turnsToCatch_8 : decode cX2_turnsToCatch 8 = .ok (.aload_n 0, 1) := by decide +kernel
theorem dX2_turnsToCatch_9 : decode cX2_turnsToCatch 9 = .ok (.getfield 26, 3) := by decide +kernel
theorem dX2_turnsToCatch_12 : decode cX2_turnsToCatch 12 = .ok (.aload_n 0, 1) := by decide +kernel
theorem dX2_turnsToCatch_13 : decode cX2_turnsToCatch 13 = .ok (.getfield 30, 3) := by decide +kernel
theorem dX2_turnsToCatch_16 : decode cX2_turnsToCatch 16 = .ok (.invokevirtual 159, 3) := by decide +kernel
theorem dX2_turnsToCatch_19 : decode cX2_turnsToCatch 19 = .ok (.goto 4, 3) := by decide +kernel
theorem dX2_turnsToCatch_22 : decode cX2_turnsToCatch 22 = .ok (.iconst (-1), 1) := by decide +kernel
theorem dX2_turnsToCatch_23 : decode cX2_turnsToCatch 23 = .ok (.ireturn, 1) := by decide +kernel
set_option maxRecDepth 20000 in
theorem ggX2_turnsFrom_X2_requireRoom : GoodIn wsX2_turnsFrom wsX2_requireRoom := goodIn_ca (goodIn_r _ [5, 6, 7, 8, 9, 40, 41, 42, 43, 44, 45, 46, 47, 48, 49, 50, 51, 52, 53, 54, 55, 56, 57] (by decide +kernel) (by decide +kernel)) (goodIn_sub (fun _ h => List.mem_cons_of_mem _ (List.mem_append_left _ (List.mem_append_right _ h))) (by decide +kernel))
set_option maxRecDepth 20000 in
theorem gX2_turnsFrom_X2_requireRoom : GoodIn wsX2_turnsFrom (wsV RX2 51 RX2 yX2_requireRoom wsX2_requireRoom) := goodIn_app (goodIn_of _ (by decide +kernel)) ggX2_turnsFrom_X2_requireRoom
set_option maxRecDepth 20000 in
theorem ggX2_turnsFrom_X2_requireCatsRoom : GoodIn wsX2_turnsFrom wsX2_requireCatsRoom := goodIn_ca (goodIn_r _ [13, 14, 15, 8, 16, 40, 41, 42, 43, 44, 45, 46, 47, 48, 49, 50, 51, 52, 53, 54, 55, 56, 57] (by decide +kernel) (by decide +kernel)) (goodIn_sub (fun _ h => List.mem_cons_of_mem _ (List.mem_append_right _ h)) (by decide +kernel))
set_option maxRecDepth 20000 in
theorem gX2_turnsFrom_X2_requireCatsRoom : GoodIn wsX2_turnsFrom (wsV RX2 94 RX2 yX2_requireCatsRoom wsX2_requireCatsRoom) := goodIn_app (goodIn_of _ (by decide +kernel)) ggX2_turnsFrom_X2_requireCatsRoom
set_option maxRecDepth 20000 in
theorem ggX2_turnsFrom_X2_turnsOf : GoodIn wsX2_turnsFrom wsX2_turnsOf := goodIn_r _ [20, 21, 22, 23, 24, 4, 25, 26, 27, 28, 29, 30, 31, 32, 33, 34, 35, 36, 37, 38, 39, 40, 41, 42, 43, 44, 45, 46, 47, 48, 58, 59, 60, 61] (by decide +kernel) (by decide +kernel)
set_option maxRecDepth 20000 in
theorem gX2_turnsFrom_X2_turnsOf : GoodIn wsX2_turnsFrom (wsV RX2 159 RX2 yX2_turnsOf wsX2_turnsOf) := goodIn_app (goodIn_of _ (by decide +kernel)) ggX2_turnsFrom_X2_turnsOf
theorem dX2_turnsFrom_0 : decode cX2_turnsFrom 0 = .ok (.aload_n 0, 1) := by decide +kernel
theorem dX2_turnsFrom_1 : decode cX2_turnsFrom 1 = .ok (.iload_n 1, 1) := by decide +kernel
theorem dX2_turnsFrom_2 : decode cX2_turnsFrom 2 = .ok (.invokevirtual 51, 3) := by decide +kernel
theorem dX2_turnsFrom_5 : decode cX2_turnsFrom 5 = .ok (.aload_n 0, 1) := by decide +kernel
theorem dX2_turnsFrom_6 : decode cX2_turnsFrom 6 = .ok (.iload_n 2, 1) := by decide +kernel
theorem dX2_turnsFrom_7 : decode cX2_turnsFrom 7 = .ok (.invokevirtual 51, 3) := by decide +kernel
theorem dX2_turnsFrom_10 : decode cX2_turnsFrom 10 = .ok (.aload_n 0, 1) := by decide +kernel
theorem dX2_turnsFrom_11 : decode cX2_turnsFrom 11 = .ok (.iload_n 1, 1) := by decide +kernel
theorem dX2_turnsFrom_12 : decode cX2_turnsFrom 12 = .ok (.invokevirtual 94, 3) := by decide +kernel
theorem dX2_turnsFrom_15 : decode cX2_turnsFrom 15 = .ok (.aload_n 0, 1) := by decide +kernel
theorem dX2_turnsFrom_16 : decode cX2_turnsFrom 16 = .ok (.iload_n 1, 1) := by decide +kernel
theorem dX2_turnsFrom_17 : decode cX2_turnsFrom 17 = .ok (.iload_n 2, 1) := by decide +kernel
theorem dX2_turnsFrom_18 : decode cX2_turnsFrom 18 = .ok (.invokevirtual 159, 3) := by decide +kernel
theorem dX2_turnsFrom_21 : decode cX2_turnsFrom 21 = .ok (.ireturn, 1) := by decide +kernel
set_option maxRecDepth 20000 in
theorem ggX2_safeNow_X2_turnsOf : GoodIn wsX2_safeNow wsX2_turnsOf := goodIn_r _ [9, 10, 11, 12, 13, 8, 14, 15, 16, 17, 18, 19, 20, 21, 22, 23, 24, 25, 26, 27, 28, 29, 30, 31, 32, 33, 34, 35, 36, 37, 47, 48, 49, 50] (by decide +kernel) (by decide +kernel)
set_option maxRecDepth 20000 in
theorem gX2_safeNow_X2_turnsOf : GoodIn wsX2_safeNow (wsV RX2 159 RX2 yX2_turnsOf wsX2_turnsOf) := goodIn_app (goodIn_of _ (by decide +kernel)) ggX2_safeNow_X2_turnsOf
theorem dX2_safeNow_0 : decode cX2_safeNow 0 = .ok (.iconst 0, 1) := by decide +kernel
theorem dX2_safeNow_1 : decode cX2_safeNow 1 = .ok (.istore_n 1, 1) := by decide +kernel
theorem dX2_safeNow_2 : decode cX2_safeNow 2 = .ok (.iconst 0, 1) := by decide +kernel
theorem dX2_safeNow_3 : decode cX2_safeNow 3 = .ok (.istore_n 2, 1) := by decide +kernel
theorem dX2_safeNow_4 : decode cX2_safeNow 4 = .ok (.aload_n 0, 1) := by decide +kernel
theorem dX2_safeNow_5 : decode cX2_safeNow 5 = .ok (.getfield 107, 3) := by decide +kernel
theorem dX2_safeNow_8 : decode cX2_safeNow 8 = .ok (.ifCond .eq 36, 3) := by decide +kernel
theorem dX2_safeNow_11 : decode cX2_safeNow 11 = .ok (.iload_n 2, 1) := by decide +kernel
theorem dX2_safeNow_12 : decode cX2_safeNow 12 = .ok (.aload_n 0, 1) := by decide +kernel
theorem dX2_safeNow_13 : decode cX2_safeNow 13 = .ok (.getfield 10, 3) := by decide +kernel
theorem dX2_safeNow_16 : decode cX2_safeNow 16 = .ok (.getfield 33, 3) := by decide +kernel
theorem dX2_safeNow_19 : decode cX2_safeNow 19 = .ok (.if_icmp .ge 25, 3) := by decide +kernel
theorem dX2_safeNow_22 : decode cX2_safeNow 22 = .ok (.aload_n 0, 1) := by decide +kernel
theorem dX2_safeNow_23 : decode cX2_safeNow 23 = .ok (.aload_n 0, 1) := by decide +kernel
theorem dX2_safeNow_24 : decode cX2_safeNow 24 = .ok (.getfield 26, 3) := by decide +kernel
theorem dX2_safeNow_27 : decode cX2_safeNow 27 = .ok (.iload_n 2, 1) := by decide +kernel
theorem dX2_safeNow_28 : decode cX2_safeNow 28 = .ok (.invokevirtual 159, 3) := by decide +kernel
theorem dX2_safeNow_31 : decode cX2_safeNow 31 = .ok (.iconst (-1), 1) := by decide +kernel
theorem dX2_safeNow_32 : decode cX2_safeNow 32 = .ok (.if_icmp .ne 6, 3) := by decide +kernel
theorem dX2_safeNow_35 : decode cX2_safeNow 35 = .ok (.iinc 1 1, 3) := by decide +kernel
theorem dX2_safeNow_38 : decode cX2_safeNow 38 = .ok (.iinc 2 1, 3) := by decide +kernel
theorem dX2_safeNow_41 : decode cX2_safeNow 41 = .ok (.goto (-37), 3) := by decide +kernel
theorem dX2_safeNow_44 : decode cX2_safeNow 44 = .ok (.iload_n 1, 1) := by decide +kernel
theorem dX2_safeNow_45 : decode cX2_safeNow 45 = .ok (.ireturn, 1) := by decide +kernel
set_option maxRecDepth 20000 in
theorem ggX2_bestGo_X2_isCatsTurn : GoodIn wsX2_bestGo wsX2_isCatsTurn := goodIn_r _ [6, 7, 8, 9, 5, 10, 67, 68, 69, 70, 71, 72, 73, 74, 75] (by decide +kernel) (by decide +kernel)
set_option maxRecDepth 20000 in
theorem gX2_bestGo_X2_isCatsTurn : GoodIn wsX2_bestGo (wsV RX2 162 RX2 yX2_isCatsTurn wsX2_isCatsTurn) := goodIn_app (goodIn_of _ (by decide +kernel)) ggX2_bestGo_X2_isCatsTurn
set_option maxRecDepth 20000 in
theorem ggX2_bestGo_X2_bestForMouse : GoodIn wsX2_bestGo wsX2_bestForMouse := goodIn_r _ [14, 15, 16, 17, 18, 19, 20, 21, 22, 5, 23, 7, 24, 25, 26, 27, 28, 29, 30, 31, 32, 33, 34, 35, 36, 37, 38, 39, 40, 41, 42, 43, 67, 68, 69, 70, 71, 72, 73, 74, 75, 76, 77, 78, 79, 80, 81, 82, 83, 84, 85, 86, 87, 88] (by decide +kernel) (by decide +kernel)
set_option maxRecDepth 20000 in
theorem gX2_bestGo_X2_bestForMouse : GoodIn wsX2_bestGo (wsV RX2 166 RX2 yX2_bestForMouse wsX2_bestForMouse) := goodIn_app (goodIn_of _ (by decide +kernel)) ggX2_bestGo_X2_bestForMouse
set_option maxRecDepth 20000 in
theorem ggX2_bestGo_X2_soonestForCat : GoodIn wsX2_bestGo wsX2_soonestForCat := goodIn_r _ [47, 16, 17, 18, 19, 15, 20, 21, 22, 5, 23, 7, 24, 25, 26, 27, 28, 29, 30, 31, 32, 33, 34, 35, 36, 37, 38, 39, 40, 41, 42, 43, 67, 68, 69, 70, 71, 72, 73, 74, 75, 76, 77, 78, 79, 80, 81, 82, 83, 84, 85, 86, 87, 88] (by decide +kernel) (by decide +kernel)
set_option maxRecDepth 20000 in
theorem gX2_bestGo_X2_soonestForCat : GoodIn wsX2_bestGo (wsV RX2 169 RX2 yX2_soonestForCat wsX2_soonestForCat) := goodIn_app (goodIn_of _ (by decide +kernel)) ggX2_bestGo_X2_soonestForCat
set_option maxRecDepth 20000 in
theorem ggX2_bestGo_X2_nearestForCat : GoodIn wsX2_bestGo wsX2_nearestForCat := goodIn_r _ [51, 19, 16, 17, 18, 15, 20, 21, 22, 5, 23, 7, 24, 25, 26, 27, 28, 29, 30, 31, 32, 33, 34, 35, 36, 37, 38, 52, 53, 54, 55, 56, 57, 58, 59, 60, 61, 62, 63, 64, 65, 66, 67, 68, 69, 70, 71, 72, 73, 74, 75, 76, 77, 78, 79, 80, 81, 82, 83, 84, 85, 86, 87, 88] (by decide +kernel) (by decide +kernel)
set_option maxRecDepth 20000 in
theorem gX2_bestGo_X2_nearestForCat : GoodIn wsX2_bestGo (wsV RX2 172 RX2 yX2_nearestForCat wsX2_nearestForCat) := goodIn_app (goodIn_of _ (by decide +kernel)) ggX2_bestGo_X2_nearestForCat
theorem dX2_bestGo_0 : decode cX2_bestGo 0 = .ok (.aload_n 0, 1) := by decide +kernel
theorem dX2_bestGo_1 : decode cX2_bestGo 1 = .ok (.getfield 107, 3) := by decide +kernel
theorem dX2_bestGo_4 : decode cX2_bestGo 4 = .ok (.ifCond .ne 5, 3) := by decide +kernel
theorem dX2_bestGo_7 : decode cX2_bestGo 7 = .ok (.iconst (-1), 1) := by decide +kernel
theorem dX2_bestGo_8 : decode cX2_bestGo 8 = .ok (.ireturn, 1) := by decide +kernel
theorem dX2_bestGo_9 : decode cX2_bestGo 9 = .ok (.aload_n 0, 1) := by decide +kernel
theorem dX2_bestGo_10 : decode cX2_bestGo 10 = .ok (.invokevirtual 162, 3) := by decide +kernel
theorem dX2_bestGo_13 : decode cX2_bestGo 13 = .ok (.ifCond .ne 8, 3) := by decide +kernel
theorem dX2_bestGo_16 : decode cX2_bestGo 16 = .ok (.aload_n 0, 1) := by decide +kernel
theorem dX2_bestGo_17 : decode cX2_bestGo 17 = .ok (.invokevirtual 166, 3) := by decide +kernel
theorem dX2_bestGo_20 : decode cX2_bestGo 20 = .ok (.ireturn, 1) := by decide +kernel
theorem dX2_bestGo_21 : decode cX2_bestGo 21 = .ok (.aload_n 0, 1) := by decide +kernel
theorem dX2_bestGo_22 : decode cX2_bestGo 22 = .ok (.invokevirtual 169, 3) := by decide +kernel
theorem dX2_bestGo_25 : decode cX2_bestGo 25 = .ok (.istore_n 1, 1) := by decide +kernel
theorem dX2_bestGo_26 : decode cX2_bestGo 26 = .ok (.iload_n 1, 1) := by decide +kernel
theorem dX2_bestGo_27 : decode cX2_bestGo 27 = .ok (.iconst (-1), 1) := by decide +kernel
theorem dX2_bestGo_28 : decode cX2_bestGo 28 = .ok (.if_icmp .eq 7, 3) := by decide +kernel
theorem dX2_bestGo_31 : decode cX2_bestGo 31 = .ok (.iload_n 1, 1) := by decide +kernel
theorem dX2_bestGo_32 : decode cX2_bestGo 32 = .ok (.goto 7, 3) := by decide +kernel
theorem dX2_bestGo_35 : decode cX2_bestGo 35 = .ok (.aload_n 0, 1) := by decide +kernel
theorem dX2_bestGo_36 : decode cX2_bestGo 36 = .ok (.invokevirtual 172, 3) := by decide +kernel
theorem dX2_bestGo_39 : decode cX2_bestGo 39 = .ok (.ireturn, 1) := by decide +kernel
set_option maxRecDepth 20000 in
theorem ggX2_pairsCaught_X2_turnsOfPair : GoodIn wsX2_pairsCaught wsX2_turnsOfPair := goodIn_r _ [5, 6, 7, 8, 9, 10, 4, 11, 12, 13, 14, 15, 16, 17, 18, 19, 20, 21, 22, 23, 24, 25, 26, 27, 28, 29, 30, 31, 32, 33, 34, 35, 36, 37, 38, 39, 40, 41, 42, 43, 44, 45, 46, 47, 48, 49, 50, 51, 52] (by decide +kernel) (by decide +kernel)
set_option maxRecDepth 20000 in
theorem gX2_pairsCaught_X2_turnsOfPair : GoodIn wsX2_pairsCaught (wsV RX2 175 RX2 yX2_turnsOfPair wsX2_turnsOfPair) := goodIn_app (goodIn_of _ (by decide +kernel)) ggX2_pairsCaught_X2_turnsOfPair
theorem dX2_pairsCaught_0 : decode cX2_pairsCaught 0 = .ok (.iconst 0, 1) := by decide +kernel
theorem dX2_pairsCaught_1 : decode cX2_pairsCaught 1 = .ok (.istore_n 1, 1) := by decide +kernel
theorem dX2_pairsCaught_2 : decode cX2_pairsCaught 2 = .ok (.iconst 0, 1) := by decide +kernel
theorem dX2_pairsCaught_3 : decode cX2_pairsCaught 3 = .ok (.istore_n 2, 1) := by decide +kernel
theorem dX2_pairsCaught_4 : decode cX2_pairsCaught 4 = .ok (.iload_n 2, 1) := by decide +kernel
theorem dX2_pairsCaught_5 : decode cX2_pairsCaught 5 = .ok (.bipush 64, 2) := by decide +kernel
theorem dX2_pairsCaught_7 : decode cX2_pairsCaught 7 = .ok (.if_icmp .ge 21, 3) := by decide +kernel
theorem dX2_pairsCaught_10 : decode cX2_pairsCaught 10 = .ok (.aload_n 0, 1) := by decide +kernel
theorem dX2_pairsCaught_11 : decode cX2_pairsCaught 11 = .ok (.iload_n 2, 1) := by decide +kernel
theorem dX2_pairsCaught_12 : decode cX2_pairsCaught 12 = .ok (.invokevirtual 175, 3) := by decide +kernel
theorem dX2_pairsCaught_15 : decode cX2_pairsCaught 15 = .ok (.iconst (-1), 1) := by decide +kernel
theorem dX2_pairsCaught_16 : decode cX2_pairsCaught 16 = .ok (.if_icmp .eq 6, 3) := by decide +kernel
theorem dX2_pairsCaught_19 : decode cX2_pairsCaught 19 = .ok (.iinc 1 1, 3) := by decide +kernel
theorem dX2_pairsCaught_22 : decode cX2_pairsCaught 22 = .ok (.iinc 2 1, 3) := by decide +kernel
theorem dX2_pairsCaught_25 : decode cX2_pairsCaught 25 = .ok (.goto (-21), 3) := by decide +kernel
theorem dX2_pairsCaught_28 : decode cX2_pairsCaught 28 = .ok (.iload_n 1, 1) := by decide +kernel
theorem dX2_pairsCaught_29 : decode cX2_pairsCaught 29 = .ok (.ireturn, 1) := by decide +kernel
set_option maxRecDepth 20000 in
theorem ggX2_longestChase_X2_turnsOfPair : GoodIn wsX2_longestChase wsX2_turnsOfPair := goodIn_r _ [9, 10, 11, 12, 13, 14, 8, 15, 16, 17, 18, 19, 20, 21, 22, 23, 24, 25, 26, 27, 28, 29, 30, 31, 32, 33, 34, 35, 36, 37, 38, 39, 40, 41, 42, 43, 44, 45, 46, 47, 48, 49, 50, 51, 52, 53, 54, 55, 56] (by decide +kernel) (by decide +kernel)
set_option maxRecDepth 20000 in
theorem gX2_longestChase_X2_turnsOfPair : GoodIn wsX2_longestChase (wsV RX2 175 RX2 yX2_turnsOfPair wsX2_turnsOfPair) := goodIn_app (goodIn_of _ (by decide +kernel)) ggX2_longestChase_X2_turnsOfPair
theorem dX2_longestChase_0 : decode cX2_longestChase 0 = .ok (.iconst (-1), 1) := by decide +kernel
theorem dX2_longestChase_1 : decode cX2_longestChase 1 = .ok (.istore_n 1, 1) := by decide +kernel
theorem dX2_longestChase_2 : decode cX2_longestChase 2 = .ok (.iconst 0, 1) := by decide +kernel
theorem dX2_longestChase_3 : decode cX2_longestChase 3 = .ok (.istore_n 2, 1) := by decide +kernel
theorem dX2_longestChase_4 : decode cX2_longestChase 4 = .ok (.iload_n 2, 1) := by decide +kernel
theorem dX2_longestChase_5 : decode cX2_longestChase 5 = .ok (.bipush 64, 2) := by decide +kernel
theorem dX2_longestChase_7 : decode cX2_longestChase 7 = .ok (.if_icmp .ge 19, 3) := by decide +kernel
theorem dX2_longestChase_10 : decode cX2_longestChase 10 = .ok (.iload_n 1, 1) := by decide +kernel
theorem dX2_longestChase_11 : decode cX2_longestChase 11 = .ok (.aload_n 0, 1) := by decide +kernel
theorem dX2_longestChase_12 : decode cX2_longestChase 12 = .ok (.iload_n 2, 1) := by decide +kernel
theorem dX2_longestChase_13 : decode cX2_longestChase 13 = .ok (.invokevirtual 175, 3) := by decide +kernel
theorem dX2_longestChase_16 : decode cX2_longestChase 16 = .ok (.invokestatic 178, 3) := by decide +kernel
theorem dX2_longestChase_19 : decode cX2_longestChase 19 = .ok (.istore_n 1, 1) := by decide +kernel
theorem dX2_longestChase_20 : decode cX2_longestChase 20 = .ok (.iinc 2 1, 3) := by decide +kernel
theorem dX2_longestChase_23 : decode cX2_longestChase 23 = .ok (.goto (-19), 3) := by decide +kernel
theorem dX2_longestChase_26 : decode cX2_longestChase 26 = .ok (.iload_n 1, 1) := by decide +kernel
theorem dX2_longestChase_27 : decode cX2_longestChase 27 = .ok (.ireturn, 1) := by decide +kernel
set_option maxRecDepth 20000 in
theorem ggX2_bestDoorToLock_X2_turnsToCatch : GoodIn wsX2_bestDoorToLock wsX2_turnsToCatch := goodIn_r _ [8, 9, 10, 11, 12, 13, 14, 7, 15, 16, 17, 18, 19, 20, 21, 22, 23, 24, 25, 26, 27, 28, 29, 30, 31, 32, 33, 34, 101, 102, 103, 104, 105, 106, 107, 108, 109, 119, 120, 121, 122] (by decide +kernel) (by decide +kernel)
set_option maxRecDepth 20000 in
theorem gX2_bestDoorToLock_X2_turnsToCatch : GoodIn wsX2_bestDoorToLock (wsV RX2 110 RX2 yX2_turnsToCatch wsX2_turnsToCatch) := goodIn_app (goodIn_of _ (by decide +kernel)) ggX2_bestDoorToLock_X2_turnsToCatch
set_option maxRecDepth 20000 in
theorem ggX2_bestDoorToLock_X2_turnsToCatchIfLocked : GoodIn wsX2_bestDoorToLock wsX2_turnsToCatchIfLocked := goodIn_r _ [38, 39, 1, 10, 11, 40, 41, 42, 29, 43, 44, 45, 46, 47, 48, 49, 50, 51, 52, 53, 54, 55, 56, 57, 32, 33, 34, 58, 7, 59, 60, 61, 62, 63, 64, 65, 66, 67, 68, 69, 70, 71, 72, 73, 74, 75, 76, 77, 78, 31, 79, 80, 81, 82, 83, 84, 85, 86, 87, 88, 89, 90, 91, 92, 93, 94, 95, 96, 97, 98, 99, 100, 17, 18, 19, 20, 21, 22, 23, 24, 25, 26, 27, 28, 30, 101, 102, 103, 104, 105, 106, 107, 108, 109, 119, 120, 121, 122, 110, 111, 112, 113, 114, 115, 116, 117, 118] (by decide +kernel) (by decide +kernel)
set_option maxRecDepth 20000 in
theorem gX2_bestDoorToLock_X2_turnsToCatchIfLocked : GoodIn wsX2_bestDoorToLock (wsV RX2 183 RX2 yX2_turnsToCatchIfLocked wsX2_turnsToCatchIfLocked) := goodIn_app (goodIn_of _ (by decide +kernel)) ggX2_bestDoorToLock_X2_turnsToCatchIfLocked
theorem dX2_bestDoorToLock_0 : decode cX2_bestDoorToLock 0 = .ok (.aload_n 0, 1) := by decide +kernel
theorem dX2_bestDoorToLock_1 : decode cX2_bestDoorToLock 1 = .ok (.invokevirtual 110, 3) := by decide +kernel
theorem dX2_bestDoorToLock_4 : decode cX2_bestDoorToLock 4 = .ok (.istore_n 1, 1) := by decide +kernel
theorem dX2_bestDoorToLock_5 : decode cX2_bestDoorToLock 5 = .ok (.iconst (-1), 1) := by decide +kernel
theorem dX2_bestDoorToLock_6 : decode cX2_bestDoorToLock 6 = .ok (.istore_n 2, 1) := by decide +kernel
theorem dX2_bestDoorToLock_7 : decode cX2_bestDoorToLock 7 = .ok (.iconst 0, 1) := by decide +kernel
theorem dX2_bestDoorToLock_8 : decode cX2_bestDoorToLock 8 = .ok (.istore_n 3, 1) := by decide +kernel
theorem dX2_bestDoorToLock_9 : decode cX2_bestDoorToLock 9 = .ok (.iload_n 1, 1) := by decide +kernel
theorem dX2_bestDoorToLock_10 : decode cX2_bestDoorToLock 10 = .ok (.iconst (-1), 1) := by decide +kernel
theorem dX2_bestDoorToLock_11 : decode cX2_bestDoorToLock 11 = .ok (.if_icmp .eq 56, 3) := by decide +kernel
theorem dX2_bestDoorToLock_14 : decode cX2_bestDoorToLock 14 = .ok (.iload_n 3, 1) := by decide +kernel
theorem dX2_bestDoorToLock_15 : decode cX2_bestDoorToLock 15 = .ok (.aload_n 0, 1) := by decide +kernel
theorem dX2_bestDoorToLock_16 : decode cX2_bestDoorToLock 16 = .ok (.getfield 10, 3) := by decide +kernel
theorem dX2_bestDoorToLock_19 : decode cX2_bestDoorToLock 19 = .ok (.getfield 62, 3) := by decide +kernel
theorem dX2_bestDoorToLock_22 : decode cX2_bestDoorToLock 22 = .ok (.if_icmp .ge 45, 3) := by decide +kernel
theorem dX2_bestDoorToLock_25 : decode cX2_bestDoorToLock 25 = .ok (.aload_n 0, 1) := by decide +kernel
theorem dX2_bestDoorToLock_26 : decode cX2_bestDoorToLock 26 = .ok (.getfield 10, 3) := by decide +kernel
theorem dX2_bestDoorToLock_29 : decode cX2_bestDoorToLock 29 = .ok (.getfield 80, 3) := by decide +kernel
theorem dX2_bestDoorToLock_32 : decode cX2_bestDoorToLock 32 = .ok (.iload_n 3, 1) := by decide +kernel
theorem dX2_bestDoorToLock_33 : decode cX2_bestDoorToLock 33 = .ok (.baload, 1) := by decide +kernel
theorem dX2_bestDoorToLock_34 : decode cX2_bestDoorToLock 34 = .ok (.ifCond .ne 27, 3) := by decide +kernel
theorem dX2_bestDoorToLock_37 : decode cX2_bestDoorToLock 37 = .ok (.aload_n 0, 1) := by decide +kernel
theorem dX2_bestDoorToLock_38 : decode cX2_bestDoorToLock 38 = .ok (.iload_n 3, 1) := by decide +kernel
theorem dX2_bestDoorToLock_39 : decode cX2_bestDoorToLock 39 = .ok (.invokevirtual 183, 3) := by decide +kernel
theorem dX2_bestDoorToLock_42 : decode cX2_bestDoorToLock 42 = .ok (.istore 4, 2) := by decide +kernel
theorem dX2_bestDoorToLock_44 : decode cX2_bestDoorToLock 44 = .ok (.iload 4, 2) := by decide +kernel
theorem dX2_bestDoorToLock_46 : decode cX2_bestDoorToLock 46 = .ok (.iconst (-1), 1) := by decide +kernel
theorem dX2_bestDoorToLock_47 : decode cX2_bestDoorToLock 47 = .ok (.if_icmp .eq 9, 3) := by decide +kernel
theorem dX2_bestDoorToLock_50 : decode cX2_bestDoorToLock 50 = .ok (.iload 4, 2) := by decide +kernel
theorem dX2_bestDoorToLock_52 : decode cX2_bestDoorToLock 52 = .ok (.iload_n 1, 1) := by decide +kernel
theorem dX2_bestDoorToLock_53 : decode cX2_bestDoorToLock 53 = .ok (.if_icmp .le 8, 3) := by decide +kernel
theorem dX2_bestDoorToLock_56 : decode cX2_bestDoorToLock 56 = .ok (.iload 4, 2) := by decide +kernel
theorem dX2_bestDoorToLock_58 : decode cX2_bestDoorToLock 58 = .ok (.istore_n 1, 1) := by decide +kernel
theorem dX2_bestDoorToLock_59 : decode cX2_bestDoorToLock 59 = .ok (.iload_n 3, 1) := by decide +kernel
theorem dX2_bestDoorToLock_60 : decode cX2_bestDoorToLock 60 = .ok (.istore_n 2, 1) := by decide +kernel
theorem dX2_bestDoorToLock_61 : decode cX2_bestDoorToLock 61 = .ok (.iinc 3 1, 3) := by decide +kernel
theorem dX2_bestDoorToLock_64 : decode cX2_bestDoorToLock 64 = .ok (.goto (-55), 3) := by decide +kernel
theorem dX2_bestDoorToLock_67 : decode cX2_bestDoorToLock 67 = .ok (.iload_n 2, 1) := by decide +kernel
theorem dX2_bestDoorToLock_68 : decode cX2_bestDoorToLock 68 = .ok (.ireturn, 1) := by decide +kernel
set_option maxRecDepth 20000 in
theorem ggX2_meanTurns_X2_turnsOfPair : GoodIn wsX2_meanTurns wsX2_turnsOfPair := goodIn_r _ [5, 6, 7, 8, 9, 10, 4, 11, 12, 13, 14, 15, 16, 17, 18, 19, 20, 21, 22, 23, 24, 25, 26, 27, 28, 29, 30, 31, 32, 33, 34, 35, 36, 37, 38, 39, 40, 41, 42, 43, 44, 45, 46, 47, 48, 49, 50, 51, 52] (by decide +kernel) (by decide +kernel)
set_option maxRecDepth 20000 in
theorem gX2_meanTurns_X2_turnsOfPair : GoodIn wsX2_meanTurns (wsV RX2 175 RX2 yX2_turnsOfPair wsX2_turnsOfPair) := goodIn_app (goodIn_of _ (by decide +kernel)) ggX2_meanTurns_X2_turnsOfPair
theorem dX2_meanTurns_0 : decode cX2_meanTurns 0 = .ok (.iconst 0, 1) := by decide +kernel
theorem dX2_meanTurns_1 : decode cX2_meanTurns 1 = .ok (.istore_n 1, 1) := by decide +kernel
theorem dX2_meanTurns_2 : decode cX2_meanTurns 2 = .ok (.iconst 0, 1) := by decide +kernel
theorem dX2_meanTurns_3 : decode cX2_meanTurns 3 = .ok (.istore_n 2, 1) := by decide +kernel
theorem dX2_meanTurns_4 : decode cX2_meanTurns 4 = .ok (.iconst 0, 1) := by decide +kernel
theorem dX2_meanTurns_5 : decode cX2_meanTurns 5 = .ok (.istore_n 3, 1) := by decide +kernel
theorem dX2_meanTurns_6 : decode cX2_meanTurns 6 = .ok (.iload_n 3, 1) := by decide +kernel
theorem dX2_meanTurns_7 : decode cX2_meanTurns 7 = .ok (.bipush 64, 2) := by decide +kernel
theorem dX2_meanTurns_9 : decode cX2_meanTurns 9 = .ok (.if_icmp .ge 30, 3) := by decide +kernel
theorem dX2_meanTurns_12 : decode cX2_meanTurns 12 = .ok (.aload_n 0, 1) := by decide +kernel
theorem dX2_meanTurns_13 : decode cX2_meanTurns 13 = .ok (.iload_n 3, 1) := by decide +kernel
theorem dX2_meanTurns_14 : decode cX2_meanTurns 14 = .ok (.invokevirtual 175, 3) := by decide +kernel
theorem dX2_meanTurns_17 : decode cX2_meanTurns 17 = .ok (.istore 4, 2) := by decide +kernel
theorem dX2_meanTurns_19 : decode cX2_meanTurns 19 = .ok (.iload 4, 2) := by decide +kernel
theorem dX2_meanTurns_21 : decode cX2_meanTurns 21 = .ok (.iconst (-1), 1) := by decide +kernel
theorem dX2_meanTurns_22 : decode cX2_meanTurns 22 = .ok (.if_icmp .eq 11, 3) := by decide +kernel
theorem dX2_meanTurns_25 : decode cX2_meanTurns 25 = .ok (.iinc 1 1, 3) := by decide +kernel
theorem dX2_meanTurns_28 : decode cX2_meanTurns 28 = .ok (.iload_n 2, 1) := by decide +kernel
theorem dX2_meanTurns_29 : decode cX2_meanTurns 29 = .ok (.iload 4, 2) := by decide +kernel
theorem dX2_meanTurns_31 : decode cX2_meanTurns 31 = .ok (.iadd, 1) := by decide +kernel
theorem dX2_meanTurns_32 : decode cX2_meanTurns 32 = .ok (.istore_n 2, 1) := by decide +kernel
theorem dX2_meanTurns_33 : decode cX2_meanTurns 33 = .ok (.iinc 3 1, 3) := by decide +kernel
theorem dX2_meanTurns_36 : decode cX2_meanTurns 36 = .ok (.goto (-30), 3) := by decide +kernel
theorem dX2_meanTurns_39 : decode cX2_meanTurns 39 = .ok (.iload_n 1, 1) := by decide +kernel
theorem dX2_meanTurns_40 : decode cX2_meanTurns 40 = .ok (.ifCond .ne 7, 3) := by decide +kernel
theorem dX2_meanTurns_43 : decode cX2_meanTurns 43 = .ok (.dconst 0, 1) := by decide +kernel
theorem dX2_meanTurns_44 : decode cX2_meanTurns 44 = .ok (.goto 8, 3) := by decide +kernel
theorem dX2_meanTurns_47 : decode cX2_meanTurns 47 = .ok (.iload_n 2, 1) := by decide +kernel
theorem dX2_meanTurns_48 : decode cX2_meanTurns 48 = .ok (.i2d, 1) := by decide +kernel
theorem dX2_meanTurns_49 : decode cX2_meanTurns 49 = .ok (.iload_n 1, 1) := by decide +kernel
theorem dX2_meanTurns_50 : decode cX2_meanTurns 50 = .ok (.i2d, 1) := by decide +kernel
theorem dX2_meanTurns_51 : decode cX2_meanTurns 51 = .ok (.ddiv, 1) := by decide +kernel
theorem dX2_meanTurns_52 : decode cX2_meanTurns 52 = .ok (.dreturn, 1) := by decide +kernel
set_option maxRecDepth 20000 in
theorem ggX2_digest_X2_turn : GoodIn wsX2_digest wsX2_turn := goodIn_r _ [6, 7, 257, 258, 259, 260, 261, 262, 263, 264, 265] (by decide +kernel) (by decide +kernel)
set_option maxRecDepth 20000 in
theorem gX2_digest_X2_turn : GoodIn wsX2_digest (wsV RX2 188 RX2 yX2_turn wsX2_turn) := goodIn_app (goodIn_of _ (by decide +kernel)) ggX2_digest_X2_turn
set_option maxRecDepth 20000 in
theorem ggX2_digest_X2_joined : GoodIn wsX2_digest wsX2_joined := goodIn_r _ [10, 11] (by decide +kernel) (by decide +kernel)
set_option maxRecDepth 20000 in
theorem gX2_digest_X2_joined : GoodIn wsX2_digest (va_wsS RX2 191 yX2_joined wsX2_joined) := goodIn_app (goodIn_of _ (by decide +kernel)) ggX2_digest_X2_joined
set_option maxRecDepth 20000 in
theorem ggX2_digest_X2_rooms : GoodIn wsX2_digest wsX2_rooms := goodIn_r _ [15, 16, 17, 257, 258, 259, 260, 261, 262, 263, 264, 265, 266, 267, 268, 269, 270, 271, 272, 273, 274] (by decide +kernel) (by decide +kernel)
set_option maxRecDepth 20000 in
theorem gX2_digest_X2_rooms : GoodIn wsX2_digest (wsV RX2 195 RX2 yX2_rooms wsX2_rooms) := goodIn_app (goodIn_of _ (by decide +kernel)) ggX2_digest_X2_rooms
set_option maxRecDepth 20000 in
theorem ggX2_digest_X2_doors : GoodIn wsX2_digest wsX2_doors := goodIn_r _ [21, 16, 22, 257, 258, 259, 260, 261, 262, 263, 264, 265, 266, 267, 268, 269, 270, 271, 272, 273, 274] (by decide +kernel) (by decide +kernel)
set_option maxRecDepth 20000 in
theorem gX2_digest_X2_doors : GoodIn wsX2_digest (wsV RX2 198 RX2 yX2_doors wsX2_doors) := goodIn_app (goodIn_of _ (by decide +kernel)) ggX2_digest_X2_doors
set_option maxRecDepth 20000 in
theorem ggX2_digest_X2_isOn : GoodIn wsX2_digest wsX2_isOn := goodIn_r _ [26, 27, 257, 258, 259, 260, 261, 262, 263, 264, 265] (by decide +kernel) (by decide +kernel)
set_option maxRecDepth 20000 in
theorem gX2_digest_X2_isOn : GoodIn wsX2_digest (wsV RX2 201 RX2 yX2_isOn wsX2_isOn) := goodIn_app (goodIn_of _ (by decide +kernel)) ggX2_digest_X2_isOn
set_option maxRecDepth 20000 in
theorem ggX2_digest_X2_asNumber : GoodIn wsX2_digest wsX2_asNumber := goodIn_r _ [30] (by decide +kernel) (by decide +kernel)
set_option maxRecDepth 20000 in
theorem gX2_digest_X2_asNumber : GoodIn wsX2_digest (va_wsS RX2 204 yX2_asNumber wsX2_asNumber) := goodIn_app (goodIn_of _ (by decide +kernel)) ggX2_digest_X2_asNumber
set_option maxRecDepth 20000 in
theorem ggX2_digest_X2_isCaught : GoodIn wsX2_digest wsX2_isCaught := goodIn_r _ [34, 35, 257, 258, 259, 260, 261, 262, 263, 264, 265] (by decide +kernel) (by decide +kernel)
set_option maxRecDepth 20000 in
theorem gX2_digest_X2_isCaught : GoodIn wsX2_digest (wsV RX2 208 RX2 yX2_isCaught wsX2_isCaught) := goodIn_app (goodIn_of _ (by decide +kernel)) ggX2_digest_X2_isCaught
set_option maxRecDepth 20000 in
theorem ggX2_digest_X2_catIn : GoodIn wsX2_digest wsX2_catIn := goodIn_r _ [39, 40, 257, 258, 259, 260, 261, 262, 263, 264, 265] (by decide +kernel) (by decide +kernel)
set_option maxRecDepth 20000 in
theorem gX2_digest_X2_catIn : GoodIn wsX2_digest (wsV RX2 211 RX2 yX2_catIn wsX2_catIn) := goodIn_app (goodIn_of _ (by decide +kernel)) ggX2_digest_X2_catIn
set_option maxRecDepth 20000 in
theorem ggX2_digest_X2_mouseIn : GoodIn wsX2_digest wsX2_mouseIn := goodIn_r _ [44, 45, 257, 258, 259, 260, 261, 262, 263, 264, 265] (by decide +kernel) (by decide +kernel)
set_option maxRecDepth 20000 in
theorem gX2_digest_X2_mouseIn : GoodIn wsX2_digest (wsV RX2 214 RX2 yX2_mouseIn wsX2_mouseIn) := goodIn_app (goodIn_of _ (by decide +kernel)) ggX2_digest_X2_mouseIn
set_option maxRecDepth 20000 in
theorem ggX2_digest_X2_eaten : GoodIn wsX2_digest wsX2_eaten := goodIn_r _ [49, 50, 257, 258, 259, 260, 261, 262, 263, 264, 265] (by decide +kernel) (by decide +kernel)
set_option maxRecDepth 20000 in
theorem gX2_digest_X2_eaten : GoodIn wsX2_digest (wsV RX2 217 RX2 yX2_eaten wsX2_eaten) := goodIn_app (goodIn_of _ (by decide +kernel)) ggX2_digest_X2_eaten
set_option maxRecDepth 20000 in
theorem ggX2_digest_X2_turnsToCatch : GoodIn wsX2_digest wsX2_turnsToCatch := goodIn_r _ [54, 27, 40, 45, 55, 56, 57, 5, 58, 59, 60, 61, 62, 63, 7, 64, 65, 66, 67, 68, 69, 70, 71, 72, 73, 74, 75, 76, 257, 258, 259, 260, 261, 262, 263, 264, 265, 275, 276, 277, 278] (by decide +kernel) (by decide +kernel)
set_option maxRecDepth 20000 in
theorem gX2_digest_X2_turnsToCatch : GoodIn wsX2_digest (wsV RX2 110 RX2 yX2_turnsToCatch wsX2_turnsToCatch) := goodIn_app (goodIn_of _ (by decide +kernel)) ggX2_digest_X2_turnsToCatch
set_option maxRecDepth 20000 in
theorem ggX2_digest_X2_safeNow : GoodIn wsX2_digest wsX2_safeNow := goodIn_r _ [80, 27, 16, 17, 40, 55, 56, 57, 5, 58, 59, 60, 61, 62, 63, 7, 64, 65, 66, 67, 68, 69, 70, 71, 72, 73, 74, 75, 76, 257, 258, 259, 260, 261, 262, 263, 264, 265, 266, 267, 268, 269, 270, 271, 272, 273, 274, 275, 276, 277, 278] (by decide +kernel) (by decide +kernel)
set_option maxRecDepth 20000 in
theorem gX2_digest_X2_safeNow : GoodIn wsX2_digest (wsV RX2 220 RX2 yX2_safeNow wsX2_safeNow) := goodIn_app (goodIn_of _ (by decide +kernel)) ggX2_digest_X2_safeNow
set_option maxRecDepth 20000 in
theorem ggX2_digest_X2_bestGo : GoodIn wsX2_digest wsX2_bestGo := goodIn_r _ [84, 27, 85, 86, 87, 5, 88, 7, 89, 90, 91, 92, 93, 94, 95, 45, 16, 17, 59, 40, 60, 61, 62, 63, 64, 65, 66, 67, 96, 97, 98, 71, 99, 100, 74, 75, 76, 101, 102, 68, 69, 70, 72, 73, 103, 104, 105, 106, 107, 108, 109, 110, 111, 112, 113, 114, 115, 116, 117, 118, 119, 120, 121, 122, 123, 124, 125, 257, 258, 259, 260, 261, 262, 263, 264, 265, 266, 267, 268, 269, 270, 271, 272, 273, 274, 275, 276, 277, 278] (by decide +kernel) (by decide +kernel)
set_option maxRecDepth 20000 in
theorem gX2_digest_X2_bestGo : GoodIn wsX2_digest (wsV RX2 135 RX2 yX2_bestGo wsX2_bestGo) := goodIn_app (goodIn_of _ (by decide +kernel)) ggX2_digest_X2_bestGo
set_option maxRecDepth 20000 in
theorem ggX2_digest_X2_pairsCaught : GoodIn wsX2_digest wsX2_pairsCaught := goodIn_r _ [129, 130, 131, 132, 5, 133, 16, 17, 55, 56, 57, 58, 59, 60, 61, 62, 63, 7, 64, 65, 66, 67, 68, 69, 70, 71, 72, 73, 74, 75, 76, 257, 258, 259, 260, 261, 262, 263, 264, 265, 266, 267, 268, 269, 270, 271, 272, 273, 274, 275, 276, 277, 278] (by decide +kernel) (by decide +kernel)
set_option maxRecDepth 20000 in
theorem gX2_digest_X2_pairsCaught : GoodIn wsX2_digest (wsV RX2 223 RX2 yX2_pairsCaught wsX2_pairsCaught) := goodIn_app (goodIn_of _ (by decide +kernel)) ggX2_digest_X2_pairsCaught
set_option maxRecDepth 20000 in
theorem ggX2_digest_X2_longestChase : GoodIn wsX2_digest wsX2_longestChase := goodIn_r _ [137, 138, 139, 140, 141, 130, 131, 132, 5, 133, 16, 17, 55, 56, 57, 58, 59, 60, 61, 62, 63, 7, 64, 65, 66, 67, 68, 69, 70, 71, 72, 73, 74, 75, 76, 257, 258, 259, 260, 261, 262, 263, 264, 265, 266, 267, 268, 269, 270, 271, 272, 273, 274, 275, 276, 277, 278] (by decide +kernel) (by decide +kernel)
set_option maxRecDepth 20000 in
theorem gX2_digest_X2_longestChase : GoodIn wsX2_digest (wsV RX2 226 RX2 yX2_longestChase wsX2_longestChase) := goodIn_app (goodIn_of _ (by decide +kernel)) ggX2_digest_X2_longestChase
set_option maxRecDepth 20000 in
theorem ggX2_digest_X2_bestDoorToLock : GoodIn wsX2_digest wsX2_bestDoorToLock := goodIn_r _ [145, 16, 22, 146, 51, 52, 53, 5, 54, 27, 40, 45, 55, 56, 57, 58, 59, 60, 61, 62, 63, 7, 64, 65, 66, 67, 68, 69, 70, 71, 72, 73, 74, 75, 76, 147, 148, 149, 150, 151, 152, 153, 154, 155, 156, 157, 158, 159, 160, 161, 162, 163, 164, 165, 100, 166, 167, 168, 116, 117, 169, 170, 171, 114, 172, 125, 173, 174, 175, 176, 177, 178, 179, 90, 91, 180, 181, 182, 183, 184, 185, 186, 187, 188, 101, 102, 189, 190, 191, 192, 193, 194, 195, 196, 197, 198, 199, 200, 201, 202, 203, 257, 258, 259, 260, 261, 262, 263, 264, 265, 266, 267, 268, 269, 270, 271, 272, 273, 274, 275, 276, 277, 278] (by decide +kernel) (by decide +kernel)
set_option maxRecDepth 20000 in
theorem gX2_digest_X2_bestDoorToLock : GoodIn wsX2_digest (wsV RX2 229 RX2 yX2_bestDoorToLock wsX2_bestDoorToLock) := goodIn_app (goodIn_of _ (by decide +kernel)) ggX2_digest_X2_bestDoorToLock
set_option maxRecDepth 20000 in
theorem ggX2_digest_X2_joinedRooms : GoodIn wsX2_digest wsX2_joinedRooms := goodIn_ca (goodIn_r _ [207, 16, 17, 208, 209, 210, 5, 211, 212, 213, 214, 215, 216, 217, 218, 28, 29, 30, 8, 9, 10, 11, 219, 220, 221, 222, 223, 224, 225, 226, 227, 228, 229, 230, 114, 231, 122, 125, 123, 124, 232, 233, 234, 235, 111, 112, 113, 115, 116, 117, 101, 102, 118, 119, 120, 121, 257, 258, 259, 260, 261, 262, 263, 264, 265, 266, 267, 268, 269, 270, 271, 272, 273, 274] (by decide +kernel) (by decide +kernel)) (goodIn_sub (fun _ h => List.mem_cons_of_mem _ (List.mem_append_right _ h)) (by decide +kernel))
set_option maxRecDepth 20000 in
theorem gX2_digest_X2_joinedRooms : GoodIn wsX2_digest (wsV RX2 232 RX2 yX2_joinedRooms wsX2_joinedRooms) := goodIn_app (goodIn_of _ (by decide +kernel)) ggX2_digest_X2_joinedRooms
set_option maxRecDepth 20000 in
theorem ggX2_digest_X2_joinedDoors : GoodIn wsX2_digest wsX2_joinedDoors := goodIn_ca (goodIn_r _ [239, 16, 22, 240, 241, 242, 5, 243, 146, 244, 245, 246, 247, 217, 218, 28, 29, 30, 8, 9, 10, 11, 248, 249, 250, 251, 60, 61, 62, 63, 7, 64, 65, 66, 67, 252, 170, 171, 114, 172, 125, 173, 174, 253, 254, 255, 256, 257, 258, 259, 260, 261, 262, 263, 264, 265, 266, 267, 268, 269, 270, 271, 272, 273, 274] (by decide +kernel) (by decide +kernel)) (goodIn_sub (fun _ h => List.mem_cons_of_mem _ (List.mem_append_right _ h)) (by decide +kernel))
set_option maxRecDepth 20000 in
theorem gX2_digest_X2_joinedDoors : GoodIn wsX2_digest (wsV RX2 236 RX2 yX2_joinedDoors wsX2_joinedDoors) := goodIn_app (goodIn_of _ (by decide +kernel)) ggX2_digest_X2_joinedDoors
theorem dX2_digest_0 : decode cX2_digest 0 = .ok (.ldc2_w 186, 3) := by decide +kernel
theorem dX2_digest_3 : decode cX2_digest 3 = .ok (.lstore_n 1, 1) := by decide +kernel
theorem dX2_digest_4 : decode cX2_digest 4 = .ok (.lload_n 1, 1) := by decide +kernel
theorem dX2_digest_5 : decode cX2_digest 5 = .ok (.aload_n 0, 1) := by decide +kernel
theorem dX2_digest_6 : decode cX2_digest 6 = .ok (.invokevirtual 188, 3) := by decide +kernel
theorem dX2_digest_9 : decode cX2_digest 9 = .ok (.i2l, 1) := by decide +kernel
theorem dX2_digest_10 : decode cX2_digest 10 = .ok (.invokestatic 191, 3) := by decide +kernel
theorem dX2_digest_13 : decode cX2_digest 13 = .ok (.lstore_n 1, 1) := by decide +kernel
theorem dX2_digest_14 : decode cX2_digest 14 = .ok (.lload_n 1, 1) := by decide +kernel
theorem dX2_digest_15 : decode cX2_digest 15 = .ok (.aload_n 0, 1) := by decide +kernel
theorem dX2_digest_16 : decode cX2_digest 16 = .ok (.invokevirtual 195, 3) := by decide +kernel
theorem dX2_digest_19 : decode cX2_digest 19 = .ok (.i2l, 1) := by decide +kernel
theorem dX2_digest_20 : decode cX2_digest 20 = .ok (.invokestatic 191, 3) := by decide +kernel
theorem dX2_digest_23 : decode cX2_digest 23 = .ok (.lstore_n 1, 1) := by decide +kernel
theorem dX2_digest_24 : decode cX2_digest 24 = .ok (.lload_n 1, 1) := by decide +kernel
theorem dX2_digest_25 : decode cX2_digest 25 = .ok (.aload_n 0, 1) := by decide +kernel
theorem dX2_digest_26 : decode cX2_digest 26 = .ok (.invokevirtual 198, 3) := by decide +kernel
theorem dX2_digest_29 : decode cX2_digest 29 = .ok (.i2l, 1) := by decide +kernel
theorem dX2_digest_30 : decode cX2_digest 30 = .ok (.invokestatic 191, 3) := by decide +kernel
theorem dX2_digest_33 : decode cX2_digest 33 = .ok (.lstore_n 1, 1) := by decide +kernel
theorem dX2_digest_34 : decode cX2_digest 34 = .ok (.lload_n 1, 1) := by decide +kernel
theorem dX2_digest_35 : decode cX2_digest 35 = .ok (.aload_n 0, 1) := by decide +kernel
theorem dX2_digest_36 : decode cX2_digest 36 = .ok (.invokevirtual 201, 3) := by decide +kernel
theorem dX2_digest_39 : decode cX2_digest 39 = .ok (.invokestatic 204, 3) := by decide +kernel
theorem dX2_digest_42 : decode cX2_digest 42 = .ok (.invokestatic 191, 3) := by decide +kernel
theorem dX2_digest_45 : decode cX2_digest 45 = .ok (.lstore_n 1, 1) := by decide +kernel
theorem dX2_digest_46 : decode cX2_digest 46 = .ok (.lload_n 1, 1) := by decide +kernel
theorem dX2_digest_47 : decode cX2_digest 47 = .ok (.aload_n 0, 1) := by decide +kernel
theorem dX2_digest_48 : decode cX2_digest 48 = .ok (.invokevirtual 208, 3) := by decide +kernel
theorem dX2_digest_51 : decode cX2_digest 51 = .ok (.invokestatic 204, 3) := by decide +kernel
theorem dX2_digest_54 : decode cX2_digest 54 = .ok (.invokestatic 191, 3) := by decide +kernel
theorem dX2_digest_57 : decode cX2_digest 57 = .ok (.lstore_n 1, 1) := by decide +kernel
theorem dX2_digest_58 : decode cX2_digest 58 = .ok (.lload_n 1, 1) := by decide +kernel
theorem dX2_digest_59 : decode cX2_digest 59 = .ok (.aload_n 0, 1) := by decide +kernel
theorem dX2_digest_60 : decode cX2_digest 60 = .ok (.invokevirtual 211, 3) := by decide +kernel
theorem dX2_digest_63 : decode cX2_digest 63 = .ok (.i2l, 1) := by decide +kernel
theorem dX2_digest_64 : decode cX2_digest 64 = .ok (.invokestatic 191, 3) := by decide +kernel
theorem dX2_digest_67 : decode cX2_digest 67 = .ok (.lstore_n 1, 1) := by decide +kernel
theorem dX2_digest_68 : decode cX2_digest 68 = .ok (.lload_n 1, 1) := by decide +kernel
theorem dX2_digest_69 : decode cX2_digest 69 = .ok (.aload_n 0, 1) := by decide +kernel
theorem dX2_digest_70 : decode cX2_digest 70 = .ok (.invokevirtual 214, 3) := by decide +kernel
theorem dX2_digest_73 : decode cX2_digest 73 = .ok (.i2l, 1) := by decide +kernel
theorem dX2_digest_74 : decode cX2_digest 74 = .ok (.invokestatic 191, 3) := by decide +kernel
theorem dX2_digest_77 : decode cX2_digest 77 = .ok (.lstore_n 1, 1) := by decide +kernel
theorem dX2_digest_78 : decode cX2_digest 78 = .ok (.lload_n 1, 1) := by decide +kernel
theorem dX2_digest_79 : decode cX2_digest 79 = .ok (.aload_n 0, 1) := by decide +kernel
theorem dX2_digest_80 : decode cX2_digest 80 = .ok (.invokevirtual 217, 3) := by decide +kernel
theorem dX2_digest_83 : decode cX2_digest 83 = .ok (.i2l, 1) := by decide +kernel
theorem dX2_digest_84 : decode cX2_digest 84 = .ok (.invokestatic 191, 3) := by decide +kernel
theorem dX2_digest_87 : decode cX2_digest 87 = .ok (.lstore_n 1, 1) := by decide +kernel
theorem dX2_digest_88 : decode cX2_digest 88 = .ok (.lload_n 1, 1) := by decide +kernel
theorem dX2_digest_89 : decode cX2_digest 89 = .ok (.aload_n 0, 1) := by decide +kernel
theorem dX2_digest_90 : decode cX2_digest 90 = .ok (.invokevirtual 110, 3) := by decide +kernel
theorem dX2_digest_93 : decode cX2_digest 93 = .ok (.i2l, 1) := by decide +kernel
theorem dX2_digest_94 : decode cX2_digest 94 = .ok (.invokestatic 191, 3) := by decide +kernel
theorem dX2_digest_97 : decode cX2_digest 97 = .ok (.lstore_n 1, 1) := by decide +kernel
theorem dX2_digest_98 : decode cX2_digest 98 = .ok (.lload_n 1, 1) := by decide +kernel
theorem dX2_digest_99 : decode cX2_digest 99 = .ok (.aload_n 0, 1) := by decide +kernel
theorem dX2_digest_100 : decode cX2_digest 100 = .ok (.invokevirtual 220, 3) := by decide +kernel
theorem dX2_digest_103 : decode cX2_digest 103 = .ok (.i2l, 1) := by decide +kernel
theorem dX2_digest_104 : decode cX2_digest 104 = .ok (.invokestatic 191, 3) := by decide +kernel
theorem dX2_digest_107 : decode cX2_digest 107 = .ok (.lstore_n 1, 1) := by decide +kernel
theorem dX2_digest_108 : decode cX2_digest 108 = .ok (.lload_n 1, 1) := by decide +kernel
theorem dX2_digest_109 : decode cX2_digest 109 = .ok (.aload_n 0, 1) := by decide +kernel
theorem dX2_digest_110 : decode cX2_digest 110 = .ok (.invokevirtual 135, 3) := by decide +kernel
theorem dX2_digest_113 : decode cX2_digest 113 = .ok (.i2l, 1) := by decide +kernel
theorem dX2_digest_114 : decode cX2_digest 114 = .ok (.invokestatic 191, 3) := by decide +kernel
theorem dX2_digest_117 : decode cX2_digest 117 = .ok (.lstore_n 1, 1) := by decide +kernel
theorem dX2_digest_118 : decode cX2_digest 118 = .ok (.lload_n 1, 1) := by decide +kernel
theorem dX2_digest_119 : decode cX2_digest 119 = .ok (.aload_n 0, 1) := by decide +kernel
theorem dX2_digest_120 : decode cX2_digest 120 = .ok (.invokevirtual 223, 3) := by decide +kernel
theorem dX2_digest_123 : decode cX2_digest 123 = .ok (.i2l, 1) := by decide +kernel
theorem dX2_digest_124 : decode cX2_digest 124 = .ok (.invokestatic 191, 3) := by decide +kernel
theorem dX2_digest_127 : decode cX2_digest 127 = .ok (.lstore_n 1, 1) := by decide +kernel
theorem dX2_digest_128 : decode cX2_digest 128 = .ok (.lload_n 1, 1) := by decide +kernel
theorem dX2_digest_129 : decode cX2_digest 129 = .ok (.aload_n 0, 1) := by decide +kernel
theorem dX2_digest_130 : decode cX2_digest 130 = .ok (.invokevirtual 226, 3) := by decide +kernel
theorem dX2_digest_133 : decode cX2_digest 133 = .ok (.i2l, 1) := by decide +kernel
theorem dX2_digest_134 : decode cX2_digest 134 = .ok (.invokestatic 191, 3) := by decide +kernel
theorem dX2_digest_137 : decode cX2_digest 137 = .ok (.lstore_n 1, 1) := by decide +kernel
theorem dX2_digest_138 : decode cX2_digest 138 = .ok (.lload_n 1, 1) := by decide +kernel
theorem dX2_digest_139 : decode cX2_digest 139 = .ok (.aload_n 0, 1) := by decide +kernel
theorem dX2_digest_140 : decode cX2_digest 140 = .ok (.invokevirtual 229, 3) := by decide +kernel
theorem dX2_digest_143 : decode cX2_digest 143 = .ok (.i2l, 1) := by decide +kernel
theorem dX2_digest_144 : decode cX2_digest 144 = .ok (.invokestatic 191, 3) := by decide +kernel
theorem dX2_digest_147 : decode cX2_digest 147 = .ok (.lstore_n 1, 1) := by decide +kernel
theorem dX2_digest_148 : decode cX2_digest 148 = .ok (.aload_n 0, 1) := by decide +kernel
theorem dX2_digest_149 : decode cX2_digest 149 = .ok (.lload_n 1, 1) := by decide +kernel
theorem dX2_digest_150 : decode cX2_digest 150 = .ok (.invokevirtual 232, 3) := by decide +kernel
theorem dX2_digest_153 : decode cX2_digest 153 = .ok (.lstore_n 1, 1) := by decide +kernel
theorem dX2_digest_154 : decode cX2_digest 154 = .ok (.aload_n 0, 1) := by decide +kernel
theorem dX2_digest_155 : decode cX2_digest 155 = .ok (.lload_n 1, 1) := by decide +kernel
theorem dX2_digest_156 : decode cX2_digest 156 = .ok (.invokevirtual 236, 3) := by decide +kernel
theorem dX2_digest_159 : decode cX2_digest 159 = .ok (.lreturn, 1) := by decide +kernel
set_option maxRecDepth 20000 in
theorem ggX2_joinedRooms_X2_isSafe : GoodIn wsX2_joinedRooms wsX2_isSafe := goodIn_ca (goodIn_r _ [7, 1, 8, 9, 10, 11, 6, 12, 13, 14, 2, 56, 57, 58, 59, 60, 61, 62, 63, 64, 65, 66, 67, 68, 69, 70, 71, 72, 73] (by decide +kernel) (by decide +kernel)) (goodIn_sub (fun _ h => List.mem_cons_of_mem _ (List.mem_append_right _ h)) (by decide +kernel))
set_option maxRecDepth 20000 in
theorem gX2_joinedRooms_X2_isSafe : GoodIn wsX2_joinedRooms (wsV RX2 239 RX2 yX2_isSafe wsX2_isSafe) := goodIn_app (goodIn_of _ (by decide +kernel)) ggX2_joinedRooms_X2_isSafe
set_option maxRecDepth 20000 in
theorem ggX2_joinedRooms_X2_asNumber : GoodIn wsX2_joinedRooms wsX2_asNumber := goodIn_r _ [17] (by decide +kernel) (by decide +kernel)
set_option maxRecDepth 20000 in
theorem gX2_joinedRooms_X2_asNumber : GoodIn wsX2_joinedRooms (va_wsS RX2 204 yX2_asNumber wsX2_asNumber) := goodIn_app (goodIn_of _ (by decide +kernel)) ggX2_joinedRooms_X2_asNumber
set_option maxRecDepth 20000 in
theorem ggX2_joinedRooms_X2_joined : GoodIn wsX2_joinedRooms wsX2_joined := goodIn_r _ [20, 21] (by decide +kernel) (by decide +kernel)
set_option maxRecDepth 20000 in
theorem gX2_joinedRooms_X2_joined : GoodIn wsX2_joinedRooms (va_wsS RX2 191 yX2_joined wsX2_joined) := goodIn_app (goodIn_of _ (by decide +kernel)) ggX2_joinedRooms_X2_joined
set_option maxRecDepth 20000 in
theorem ggX2_joinedRooms_X2_cheeseIn : GoodIn wsX2_joinedRooms wsX2_cheeseIn := goodIn_ca (goodIn_r _ [25, 1, 26, 9, 10, 11, 6, 12, 13, 14, 2, 56, 57, 58, 59, 60, 61, 62, 63, 64, 65, 66, 67, 68, 69, 70, 71, 72, 73] (by decide +kernel) (by decide +kernel)) (goodIn_sub (fun _ h => List.mem_cons_of_mem _ (List.mem_append_right _ h)) (by decide +kernel))
set_option maxRecDepth 20000 in
theorem gX2_joinedRooms_X2_cheeseIn : GoodIn wsX2_joinedRooms (wsV RX2 242 RX2 yX2_cheeseIn wsX2_cheeseIn) := goodIn_app (goodIn_of _ (by decide +kernel)) ggX2_joinedRooms_X2_cheeseIn
set_option maxRecDepth 20000 in
theorem ggX2_joinedRooms_X2_doorsOf : GoodIn wsX2_joinedRooms wsX2_doorsOf := goodIn_ca (goodIn_r _ [30, 1, 9, 10, 11, 6, 12, 13, 14, 2, 31, 32, 33, 34, 35, 36, 37, 38, 39, 56, 57, 58, 59, 60, 61, 62, 63, 64, 65, 66, 67, 68, 69, 70, 71, 72, 73] (by decide +kernel) (by decide +kernel)) (goodIn_sub (fun _ h => List.mem_cons_of_mem _ (List.mem_append_right _ h)) (by decide +kernel))
set_option maxRecDepth 20000 in
theorem gX2_joinedRooms_X2_doorsOf : GoodIn wsX2_joinedRooms (wsV RX2 245 RX2 yX2_doorsOf wsX2_doorsOf) := goodIn_app (goodIn_of _ (by decide +kernel)) ggX2_joinedRooms_X2_doorsOf
set_option maxRecDepth 20000 in
theorem ggX2_joinedRooms_X2_distance : GoodIn wsX2_joinedRooms wsX2_distance := goodIn_ca (goodIn_r _ [43, 1, 9, 10, 11, 6, 12, 13, 14, 2, 44, 45, 46, 34, 47, 48, 49, 50, 51, 52, 53, 54, 55, 36, 38, 39, 37, 56, 57, 58, 59, 60, 61, 62, 63, 64, 65, 66, 67, 68, 69, 70, 71, 72, 73] (by decide +kernel) (by decide +kernel)) (goodIn_sub (fun _ h => List.mem_cons_of_mem _ (List.mem_append_right _ h)) (by decide +kernel))
set_option maxRecDepth 20000 in
theorem gX2_joinedRooms_X2_distance : GoodIn wsX2_joinedRooms (wsV RX2 248 RX2 yX2_distance wsX2_distance) := goodIn_app (goodIn_of _ (by decide +kernel)) ggX2_joinedRooms_X2_distance
theorem dX2_joinedRooms_0 : decode cX2_joinedRooms 0 = .ok (.lload_n 1, 1) := by decide +kernel
theorem dX2_joinedRooms_1 : decode cX2_joinedRooms 1 = .ok (.lstore_n 3, 1) := by decide +kernel
theorem dX2_joinedRooms_2 : decode cX2_joinedRooms 2 = .ok (.iconst 0, 1) := by decide +kernel
theorem dX2_joinedRooms_3 : decode cX2_joinedRooms 3 = .ok (.istore 5, 2) := by decide +kernel
theorem dX2_joinedRooms_5 : decode cX2_joinedRooms 5 = .ok (.iload 5, 2) := by decide +kernel
theorem dX2_joinedRooms_7 : decode cX2_joinedRooms 7 = .ok (.aload_n 0, 1) := by decide +kernel
theorem dX2_joinedRooms_8 : decode cX2_joinedRooms 8 = .ok (.getfield 10, 3) := by decide +kernel
theorem dX2_joinedRooms_11 : decode cX2_joinedRooms 11 = .ok (.getfield 33, 3) := by decide +kernel
theorem dX2_joinedRooms_14 : decode cX2_joinedRooms 14 = .ok (.if_icmp .ge 60, 3) := by decide +kernel
theorem dX2_joinedRooms_17 : decode cX2_joinedRooms 17 = .ok (.lload_n 3, 1) := by decide +kernel
theorem dX2_joinedRooms_18 : decode cX2_joinedRooms 18 = .ok (.aload_n 0, 1) := by decide +kernel
theorem dX2_joinedRooms_19 : decode cX2_joinedRooms 19 = .ok (.iload 5, 2) := by decide +kernel
theorem dX2_joinedRooms_21 : decode cX2_joinedRooms 21 = .ok (.invokevirtual 239, 3) := by decide +kernel
theorem dX2_joinedRooms_24 : decode cX2_joinedRooms 24 = .ok (.invokestatic 204, 3) := by decide +kernel
theorem dX2_joinedRooms_27 : decode cX2_joinedRooms 27 = .ok (.invokestatic 191, 3) := by decide +kernel
theorem dX2_joinedRooms_30 : decode cX2_joinedRooms 30 = .ok (.lstore_n 3, 1) := by decide +kernel
theorem dX2_joinedRooms_31 : decode cX2_joinedRooms 31 = .ok (.lload_n 3, 1) := by decide +kernel
theorem dX2_joinedRooms_32 : decode cX2_joinedRooms 32 = .ok (.aload_n 0, 1) := by decide +kernel
theorem dX2_joinedRooms_33 : decode cX2_joinedRooms 33 = .ok (.iload 5, 2) := by decide +kernel
theorem dX2_joinedRooms_35 : decode cX2_joinedRooms 35 = .ok (.invokevirtual 242, 3) := by decide +kernel
theorem dX2_joinedRooms_38 : decode cX2_joinedRooms 38 = .ok (.i2l, 1) := by decide +kernel
theorem dX2_joinedRooms_39 : decode cX2_joinedRooms 39 = .ok (.invokestatic 191, 3) := by decide +kernel
theorem dX2_joinedRooms_42 : decode cX2_joinedRooms 42 = .ok (.lstore_n 3, 1) := by decide +kernel
theorem dX2_joinedRooms_43 : decode cX2_joinedRooms 43 = .ok (.lload_n 3, 1) := by decide +kernel
theorem dX2_joinedRooms_44 : decode cX2_joinedRooms 44 = .ok (.aload_n 0, 1) := by decide +kernel
theorem dX2_joinedRooms_45 : decode cX2_joinedRooms 45 = .ok (.iload 5, 2) := by decide +kernel
theorem dX2_joinedRooms_47 : decode cX2_joinedRooms 47 = .ok (.invokevirtual 245, 3) := by decide +kernel
theorem dX2_joinedRooms_50 : decode cX2_joinedRooms 50 = .ok (.i2l, 1) := by decide +kernel
theorem dX2_joinedRooms_51 : decode cX2_joinedRooms 51 = .ok (.invokestatic 191, 3) := by decide +kernel
theorem dX2_joinedRooms_54 : decode cX2_joinedRooms 54 = .ok (.lstore_n 3, 1) := by decide +kernel
theorem dX2_joinedRooms_55 : decode cX2_joinedRooms 55 = .ok (.lload_n 3, 1) := by decide +kernel
theorem dX2_joinedRooms_56 : decode cX2_joinedRooms 56 = .ok (.aload_n 0, 1) := by decide +kernel
theorem dX2_joinedRooms_57 : decode cX2_joinedRooms 57 = .ok (.iconst 0, 1) := by decide +kernel
theorem dX2_joinedRooms_58 : decode cX2_joinedRooms 58 = .ok (.iload 5, 2) := by decide +kernel
theorem dX2_joinedRooms_60 : decode cX2_joinedRooms 60 = .ok (.invokevirtual 248, 3) := by decide +kernel
theorem dX2_joinedRooms_63 : decode cX2_joinedRooms 63 = .ok (.i2l, 1) := by decide +kernel
theorem dX2_joinedRooms_64 : decode cX2_joinedRooms 64 = .ok (.invokestatic 191, 3) := by decide +kernel
theorem dX2_joinedRooms_67 : decode cX2_joinedRooms 67 = .ok (.lstore_n 3, 1) := by decide +kernel
theorem dX2_joinedRooms_68 : decode cX2_joinedRooms 68 = .ok (.iinc 5 1, 3) := by decide +kernel
theorem dX2_joinedRooms_71 : decode cX2_joinedRooms 71 = .ok (.goto (-66), 3) := by decide +kernel
theorem dX2_joinedRooms_74 : decode cX2_joinedRooms 74 = .ok (.lload_n 3, 1) := by decide +kernel
theorem dX2_joinedRooms_75 : decode cX2_joinedRooms 75 = .ok (.lreturn, 1) := by decide +kernel
set_option maxRecDepth 20000 in
theorem ggX2_joinedDoors_X2_isLocked : GoodIn wsX2_joinedDoors wsX2_isLocked := goodIn_ca (goodIn_r _ [7, 1, 8, 9, 10, 11, 6, 12, 13, 14, 2, 47, 48, 49, 50, 51, 52, 53, 54, 55, 56, 57, 58, 59, 60, 61, 62, 63, 64] (by decide +kernel) (by decide +kernel)) (goodIn_sub (fun _ h => List.mem_cons_of_mem _ (List.mem_append_right _ h)) (by decide +kernel))
set_option maxRecDepth 20000 in
theorem gX2_joinedDoors_X2_isLocked : GoodIn wsX2_joinedDoors (wsV RX2 251 RX2 yX2_isLocked wsX2_isLocked) := goodIn_app (goodIn_of _ (by decide +kernel)) ggX2_joinedDoors_X2_isLocked
set_option maxRecDepth 20000 in
theorem ggX2_joinedDoors_X2_asNumber : GoodIn wsX2_joinedDoors wsX2_asNumber := goodIn_r _ [17] (by decide +kernel) (by decide +kernel)
set_option maxRecDepth 20000 in
theorem gX2_joinedDoors_X2_asNumber : GoodIn wsX2_joinedDoors (va_wsS RX2 204 yX2_asNumber wsX2_asNumber) := goodIn_app (goodIn_of _ (by decide +kernel)) ggX2_joinedDoors_X2_asNumber
set_option maxRecDepth 20000 in
theorem ggX2_joinedDoors_X2_joined : GoodIn wsX2_joinedDoors wsX2_joined := goodIn_r _ [20, 21] (by decide +kernel) (by decide +kernel)
set_option maxRecDepth 20000 in
theorem gX2_joinedDoors_X2_joined : GoodIn wsX2_joinedDoors (va_wsS RX2 191 yX2_joined wsX2_joined) := goodIn_app (goodIn_of _ (by decide +kernel)) ggX2_joinedDoors_X2_joined
set_option maxRecDepth 20000 in
theorem ggX2_joinedDoors_X2_isOpen : GoodIn wsX2_joinedDoors wsX2_isOpen := goodIn_ca (goodIn_r _ [25, 1, 9, 10, 11, 6, 12, 13, 14, 2, 26, 27, 28, 29, 30, 31, 32, 33, 34, 35, 36, 37, 38, 39, 40, 41, 42, 47, 48, 49, 50, 51, 52, 53, 54, 55, 56, 57, 58, 59, 60, 61, 62, 63, 64] (by decide +kernel) (by decide +kernel)) (goodIn_sub (fun _ h => List.mem_cons_of_mem _ (List.mem_append_right _ h)) (by decide +kernel))
set_option maxRecDepth 20000 in
theorem gX2_joinedDoors_X2_isOpen : GoodIn wsX2_joinedDoors (wsV RX2 254 RX2 yX2_isOpen wsX2_isOpen) := goodIn_app (goodIn_of _ (by decide +kernel)) ggX2_joinedDoors_X2_isOpen
set_option maxRecDepth 20000 in
theorem ggX2_joinedDoors_X2_turnsUntilOpen : GoodIn wsX2_joinedDoors wsX2_turnsUntilOpen := goodIn_ca (goodIn_r _ [46, 1, 9, 10, 11, 6, 12, 13, 14, 2, 26, 27, 28, 29, 30, 31, 32, 33, 34, 35, 36, 37, 38, 39, 40, 41, 42, 47, 48, 49, 50, 51, 52, 53, 54, 55, 56, 57, 58, 59, 60, 61, 62, 63, 64] (by decide +kernel) (by decide +kernel)) (goodIn_sub (fun _ h => List.mem_cons_of_mem _ (List.mem_append_right _ h)) (by decide +kernel))
set_option maxRecDepth 20000 in
theorem gX2_joinedDoors_X2_turnsUntilOpen : GoodIn wsX2_joinedDoors (wsV RX2 257 RX2 yX2_turnsUntilOpen wsX2_turnsUntilOpen) := goodIn_app (goodIn_of _ (by decide +kernel)) ggX2_joinedDoors_X2_turnsUntilOpen
theorem dX2_joinedDoors_0 : decode cX2_joinedDoors 0 = .ok (.lload_n 1, 1) := by decide +kernel
theorem dX2_joinedDoors_1 : decode cX2_joinedDoors 1 = .ok (.lstore_n 3, 1) := by decide +kernel
theorem dX2_joinedDoors_2 : decode cX2_joinedDoors 2 = .ok (.iconst 0, 1) := by decide +kernel
theorem dX2_joinedDoors_3 : decode cX2_joinedDoors 3 = .ok (.istore 5, 2) := by decide +kernel
theorem dX2_joinedDoors_5 : decode cX2_joinedDoors 5 = .ok (.iload 5, 2) := by decide +kernel
theorem dX2_joinedDoors_7 : decode cX2_joinedDoors 7 = .ok (.aload_n 0, 1) := by decide +kernel
theorem dX2_joinedDoors_8 : decode cX2_joinedDoors 8 = .ok (.getfield 10, 3) := by decide +kernel
theorem dX2_joinedDoors_11 : decode cX2_joinedDoors 11 = .ok (.getfield 62, 3) := by decide +kernel
theorem dX2_joinedDoors_14 : decode cX2_joinedDoors 14 = .ok (.if_icmp .ge 49, 3) := by decide +kernel
theorem dX2_joinedDoors_17 : decode cX2_joinedDoors 17 = .ok (.lload_n 3, 1) := by decide +kernel
theorem dX2_joinedDoors_18 : decode cX2_joinedDoors 18 = .ok (.aload_n 0, 1) := by decide +kernel
theorem dX2_joinedDoors_19 : decode cX2_joinedDoors 19 = .ok (.iload 5, 2) := by decide +kernel
theorem dX2_joinedDoors_21 : decode cX2_joinedDoors 21 = .ok (.invokevirtual 251, 3) := by decide +kernel
theorem dX2_joinedDoors_24 : decode cX2_joinedDoors 24 = .ok (.invokestatic 204, 3) := by decide +kernel
theorem dX2_joinedDoors_27 : decode cX2_joinedDoors 27 = .ok (.invokestatic 191, 3) := by decide +kernel
theorem dX2_joinedDoors_30 : decode cX2_joinedDoors 30 = .ok (.lstore_n 3, 1) := by decide +kernel
theorem dX2_joinedDoors_31 : decode cX2_joinedDoors 31 = .ok (.lload_n 3, 1) := by decide +kernel
theorem dX2_joinedDoors_32 : decode cX2_joinedDoors 32 = .ok (.aload_n 0, 1) := by decide +kernel
theorem dX2_joinedDoors_33 : decode cX2_joinedDoors 33 = .ok (.iload 5, 2) := by decide +kernel
theorem dX2_joinedDoors_35 : decode cX2_joinedDoors 35 = .ok (.invokevirtual 254, 3) := by decide +kernel
theorem dX2_joinedDoors_38 : decode cX2_joinedDoors 38 = .ok (.invokestatic 204, 3) := by decide +kernel
theorem dX2_joinedDoors_41 : decode cX2_joinedDoors 41 = .ok (.invokestatic 191, 3) := by decide +kernel
theorem dX2_joinedDoors_44 : decode cX2_joinedDoors 44 = .ok (.lstore_n 3, 1) := by decide +kernel
theorem dX2_joinedDoors_45 : decode cX2_joinedDoors 45 = .ok (.lload_n 3, 1) := by decide +kernel
theorem dX2_joinedDoors_46 : decode cX2_joinedDoors 46 = .ok (.aload_n 0, 1) := by decide +kernel
theorem dX2_joinedDoors_47 : decode cX2_joinedDoors 47 = .ok (.iload 5, 2) := by decide +kernel
theorem dX2_joinedDoors_49 : decode cX2_joinedDoors 49 = .ok (.invokevirtual 257, 3) := by decide +kernel
theorem dX2_joinedDoors_52 : decode cX2_joinedDoors 52 = .ok (.i2l, 1) := by decide +kernel
theorem dX2_joinedDoors_53 : decode cX2_joinedDoors 53 = .ok (.invokestatic 191, 3) := by decide +kernel
theorem dX2_joinedDoors_56 : decode cX2_joinedDoors 56 = .ok (.lstore_n 3, 1) := by decide +kernel
theorem dX2_joinedDoors_57 : decode cX2_joinedDoors 57 = .ok (.iinc 5 1, 3) := by decide +kernel
theorem dX2_joinedDoors_60 : decode cX2_joinedDoors 60 = .ok (.goto (-55), 3) := by decide +kernel
theorem dX2_joinedDoors_63 : decode cX2_joinedDoors 63 = .ok (.lload_n 3, 1) := by decide +kernel
theorem dX2_joinedDoors_64 : decode cX2_joinedDoors 64 = .ok (.lreturn, 1) := by decide +kernel
theorem dX2_joined_0 : decode cX2_joined 0 = .ok (.lload_n 0, 1) := by decide +kernel
theorem dX2_joined_1 : decode cX2_joined 1 = .ok (.ldc2_w 260, 3) := by decide +kernel
theorem dX2_joined_4 : decode cX2_joined 4 = .ok (.lmul, 1) := by decide +kernel
theorem dX2_joined_5 : decode cX2_joined 5 = .ok (.lload_n 2, 1) := by decide +kernel
theorem dX2_joined_6 : decode cX2_joined 6 = .ok (.ladd, 1) := by decide +kernel
theorem dX2_joined_7 : decode cX2_joined 7 = .ok (.lreturn, 1) := by decide +kernel
theorem dX2_asNumber_0 : decode cX2_asNumber 0 = .ok (.iload_n 0, 1) := by decide +kernel
theorem dX2_asNumber_1 : decode cX2_asNumber 1 = .ok (.ifCond .eq 7, 3) := by decide +kernel
theorem dX2_asNumber_4 : decode cX2_asNumber 4 = .ok (.lconst 1, 1) := by decide +kernel
theorem dX2_asNumber_5 : decode cX2_asNumber 5 = .ok (.goto 4, 3) := by decide +kernel
theorem dX2_asNumber_8 : decode cX2_asNumber 8 = .ok (.lconst 0, 1) := by decide +kernel
theorem dX2_asNumber_9 : decode cX2_asNumber 9 = .ok (.lreturn, 1) := by decide +kernel
theorem dX2_requireRoom_0 : decode cX2_requireRoom 0 = .ok (.iload_n 1, 1) := by decide +kernel
theorem dX2_requireRoom_1 : decode cX2_requireRoom 1 = .ok (.ifCond .lt 14, 3) := by decide +kernel
theorem dX2_requireRoom_4 : decode cX2_requireRoom 4 = .ok (.iload_n 1, 1) := by decide +kernel
theorem dX2_requireRoom_5 : decode cX2_requireRoom 5 = .ok (.aload_n 0, 1) := by decide +kernel
theorem dX2_requireRoom_6 : decode cX2_requireRoom 6 = .ok (.getfield 10, 3) := by decide +kernel
theorem dX2_requireRoom_9 : decode cX2_requireRoom 9 = .ok (.getfield 33, 3) := by decide +kernel
theorem dX2_requireRoom_12 : decode cX2_requireRoom 12 = .ok (.if_icmp .lt 14, 3) := by decide +kernel
theorem dX2_requireRoom_15 : decode cX2_requireRoom 15 = .ok (.new 262, 3) := by decide +kernel
theorem dX2_requireRoom_18 : decode cX2_requireRoom 18 = .ok (.dup, 1) := by decide +kernel
theorem dX2_requireRoom_19 : decode cX2_requireRoom 19 = .ok (.ldc_w 264, 3) := by decide +kernel
theorem dX2_requireRoom_22 : decode cX2_requireRoom 22 = .ok (.invokespecial 266, 3) := by decide +kernel
theorem dX2_requireRoom_25 : decode cX2_requireRoom 25 = .ok (.athrow, 1) := by decide +kernel
theorem dX2_requireRoom_26 : decode cX2_requireRoom 26 = .ok (.return_, 1) := by decide +kernel
theorem dX2_requireDoor_0 : decode cX2_requireDoor 0 = .ok (.iload_n 1, 1) := by decide +kernel
theorem dX2_requireDoor_1 : decode cX2_requireDoor 1 = .ok (.ifCond .lt 14, 3) := by decide +kernel
theorem dX2_requireDoor_4 : decode cX2_requireDoor 4 = .ok (.iload_n 1, 1) := by decide +kernel
theorem dX2_requireDoor_5 : decode cX2_requireDoor 5 = .ok (.aload_n 0, 1) := by decide +kernel
theorem dX2_requireDoor_6 : decode cX2_requireDoor 6 = .ok (.getfield 10, 3) := by decide +kernel
theorem dX2_requireDoor_9 : decode cX2_requireDoor 9 = .ok (.getfield 62, 3) := by decide +kernel
theorem dX2_requireDoor_12 : decode cX2_requireDoor 12 = .ok (.if_icmp .lt 14, 3) := by decide +kernel
theorem dX2_requireDoor_15 : decode cX2_requireDoor 15 = .ok (.new 262, 3) := by decide +kernel
theorem dX2_requireDoor_18 : decode cX2_requireDoor 18 = .ok (.dup, 1) := by decide +kernel
theorem dX2_requireDoor_19 : decode cX2_requireDoor 19 = .ok (.ldc_w 267, 3) := by decide +kernel
theorem dX2_requireDoor_22 : decode cX2_requireDoor 22 = .ok (.invokespecial 266, 3) := by decide +kernel
theorem dX2_requireDoor_25 : decode cX2_requireDoor 25 = .ok (.athrow, 1) := by decide +kernel
theorem dX2_requireDoor_26 : decode cX2_requireDoor 26 = .ok (.return_, 1) := by decide +kernel
theorem dX2_requireCatsRoom_0 : decode cX2_requireCatsRoom 0 = .ok (.aload_n 0, 1) := by decide +kernel
theorem dX2_requireCatsRoom_1 : decode cX2_requireCatsRoom 1 = .ok (.getfield 10, 3) := by decide +kernel
theorem dX2_requireCatsRoom_4 : decode cX2_requireCatsRoom 4 = .ok (.getfield 142, 3) := by decide +kernel
theorem dX2_requireCatsRoom_7 : decode cX2_requireCatsRoom 7 = .ok (.iload_n 1, 1) := by decide +kernel
theorem dX2_requireCatsRoom_8 : decode cX2_requireCatsRoom 8 = .ok (.baload, 1) := by decide +kernel
theorem dX2_requireCatsRoom_9 : decode cX2_requireCatsRoom 9 = .ok (.ifCond .eq 14, 3) := by decide +kernel
theorem dX2_requireCatsRoom_12 : decode cX2_requireCatsRoom 12 = .ok (.new 55, 3) := by decide +kernel
theorem dX2_requireCatsRoom_15 : decode cX2_requireCatsRoom 15 = .ok (.dup, 1) := by decide +kernel
theorem dX2_requireCatsRoom_16 : decode cX2_requireCatsRoom 16 = .ok (.ldc_w 269, 3) := by decide +kernel
theorem dX2_requireCatsRoom_19 : decode cX2_requireCatsRoom 19 = .ok (.invokespecial 59, 3) := by decide +kernel
theorem dX2_requireCatsRoom_22 : decode cX2_requireCatsRoom 22 = .ok (.athrow, 1) := by decide +kernel
theorem dX2_requireCatsRoom_23 : decode cX2_requireCatsRoom 23 = .ok (.return_, 1) := by decide +kernel
theorem dX2_requireChase_0 : decode cX2_requireChase 0 = .ok (.aload_n 0, 1) := by decide +kernel
theorem dX2_requireChase_1 : decode cX2_requireChase 1 = .ok (.getfield 107, 3) := by decide +kernel
theorem dX2_requireChase_4 : decode cX2_requireChase 4 = .ok (.ifCond .ne 14, 3) := by decide +kernel
theorem dX2_requireChase_7 : decode cX2_requireChase 7 = .ok (.new 36, 3) := by decide +kernel
theorem dX2_requireChase_10 : decode cX2_requireChase 10 = .ok (.dup, 1) := by decide +kernel
theorem dX2_requireChase_11 : decode cX2_requireChase 11 = .ok (.ldc_w 271, 3) := by decide +kernel
theorem dX2_requireChase_14 : decode cX2_requireChase 14 = .ok (.invokespecial 40, 3) := by decide +kernel
theorem dX2_requireChase_17 : decode cX2_requireChase 17 = .ok (.athrow, 1) := by decide +kernel
theorem dX2_requireChase_18 : decode cX2_requireChase 18 = .ok (.return_, 1) := by decide +kernel
set_option maxRecDepth 20000 in
theorem ggX2_phaseAfter_J9_floorMod_7cf53 : GoodIn wsX2_phaseAfter wsJ9_floorMod_7cf53 := goodIn_r _ [5] (by decide +kernel) (by decide +kernel)
set_option maxRecDepth 20000 in
theorem gX2_phaseAfter_J9_floorMod_7cf53 : GoodIn wsX2_phaseAfter (va_wsS RX2 273 yJ9_floorMod_7cf53 wsJ9_floorMod_7cf53) := goodIn_app (goodIn_of _ (by decide +kernel)) ggX2_phaseAfter_J9_floorMod_7cf53
theorem dX2_phaseAfter_0 : decode cX2_phaseAfter 0 = .ok (.aload_n 0, 1) := by decide +kernel
theorem dX2_phaseAfter_1 : decode cX2_phaseAfter 1 = .ok (.getfield 97, 3) := by decide +kernel
theorem dX2_phaseAfter_4 : decode cX2_phaseAfter 4 = .ok (.iload_n 1, 1) := by decide +kernel
theorem dX2_phaseAfter_5 : decode cX2_phaseAfter 5 = .ok (.iadd, 1) := by decide +kernel
theorem dX2_phaseAfter_6 : decode cX2_phaseAfter 6 = .ok (.bipush 12, 2) := by decide +kernel
theorem dX2_phaseAfter_8 : decode cX2_phaseAfter 8 = .ok (.invokestatic 273, 3) := by decide +kernel
theorem dX2_phaseAfter_11 : decode cX2_phaseAfter 11 = .ok (.ireturn, 1) := by decide +kernel
theorem dX2_isCatsPhase_0 : decode cX2_isCatsPhase 0 = .ok (.iload_n 0, 1) := by decide +kernel
theorem dX2_isCatsPhase_1 : decode cX2_isCatsPhase 1 = .ok (.iconst 1, 1) := by decide +kernel
theorem dX2_isCatsPhase_2 : decode cX2_isCatsPhase 2 = .ok (.iand, 1) := by decide +kernel
theorem dX2_isCatsPhase_3 : decode cX2_isCatsPhase 3 = .ok (.iconst 1, 1) := by decide +kernel
theorem dX2_isCatsPhase_4 : decode cX2_isCatsPhase 4 = .ok (.if_icmp .ne 7, 3) := by decide +kernel
theorem dX2_isCatsPhase_7 : decode cX2_isCatsPhase 7 = .ok (.iconst 1, 1) := by decide +kernel
theorem dX2_isCatsPhase_8 : decode cX2_isCatsPhase 8 = .ok (.goto 4, 3) := by decide +kernel
theorem dX2_isCatsPhase_11 : decode cX2_isCatsPhase 11 = .ok (.iconst 0, 1) := by decide +kernel
theorem dX2_isCatsPhase_12 : decode cX2_isCatsPhase 12 = .ok (.ireturn, 1) := by decide +kernel
set_option maxRecDepth 20000 in
theorem ggX2_whoGoesIn_X2_isCatsTurn : GoodIn wsX2_whoGoesIn wsX2_isCatsTurn := goodIn_r _ [7, 8, 9, 10, 6, 11, 12, 13, 14, 15, 16, 17, 18, 19, 20] (by decide +kernel) (by decide +kernel)
set_option maxRecDepth 20000 in
theorem gX2_whoGoesIn_X2_isCatsTurn : GoodIn wsX2_whoGoesIn (wsV RX2 162 RX2 yX2_isCatsTurn wsX2_isCatsTurn) := goodIn_app (goodIn_of _ (by decide +kernel)) ggX2_whoGoesIn_X2_isCatsTurn
theorem dX2_whoGoesIn_0 : decode cX2_whoGoesIn 0 = .ok (.aload_n 0, 1) := by decide +kernel
theorem dX2_whoGoesIn_1 : decode cX2_whoGoesIn 1 = .ok (.invokevirtual 162, 3) := by decide +kernel
theorem dX2_whoGoesIn_4 : decode cX2_whoGoesIn 4 = .ok (.ifCond .eq 10, 3) := by decide +kernel
theorem dX2_whoGoesIn_7 : decode cX2_whoGoesIn 7 = .ok (.aload_n 0, 1) := by decide +kernel
theorem dX2_whoGoesIn_8 : decode cX2_whoGoesIn 8 = .ok (.getfield 26, 3) := by decide +kernel
theorem dX2_whoGoesIn_11 : decode cX2_whoGoesIn 11 = .ok (.goto 7, 3) := by decide +kernel
theorem dX2_whoGoesIn_14 : decode cX2_whoGoesIn 14 = .ok (.aload_n 0, 1) := by decide +kernel
theorem dX2_whoGoesIn_15 : decode cX2_whoGoesIn 15 = .ok (.getfield 30, 3) := by decide +kernel
theorem dX2_whoGoesIn_18 : decode cX2_whoGoesIn 18 = .ok (.ireturn, 1) := by decide +kernel
set_option maxRecDepth 20000 in
theorem ggX2_moveTo_X2_isCatsTurn : GoodIn wsX2_moveTo wsX2_isCatsTurn := goodIn_r _ [8, 3, 9, 10, 7, 11, 25, 26, 27, 28, 29, 30, 31, 32, 33] (by decide +kernel) (by decide +kernel)
set_option maxRecDepth 20000 in
theorem gX2_moveTo_X2_isCatsTurn : GoodIn wsX2_moveTo (wsV RX2 162 RX2 yX2_isCatsTurn wsX2_isCatsTurn) := goodIn_app (goodIn_of _ (by decide +kernel)) ggX2_moveTo_X2_isCatsTurn
set_option maxRecDepth 20000 in
theorem ggX2_moveTo_X2_endChase : GoodIn wsX2_moveTo wsX2_endChase := goodIn_r _ [15, 16, 17, 2, 1, 25, 26, 27, 28, 29, 30, 31, 32, 33] (by decide +kernel) (by decide +kernel)
set_option maxRecDepth 20000 in
theorem gX2_moveTo_X2_endChase : GoodIn wsX2_moveTo (wsV RX2 276 RX2 yX2_endChase wsX2_endChase) := goodIn_app (goodIn_of _ (by decide +kernel)) ggX2_moveTo_X2_endChase
set_option maxRecDepth 20000 in
theorem ggX2_moveTo_X2_eatIn : GoodIn wsX2_moveTo wsX2_eatIn := goodIn_r _ [21, 22, 23, 24, 25, 26, 27, 28, 29, 30, 31, 32, 33, 34, 35, 36, 37, 38, 39, 40, 41, 42] (by decide +kernel) (by decide +kernel)
set_option maxRecDepth 20000 in
theorem gX2_moveTo_X2_eatIn : GoodIn wsX2_moveTo (wsV RX2 279 RX2 yX2_eatIn wsX2_eatIn) := goodIn_app (goodIn_of _ (by decide +kernel)) ggX2_moveTo_X2_eatIn
theorem dX2_moveTo_0 : decode cX2_moveTo 0 = .ok (.aload_n 0, 1) := by decide +kernel
theorem dX2_moveTo_1 : decode cX2_moveTo 1 = .ok (.invokevirtual 162, 3) := by decide +kernel
theorem dX2_moveTo_4 : decode cX2_moveTo 4 = .ok (.ifCond .ne 7, 3) := by decide +kernel
theorem dX2_moveTo_7 : decode cX2_moveTo 7 = .ok (.iconst 1, 1) := by decide +kernel
theorem dX2_moveTo_8 : decode cX2_moveTo 8 = .ok (.goto 4, 3) := by decide +kernel
theorem dX2_moveTo_11 : decode cX2_moveTo 11 = .ok (.iconst 0, 1) := by decide +kernel
theorem dX2_moveTo_12 : decode cX2_moveTo 12 = .ok (.istore_n 2, 1) := by decide +kernel
theorem dX2_moveTo_13 : decode cX2_moveTo 13 = .ok (.iload_n 2, 1) := by decide +kernel
theorem dX2_moveTo_14 : decode cX2_moveTo 14 = .ok (.ifCond .eq 11, 3) := by decide +kernel
theorem dX2_moveTo_17 : decode cX2_moveTo 17 = .ok (.aload_n 0, 1) := by decide +kernel
theorem dX2_moveTo_18 : decode cX2_moveTo 18 = .ok (.iload_n 1, 1) := by decide +kernel
theorem dX2_moveTo_19 : decode cX2_moveTo 19 = .ok (.putfield 30, 3) := by decide +kernel
theorem dX2_moveTo_22 : decode cX2_moveTo 22 = .ok (.goto 8, 3) := by decide +kernel
theorem dX2_moveTo_25 : decode cX2_moveTo 25 = .ok (.aload_n 0, 1) := by decide +kernel
theorem dX2_moveTo_26 : decode cX2_moveTo 26 = .ok (.iload_n 1, 1) := by decide +kernel
theorem dX2_moveTo_27 : decode cX2_moveTo 27 = .ok (.putfield 26, 3) := by decide +kernel
theorem dX2_moveTo_30 : decode cX2_moveTo 30 = .ok (.aload_n 0, 1) := by decide +kernel
theorem dX2_moveTo_31 : decode cX2_moveTo 31 = .ok (.getfield 26, 3) := by decide +kernel
theorem dX2_moveTo_34 : decode cX2_moveTo 34 = .ok (.aload_n 0, 1) := by decide +kernel
theorem dX2_moveTo_35 : decode cX2_moveTo 35 = .ok (.getfield 30, 3) := by decide +kernel
theorem dX2_moveTo_38 : decode cX2_moveTo 38 = .ok (.if_icmp .ne 10, 3) := by decide +kernel
theorem dX2_moveTo_41 : decode cX2_moveTo 41 = .ok (.aload_n 0, 1) := by decide +kernel
theorem dX2_moveTo_42 : decode cX2_moveTo 42 = .ok (.invokevirtual 276, 3) := by decide +kernel
theorem dX2_moveTo_45 : decode cX2_moveTo 45 = .ok (.goto 12, 3) := by decide +kernel
theorem dX2_moveTo_48 : decode cX2_moveTo 48 = .ok (.iload_n 2, 1) := by decide +kernel
theorem dX2_moveTo_49 : decode cX2_moveTo 49 = .ok (.ifCond .eq 8, 3) := by decide +kernel
theorem dX2_moveTo_52 : decode cX2_moveTo 52 = .ok (.aload_n 0, 1) := by decide +kernel
theorem dX2_moveTo_53 : decode cX2_moveTo 53 = .ok (.iload_n 1, 1) := by decide +kernel
theorem dX2_moveTo_54 : decode cX2_moveTo 54 = .ok (.invokevirtual 279, 3) := by decide +kernel
theorem dX2_moveTo_57 : decode cX2_moveTo 57 = .ok (.aload_n 0, 1) := by decide +kernel
theorem dX2_moveTo_58 : decode cX2_moveTo 58 = .ok (.dup, 1) := by decide +kernel
theorem dX2_moveTo_59 : decode cX2_moveTo 59 = .ok (.getfield 97, 3) := by decide +kernel
theorem dX2_moveTo_62 : decode cX2_moveTo 62 = .ok (.iconst 1, 1) := by decide +kernel
theorem dX2_moveTo_63 : decode cX2_moveTo 63 = .ok (.iadd, 1) := by decide +kernel
theorem dX2_moveTo_64 : decode cX2_moveTo 64 = .ok (.putfield 97, 3) := by decide +kernel
theorem dX2_moveTo_67 : decode cX2_moveTo 67 = .ok (.return_, 1) := by decide +kernel
theorem dX2_endChase_0 : decode cX2_endChase 0 = .ok (.aload_n 0, 1) := by decide +kernel
theorem dX2_endChase_1 : decode cX2_endChase 1 = .ok (.iconst 0, 1) := by decide +kernel
theorem dX2_endChase_2 : decode cX2_endChase 2 = .ok (.putfield 107, 3) := by decide +kernel
theorem dX2_endChase_5 : decode cX2_endChase 5 = .ok (.aload_n 0, 1) := by decide +kernel
theorem dX2_endChase_6 : decode cX2_endChase 6 = .ok (.iconst 1, 1) := by decide +kernel
theorem dX2_endChase_7 : decode cX2_endChase 7 = .ok (.putfield 103, 3) := by decide +kernel
theorem dX2_endChase_10 : decode cX2_endChase 10 = .ok (.aload_n 0, 1) := by decide +kernel
theorem dX2_endChase_11 : decode cX2_endChase 11 = .ok (.iconst (-1), 1) := by decide +kernel
theorem dX2_endChase_12 : decode cX2_endChase 12 = .ok (.putfield 26, 3) := by decide +kernel
theorem dX2_endChase_15 : decode cX2_endChase 15 = .ok (.aload_n 0, 1) := by decide +kernel
theorem dX2_endChase_16 : decode cX2_endChase 16 = .ok (.iconst (-1), 1) := by decide +kernel
theorem dX2_endChase_17 : decode cX2_endChase 17 = .ok (.putfield 30, 3) := by decide +kernel
theorem dX2_endChase_20 : decode cX2_endChase 20 = .ok (.return_, 1) := by decide +kernel
theorem dX2_eatIn_0 : decode cX2_eatIn 0 = .ok (.aload_n 0, 1) := by decide +kernel
theorem dX2_eatIn_1 : decode cX2_eatIn 1 = .ok (.getfield 10, 3) := by decide +kernel
theorem dX2_eatIn_4 : decode cX2_eatIn 4 = .ok (.getfield 86, 3) := by decide +kernel
theorem dX2_eatIn_7 : decode cX2_eatIn 7 = .ok (.iload_n 1, 1) := by decide +kernel
theorem dX2_eatIn_8 : decode cX2_eatIn 8 = .ok (.iaload, 1) := by decide +kernel
theorem dX2_eatIn_9 : decode cX2_eatIn 9 = .ok (.ifCond .le 26, 3) := by decide +kernel
theorem dX2_eatIn_12 : decode cX2_eatIn 12 = .ok (.aload_n 0, 1) := by decide +kernel
theorem dX2_eatIn_13 : decode cX2_eatIn 13 = .ok (.getfield 10, 3) := by decide +kernel
theorem dX2_eatIn_16 : decode cX2_eatIn 16 = .ok (.getfield 86, 3) := by decide +kernel
theorem dX2_eatIn_19 : decode cX2_eatIn 19 = .ok (.iload_n 1, 1) := by decide +kernel
theorem dX2_eatIn_20 : decode cX2_eatIn 20 = .ok (.dup2, 1) := by decide +kernel
theorem dX2_eatIn_21 : decode cX2_eatIn 21 = .ok (.iaload, 1) := by decide +kernel
theorem dX2_eatIn_22 : decode cX2_eatIn 22 = .ok (.iconst 1, 1) := by decide +kernel
theorem dX2_eatIn_23 : decode cX2_eatIn 23 = .ok (.isub, 1) := by decide +kernel
theorem dX2_eatIn_24 : decode cX2_eatIn 24 = .ok (.iastore, 1) := by decide +kernel
theorem dX2_eatIn_25 : decode cX2_eatIn 25 = .ok (.aload_n 0, 1) := by decide +kernel
theorem dX2_eatIn_26 : decode cX2_eatIn 26 = .ok (.dup, 1) := by decide +kernel
theorem dX2_eatIn_27 : decode cX2_eatIn 27 = .ok (.getfield 100, 3) := by decide +kernel
theorem dX2_eatIn_30 : decode cX2_eatIn 30 = .ok (.iconst 1, 1) := by decide +kernel
theorem dX2_eatIn_31 : decode cX2_eatIn 31 = .ok (.iadd, 1) := by decide +kernel
theorem dX2_eatIn_32 : decode cX2_eatIn 32 = .ok (.putfield 100, 3) := by decide +kernel
theorem dX2_eatIn_35 : decode cX2_eatIn 35 = .ok (.return_, 1) := by decide +kernel
set_option maxRecDepth 20000 in
theorem ggX2_turnsOf_X2_phaseAfter : GoodIn wsX2_turnsOf wsX2_phaseAfter := goodIn_r _ [6, 7, 8, 9, 10, 11, 21, 22, 23, 24, 25, 26, 27, 28, 29] (by decide +kernel) (by decide +kernel)
set_option maxRecDepth 20000 in
theorem gX2_turnsOf_X2_phaseAfter : GoodIn wsX2_turnsOf (wsV RX2 117 RX2 yX2_phaseAfter wsX2_phaseAfter) := goodIn_app (goodIn_of _ (by decide +kernel)) ggX2_turnsOf_X2_phaseAfter
set_option maxRecDepth 20000 in
theorem ggX2_turnsOf_X1_turnsToCatchFrom : GoodIn wsX2_turnsOf wsX1_turnsToCatchFrom := goodIn_r _ [16, 17, 18, 19, 15, 20, 30, 31, 32, 33] (by decide +kernel) (by decide +kernel)
set_option maxRecDepth 20000 in
theorem gX2_turnsOf_X1_turnsToCatchFrom : GoodIn wsX2_turnsOf (wsV RX2 282 RX1 yX1_turnsToCatchFrom wsX1_turnsToCatchFrom) := goodIn_app (goodIn_of _ (by decide +kernel)) ggX2_turnsOf_X1_turnsToCatchFrom
theorem dX2_turnsOf_0 : decode cX2_turnsOf 0 = .ok (.aload_n 0, 1) := by decide +kernel
theorem dX2_turnsOf_1 : decode cX2_turnsOf 1 = .ok (.getfield 19, 3) := by decide +kernel
theorem dX2_turnsOf_4 : decode cX2_turnsOf 4 = .ok (.aload_n 0, 1) := by decide +kernel
theorem dX2_turnsOf_5 : decode cX2_turnsOf 5 = .ok (.iconst 0, 1) := by decide +kernel
theorem dX2_turnsOf_6 : decode cX2_turnsOf 6 = .ok (.invokevirtual 117, 3) := by decide +kernel
theorem dX2_turnsOf_9 : decode cX2_turnsOf 9 = .ok (.iload_n 1, 1) := by decide +kernel
theorem dX2_turnsOf_10 : decode cX2_turnsOf 10 = .ok (.iload_n 2, 1) := by decide +kernel
theorem dX2_turnsOf_11 : decode cX2_turnsOf 11 = .ok (.invokevirtual 282, 3) := by decide +kernel
theorem dX2_turnsOf_14 : decode cX2_turnsOf 14 = .ok (.ireturn, 1) := by decide +kernel
set_option maxRecDepth 20000 in
theorem ggX2_turnsToCatchIfLocked_X1_lookOut : GoodIn wsX2_turnsToCatchIfLocked wsX1_lookOut := goodIn_r _ [9, 10, 11, 12, 13, 14, 15, 16, 17, 18, 8, 19, 20, 21, 22, 23, 24, 25, 26, 27, 28, 29, 30, 31, 32, 33, 34, 35, 36, 37, 38, 39, 40, 41, 42, 43, 44, 45, 46, 47, 48, 49, 50, 51, 52, 53, 54, 55, 56, 57, 58, 59, 60, 61, 62, 63, 64, 65, 66, 67, 68, 69, 70, 71, 94, 95, 96, 97, 98, 99, 100, 101, 102, 103, 104, 105, 106] (by decide +kernel) (by decide +kernel)
set_option maxRecDepth 20000 in
theorem gX2_turnsToCatchIfLocked_X1_lookOut : GoodIn wsX2_turnsToCatchIfLocked (wsV RX2 47 RX1 yX1_lookOut wsX1_lookOut) := goodIn_app (goodIn_of _ (by decide +kernel)) ggX2_turnsToCatchIfLocked_X1_lookOut
set_option maxRecDepth 20000 in
theorem ggX2_turnsToCatchIfLocked_X2_phaseAfter : GoodIn wsX2_turnsToCatchIfLocked wsX2_phaseAfter := goodIn_r _ [75, 76, 77, 78, 79, 80, 85, 86, 87, 88, 89, 90, 91, 92, 93] (by decide +kernel) (by decide +kernel)
set_option maxRecDepth 20000 in
theorem gX2_turnsToCatchIfLocked_X2_phaseAfter : GoodIn wsX2_turnsToCatchIfLocked (wsV RX2 117 RX2 yX2_phaseAfter wsX2_phaseAfter) := goodIn_app (goodIn_of _ (by decide +kernel)) ggX2_turnsToCatchIfLocked_X2_phaseAfter
set_option maxRecDepth 20000 in
theorem ggX2_turnsToCatchIfLocked_X1_turnsToCatchFrom : GoodIn wsX2_turnsToCatchIfLocked wsX1_turnsToCatchFrom := goodIn_r _ [84, 49, 24, 25, 8, 26, 94, 95, 96, 97] (by decide +kernel) (by decide +kernel)
set_option maxRecDepth 20000 in
theorem gX2_turnsToCatchIfLocked_X1_turnsToCatchFrom : GoodIn wsX2_turnsToCatchIfLocked (wsV RX2 282 RX1 yX1_turnsToCatchFrom wsX1_turnsToCatchFrom) := goodIn_app (goodIn_of _ (by decide +kernel)) ggX2_turnsToCatchIfLocked_X1_turnsToCatchFrom
theorem dX2_turnsToCatchIfLocked_0 : decode cX2_turnsToCatchIfLocked 0 = .ok (.aload_n 0, 1) := by decide +kernel
theorem dX2_turnsToCatchIfLocked_1 : decode cX2_turnsToCatchIfLocked 1 = .ok (.getfield 23, 3) := by decide +kernel
theorem dX2_turnsToCatchIfLocked_4 : decode cX2_turnsToCatchIfLocked 4 = .ok (.aload_n 0, 1) := by decide +kernel
theorem dX2_turnsToCatchIfLocked_5 : decode cX2_turnsToCatchIfLocked 5 = .ok (.getfield 10, 3) := by decide +kernel
theorem dX2_turnsToCatchIfLocked_8 : decode cX2_turnsToCatchIfLocked 8 = .ok (.iload_n 1, 1) := by decide +kernel
theorem dX2_turnsToCatchIfLocked_9 : decode cX2_turnsToCatchIfLocked 9 = .ok (.invokevirtual 47, 3) := by decide +kernel
theorem dX2_turnsToCatchIfLocked_12 : decode cX2_turnsToCatchIfLocked 12 = .ok (.aload_n 0, 1) := by decide +kernel
theorem dX2_turnsToCatchIfLocked_13 : decode cX2_turnsToCatchIfLocked 13 = .ok (.getfield 23, 3) := by decide +kernel
theorem dX2_turnsToCatchIfLocked_16 : decode cX2_turnsToCatchIfLocked 16 = .ok (.aload_n 0, 1) := by decide +kernel
theorem dX2_turnsToCatchIfLocked_17 : decode cX2_turnsToCatchIfLocked 17 = .ok (.iconst 0, 1) := by decide +kernel
theorem dX2_turnsToCatchIfLocked_18 : decode cX2_turnsToCatchIfLocked 18 = .ok (.invokevirtual 117, 3) := by decide +kernel
theorem dX2_turnsToCatchIfLocked_21 : decode cX2_turnsToCatchIfLocked 21 = .ok (.aload_n 0, 1) := by decide +kernel
theorem dX2_turnsToCatchIfLocked_22 : decode cX2_turnsToCatchIfLocked 22 = .ok (.getfield 26, 3) := by decide +kernel
theorem dX2_turnsToCatchIfLocked_25 : decode cX2_turnsToCatchIfLocked 25 = .ok (.aload_n 0, 1) := by decide +kernel
theorem dX2_turnsToCatchIfLocked_26 : decode cX2_turnsToCatchIfLocked 26 = .ok (.getfield 30, 3) := by decide +kernel
theorem dX2_turnsToCatchIfLocked_29 : decode cX2_turnsToCatchIfLocked 29 = .ok (.invokevirtual 282, 3) := by decide +kernel
theorem dX2_turnsToCatchIfLocked_32 : decode cX2_turnsToCatchIfLocked 32 = .ok (.ireturn, 1) := by decide +kernel
set_option maxRecDepth 20000 in
theorem ggX2_turnsOfPair_X2_turnsOf : GoodIn wsX2_turnsOfPair wsX2_turnsOf := goodIn_r _ [7, 8, 9, 10, 11, 6, 12, 13, 14, 15, 16, 17, 18, 19, 20, 21, 22, 23, 24, 25, 26, 27, 28, 29, 30, 31, 32, 33, 34, 35, 45, 46, 47, 48] (by decide +kernel) (by decide +kernel)
set_option maxRecDepth 20000 in
theorem gX2_turnsOfPair_X2_turnsOf : GoodIn wsX2_turnsOfPair (wsV RX2 159 RX2 yX2_turnsOf wsX2_turnsOf) := goodIn_app (goodIn_of _ (by decide +kernel)) ggX2_turnsOfPair_X2_turnsOf
theorem dX2_turnsOfPair_0 : decode cX2_turnsOfPair 0 = .ok (.iload_n 1, 1) := by decide +kernel
theorem dX2_turnsOfPair_1 : decode cX2_turnsOfPair 1 = .ok (.bipush 8, 2) := by decide +kernel
theorem dX2_turnsOfPair_3 : decode cX2_turnsOfPair 3 = .ok (.idiv, 1) := by decide +kernel
theorem dX2_turnsOfPair_4 : decode cX2_turnsOfPair 4 = .ok (.istore_n 2, 1) := by decide +kernel
theorem dX2_turnsOfPair_5 : decode cX2_turnsOfPair 5 = .ok (.iload_n 1, 1) := by decide +kernel
theorem dX2_turnsOfPair_6 : decode cX2_turnsOfPair 6 = .ok (.bipush 8, 2) := by decide +kernel
theorem dX2_turnsOfPair_8 : decode cX2_turnsOfPair 8 = .ok (.irem, 1) := by decide +kernel
theorem dX2_turnsOfPair_9 : decode cX2_turnsOfPair 9 = .ok (.istore_n 3, 1) := by decide +kernel
theorem dX2_turnsOfPair_10 : decode cX2_turnsOfPair 10 = .ok (.iload_n 2, 1) := by decide +kernel
theorem dX2_turnsOfPair_11 : decode cX2_turnsOfPair 11 = .ok (.iload_n 3, 1) := by decide +kernel
theorem dX2_turnsOfPair_12 : decode cX2_turnsOfPair 12 = .ok (.if_icmp .eq 25, 3) := by decide +kernel
theorem dX2_turnsOfPair_15 : decode cX2_turnsOfPair 15 = .ok (.iload_n 2, 1) := by decide +kernel
theorem dX2_turnsOfPair_16 : decode cX2_turnsOfPair 16 = .ok (.aload_n 0, 1) := by decide +kernel
theorem dX2_turnsOfPair_17 : decode cX2_turnsOfPair 17 = .ok (.getfield 10, 3) := by decide +kernel
theorem dX2_turnsOfPair_20 : decode cX2_turnsOfPair 20 = .ok (.getfield 33, 3) := by decide +kernel
theorem dX2_turnsOfPair_23 : decode cX2_turnsOfPair 23 = .ok (.if_icmp .ge 14, 3) := by decide +kernel
theorem dX2_turnsOfPair_26 : decode cX2_turnsOfPair 26 = .ok (.iload_n 3, 1) := by decide +kernel
theorem dX2_turnsOfPair_27 : decode cX2_turnsOfPair 27 = .ok (.aload_n 0, 1) := by decide +kernel
theorem dX2_turnsOfPair_28 : decode cX2_turnsOfPair 28 = .ok (.getfield 10, 3) := by decide +kernel
theorem dX2_turnsOfPair_31 : decode cX2_turnsOfPair 31 = .ok (.getfield 33, 3) := by decide +kernel
theorem dX2_turnsOfPair_34 : decode cX2_turnsOfPair 34 = .ok (.if_icmp .lt 5, 3) := by decide +kernel
theorem dX2_turnsOfPair_37 : decode cX2_turnsOfPair 37 = .ok (.iconst (-1), 1) := by decide +kernel
theorem dX2_turnsOfPair_38 : decode cX2_turnsOfPair 38 = .ok (.ireturn, 1) := by decide +kernel
theorem dX2_turnsOfPair_39 : decode cX2_turnsOfPair 39 = .ok (.aload_n 0, 1) := by decide +kernel
theorem dX2_turnsOfPair_40 : decode cX2_turnsOfPair 40 = .ok (.iload_n 2, 1) := by decide +kernel
theorem dX2_turnsOfPair_41 : decode cX2_turnsOfPair 41 = .ok (.iload_n 3, 1) := by decide +kernel
theorem dX2_turnsOfPair_42 : decode cX2_turnsOfPair 42 = .ok (.invokevirtual 159, 3) := by decide +kernel
theorem dX2_turnsOfPair_45 : decode cX2_turnsOfPair 45 = .ok (.ireturn, 1) := by decide +kernel
set_option maxRecDepth 20000 in
theorem ggX2_bestForMouse_X2_phaseAfter : GoodIn wsX2_bestForMouse wsX2_phaseAfter := goodIn_r _ [10, 11, 12, 13, 14, 15, 32, 33, 34, 35, 36, 37, 38, 39, 40] (by decide +kernel) (by decide +kernel)
set_option maxRecDepth 20000 in
theorem gX2_bestForMouse_X2_phaseAfter : GoodIn wsX2_bestForMouse (wsV RX2 117 RX2 yX2_phaseAfter wsX2_phaseAfter) := goodIn_app (goodIn_of _ (by decide +kernel)) ggX2_bestForMouse_X2_phaseAfter
set_option maxRecDepth 20000 in
theorem ggX2_bestForMouse_X1_canGo : GoodIn wsX2_bestForMouse wsX1_canGo := goodIn_r _ [20, 21, 22, 23, 19, 24, 25, 9, 26, 50, 51, 52, 53] (by decide +kernel) (by decide +kernel)
set_option maxRecDepth 20000 in
theorem gX2_bestForMouse_X1_canGo : GoodIn wsX2_bestForMouse (wsV RX2 124 RX1 yX1_canGo wsX1_canGo) := goodIn_app (goodIn_of _ (by decide +kernel)) ggX2_bestForMouse_X1_canGo
set_option maxRecDepth 20000 in
theorem ggX2_bestForMouse_X1_turnsToCatchFrom : GoodIn wsX2_bestForMouse wsX1_turnsToCatchFrom := goodIn_r _ [30, 31, 22, 23, 19, 24, 50, 51, 52, 53] (by decide +kernel) (by decide +kernel)
set_option maxRecDepth 20000 in
theorem gX2_bestForMouse_X1_turnsToCatchFrom : GoodIn wsX2_bestForMouse (wsV RX2 282 RX1 yX1_turnsToCatchFrom wsX1_turnsToCatchFrom) := goodIn_app (goodIn_of _ (by decide +kernel)) ggX2_bestForMouse_X1_turnsToCatchFrom
theorem dX2_bestForMouse_0 : decode cX2_bestForMouse 0 = .ok (.aload_n 0, 1) := by decide +kernel
theorem dX2_bestForMouse_1 : decode cX2_bestForMouse 1 = .ok (.getfield 30, 3) := by decide +kernel
theorem dX2_bestForMouse_4 : decode cX2_bestForMouse 4 = .ok (.istore_n 1, 1) := by decide +kernel
theorem dX2_bestForMouse_5 : decode cX2_bestForMouse 5 = .ok (.iconst (-1), 1) := by decide +kernel
theorem dX2_bestForMouse_6 : decode cX2_bestForMouse 6 = .ok (.istore_n 2, 1) := by decide +kernel
theorem dX2_bestForMouse_7 : decode cX2_bestForMouse 7 = .ok (.iconst 0, 1) := by decide +kernel
theorem dX2_bestForMouse_8 : decode cX2_bestForMouse 8 = .ok (.istore_n 3, 1) := by decide +kernel
theorem dX2_bestForMouse_9 : decode cX2_bestForMouse 9 = .ok (.iload_n 3, 1) := by decide +kernel
theorem dX2_bestForMouse_10 : decode cX2_bestForMouse 10 = .ok (.aload_n 0, 1) := by decide +kernel
theorem dX2_bestForMouse_11 : decode cX2_bestForMouse 11 = .ok (.getfield 10, 3) := by decide +kernel
theorem dX2_bestForMouse_14 : decode cX2_bestForMouse 14 = .ok (.getfield 33, 3) := by decide +kernel
theorem dX2_bestForMouse_17 : decode cX2_bestForMouse 17 = .ok (.if_icmp .ge 67, 3) := by decide +kernel
theorem dX2_bestForMouse_20 : decode cX2_bestForMouse 20 = .ok (.aload_n 0, 1) := by decide +kernel
theorem dX2_bestForMouse_21 : decode cX2_bestForMouse 21 = .ok (.getfield 19, 3) := by decide +kernel
theorem dX2_bestForMouse_24 : decode cX2_bestForMouse 24 = .ok (.aload_n 0, 1) := by decide +kernel
theorem dX2_bestForMouse_25 : decode cX2_bestForMouse 25 = .ok (.iconst 0, 1) := by decide +kernel
theorem dX2_bestForMouse_26 : decode cX2_bestForMouse 26 = .ok (.invokevirtual 117, 3) := by decide +kernel
theorem dX2_bestForMouse_29 : decode cX2_bestForMouse 29 = .ok (.aload_n 0, 1) := by decide +kernel
theorem dX2_bestForMouse_30 : decode cX2_bestForMouse 30 = .ok (.getfield 30, 3) := by decide +kernel
theorem dX2_bestForMouse_33 : decode cX2_bestForMouse 33 = .ok (.iload_n 3, 1) := by decide +kernel
theorem dX2_bestForMouse_34 : decode cX2_bestForMouse 34 = .ok (.invokevirtual 124, 3) := by decide +kernel
theorem dX2_bestForMouse_37 : decode cX2_bestForMouse 37 = .ok (.ifCond .eq 41, 3) := by decide +kernel
theorem dX2_bestForMouse_40 : decode cX2_bestForMouse 40 = .ok (.aload_n 0, 1) := by decide +kernel
theorem dX2_bestForMouse_41 : decode cX2_bestForMouse 41 = .ok (.getfield 19, 3) := by decide +kernel
theorem dX2_bestForMouse_44 : decode cX2_bestForMouse 44 = .ok (.aload_n 0, 1) := by decide +kernel
theorem dX2_bestForMouse_45 : decode cX2_bestForMouse 45 = .ok (.iconst 1, 1) := by decide +kernel
theorem dX2_bestForMouse_46 : decode cX2_bestForMouse 46 = .ok (.invokevirtual 117, 3) := by decide +kernel
theorem dX2_bestForMouse_49 : decode cX2_bestForMouse 49 = .ok (.aload_n 0, 1) := by decide +kernel
theorem dX2_bestForMouse_50 : decode cX2_bestForMouse 50 = .ok (.getfield 26, 3) := by decide +kernel
theorem dX2_bestForMouse_53 : decode cX2_bestForMouse 53 = .ok (.iload_n 3, 1) := by decide +kernel
theorem dX2_bestForMouse_54 : decode cX2_bestForMouse 54 = .ok (.invokevirtual 282, 3) := by decide +kernel
theorem dX2_bestForMouse_57 : decode cX2_bestForMouse 57 = .ok (.istore 4, 2) := by decide +kernel
theorem dX2_bestForMouse_59 : decode cX2_bestForMouse 59 = .ok (.iload 4, 2) := by decide +kernel
theorem dX2_bestForMouse_61 : decode cX2_bestForMouse 61 = .ok (.iconst (-1), 1) := by decide +kernel
theorem dX2_bestForMouse_62 : decode cX2_bestForMouse 62 = .ok (.if_icmp .ne 5, 3) := by decide +kernel
theorem dX2_bestForMouse_65 : decode cX2_bestForMouse 65 = .ok (.iload_n 3, 1) := by decide +kernel
theorem dX2_bestForMouse_66 : decode cX2_bestForMouse 66 = .ok (.ireturn, 1) := by decide +kernel
theorem dX2_bestForMouse_67 : decode cX2_bestForMouse 67 = .ok (.iload 4, 2) := by decide +kernel
theorem dX2_bestForMouse_69 : decode cX2_bestForMouse 69 = .ok (.iload_n 2, 1) := by decide +kernel
theorem dX2_bestForMouse_70 : decode cX2_bestForMouse 70 = .ok (.if_icmp .le 8, 3) := by decide +kernel
theorem dX2_bestForMouse_73 : decode cX2_bestForMouse 73 = .ok (.iload 4, 2) := by decide +kernel
theorem dX2_bestForMouse_75 : decode cX2_bestForMouse 75 = .ok (.istore_n 2, 1) := by decide +kernel
theorem dX2_bestForMouse_76 : decode cX2_bestForMouse 76 = .ok (.iload_n 3, 1) := by decide +kernel
theorem dX2_bestForMouse_77 : decode cX2_bestForMouse 77 = .ok (.istore_n 1, 1) := by decide +kernel
theorem dX2_bestForMouse_78 : decode cX2_bestForMouse 78 = .ok (.iinc 3 1, 3) := by decide +kernel
theorem dX2_bestForMouse_81 : decode cX2_bestForMouse 81 = .ok (.goto (-72), 3) := by decide +kernel
theorem dX2_bestForMouse_84 : decode cX2_bestForMouse 84 = .ok (.iload_n 1, 1) := by decide +kernel
theorem dX2_bestForMouse_85 : decode cX2_bestForMouse 85 = .ok (.ireturn, 1) := by decide +kernel
set_option maxRecDepth 20000 in
theorem ggX2_soonestForCat_X2_phaseAfter : GoodIn wsX2_soonestForCat wsX2_phaseAfter := goodIn_r _ [10, 11, 12, 13, 14, 15, 32, 33, 34, 35, 36, 37, 38, 39, 40] (by decide +kernel) (by decide +kernel)
set_option maxRecDepth 20000 in
theorem gX2_soonestForCat_X2_phaseAfter : GoodIn wsX2_soonestForCat (wsV RX2 117 RX2 yX2_phaseAfter wsX2_phaseAfter) := goodIn_app (goodIn_of _ (by decide +kernel)) ggX2_soonestForCat_X2_phaseAfter
set_option maxRecDepth 20000 in
theorem ggX2_soonestForCat_X1_canGo : GoodIn wsX2_soonestForCat wsX1_canGo := goodIn_r _ [20, 21, 22, 23, 19, 24, 25, 9, 26, 50, 51, 52, 53] (by decide +kernel) (by decide +kernel)
set_option maxRecDepth 20000 in
theorem gX2_soonestForCat_X1_canGo : GoodIn wsX2_soonestForCat (wsV RX2 124 RX1 yX1_canGo wsX1_canGo) := goodIn_app (goodIn_of _ (by decide +kernel)) ggX2_soonestForCat_X1_canGo
set_option maxRecDepth 20000 in
theorem ggX2_soonestForCat_X1_turnsToCatchFrom : GoodIn wsX2_soonestForCat wsX1_turnsToCatchFrom := goodIn_r _ [30, 31, 22, 23, 19, 24, 50, 51, 52, 53] (by decide +kernel) (by decide +kernel)
set_option maxRecDepth 20000 in
theorem gX2_soonestForCat_X1_turnsToCatchFrom : GoodIn wsX2_soonestForCat (wsV RX2 282 RX1 yX1_turnsToCatchFrom wsX1_turnsToCatchFrom) := goodIn_app (goodIn_of _ (by decide +kernel)) ggX2_soonestForCat_X1_turnsToCatchFrom
theorem dX2_soonestForCat_0 : decode cX2_soonestForCat 0 = .ok (.iconst (-1), 1) := by decide +kernel
theorem dX2_soonestForCat_1 : decode cX2_soonestForCat 1 = .ok (.istore_n 1, 1) := by decide +kernel
theorem dX2_soonestForCat_2 : decode cX2_soonestForCat 2 = .ok (.iconst (-1), 1) := by decide +kernel
theorem dX2_soonestForCat_3 : decode cX2_soonestForCat 3 = .ok (.istore_n 2, 1) := by decide +kernel
theorem dX2_soonestForCat_4 : decode cX2_soonestForCat 4 = .ok (.iconst 0, 1) := by decide +kernel
theorem dX2_soonestForCat_5 : decode cX2_soonestForCat 5 = .ok (.istore_n 3, 1) := by decide +kernel
theorem dX2_soonestForCat_6 : decode cX2_soonestForCat 6 = .ok (.iload_n 3, 1) := by decide +kernel
theorem dX2_soonestForCat_7 : decode cX2_soonestForCat 7 = .ok (.aload_n 0, 1) := by decide +kernel
theorem dX2_soonestForCat_8 : decode cX2_soonestForCat 8 = .ok (.getfield 10, 3) := by decide +kernel
theorem dX2_soonestForCat_11 : decode cX2_soonestForCat 11 = .ok (.getfield 33, 3) := by decide +kernel
theorem dX2_soonestForCat_14 : decode cX2_soonestForCat 14 = .ok (.if_icmp .ge 70, 3) := by decide +kernel
theorem dX2_soonestForCat_17 : decode cX2_soonestForCat 17 = .ok (.aload_n 0, 1) := by decide +kernel
theorem dX2_soonestForCat_18 : decode cX2_soonestForCat 18 = .ok (.getfield 19, 3) := by decide +kernel
theorem dX2_soonestForCat_21 : decode cX2_soonestForCat 21 = .ok (.aload_n 0, 1) := by decide +kernel
theorem dX2_soonestForCat_22 : decode cX2_soonestForCat 22 = .ok (.iconst 0, 1) := by decide +kernel
theorem dX2_soonestForCat_23 : decode cX2_soonestForCat 23 = .ok (.invokevirtual 117, 3) := by decide +kernel
theorem dX2_soonestForCat_26 : decode cX2_soonestForCat 26 = .ok (.aload_n 0, 1) := by decide +kernel
theorem dX2_soonestForCat_27 : decode cX2_soonestForCat 27 = .ok (.getfield 26, 3) := by decide +kernel
theorem dX2_soonestForCat_30 : decode cX2_soonestForCat 30 = .ok (.iload_n 3, 1) := by decide +kernel
theorem dX2_soonestForCat_31 : decode cX2_soonestForCat 31 = .ok (.invokevirtual 124, 3) := by decide +kernel
theorem dX2_soonestForCat_34 : decode cX2_soonestForCat 34 = .ok (.ifCond .eq 44, 3) := by decide +kernel
theorem dX2_soonestForCat_37 : decode cX2_soonestForCat 37 = .ok (.aload_n 0, 1) := by decide +kernel
theorem dX2_soonestForCat_38 : decode cX2_soonestForCat 38 = .ok (.getfield 19, 3) := by decide +kernel
theorem dX2_soonestForCat_41 : decode cX2_soonestForCat 41 = .ok (.aload_n 0, 1) := by decide +kernel
theorem dX2_soonestForCat_42 : decode cX2_soonestForCat 42 = .ok (.iconst 1, 1) := by decide +kernel
theorem dX2_soonestForCat_43 : decode cX2_soonestForCat 43 = .ok (.invokevirtual 117, 3) := by decide +kernel
theorem dX2_soonestForCat_46 : decode cX2_soonestForCat 46 = .ok (.iload_n 3, 1) := by decide +kernel
theorem dX2_soonestForCat_47 : decode cX2_soonestForCat 47 = .ok (.aload_n 0, 1) := by decide +kernel
theorem dX2_soonestForCat_48 : decode cX2_soonestForCat 48 = .ok (.getfield 30, 3) := by decide +kernel
theorem dX2_soonestForCat_51 : decode cX2_soonestForCat 51 = .ok (.invokevirtual 282, 3) := by decide +kernel
theorem dX2_soonestForCat_54 : decode cX2_soonestForCat 54 = .ok (.istore 4, 2) := by decide +kernel
theorem dX2_soonestForCat_56 : decode cX2_soonestForCat 56 = .ok (.iload 4, 2) := by decide +kernel
theorem dX2_soonestForCat_58 : decode cX2_soonestForCat 58 = .ok (.iconst (-1), 1) := by decide +kernel
theorem dX2_soonestForCat_59 : decode cX2_soonestForCat 59 = .ok (.if_icmp .eq 19, 3) := by decide +kernel
theorem dX2_soonestForCat_62 : decode cX2_soonestForCat 62 = .ok (.iload_n 1, 1) := by decide +kernel
theorem dX2_soonestForCat_63 : decode cX2_soonestForCat 63 = .ok (.iconst (-1), 1) := by decide +kernel
theorem dX2_soonestForCat_64 : decode cX2_soonestForCat 64 = .ok (.if_icmp .eq 9, 3) := by decide +kernel
theorem dX2_soonestForCat_67 : decode cX2_soonestForCat 67 = .ok (.iload 4, 2) := by decide +kernel
theorem dX2_soonestForCat_69 : decode cX2_soonestForCat 69 = .ok (.iload_n 2, 1) := by decide +kernel
theorem dX2_soonestForCat_70 : decode cX2_soonestForCat 70 = .ok (.if_icmp .ge 8, 3) := by decide +kernel
theorem dX2_soonestForCat_73 : decode cX2_soonestForCat 73 = .ok (.iload 4, 2) := by decide +kernel
theorem dX2_soonestForCat_75 : decode cX2_soonestForCat 75 = .ok (.istore_n 2, 1) := by decide +kernel
theorem dX2_soonestForCat_76 : decode cX2_soonestForCat 76 = .ok (.iload_n 3, 1) := by decide +kernel
theorem dX2_soonestForCat_77 : decode cX2_soonestForCat 77 = .ok (.istore_n 1, 1) := by decide +kernel
theorem dX2_soonestForCat_78 : decode cX2_soonestForCat 78 = .ok (.iinc 3 1, 3) := by decide +kernel
theorem dX2_soonestForCat_81 : decode cX2_soonestForCat 81 = .ok (.goto (-75), 3) := by decide +kernel
theorem dX2_soonestForCat_84 : decode cX2_soonestForCat 84 = .ok (.iload_n 1, 1) := by decide +kernel
theorem dX2_soonestForCat_85 : decode cX2_soonestForCat 85 = .ok (.ireturn, 1) := by decide +kernel
set_option maxRecDepth 20000 in
theorem ggX2_nearestForCat_X2_phaseAfter : GoodIn wsX2_nearestForCat wsX2_phaseAfter := goodIn_r _ [10, 11, 12, 13, 14, 15, 42, 43, 44, 45, 46, 47, 48, 49, 50] (by decide +kernel) (by decide +kernel)
set_option maxRecDepth 20000 in
theorem gX2_nearestForCat_X2_phaseAfter : GoodIn wsX2_nearestForCat (wsV RX2 117 RX2 yX2_phaseAfter wsX2_phaseAfter) := goodIn_app (goodIn_of _ (by decide +kernel)) ggX2_nearestForCat_X2_phaseAfter
set_option maxRecDepth 20000 in
theorem ggX2_nearestForCat_X1_canGo : GoodIn wsX2_nearestForCat wsX1_canGo := goodIn_r _ [20, 21, 22, 23, 19, 24, 25, 9, 26, 60, 61, 62, 63] (by decide +kernel) (by decide +kernel)
set_option maxRecDepth 20000 in
theorem gX2_nearestForCat_X1_canGo : GoodIn wsX2_nearestForCat (wsV RX2 124 RX1 yX1_canGo wsX1_canGo) := goodIn_app (goodIn_of _ (by decide +kernel)) ggX2_nearestForCat_X1_canGo
set_option maxRecDepth 20000 in
theorem ggX2_nearestForCat_X0_doorsFrom : GoodIn wsX2_nearestForCat wsX0_doorsFrom := goodIn_r _ [31, 32, 9, 33, 25, 26, 34, 35, 36, 30, 37, 38, 39, 40, 41, 51, 52, 53, 54, 55, 56, 57, 58, 59] (by decide +kernel) (by decide +kernel)
set_option maxRecDepth 20000 in
theorem gX2_nearestForCat_X0_doorsFrom : GoodIn wsX2_nearestForCat (wsV RX2 152 RX0 yX0_doorsFrom wsX0_doorsFrom) := goodIn_app (goodIn_of _ (by decide +kernel)) ggX2_nearestForCat_X0_doorsFrom
theorem dX2_nearestForCat_0 : decode cX2_nearestForCat 0 = .ok (.aload_n 0, 1) := by decide +kernel
theorem dX2_nearestForCat_1 : decode cX2_nearestForCat 1 = .ok (.getfield 26, 3) := by decide +kernel
theorem dX2_nearestForCat_4 : decode cX2_nearestForCat 4 = .ok (.istore_n 1, 1) := by decide +kernel
theorem dX2_nearestForCat_5 : decode cX2_nearestForCat 5 = .ok (.bipush 9, 2) := by decide +kernel
theorem dX2_nearestForCat_7 : decode cX2_nearestForCat 7 = .ok (.istore_n 2, 1) := by decide +kernel
theorem dX2_nearestForCat_8 : decode cX2_nearestForCat 8 = .ok (.iconst 0, 1) := by decide +kernel
theorem dX2_nearestForCat_9 : decode cX2_nearestForCat 9 = .ok (.istore_n 3, 1) := by decide +kernel
theorem dX2_nearestForCat_10 : decode cX2_nearestForCat 10 = .ok (.iload_n 3, 1) := by decide +kernel
theorem dX2_nearestForCat_11 : decode cX2_nearestForCat 11 = .ok (.aload_n 0, 1) := by decide +kernel
theorem dX2_nearestForCat_12 : decode cX2_nearestForCat 12 = .ok (.getfield 10, 3) := by decide +kernel
theorem dX2_nearestForCat_15 : decode cX2_nearestForCat 15 = .ok (.getfield 33, 3) := by decide +kernel
theorem dX2_nearestForCat_18 : decode cX2_nearestForCat 18 = .ok (.if_icmp .ge 69, 3) := by decide +kernel
theorem dX2_nearestForCat_21 : decode cX2_nearestForCat 21 = .ok (.aload_n 0, 1) := by decide +kernel
theorem dX2_nearestForCat_22 : decode cX2_nearestForCat 22 = .ok (.getfield 19, 3) := by decide +kernel
theorem dX2_nearestForCat_25 : decode cX2_nearestForCat 25 = .ok (.aload_n 0, 1) := by decide +kernel
theorem dX2_nearestForCat_26 : decode cX2_nearestForCat 26 = .ok (.iconst 0, 1) := by decide +kernel
theorem dX2_nearestForCat_27 : decode cX2_nearestForCat 27 = .ok (.invokevirtual 117, 3) := by decide +kernel
theorem dX2_nearestForCat_30 : decode cX2_nearestForCat 30 = .ok (.aload_n 0, 1) := by decide +kernel
theorem dX2_nearestForCat_31 : decode cX2_nearestForCat 31 = .ok (.getfield 26, 3) := by decide +kernel
theorem dX2_nearestForCat_34 : decode cX2_nearestForCat 34 = .ok (.iload_n 3, 1) := by decide +kernel
theorem dX2_nearestForCat_35 : decode cX2_nearestForCat 35 = .ok (.invokevirtual 124, 3) := by decide +kernel
theorem dX2_nearestForCat_38 : decode cX2_nearestForCat 38 = .ok (.ifCond .eq 43, 3) := by decide +kernel
theorem dX2_nearestForCat_41 : decode cX2_nearestForCat 41 = .ok (.aload_n 0, 1) := by decide +kernel
theorem dX2_nearestForCat_42 : decode cX2_nearestForCat 42 = .ok (.getfield 10, 3) := by decide +kernel
theorem dX2_nearestForCat_45 : decode cX2_nearestForCat 45 = .ok (.iload_n 3, 1) := by decide +kernel
theorem dX2_nearestForCat_46 : decode cX2_nearestForCat 46 = .ok (.aload_n 0, 1) := by decide +kernel
theorem dX2_nearestForCat_47 : decode cX2_nearestForCat 47 = .ok (.getfield 30, 3) := by decide +kernel
theorem dX2_nearestForCat_50 : decode cX2_nearestForCat 50 = .ok (.invokevirtual 152, 3) := by decide +kernel
theorem dX2_nearestForCat_53 : decode cX2_nearestForCat 53 = .ok (.istore 4, 2) := by decide +kernel
theorem dX2_nearestForCat_55 : decode cX2_nearestForCat 55 = .ok (.iload 4, 2) := by decide +kernel
theorem dX2_nearestForCat_57 : decode cX2_nearestForCat 57 = .ok (.iconst (-1), 1) := by decide +kernel
theorem dX2_nearestForCat_58 : decode cX2_nearestForCat 58 = .ok (.if_icmp .ne 8, 3) := by decide +kernel
theorem dX2_nearestForCat_61 : decode cX2_nearestForCat 61 = .ok (.bipush 8, 2) := by decide +kernel
theorem dX2_nearestForCat_63 : decode cX2_nearestForCat 63 = .ok (.goto 5, 3) := by decide +kernel
theorem dX2_nearestForCat_66 : decode cX2_nearestForCat 66 = .ok (.iload 4, 2) := by decide +kernel
theorem dX2_nearestForCat_68 : decode cX2_nearestForCat 68 = .ok (.istore 5, 2) := by decide +kernel
theorem dX2_nearestForCat_70 : decode cX2_nearestForCat 70 = .ok (.iload 5, 2) := by decide +kernel
theorem dX2_nearestForCat_72 : decode cX2_nearestForCat 72 = .ok (.iload_n 2, 1) := by decide +kernel
theorem dX2_nearestForCat_73 : decode cX2_nearestForCat 73 = .ok (.if_icmp .ge 8, 3) := by decide +kernel
theorem dX2_nearestForCat_76 : decode cX2_nearestForCat 76 = .ok (.iload 5, 2) := by decide +kernel
theorem dX2_nearestForCat_78 : decode cX2_nearestForCat 78 = .ok (.istore_n 2, 1) := by decide +kernel
theorem dX2_nearestForCat_79 : decode cX2_nearestForCat 79 = .ok (.iload_n 3, 1) := by decide +kernel
theorem dX2_nearestForCat_80 : decode cX2_nearestForCat 80 = .ok (.istore_n 1, 1) := by decide +kernel
theorem dX2_nearestForCat_81 : decode cX2_nearestForCat 81 = .ok (.iinc 3 1, 3) := by decide +kernel
theorem dX2_nearestForCat_84 : decode cX2_nearestForCat 84 = .ok (.goto (-74), 3) := by decide +kernel
theorem dX2_nearestForCat_87 : decode cX2_nearestForCat 87 = .ok (.iload_n 1, 1) := by decide +kernel
theorem dX2_nearestForCat_88 : decode cX2_nearestForCat 88 = .ok (.ireturn, 1) := by decide +kernel
theorem dX2_bit_0 : decode cX2_bit 0 = .ok (.iconst 1, 1) := by decide +kernel
theorem dX2_bit_1 : decode cX2_bit 1 = .ok (.iload_n 0, 1) := by decide +kernel
theorem dX2_bit_2 : decode cX2_bit 2 = .ok (.ishl, 1) := by decide +kernel
theorem dX2_bit_3 : decode cX2_bit 3 = .ok (.ireturn, 1) := by decide +kernel
theorem dX2_holds_0 : decode cX2_holds 0 = .ok (.iload_n 0, 1) := by decide +kernel
theorem dX2_holds_1 : decode cX2_holds 1 = .ok (.iload_n 1, 1) := by decide +kernel
theorem dX2_holds_2 : decode cX2_holds 2 = .ok (.ishr, 1) := by decide +kernel
theorem dX2_holds_3 : decode cX2_holds 3 = .ok (.iconst 1, 1) := by decide +kernel
theorem dX2_holds_4 : decode cX2_holds 4 = .ok (.iand, 1) := by decide +kernel
theorem dX2_holds_5 : decode cX2_holds 5 = .ok (.iconst 1, 1) := by decide +kernel
theorem dX2_holds_6 : decode cX2_holds 6 = .ok (.if_icmp .ne 7, 3) := by decide +kernel
theorem dX2_holds_9 : decode cX2_holds 9 = .ok (.iconst 1, 1) := by decide +kernel
theorem dX2_holds_10 : decode cX2_holds 10 = .ok (.goto 4, 3) := by decide +kernel
theorem dX2_holds_13 : decode cX2_holds 13 = .ok (.iconst 0, 1) := by decide +kernel
theorem dX2_holds_14 : decode cX2_holds 14 = .ok (.ireturn, 1) := by decide +kernel
theorem dJ9_floorMod_7cf53_0 : decode cJ9_floorMod_7cf53 0 = .ok (.iload_n 0, 1) := by decide +kernel
theorem dJ9_floorMod_7cf53_1 : decode cJ9_floorMod_7cf53 1 = .ok (.iload_n 1, 1) := by decide +kernel
theorem dJ9_floorMod_7cf53_2 : decode cJ9_floorMod_7cf53 2 = .ok (.irem, 1) := by decide +kernel
theorem dJ9_floorMod_7cf53_3 : decode cJ9_floorMod_7cf53 3 = .ok (.istore_n 2, 1) := by decide +kernel
theorem dJ9_floorMod_7cf53_4 : decode cJ9_floorMod_7cf53 4 = .ok (.iload_n 0, 1) := by decide +kernel
theorem dJ9_floorMod_7cf53_5 : decode cJ9_floorMod_7cf53 5 = .ok (.iload_n 1, 1) := by decide +kernel
theorem dJ9_floorMod_7cf53_6 : decode cJ9_floorMod_7cf53 6 = .ok (.ixor, 1) := by decide +kernel
theorem dJ9_floorMod_7cf53_7 : decode cJ9_floorMod_7cf53 7 = .ok (.ifCond .ge 11, 3) := by decide +kernel
theorem dJ9_floorMod_7cf53_10 : decode cJ9_floorMod_7cf53 10 = .ok (.iload_n 2, 1) := by decide +kernel
theorem dJ9_floorMod_7cf53_11 : decode cJ9_floorMod_7cf53 11 = .ok (.ifCond .eq 7, 3) := by decide +kernel
theorem dJ9_floorMod_7cf53_14 : decode cJ9_floorMod_7cf53 14 = .ok (.iload_n 2, 1) := by decide +kernel
theorem dJ9_floorMod_7cf53_15 : decode cJ9_floorMod_7cf53 15 = .ok (.iload_n 1, 1) := by decide +kernel
theorem dJ9_floorMod_7cf53_16 : decode cJ9_floorMod_7cf53 16 = .ok (.iadd, 1) := by decide +kernel
theorem dJ9_floorMod_7cf53_17 : decode cJ9_floorMod_7cf53 17 = .ok (.ireturn, 1) := by decide +kernel
theorem dJ9_floorMod_7cf53_18 : decode cJ9_floorMod_7cf53 18 = .ok (.iload_n 2, 1) := by decide +kernel
theorem dJ9_floorMod_7cf53_19 : decode cJ9_floorMod_7cf53 19 = .ok (.ireturn, 1) := by decide +kernel
theorem dJ9_max_7cf53_0 : decode cJ9_max_7cf53 0 = .ok (.iload_n 0, 1) := by decide +kernel
theorem dJ9_max_7cf53_1 : decode cJ9_max_7cf53 1 = .ok (.iload_n 1, 1) := by decide +kernel
theorem dJ9_max_7cf53_2 : decode cJ9_max_7cf53 2 = .ok (.if_icmp .lt 7, 3) := by decide +kernel
theorem dJ9_max_7cf53_5 : decode cJ9_max_7cf53 5 = .ok (.iload_n 0, 1) := by decide +kernel
theorem dJ9_max_7cf53_6 : decode cJ9_max_7cf53 6 = .ok (.goto 4, 3) := by decide +kernel
theorem dJ9_max_7cf53_9 : decode cJ9_max_7cf53 9 = .ok (.iload_n 1, 1) := by decide +kernel
theorem dJ9_max_7cf53_10 : decode cJ9_max_7cf53 10 = .ok (.ireturn, 1) := by decide +kernel
