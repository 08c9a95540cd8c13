set_option maxRecDepth 20000 in
theorem ggX2_has_X4_within : GoodIn wsX2_has wsX4_within := goodIn_r _ [4] (by decide +kernel) (by decide +kernel)
set_option maxRecDepth 20000 in
theorem gX2_has_X4_within_n25 : GoodIn wsX2_has (wsX4_within) := ggX2_has_X4_within
set_option maxRecDepth 20000 in
theorem ggX2_hasRoomFor_X2_joinsNewest : GoodIn wsX2_hasRoomFor wsX2_joinsNewest := goodIn_r _ [6, 1, 7, 8, 9, 10, 11, 12] (by decide +kernel) (by decide +kernel)
set_option maxRecDepth 20000 in
theorem gX2_hasRoomFor_X2_joinsNewest : GoodIn wsX2_hasRoomFor (wsV RX2 29 RX2 yX2_joinsNewest wsX2_joinsNewest) := goodIn_app (goodIn_of _ (by decide +kernel)) ggX2_hasRoomFor_X2_joinsNewest
set_option maxRecDepth 20000 in
theorem ggX2_put_X2_joinsNewest : GoodIn wsX2_put wsX2_joinsNewest := goodIn_r _ [9, 2, 3, 4, 10, 11, 12, 13] (by decide +kernel) (by decide +kernel)
set_option maxRecDepth 20000 in
theorem gX2_put_X2_joinsNewest : GoodIn wsX2_put (wsV RX2 29 RX2 yX2_joinsNewest wsX2_joinsNewest) := goodIn_app (goodIn_of _ (by decide +kernel)) ggX2_put_X2_joinsNewest
theorem dX2_init_0 : decode cX2_init 0 = .ok (.aload_n 0, 1) := by decide +kernel
theorem dX2_init_1 : decode cX2_init 1 = .ok (.invokespecial 3, 3) := by decide +kernel
theorem dX2_init_4 : decode cX2_init 4 = .ok (.aload_n 0, 1) := by decide +kernel
theorem dX2_init_5 : decode cX2_init 5 = .ok (.bipush 16, 2) := by decide +kernel
theorem dX2_init_7 : decode cX2_init 7 = .ok (.newarray .int, 2) := by decide +kernel
theorem dX2_init_9 : decode cX2_init 9 = .ok (.putfield 9, 3) := by decide +kernel
theorem dX2_init_12 : decode cX2_init 12 = .ok (.aload_n 0, 1) := by decide +kernel
theorem dX2_init_13 : decode cX2_init 13 = .ok (.bipush 16, 2) := by decide +kernel
theorem dX2_init_15 : decode cX2_init 15 = .ok (.newarray .int, 2) := by decide +kernel
theorem dX2_init_17 : decode cX2_init 17 = .ok (.putfield 15, 3) := by decide +kernel
theorem dX2_init_20 : decode cX2_init 20 = .ok (.aload_n 0, 1) := by decide +kernel
theorem dX2_init_21 : decode cX2_init 21 = .ok (.bipush 16, 2) := by decide +kernel
theorem dX2_init_23 : decode cX2_init 23 = .ok (.newarray .int, 2) := by decide +kernel
theorem dX2_init_25 : decode cX2_init 25 = .ok (.putfield 18, 3) := by decide +kernel
theorem dX2_init_28 : decode cX2_init 28 = .ok (.return_, 1) := by decide +kernel
theorem dX2_has_0 : decode cX2_has 0 = .ok (.iload_n 1, 1) := by decide +kernel
theorem dX2_has_1 : decode cX2_has 1 = .ok (.iconst 0, 1) := by decide +kernel
theorem dX2_has_2 : decode cX2_has 2 = .ok (.aload_n 0, 1) := by decide +kernel
theorem dX2_has_3 : decode cX2_has 3 = .ok (.getfield 21, 3) := by decide +kernel
theorem dX2_has_6 : decode cX2_has 6 = .ok (.iconst 1, 1) := by decide +kernel
theorem dX2_has_7 : decode cX2_has 7 = .ok (.isub, 1) := by decide +kernel
theorem dX2_has_8 : decode cX2_has 8 = .ok (.invokestatic 25, 3) := by decide +kernel
theorem dX2_has_11 : decode cX2_has 11 = .ok (.ireturn, 1) := by decide +kernel
theorem dX2_hasRoomFor_0 : decode cX2_hasRoomFor 0 = .ok (.aload_n 0, 1) := by decide +kernel
theorem dX2_hasRoomFor_1 : decode cX2_hasRoomFor 1 = .ok (.getfield 21, 3) := by decide +kernel
theorem dX2_hasRoomFor_4 : decode cX2_hasRoomFor 4 = .ok (.bipush 16, 2) := by decide +kernel
theorem dX2_hasRoomFor_6 : decode cX2_hasRoomFor 6 = .ok (.if_icmp .lt 12, 3) := by decide +kernel
theorem dX2_hasRoomFor_9 : decode cX2_hasRoomFor 9 = .ok (.aload_n 0, 1) := by decide +kernel
theorem dX2_hasRoomFor_10 : decode cX2_hasRoomFor 10 = .ok (.iload_n 1, 1) := by decide +kernel
theorem dX2_hasRoomFor_11 : decode cX2_hasRoomFor 11 = .ok (.iload_n 2, 1) := by decide +kernel
theorem dX2_hasRoomFor_12 : decode cX2_hasRoomFor 12 = .ok (.invokevirtual 29, 3) := by decide +kernel
theorem dX2_hasRoomFor_15 : decode cX2_hasRoomFor 15 = .ok (.ifCond .eq 7, 3) := by decide +kernel
theorem dX2_hasRoomFor_18 : decode cX2_hasRoomFor 18 = .ok (.iconst 1, 1) := by decide +kernel
theorem dX2_hasRoomFor_19 : decode cX2_hasRoomFor 19 = .ok (.goto 4, 3) := by decide +kernel
theorem dX2_hasRoomFor_22 : decode cX2_hasRoomFor 22 = .ok (.iconst 0, 1) := by decide +kernel
theorem dX2_hasRoomFor_23 : decode cX2_hasRoomFor 23 = .ok (.ireturn, 1) := by decide +kernel
theorem dX2_put_0 : decode cX2_put 0 = .ok (.aload_n 0, 1) := by decide +kernel
theorem dX2_put_1 : decode cX2_put 1 = .ok (.iload_n 2, 1) := by decide +kernel
theorem dX2_put_2 : decode cX2_put 2 = .ok (.iload_n 3, 1) := by decide +kernel
theorem dX2_put_3 : decode cX2_put 3 = .ok (.invokevirtual 29, 3) := by decide +kernel
theorem dX2_put_6 : decode cX2_put 6 = .ok (.ifCond .eq 21, 3) := by decide +kernel
theorem dX2_put_9 : decode cX2_put 9 = .ok (.aload_n 0, 1) := by decide +kernel
theorem dX2_put_10 : decode cX2_put 10 = .ok (.getfield 9, 3) := by decide +kernel
theorem dX2_put_13 : decode cX2_put 13 = .ok (.aload_n 0, 1) := by decide +kernel
theorem dX2_put_14 : decode cX2_put 14 = .ok (.getfield 21, 3) := by decide +kernel
theorem dX2_put_17 : decode cX2_put 17 = .ok (.iconst 1, 1) := by decide +kernel
theorem dX2_put_18 : decode cX2_put 18 = .ok (.isub, 1) := by decide +kernel
theorem dX2_put_19 : decode cX2_put 19 = .ok (.dup2, 1) := by decide +kernel
theorem dX2_put_20 : decode cX2_put 20 = .ok (.iaload, 1) := by decide +kernel
theorem dX2_put_21 : decode cX2_put 21 = .ok (.iload_n 1, 1) := by decide +kernel
theorem dX2_put_22 : decode cX2_put 22 = .ok (.iadd, 1) := by decide +kernel
theorem dX2_put_23 : decode cX2_put 23 = .ok (.iastore, 1) := by decide +kernel
theorem dX2_put_24 : decode cX2_put 24 = .ok (.goto 52, 3) := by decide +kernel
theorem dX2_put_27 : decode cX2_put 27 = .ok (.aload_n 0, 1) := by decide +kernel
theorem dX2_put_28 : decode cX2_put 28 = .ok (.getfield 21, 3) := by decide +kernel
theorem dX2_put_31 : decode cX2_put 31 = .ok (.bipush 16, 2) := by decide +kernel
theorem dX2_put_33 : decode cX2_put 33 = .ok (.if_icmp .ge 43, 3) := by decide +kernel
theorem dX2_put_36 : decode cX2_put 36 = .ok (.aload_n 0, 1) := by decide +kernel
theorem dX2_put_37 : decode cX2_put 37 = .ok (.getfield 9, 3) := by decide +kernel
theorem dX2_put_40 : decode cX2_put 40 = .ok (.aload_n 0, 1) := by decide +kernel
theorem dX2_put_41 : decode cX2_put 41 = .ok (.getfield 21, 3) := by decide +kernel
theorem dX2_put_44 : decode cX2_put 44 = .ok (.iload_n 1, 1) := by decide +kernel
theorem dX2_put_45 : decode cX2_put 45 = .ok (.iastore, 1) := by decide +kernel
theorem dX2_put_46 : decode cX2_put 46 = .ok (.aload_n 0, 1) := by decide +kernel
theorem dX2_put_47 : decode cX2_put 47 = .ok (.getfield 15, 3) := by decide +kernel
theorem dX2_put_50 : decode cX2_put 50 = .ok (.aload_n 0, 1) := by decide +kernel
theorem dX2_put_51 : decode cX2_put 51 = .ok (.getfield 21, 3) := by decide +kernel
theorem dX2_put_54 : decode cX2_put 54 = .ok (.iload_n 2, 1) := by decide +kernel
theorem dX2_put_55 : decode cX2_put 55 = .ok (.iastore, 1) := by decide +kernel
theorem dX2_put_56 : decode cX2_put 56 = .ok (.aload_n 0, 1) := by decide +kernel
theorem dX2_put_57 : decode cX2_put 57 = .ok (.getfield 18, 3) := by decide +kernel
theorem dX2_put_60 : decode cX2_put 60 = .ok (.aload_n 0, 1) := by decide +kernel
theorem dX2_put_61 : decode cX2_put 61 = .ok (.getfield 21, 3) := by decide +kernel
theorem dX2_put_64 : decode cX2_put 64 = .ok (.iload_n 3, 1) := by decide +kernel
theorem dX2_put_65 : decode cX2_put 65 = .ok (.iastore, 1) := by decide +kernel
theorem dX2_put_66 : decode cX2_put 66 = .ok (.aload_n 0, 1) := by decide +kernel
theorem dX2_put_67 : decode cX2_put 67 = .ok (.dup, 1) := by decide +kernel
theorem dX2_put_68 : decode cX2_put 68 = .ok (.getfield 21, 3) := by decide +kernel
theorem dX2_put_71 : decode cX2_put 71 = .ok (.iconst 1, 1) := by decide +kernel
theorem dX2_put_72 : decode cX2_put 72 = .ok (.iadd, 1) := by decide +kernel
theorem dX2_put_73 : decode cX2_put 73 = .ok (.putfield 21, 3) := by decide +kernel
theorem dX2_put_76 : decode cX2_put 76 = .ok (.return_, 1) := by decide +kernel
theorem dX2_remove_0 : decode cX2_remove 0 = .ok (.iload_n 1, 1) := by decide +kernel
theorem dX2_remove_1 : decode cX2_remove 1 = .ok (.istore_n 2, 1) := by decide +kernel
theorem dX2_remove_2 : decode cX2_remove 2 = .ok (.aload_n 0, 1) := by decide +kernel
theorem dX2_remove_3 : decode cX2_remove 3 = .ok (.getfield 21, 3) := by decide +kernel
theorem dX2_remove_6 : decode cX2_remove 6 = .ok (.iconst 1, 1) := by decide +kernel
theorem dX2_remove_7 : decode cX2_remove 7 = .ok (.isub, 1) := by decide +kernel
theorem dX2_remove_8 : decode cX2_remove 8 = .ok (.istore_n 3, 1) := by decide +kernel
theorem dX2_remove_9 : decode cX2_remove 9 = .ok (.iload_n 3, 1) := by decide +kernel
theorem dX2_remove_10 : decode cX2_remove 10 = .ok (.ifCond .lt 55, 3) := by decide +kernel
theorem dX2_remove_13 : decode cX2_remove 13 = .ok (.iload_n 2, 1) := by decide +kernel
theorem dX2_remove_14 : decode cX2_remove 14 = .ok (.ifCond .le 51, 3) := by decide +kernel
theorem dX2_remove_17 : decode cX2_remove 17 = .ok (.iload_n 2, 1) := by decide +kernel
theorem dX2_remove_18 : decode cX2_remove 18 = .ok (.aload_n 0, 1) := by decide +kernel
theorem dX2_remove_19 : decode cX2_remove 19 = .ok (.getfield 9, 3) := by decide +kernel
theorem dX2_remove_22 : decode cX2_remove 22 = .ok (.iload_n 3, 1) := by decide +kernel
theorem dX2_remove_23 : decode cX2_remove 23 = .ok (.iaload, 1) := by decide +kernel
theorem dX2_remove_24 : decode cX2_remove 24 = .ok (.invokestatic 33, 3) := by decide +kernel
theorem dX2_remove_27 : decode cX2_remove 27 = .ok (.istore 4, 2) := by decide +kernel
theorem dX2_remove_29 : decode cX2_remove 29 = .ok (.aload_n 0, 1) := by decide +kernel
theorem dX2_remove_30 : decode cX2_remove 30 = .ok (.getfield 9, 3) := by decide +kernel
theorem dX2_remove_33 : decode cX2_remove 33 = .ok (.iload_n 3, 1) := by decide +kernel
theorem dX2_remove_34 : decode cX2_remove 34 = .ok (.dup2, 1) := by decide +kernel
theorem dX2_remove_35 : decode cX2_remove 35 = .ok (.iaload, 1) := by decide +kernel
theorem dX2_remove_36 : decode cX2_remove 36 = .ok (.iload 4, 2) := by decide +kernel
theorem dX2_remove_38 : decode cX2_remove 38 = .ok (.isub, 1) := by decide +kernel
theorem dX2_remove_39 : decode cX2_remove 39 = .ok (.iastore, 1) := by decide +kernel
theorem dX2_remove_40 : decode cX2_remove 40 = .ok (.iload_n 2, 1) := by decide +kernel
theorem dX2_remove_41 : decode cX2_remove 41 = .ok (.iload 4, 2) := by decide +kernel
theorem dX2_remove_43 : decode cX2_remove 43 = .ok (.isub, 1) := by decide +kernel
theorem dX2_remove_44 : decode cX2_remove 44 = .ok (.istore_n 2, 1) := by decide +kernel
theorem dX2_remove_45 : decode cX2_remove 45 = .ok (.aload_n 0, 1) := by decide +kernel
theorem dX2_remove_46 : decode cX2_remove 46 = .ok (.getfield 9, 3) := by decide +kernel
theorem dX2_remove_49 : decode cX2_remove 49 = .ok (.iload_n 3, 1) := by decide +kernel
theorem dX2_remove_50 : decode cX2_remove 50 = .ok (.iaload, 1) := by decide +kernel
theorem dX2_remove_51 : decode cX2_remove 51 = .ok (.ifCond .ne 8, 3) := by decide +kernel
theorem dX2_remove_54 : decode cX2_remove 54 = .ok (.aload_n 0, 1) := by decide +kernel
theorem dX2_remove_55 : decode cX2_remove 55 = .ok (.iload_n 3, 1) := by decide +kernel
theorem dX2_remove_56 : decode cX2_remove 56 = .ok (.putfield 21, 3) := by decide +kernel
theorem dX2_remove_59 : decode cX2_remove 59 = .ok (.iinc 3 (-1), 3) := by decide +kernel
theorem dX2_remove_62 : decode cX2_remove 62 = .ok (.goto (-53), 3) := by decide +kernel
theorem dX2_remove_65 : decode cX2_remove 65 = .ok (.return_, 1) := by decide +kernel
theorem dX2_worthTo_0 : decode cX2_worthTo 0 = .ok (.iconst 0, 1) := by decide +kernel
theorem dX2_worthTo_1 : decode cX2_worthTo 1 = .ok (.istore_n 3, 1) := by decide +kernel
theorem dX2_worthTo_2 : decode cX2_worthTo 2 = .ok (.iload_n 2, 1) := by decide +kernel
theorem dX2_worthTo_3 : decode cX2_worthTo 3 = .ok (.istore 4, 2) := by decide +kernel
theorem dX2_worthTo_5 : decode cX2_worthTo 5 = .ok (.aload_n 0, 1) := by decide +kernel
theorem dX2_worthTo_6 : decode cX2_worthTo 6 = .ok (.getfield 21, 3) := by decide +kernel
theorem dX2_worthTo_9 : decode cX2_worthTo 9 = .ok (.iconst 1, 1) := by decide +kernel
theorem dX2_worthTo_10 : decode cX2_worthTo 10 = .ok (.isub, 1) := by decide +kernel
theorem dX2_worthTo_11 : decode cX2_worthTo 11 = .ok (.istore 5, 2) := by decide +kernel
theorem dX2_worthTo_13 : decode cX2_worthTo 13 = .ok (.iload 5, 2) := by decide +kernel
theorem dX2_worthTo_15 : decode cX2_worthTo 15 = .ok (.ifCond .lt 59, 3) := by decide +kernel
theorem dX2_worthTo_18 : decode cX2_worthTo 18 = .ok (.iload 4, 2) := by decide +kernel
theorem dX2_worthTo_20 : decode cX2_worthTo 20 = .ok (.ifCond .le 54, 3) := by decide +kernel
theorem dX2_worthTo_23 : decode cX2_worthTo 23 = .ok (.iload 4, 2) := by decide +kernel
theorem dX2_worthTo_25 : decode cX2_worthTo 25 = .ok (.aload_n 0, 1) := by decide +kernel
theorem dX2_worthTo_26 : decode cX2_worthTo 26 = .ok (.getfield 9, 3) := by decide +kernel
theorem dX2_worthTo_29 : decode cX2_worthTo 29 = .ok (.iload 5, 2) := by decide +kernel
theorem dX2_worthTo_31 : decode cX2_worthTo 31 = .ok (.iaload, 1) := by decide +kernel
theorem dX2_worthTo_32 : decode cX2_worthTo 32 = .ok (.invokestatic 33, 3) := by decide +kernel
theorem dX2_worthTo_35 : decode cX2_worthTo 35 = .ok (.istore 6, 2) := by decide +kernel
theorem dX2_worthTo_37 : decode cX2_worthTo 37 = .ok (.iload 4, 2) := by decide +kernel
theorem dX2_worthTo_39 : decode cX2_worthTo 39 = .ok (.iload 6, 2) := by decide +kernel
theorem dX2_worthTo_41 : decode cX2_worthTo 41 = .ok (.isub, 1) := by decide +kernel
theorem dX2_worthTo_42 : decode cX2_worthTo 42 = .ok (.istore 4, 2) := by decide +kernel
theorem dX2_worthTo_44 : decode cX2_worthTo 44 = .ok (.aload_n 0, 1) := by decide +kernel
theorem dX2_worthTo_45 : decode cX2_worthTo 45 = .ok (.getfield 18, 3) := by decide +kernel
theorem dX2_worthTo_48 : decode cX2_worthTo 48 = .ok (.iload 5, 2) := by decide +kernel
theorem dX2_worthTo_50 : decode cX2_worthTo 50 = .ok (.iaload, 1) := by decide +kernel
theorem dX2_worthTo_51 : decode cX2_worthTo 51 = .ok (.iload_n 1, 1) := by decide +kernel
theorem dX2_worthTo_52 : decode cX2_worthTo 52 = .ok (.if_icmp .ne 16, 3) := by decide +kernel
theorem dX2_worthTo_55 : decode cX2_worthTo 55 = .ok (.iload_n 3, 1) := by decide +kernel
theorem dX2_worthTo_56 : decode cX2_worthTo 56 = .ok (.iload 6, 2) := by decide +kernel
theorem dX2_worthTo_58 : decode cX2_worthTo 58 = .ok (.aload_n 0, 1) := by decide +kernel
theorem dX2_worthTo_59 : decode cX2_worthTo 59 = .ok (.getfield 15, 3) := by decide +kernel
theorem dX2_worthTo_62 : decode cX2_worthTo 62 = .ok (.iload 5, 2) := by decide +kernel
theorem dX2_worthTo_64 : decode cX2_worthTo 64 = .ok (.iaload, 1) := by decide +kernel
theorem dX2_worthTo_65 : decode cX2_worthTo 65 = .ok (.imul, 1) := by decide +kernel
theorem dX2_worthTo_66 : decode cX2_worthTo 66 = .ok (.iadd, 1) := by decide +kernel
theorem dX2_worthTo_67 : decode cX2_worthTo 67 = .ok (.istore_n 3, 1) := by decide +kernel
theorem dX2_worthTo_68 : decode cX2_worthTo 68 = .ok (.iinc 5 (-1), 3) := by decide +kernel
theorem dX2_worthTo_71 : decode cX2_worthTo 71 = .ok (.goto (-58), 3) := by decide +kernel
theorem dX2_worthTo_74 : decode cX2_worthTo 74 = .ok (.iload_n 3, 1) := by decide +kernel
theorem dX2_worthTo_75 : decode cX2_worthTo 75 = .ok (.ireturn, 1) := by decide +kernel
theorem dX2_worth_0 : decode cX2_worth 0 = .ok (.iconst 0, 1) := by decide +kernel
theorem dX2_worth_1 : decode cX2_worth 1 = .ok (.istore_n 1, 1) := by decide +kernel
theorem dX2_worth_2 : decode cX2_worth 2 = .ok (.iconst 0, 1) := by decide +kernel
theorem dX2_worth_3 : decode cX2_worth 3 = .ok (.istore_n 2, 1) := by decide +kernel
theorem dX2_worth_4 : decode cX2_worth 4 = .ok (.iload_n 2, 1) := by decide +kernel
theorem dX2_worth_5 : decode cX2_worth 5 = .ok (.aload_n 0, 1) := by decide +kernel
theorem dX2_worth_6 : decode cX2_worth 6 = .ok (.getfield 21, 3) := by decide +kernel
theorem dX2_worth_9 : decode cX2_worth 9 = .ok (.if_icmp .ge 25, 3) := by decide +kernel
theorem dX2_worth_12 : decode cX2_worth 12 = .ok (.iload_n 1, 1) := by decide +kernel
theorem dX2_worth_13 : decode cX2_worth 13 = .ok (.aload_n 0, 1) := by decide +kernel
theorem dX2_worth_14 : decode cX2_worth 14 = .ok (.getfield 9, 3) := by decide +kernel
theorem dX2_worth_17 : decode cX2_worth 17 = .ok (.iload_n 2, 1) := by decide +kernel
theorem dX2_worth_18 : decode cX2_worth 18 = .ok (.iaload, 1) := by decide +kernel
theorem dX2_worth_19 : decode cX2_worth 19 = .ok (.aload_n 0, 1) := by decide +kernel
theorem dX2_worth_20 : decode cX2_worth 20 = .ok (.getfield 15, 3) := by decide +kernel
theorem dX2_worth_23 : decode cX2_worth 23 = .ok (.iload_n 2, 1) := by decide +kernel
theorem dX2_worth_24 : decode cX2_worth 24 = .ok (.iaload, 1) := by decide +kernel
theorem dX2_worth_25 : decode cX2_worth 25 = .ok (.imul, 1) := by decide +kernel
theorem dX2_worth_26 : decode cX2_worth 26 = .ok (.iadd, 1) := by decide +kernel
theorem dX2_worth_27 : decode cX2_worth 27 = .ok (.istore_n 1, 1) := by decide +kernel
theorem dX2_worth_28 : decode cX2_worth 28 = .ok (.iinc 2 1, 3) := by decide +kernel
theorem dX2_worth_31 : decode cX2_worth 31 = .ok (.goto (-27), 3) := by decide +kernel
theorem dX2_worth_34 : decode cX2_worth 34 = .ok (.iload_n 1, 1) := by decide +kernel
theorem dX2_worth_35 : decode cX2_worth 35 = .ok (.ireturn, 1) := by decide +kernel
theorem dX2_joinsNewest_0 : decode cX2_joinsNewest 0 = .ok (.aload_n 0, 1) := by decide +kernel
theorem dX2_joinsNewest_1 : decode cX2_joinsNewest 1 = .ok (.getfield 21, 3) := by decide +kernel
theorem dX2_joinsNewest_4 : decode cX2_joinsNewest 4 = .ok (.ifCond .le 37, 3) := by decide +kernel
theorem dX2_joinsNewest_7 : decode cX2_joinsNewest 7 = .ok (.aload_n 0, 1) := by decide +kernel
theorem dX2_joinsNewest_8 : decode cX2_joinsNewest 8 = .ok (.getfield 15, 3) := by decide +kernel
theorem dX2_joinsNewest_11 : decode cX2_joinsNewest 11 = .ok (.aload_n 0, 1) := by decide +kernel
theorem dX2_joinsNewest_12 : decode cX2_joinsNewest 12 = .ok (.getfield 21, 3) := by decide +kernel
theorem dX2_joinsNewest_15 : decode cX2_joinsNewest 15 = .ok (.iconst 1, 1) := by decide +kernel
theorem dX2_joinsNewest_16 : decode cX2_joinsNewest 16 = .ok (.isub, 1) := by decide +kernel
theorem dX2_joinsNewest_17 : decode cX2_joinsNewest 17 = .ok (.iaload, 1) := by decide +kernel
theorem dX2_joinsNewest_18 : decode cX2_joinsNewest 18 = .ok (.iload_n 1, 1) := by decide +kernel
theorem dX2_joinsNewest_19 : decode cX2_joinsNewest 19 = .ok (.if_icmp .ne 22, 3) := by decide +kernel
theorem dX2_joinsNewest_22 : decode cX2_joinsNewest 22 = .ok (.aload_n 0, 1) := by decide +kernel
theorem dX2_joinsNewest_23 : decode cX2_joinsNewest 23 = .ok (.getfield 18, 3) := by decide +kernel
theorem dX2_joinsNewest_26 : decode cX2_joinsNewest 26 = .ok (.aload_n 0, 1) := by decide +kernel
theorem dX2_joinsNewest_27 : decode cX2_joinsNewest 27 = .ok (.getfield 21, 3) := by decide +kernel
theorem dX2_joinsNewest_30 : decode cX2_joinsNewest 30 = .ok (.iconst 1, 1) := by decide +kernel
theorem dX2_joinsNewest_31 : decode cX2_joinsNewest 31 = .ok (.isub, 1) := by decide +kernel
theorem dX2_joinsNewest_32 : decode cX2_joinsNewest 32 = .ok (.iaload, 1) := by decide +kernel
theorem dX2_joinsNewest_33 : decode cX2_joinsNewest 33 = .ok (.iload_n 2, 1) := by decide +kernel
theorem dX2_joinsNewest_34 : decode cX2_joinsNewest 34 = .ok (.if_icmp .ne 7, 3) := by decide +kernel
theorem dX2_joinsNewest_37 : decode cX2_joinsNewest 37 = .ok (.iconst 1, 1) := by decide +kernel
theorem dX2_joinsNewest_38 : decode cX2_joinsNewest 38 = .ok (.goto 4, 3) := by decide +kernel
theorem dX2_joinsNewest_41 : decode cX2_joinsNewest 41 = .ok (.iconst 0, 1) := by decide +kernel
theorem dX2_joinsNewest_42 : decode cX2_joinsNewest 42 = .ok (.ireturn, 1) := by decide +kernel
