set_option maxRecDepth 20000 in
theorem ggX0_reset_X0_append : GoodIn wsX0_reset wsX0_append := goodIn_r _ [6, 1, 7, 8, 9, 10, 11, 12, 13, 14, 15] (by decide +kernel) (by decide +kernel)
set_option maxRecDepth 20000 in
theorem gX0_reset_X0_append : GoodIn wsX0_reset (wsV RX0 28 RX0 yX0_append wsX0_append) := goodIn_app (goodIn_of _ (by decide +kernel)) ggX0_reset_X0_append
set_option maxRecDepth 20000 in
theorem ggX0_priceOn_X0_holding : GoodIn wsX0_priceOn wsX0_holding := goodIn_r _ [6, 7, 8, 9, 10, 11, 12, 13] (by decide +kernel) (by decide +kernel)
set_option maxRecDepth 20000 in
theorem gX0_priceOn_X0_holding : GoodIn wsX0_priceOn (wsV RX0 32 RX0 yX0_holding wsX0_holding) := goodIn_app (goodIn_of _ (by decide +kernel)) ggX0_priceOn_X0_holding
set_option maxRecDepth 20000 in
theorem ggX0_rentOn_X0_holding : GoodIn wsX0_rentOn wsX0_holding := goodIn_r _ [6, 7, 8, 9, 10, 11, 12, 13] (by decide +kernel) (by decide +kernel)
set_option maxRecDepth 20000 in
theorem gX0_rentOn_X0_holding : GoodIn wsX0_rentOn (wsV RX0 32 RX0 yX0_holding wsX0_holding) := goodIn_app (goodIn_of _ (by decide +kernel)) ggX0_rentOn_X0_holding
set_option maxRecDepth 20000 in
theorem ggX0_leastOn_X0_holding : GoodIn wsX0_leastOn wsX0_holding := goodIn_r _ [6, 7, 8, 9, 10, 11, 12, 13] (by decide +kernel) (by decide +kernel)
set_option maxRecDepth 20000 in
theorem gX0_leastOn_X0_holding : GoodIn wsX0_leastOn (wsV RX0 32 RX0 yX0_holding wsX0_holding) := goodIn_app (goodIn_of _ (by decide +kernel)) ggX0_leastOn_X0_holding
set_option maxRecDepth 20000 in
theorem ggX0_fromOn_X0_holding : GoodIn wsX0_fromOn wsX0_holding := goodIn_r _ [6, 7, 1, 8, 9, 10, 11, 12] (by decide +kernel) (by decide +kernel)
set_option maxRecDepth 20000 in
theorem gX0_fromOn_X0_holding : GoodIn wsX0_fromOn (wsV RX0 32 RX0 yX0_holding wsX0_holding) := goodIn_app (goodIn_of _ (by decide +kernel)) ggX0_fromOn_X0_holding
theorem dX0_init_0 : decode cX0_init 0 = .ok (.aload_n 0, 1) := by decide +kernel
theorem dX0_init_1 : decode cX0_init 1 = .ok (.invokespecial 3, 3) := by decide +kernel
theorem dX0_init_4 : decode cX0_init 4 = .ok (.aload_n 0, 1) := by decide +kernel
theorem dX0_init_5 : decode cX0_init 5 = .ok (.bipush 10, 2) := by decide +kernel
theorem dX0_init_7 : decode cX0_init 7 = .ok (.newarray .int, 2) := by decide +kernel
theorem dX0_init_9 : decode cX0_init 9 = .ok (.putfield 9, 3) := by decide +kernel
theorem dX0_init_12 : decode cX0_init 12 = .ok (.aload_n 0, 1) := by decide +kernel
theorem dX0_init_13 : decode cX0_init 13 = .ok (.bipush 10, 2) := by decide +kernel
theorem dX0_init_15 : decode cX0_init 15 = .ok (.newarray .int, 2) := by decide +kernel
theorem dX0_init_17 : decode cX0_init 17 = .ok (.putfield 15, 3) := by decide +kernel
theorem dX0_init_20 : decode cX0_init 20 = .ok (.aload_n 0, 1) := by decide +kernel
theorem dX0_init_21 : decode cX0_init 21 = .ok (.bipush 10, 2) := by decide +kernel
theorem dX0_init_23 : decode cX0_init 23 = .ok (.newarray .int, 2) := by decide +kernel
theorem dX0_init_25 : decode cX0_init 25 = .ok (.putfield 18, 3) := by decide +kernel
theorem dX0_init_28 : decode cX0_init 28 = .ok (.aload_n 0, 1) := by decide +kernel
theorem dX0_init_29 : decode cX0_init 29 = .ok (.bipush 10, 2) := by decide +kernel
theorem dX0_init_31 : decode cX0_init 31 = .ok (.newarray .int, 2) := by decide +kernel
theorem dX0_init_33 : decode cX0_init 33 = .ok (.putfield 21, 3) := by decide +kernel
theorem dX0_init_36 : decode cX0_init 36 = .ok (.return_, 1) := by decide +kernel
theorem dX0_reset_0 : decode cX0_reset 0 = .ok (.aload_n 0, 1) := by decide +kernel
theorem dX0_reset_1 : decode cX0_reset 1 = .ok (.iconst 0, 1) := by decide +kernel
theorem dX0_reset_2 : decode cX0_reset 2 = .ok (.putfield 24, 3) := by decide +kernel
theorem dX0_reset_5 : decode cX0_reset 5 = .ok (.aload_n 0, 1) := by decide +kernel
theorem dX0_reset_6 : decode cX0_reset 6 = .ok (.iconst 0, 1) := by decide +kernel
theorem dX0_reset_7 : decode cX0_reset 7 = .ok (.bipush 10, 2) := by decide +kernel
theorem dX0_reset_9 : decode cX0_reset 9 = .ok (.iconst 1, 1) := by decide +kernel
theorem dX0_reset_10 : decode cX0_reset 10 = .ok (.bipush 8, 2) := by decide +kernel
theorem dX0_reset_12 : decode cX0_reset 12 = .ok (.invokevirtual 28, 3) := by decide +kernel
theorem dX0_reset_15 : decode cX0_reset 15 = .ok (.return_, 1) := by decide +kernel
theorem dX0_hasRoom_0 : decode cX0_hasRoom 0 = .ok (.aload_n 0, 1) := by decide +kernel
theorem dX0_hasRoom_1 : decode cX0_hasRoom 1 = .ok (.getfield 24, 3) := by decide +kernel
theorem dX0_hasRoom_4 : decode cX0_hasRoom 4 = .ok (.bipush 10, 2) := by decide +kernel
theorem dX0_hasRoom_6 : decode cX0_hasRoom 6 = .ok (.if_icmp .ge 7, 3) := by decide +kernel
theorem dX0_hasRoom_9 : decode cX0_hasRoom 9 = .ok (.iconst 1, 1) := by decide +kernel
theorem dX0_hasRoom_10 : decode cX0_hasRoom 10 = .ok (.goto 4, 3) := by decide +kernel
theorem dX0_hasRoom_13 : decode cX0_hasRoom 13 = .ok (.iconst 0, 1) := by decide +kernel
theorem dX0_hasRoom_14 : decode cX0_hasRoom 14 = .ok (.ireturn, 1) := by decide +kernel
theorem dX0_append_0 : decode cX0_append 0 = .ok (.aload_n 0, 1) := by decide +kernel
theorem dX0_append_1 : decode cX0_append 1 = .ok (.getfield 24, 3) := by decide +kernel
theorem dX0_append_4 : decode cX0_append 4 = .ok (.bipush 10, 2) := by decide +kernel
theorem dX0_append_6 : decode cX0_append 6 = .ok (.if_icmp .ge 54, 3) := by decide +kernel
theorem dX0_append_9 : decode cX0_append 9 = .ok (.aload_n 0, 1) := by decide +kernel
theorem dX0_append_10 : decode cX0_append 10 = .ok (.getfield 9, 3) := by decide +kernel
theorem dX0_append_13 : decode cX0_append 13 = .ok (.aload_n 0, 1) := by decide +kernel
theorem dX0_append_14 : decode cX0_append 14 = .ok (.getfield 24, 3) := by decide +kernel
theorem dX0_append_17 : decode cX0_append 17 = .ok (.iload_n 1, 1) := by decide +kernel
theorem dX0_append_18 : decode cX0_append 18 = .ok (.iastore, 1) := by decide +kernel
theorem dX0_append_19 : decode cX0_append 19 = .ok (.aload_n 0, 1) := by decide +kernel
theorem dX0_append_20 : decode cX0_append 20 = .ok (.getfield 15, 3) := by decide +kernel
theorem dX0_append_23 : decode cX0_append 23 = .ok (.aload_n 0, 1) := by decide +kernel
theorem dX0_append_24 : decode cX0_append 24 = .ok (.getfield 24, 3) := by decide +kernel
theorem dX0_append_27 : decode cX0_append 27 = .ok (.iload_n 2, 1) := by decide +kernel
theorem dX0_append_28 : decode cX0_append 28 = .ok (.iastore, 1) := by decide +kernel
theorem dX0_append_29 : decode cX0_append 29 = .ok (.aload_n 0, 1) := by decide +kernel
theorem dX0_append_30 : decode cX0_append 30 = .ok (.getfield 18, 3) := by decide +kernel
theorem dX0_append_33 : decode cX0_append 33 = .ok (.aload_n 0, 1) := by decide +kernel
theorem dX0_append_34 : decode cX0_append 34 = .ok (.getfield 24, 3) := by decide +kernel
theorem dX0_append_37 : decode cX0_append 37 = .ok (.iload_n 3, 1) := by decide +kernel
theorem dX0_append_38 : decode cX0_append 38 = .ok (.iastore, 1) := by decide +kernel
theorem dX0_append_39 : decode cX0_append 39 = .ok (.aload_n 0, 1) := by decide +kernel
theorem dX0_append_40 : decode cX0_append 40 = .ok (.getfield 21, 3) := by decide +kernel
theorem dX0_append_43 : decode cX0_append 43 = .ok (.aload_n 0, 1) := by decide +kernel
theorem dX0_append_44 : decode cX0_append 44 = .ok (.getfield 24, 3) := by decide +kernel
theorem dX0_append_47 : decode cX0_append 47 = .ok (.iload 4, 2) := by decide +kernel
theorem dX0_append_49 : decode cX0_append 49 = .ok (.iastore, 1) := by decide +kernel
theorem dX0_append_50 : decode cX0_append 50 = .ok (.aload_n 0, 1) := by decide +kernel
theorem dX0_append_51 : decode cX0_append 51 = .ok (.dup, 1) := by decide +kernel
theorem dX0_append_52 : decode cX0_append 52 = .ok (.getfield 24, 3) := by decide +kernel
theorem dX0_append_55 : decode cX0_append 55 = .ok (.iconst 1, 1) := by decide +kernel
theorem dX0_append_56 : decode cX0_append 56 = .ok (.iadd, 1) := by decide +kernel
theorem dX0_append_57 : decode cX0_append 57 = .ok (.putfield 24, 3) := by decide +kernel
theorem dX0_append_60 : decode cX0_append 60 = .ok (.return_, 1) := by decide +kernel
theorem dX0_lastFrom_0 : decode cX0_lastFrom 0 = .ok (.aload_n 0, 1) := by decide +kernel
theorem dX0_lastFrom_1 : decode cX0_lastFrom 1 = .ok (.getfield 24, 3) := by decide +kernel
theorem dX0_lastFrom_4 : decode cX0_lastFrom 4 = .ok (.ifCond .le 17, 3) := by decide +kernel
theorem dX0_lastFrom_7 : decode cX0_lastFrom 7 = .ok (.aload_n 0, 1) := by decide +kernel
theorem dX0_lastFrom_8 : decode cX0_lastFrom 8 = .ok (.getfield 9, 3) := by decide +kernel
theorem dX0_lastFrom_11 : decode cX0_lastFrom 11 = .ok (.aload_n 0, 1) := by decide +kernel
theorem dX0_lastFrom_12 : decode cX0_lastFrom 12 = .ok (.getfield 24, 3) := by decide +kernel
theorem dX0_lastFrom_15 : decode cX0_lastFrom 15 = .ok (.iconst 1, 1) := by decide +kernel
theorem dX0_lastFrom_16 : decode cX0_lastFrom 16 = .ok (.isub, 1) := by decide +kernel
theorem dX0_lastFrom_17 : decode cX0_lastFrom 17 = .ok (.iaload, 1) := by decide +kernel
theorem dX0_lastFrom_18 : decode cX0_lastFrom 18 = .ok (.goto 4, 3) := by decide +kernel
theorem dX0_lastFrom_21 : decode cX0_lastFrom 21 = .ok (.iconst 0, 1) := by decide +kernel
theorem dX0_lastFrom_22 : decode cX0_lastFrom 22 = .ok (.ireturn, 1) := by decide +kernel
theorem dX0_priceOn_0 : decode cX0_priceOn 0 = .ok (.aload_n 0, 1) := by decide +kernel
theorem dX0_priceOn_1 : decode cX0_priceOn 1 = .ok (.getfield 15, 3) := by decide +kernel
theorem dX0_priceOn_4 : decode cX0_priceOn 4 = .ok (.aload_n 0, 1) := by decide +kernel
theorem dX0_priceOn_5 : decode cX0_priceOn 5 = .ok (.iload_n 1, 1) := by decide +kernel
theorem dX0_priceOn_6 : decode cX0_priceOn 6 = .ok (.invokevirtual 32, 3) := by decide +kernel
theorem dX0_priceOn_9 : decode cX0_priceOn 9 = .ok (.iaload, 1) := by decide +kernel
theorem dX0_priceOn_10 : decode cX0_priceOn 10 = .ok (.ireturn, 1) := by decide +kernel
theorem dX0_rentOn_0 : decode cX0_rentOn 0 = .ok (.aload_n 0, 1) := by decide +kernel
theorem dX0_rentOn_1 : decode cX0_rentOn 1 = .ok (.getfield 18, 3) := by decide +kernel
theorem dX0_rentOn_4 : decode cX0_rentOn 4 = .ok (.aload_n 0, 1) := by decide +kernel
theorem dX0_rentOn_5 : decode cX0_rentOn 5 = .ok (.iload_n 1, 1) := by decide +kernel
theorem dX0_rentOn_6 : decode cX0_rentOn 6 = .ok (.invokevirtual 32, 3) := by decide +kernel
theorem dX0_rentOn_9 : decode cX0_rentOn 9 = .ok (.iaload, 1) := by decide +kernel
theorem dX0_rentOn_10 : decode cX0_rentOn 10 = .ok (.ireturn, 1) := by decide +kernel
theorem dX0_leastOn_0 : decode cX0_leastOn 0 = .ok (.aload_n 0, 1) := by decide +kernel
theorem dX0_leastOn_1 : decode cX0_leastOn 1 = .ok (.getfield 21, 3) := by decide +kernel
theorem dX0_leastOn_4 : decode cX0_leastOn 4 = .ok (.aload_n 0, 1) := by decide +kernel
theorem dX0_leastOn_5 : decode cX0_leastOn 5 = .ok (.iload_n 1, 1) := by decide +kernel
theorem dX0_leastOn_6 : decode cX0_leastOn 6 = .ok (.invokevirtual 32, 3) := by decide +kernel
theorem dX0_leastOn_9 : decode cX0_leastOn 9 = .ok (.iaload, 1) := by decide +kernel
theorem dX0_leastOn_10 : decode cX0_leastOn 10 = .ok (.ireturn, 1) := by decide +kernel
theorem dX0_fromOn_0 : decode cX0_fromOn 0 = .ok (.aload_n 0, 1) := by decide +kernel
theorem dX0_fromOn_1 : decode cX0_fromOn 1 = .ok (.getfield 9, 3) := by decide +kernel
theorem dX0_fromOn_4 : decode cX0_fromOn 4 = .ok (.aload_n 0, 1) := by decide +kernel
theorem dX0_fromOn_5 : decode cX0_fromOn 5 = .ok (.iload_n 1, 1) := by decide +kernel
theorem dX0_fromOn_6 : decode cX0_fromOn 6 = .ok (.invokevirtual 32, 3) := by decide +kernel
theorem dX0_fromOn_9 : decode cX0_fromOn 9 = .ok (.iaload, 1) := by decide +kernel
theorem dX0_fromOn_10 : decode cX0_fromOn 10 = .ok (.ireturn, 1) := by decide +kernel
theorem dX0_holding_0 : decode cX0_holding 0 = .ok (.aload_n 0, 1) := by decide +kernel
theorem dX0_holding_1 : decode cX0_holding 1 = .ok (.getfield 24, 3) := by decide +kernel
theorem dX0_holding_4 : decode cX0_holding 4 = .ok (.iconst 1, 1) := by decide +kernel
theorem dX0_holding_5 : decode cX0_holding 5 = .ok (.isub, 1) := by decide +kernel
theorem dX0_holding_6 : decode cX0_holding 6 = .ok (.istore_n 2, 1) := by decide +kernel
theorem dX0_holding_7 : decode cX0_holding 7 = .ok (.iload_n 2, 1) := by decide +kernel
theorem dX0_holding_8 : decode cX0_holding 8 = .ok (.ifCond .le 21, 3) := by decide +kernel
theorem dX0_holding_11 : decode cX0_holding 11 = .ok (.aload_n 0, 1) := by decide +kernel
theorem dX0_holding_12 : decode cX0_holding 12 = .ok (.getfield 9, 3) := by decide +kernel
theorem dX0_holding_15 : decode cX0_holding 15 = .ok (.iload_n 2, 1) := by decide +kernel
theorem dX0_holding_16 : decode cX0_holding 16 = .ok (.iaload, 1) := by decide +kernel
theorem dX0_holding_17 : decode cX0_holding 17 = .ok (.iload_n 1, 1) := by decide +kernel
theorem dX0_holding_18 : decode cX0_holding 18 = .ok (.if_icmp .gt 5, 3) := by decide +kernel
theorem dX0_holding_21 : decode cX0_holding 21 = .ok (.iload_n 2, 1) := by decide +kernel
theorem dX0_holding_22 : decode cX0_holding 22 = .ok (.ireturn, 1) := by decide +kernel
theorem dX0_holding_23 : decode cX0_holding 23 = .ok (.iinc 2 (-1), 3) := by decide +kernel
theorem dX0_holding_26 : decode cX0_holding 26 = .ok (.goto (-19), 3) := by decide +kernel
theorem dX0_holding_29 : decode cX0_holding 29 = .ok (.iconst 0, 1) := by decide +kernel
theorem dX0_holding_30 : decode cX0_holding 30 = .ok (.ireturn, 1) := by decide +kernel
