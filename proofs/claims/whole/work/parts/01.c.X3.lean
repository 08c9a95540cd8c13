set_option maxRecDepth 20000 in
theorem ggX3_reset_J7_fill_53178 : GoodIn wsX3_reset wsJ7_fill_53178 := goodIn_r _ [11] (by decide +kernel) (by decide +kernel)
set_option maxRecDepth 20000 in
theorem gX3_reset_J7_fill_53178 : GoodIn wsX3_reset (va_wsS RX3 22 yJ7_fill_53178 wsJ7_fill_53178) := goodIn_app (goodIn_of _ (by decide +kernel)) ggX3_reset_J7_fill_53178
set_option maxRecDepth 20000 in
theorem ggX3_sharePool_X3_sumOf : GoodIn wsX3_sharePool wsX3_sumOf := goodIn_r _ [6] (by decide +kernel) (by decide +kernel)
set_option maxRecDepth 20000 in
theorem gX3_sharePool_X3_sumOf : GoodIn wsX3_sharePool (va_wsS RX3 38 yX3_sumOf wsX3_sumOf) := goodIn_app (goodIn_of _ (by decide +kernel)) ggX3_sharePool_X3_sumOf
set_option maxRecDepth 20000 in
theorem ggX3_sharePool_X3_payNode : GoodIn wsX3_sharePool wsX3_payNode := goodIn_r _ [10, 2, 11, 12, 17, 18, 19, 20, 21, 22] (by decide +kernel) (by decide +kernel)
set_option maxRecDepth 20000 in
theorem gX3_sharePool_X3_payNode : GoodIn wsX3_sharePool (wsV RX3 42 RX3 yX3_payNode wsX3_payNode) := goodIn_app (goodIn_of _ (by decide +kernel)) ggX3_sharePool_X3_payNode
set_option maxRecDepth 20000 in
theorem ggX3_sharePool_X3_rankOf : GoodIn wsX3_sharePool wsX3_rankOf := goodIn_r _ [16, 1, 17, 18, 19, 20, 21, 22] (by decide +kernel) (by decide +kernel)
set_option maxRecDepth 20000 in
theorem gX3_sharePool_X3_rankOf : GoodIn wsX3_sharePool (wsV RX3 46 RX3 yX3_rankOf wsX3_rankOf) := goodIn_app (goodIn_of _ (by decide +kernel)) ggX3_sharePool_X3_rankOf
set_option maxRecDepth 20000 in
theorem ggX3_allCoins_X3_sumOf : GoodIn wsX3_allCoins wsX3_sumOf := goodIn_r _ [8] (by decide +kernel) (by decide +kernel)
set_option maxRecDepth 20000 in
theorem gX3_allCoins_X3_sumOf : GoodIn wsX3_allCoins (va_wsS RX3 38 yX3_sumOf wsX3_sumOf) := goodIn_app (goodIn_of _ (by decide +kernel)) ggX3_allCoins_X3_sumOf
theorem dX3_init_0 : decode cX3_init 0 = .ok (.aload_n 0, 1) := by decide +kernel
theorem dX3_init_1 : decode cX3_init 1 = .ok (.invokespecial 3, 3) := by decide +kernel
theorem dX3_init_4 : decode cX3_init 4 = .ok (.aload_n 0, 1) := by decide +kernel
theorem dX3_init_5 : decode cX3_init 5 = .ok (.bipush 6, 2) := by decide +kernel
theorem dX3_init_7 : decode cX3_init 7 = .ok (.newarray .int, 2) := by decide +kernel
theorem dX3_init_9 : decode cX3_init 9 = .ok (.putfield 9, 3) := by decide +kernel
theorem dX3_init_12 : decode cX3_init 12 = .ok (.aload_n 0, 1) := by decide +kernel
theorem dX3_init_13 : decode cX3_init 13 = .ok (.iconst 5, 1) := by decide +kernel
theorem dX3_init_14 : decode cX3_init 14 = .ok (.newarray .int, 2) := by decide +kernel
theorem dX3_init_16 : decode cX3_init 16 = .ok (.putfield 15, 3) := by decide +kernel
theorem dX3_init_19 : decode cX3_init 19 = .ok (.aload_n 0, 1) := by decide +kernel
theorem dX3_init_20 : decode cX3_init 20 = .ok (.iconst 5, 1) := by decide +kernel
theorem dX3_init_21 : decode cX3_init 21 = .ok (.newarray .int, 2) := by decide +kernel
theorem dX3_init_23 : decode cX3_init 23 = .ok (.putfield 18, 3) := by decide +kernel
theorem dX3_init_26 : decode cX3_init 26 = .ok (.return_, 1) := by decide +kernel
theorem dX3_reset_0 : decode cX3_reset 0 = .ok (.aload_n 0, 1) := by decide +kernel
theorem dX3_reset_1 : decode cX3_reset 1 = .ok (.getfield 9, 3) := by decide +kernel
theorem dX3_reset_4 : decode cX3_reset 4 = .ok (.ldc 21, 2) := by decide +kernel
theorem dX3_reset_6 : decode cX3_reset 6 = .ok (.invokestatic 22, 3) := by decide +kernel
theorem dX3_reset_9 : decode cX3_reset 9 = .ok (.aload_n 0, 1) := by decide +kernel
theorem dX3_reset_10 : decode cX3_reset 10 = .ok (.getfield 15, 3) := by decide +kernel
theorem dX3_reset_13 : decode cX3_reset 13 = .ok (.iconst 0, 1) := by decide +kernel
theorem dX3_reset_14 : decode cX3_reset 14 = .ok (.invokestatic 22, 3) := by decide +kernel
theorem dX3_reset_17 : decode cX3_reset 17 = .ok (.aload_n 0, 1) := by decide +kernel
theorem dX3_reset_18 : decode cX3_reset 18 = .ok (.getfield 18, 3) := by decide +kernel
theorem dX3_reset_21 : decode cX3_reset 21 = .ok (.iconst 0, 1) := by decide +kernel
theorem dX3_reset_22 : decode cX3_reset 22 = .ok (.invokestatic 22, 3) := by decide +kernel
theorem dX3_reset_25 : decode cX3_reset 25 = .ok (.aload_n 0, 1) := by decide +kernel
theorem dX3_reset_26 : decode cX3_reset 26 = .ok (.iconst 0, 1) := by decide +kernel
theorem dX3_reset_27 : decode cX3_reset 27 = .ok (.putfield 28, 3) := by decide +kernel
theorem dX3_reset_30 : decode cX3_reset 30 = .ok (.aload_n 0, 1) := by decide +kernel
theorem dX3_reset_31 : decode cX3_reset 31 = .ok (.iconst 0, 1) := by decide +kernel
theorem dX3_reset_32 : decode cX3_reset 32 = .ok (.putfield 32, 3) := by decide +kernel
theorem dX3_reset_35 : decode cX3_reset 35 = .ok (.aload_n 0, 1) := by decide +kernel
theorem dX3_reset_36 : decode cX3_reset 36 = .ok (.iconst 0, 1) := by decide +kernel
theorem dX3_reset_37 : decode cX3_reset 37 = .ok (.putfield 35, 3) := by decide +kernel
theorem dX3_reset_40 : decode cX3_reset 40 = .ok (.return_, 1) := by decide +kernel
theorem dX3_canPay_0 : decode cX3_canPay 0 = .ok (.lload_n 2, 1) := by decide +kernel
theorem dX3_canPay_1 : decode cX3_canPay 1 = .ok (.aload_n 0, 1) := by decide +kernel
theorem dX3_canPay_2 : decode cX3_canPay 2 = .ok (.getfield 9, 3) := by decide +kernel
theorem dX3_canPay_5 : decode cX3_canPay 5 = .ok (.iload_n 1, 1) := by decide +kernel
theorem dX3_canPay_6 : decode cX3_canPay 6 = .ok (.iaload, 1) := by decide +kernel
theorem dX3_canPay_7 : decode cX3_canPay 7 = .ok (.i2l, 1) := by decide +kernel
theorem dX3_canPay_8 : decode cX3_canPay 8 = .ok (.lcmp, 1) := by decide +kernel
theorem dX3_canPay_9 : decode cX3_canPay 9 = .ok (.ifCond .gt 7, 3) := by decide +kernel
theorem dX3_canPay_12 : decode cX3_canPay 12 = .ok (.iconst 1, 1) := by decide +kernel
theorem dX3_canPay_13 : decode cX3_canPay 13 = .ok (.goto 4, 3) := by decide +kernel
theorem dX3_canPay_16 : decode cX3_canPay 16 = .ok (.iconst 0, 1) := by decide +kernel
theorem dX3_canPay_17 : decode cX3_canPay 17 = .ok (.ireturn, 1) := by decide +kernel
theorem dX3_takeFrom_0 : decode cX3_takeFrom 0 = .ok (.lload_n 2, 1) := by decide +kernel
theorem dX3_takeFrom_1 : decode cX3_takeFrom 1 = .ok (.lload 4, 2) := by decide +kernel
theorem dX3_takeFrom_3 : decode cX3_takeFrom 3 = .ok (.ladd, 1) := by decide +kernel
theorem dX3_takeFrom_4 : decode cX3_takeFrom 4 = .ok (.l2i, 1) := by decide +kernel
theorem dX3_takeFrom_5 : decode cX3_takeFrom 5 = .ok (.istore 6, 2) := by decide +kernel
theorem dX3_takeFrom_7 : decode cX3_takeFrom 7 = .ok (.aload_n 0, 1) := by decide +kernel
theorem dX3_takeFrom_8 : decode cX3_takeFrom 8 = .ok (.getfield 9, 3) := by decide +kernel
theorem dX3_takeFrom_11 : decode cX3_takeFrom 11 = .ok (.iload_n 1, 1) := by decide +kernel
theorem dX3_takeFrom_12 : decode cX3_takeFrom 12 = .ok (.dup2, 1) := by decide +kernel
theorem dX3_takeFrom_13 : decode cX3_takeFrom 13 = .ok (.iaload, 1) := by decide +kernel
theorem dX3_takeFrom_14 : decode cX3_takeFrom 14 = .ok (.iload 6, 2) := by decide +kernel
theorem dX3_takeFrom_16 : decode cX3_takeFrom 16 = .ok (.isub, 1) := by decide +kernel
theorem dX3_takeFrom_17 : decode cX3_takeFrom 17 = .ok (.iastore, 1) := by decide +kernel
theorem dX3_takeFrom_18 : decode cX3_takeFrom 18 = .ok (.aload_n 0, 1) := by decide +kernel
theorem dX3_takeFrom_19 : decode cX3_takeFrom 19 = .ok (.dup, 1) := by decide +kernel
theorem dX3_takeFrom_20 : decode cX3_takeFrom 20 = .ok (.getfield 28, 3) := by decide +kernel
theorem dX3_takeFrom_23 : decode cX3_takeFrom 23 = .ok (.lload_n 2, 1) := by decide +kernel
theorem dX3_takeFrom_24 : decode cX3_takeFrom 24 = .ok (.l2i, 1) := by decide +kernel
theorem dX3_takeFrom_25 : decode cX3_takeFrom 25 = .ok (.iadd, 1) := by decide +kernel
theorem dX3_takeFrom_26 : decode cX3_takeFrom 26 = .ok (.putfield 28, 3) := by decide +kernel
theorem dX3_takeFrom_29 : decode cX3_takeFrom 29 = .ok (.aload_n 0, 1) := by decide +kernel
theorem dX3_takeFrom_30 : decode cX3_takeFrom 30 = .ok (.dup, 1) := by decide +kernel
theorem dX3_takeFrom_31 : decode cX3_takeFrom 31 = .ok (.getfield 32, 3) := by decide +kernel
theorem dX3_takeFrom_34 : decode cX3_takeFrom 34 = .ok (.lload 4, 2) := by decide +kernel
theorem dX3_takeFrom_36 : decode cX3_takeFrom 36 = .ok (.l2i, 1) := by decide +kernel
theorem dX3_takeFrom_37 : decode cX3_takeFrom 37 = .ok (.iadd, 1) := by decide +kernel
theorem dX3_takeFrom_38 : decode cX3_takeFrom 38 = .ok (.putfield 32, 3) := by decide +kernel
theorem dX3_takeFrom_41 : decode cX3_takeFrom 41 = .ok (.iload 6, 2) := by decide +kernel
theorem dX3_takeFrom_43 : decode cX3_takeFrom 43 = .ok (.ireturn, 1) := by decide +kernel
theorem dX3_giveTo_0 : decode cX3_giveTo 0 = .ok (.aload_n 0, 1) := by decide +kernel
theorem dX3_giveTo_1 : decode cX3_giveTo 1 = .ok (.dup, 1) := by decide +kernel
theorem dX3_giveTo_2 : decode cX3_giveTo 2 = .ok (.getfield 28, 3) := by decide +kernel
theorem dX3_giveTo_5 : decode cX3_giveTo 5 = .ok (.iload_n 2, 1) := by decide +kernel
theorem dX3_giveTo_6 : decode cX3_giveTo 6 = .ok (.isub, 1) := by decide +kernel
theorem dX3_giveTo_7 : decode cX3_giveTo 7 = .ok (.putfield 28, 3) := by decide +kernel
theorem dX3_giveTo_10 : decode cX3_giveTo 10 = .ok (.aload_n 0, 1) := by decide +kernel
theorem dX3_giveTo_11 : decode cX3_giveTo 11 = .ok (.getfield 9, 3) := by decide +kernel
theorem dX3_giveTo_14 : decode cX3_giveTo 14 = .ok (.iload_n 1, 1) := by decide +kernel
theorem dX3_giveTo_15 : decode cX3_giveTo 15 = .ok (.dup2, 1) := by decide +kernel
theorem dX3_giveTo_16 : decode cX3_giveTo 16 = .ok (.iaload, 1) := by decide +kernel
theorem dX3_giveTo_17 : decode cX3_giveTo 17 = .ok (.iload_n 2, 1) := by decide +kernel
theorem dX3_giveTo_18 : decode cX3_giveTo 18 = .ok (.iadd, 1) := by decide +kernel
theorem dX3_giveTo_19 : decode cX3_giveTo 19 = .ok (.iastore, 1) := by decide +kernel
theorem dX3_giveTo_20 : decode cX3_giveTo 20 = .ok (.iload_n 2, 1) := by decide +kernel
theorem dX3_giveTo_21 : decode cX3_giveTo 21 = .ok (.ireturn, 1) := by decide +kernel
theorem dX3_sharePool_0 : decode cX3_sharePool 0 = .ok (.aload_n 0, 1) := by decide +kernel
theorem dX3_sharePool_1 : decode cX3_sharePool 1 = .ok (.getfield 18, 3) := by decide +kernel
theorem dX3_sharePool_4 : decode cX3_sharePool 4 = .ok (.invokestatic 38, 3) := by decide +kernel
theorem dX3_sharePool_7 : decode cX3_sharePool 7 = .ok (.istore_n 1, 1) := by decide +kernel
theorem dX3_sharePool_8 : decode cX3_sharePool 8 = .ok (.iload_n 1, 1) := by decide +kernel
theorem dX3_sharePool_9 : decode cX3_sharePool 9 = .ok (.ifCond .gt 4, 3) := by decide +kernel
theorem dX3_sharePool_12 : decode cX3_sharePool 12 = .ok (.return_, 1) := by decide +kernel
theorem dX3_sharePool_13 : decode cX3_sharePool 13 = .ok (.aload_n 0, 1) := by decide +kernel
theorem dX3_sharePool_14 : decode cX3_sharePool 14 = .ok (.getfield 32, 3) := by decide +kernel
theorem dX3_sharePool_17 : decode cX3_sharePool 17 = .ok (.istore_n 2, 1) := by decide +kernel
theorem dX3_sharePool_18 : decode cX3_sharePool 18 = .ok (.iconst 0, 1) := by decide +kernel
theorem dX3_sharePool_19 : decode cX3_sharePool 19 = .ok (.istore_n 3, 1) := by decide +kernel
theorem dX3_sharePool_20 : decode cX3_sharePool 20 = .ok (.iload_n 3, 1) := by decide +kernel
theorem dX3_sharePool_21 : decode cX3_sharePool 21 = .ok (.iconst 5, 1) := by decide +kernel
theorem dX3_sharePool_22 : decode cX3_sharePool 22 = .ok (.if_icmp .ge 28, 3) := by decide +kernel
theorem dX3_sharePool_25 : decode cX3_sharePool 25 = .ok (.aload_n 0, 1) := by decide +kernel
theorem dX3_sharePool_26 : decode cX3_sharePool 26 = .ok (.iload_n 3, 1) := by decide +kernel
theorem dX3_sharePool_27 : decode cX3_sharePool 27 = .ok (.iload_n 2, 1) := by decide +kernel
theorem dX3_sharePool_28 : decode cX3_sharePool 28 = .ok (.i2l, 1) := by decide +kernel
theorem dX3_sharePool_29 : decode cX3_sharePool 29 = .ok (.aload_n 0, 1) := by decide +kernel
theorem dX3_sharePool_30 : decode cX3_sharePool 30 = .ok (.getfield 18, 3) := by decide +kernel
theorem dX3_sharePool_33 : decode cX3_sharePool 33 = .ok (.iload_n 3, 1) := by decide +kernel
theorem dX3_sharePool_34 : decode cX3_sharePool 34 = .ok (.iaload, 1) := by decide +kernel
theorem dX3_sharePool_35 : decode cX3_sharePool 35 = .ok (.i2l, 1) := by decide +kernel
theorem dX3_sharePool_36 : decode cX3_sharePool 36 = .ok (.lmul, 1) := by decide +kernel
theorem dX3_sharePool_37 : decode cX3_sharePool 37 = .ok (.iload_n 1, 1) := by decide +kernel
theorem dX3_sharePool_38 : decode cX3_sharePool 38 = .ok (.i2l, 1) := by decide +kernel
theorem dX3_sharePool_39 : decode cX3_sharePool 39 = .ok (.ldiv, 1) := by decide +kernel
theorem dX3_sharePool_40 : decode cX3_sharePool 40 = .ok (.l2i, 1) := by decide +kernel
theorem dX3_sharePool_41 : decode cX3_sharePool 41 = .ok (.invokevirtual 42, 3) := by decide +kernel
theorem dX3_sharePool_44 : decode cX3_sharePool 44 = .ok (.iinc 3 1, 3) := by decide +kernel
theorem dX3_sharePool_47 : decode cX3_sharePool 47 = .ok (.goto (-27), 3) := by decide +kernel
theorem dX3_sharePool_50 : decode cX3_sharePool 50 = .ok (.aload_n 0, 1) := by decide +kernel
theorem dX3_sharePool_51 : decode cX3_sharePool 51 = .ok (.getfield 32, 3) := by decide +kernel
theorem dX3_sharePool_54 : decode cX3_sharePool 54 = .ok (.istore_n 3, 1) := by decide +kernel
theorem dX3_sharePool_55 : decode cX3_sharePool 55 = .ok (.iconst 0, 1) := by decide +kernel
theorem dX3_sharePool_56 : decode cX3_sharePool 56 = .ok (.istore 4, 2) := by decide +kernel
theorem dX3_sharePool_58 : decode cX3_sharePool 58 = .ok (.iload 4, 2) := by decide +kernel
theorem dX3_sharePool_60 : decode cX3_sharePool 60 = .ok (.iconst 5, 1) := by decide +kernel
theorem dX3_sharePool_61 : decode cX3_sharePool 61 = .ok (.if_icmp .ge 36, 3) := by decide +kernel
theorem dX3_sharePool_64 : decode cX3_sharePool 64 = .ok (.aload_n 0, 1) := by decide +kernel
theorem dX3_sharePool_65 : decode cX3_sharePool 65 = .ok (.getfield 18, 3) := by decide +kernel
theorem dX3_sharePool_68 : decode cX3_sharePool 68 = .ok (.iload 4, 2) := by decide +kernel
theorem dX3_sharePool_70 : decode cX3_sharePool 70 = .ok (.iaload, 1) := by decide +kernel
theorem dX3_sharePool_71 : decode cX3_sharePool 71 = .ok (.ifCond .le 20, 3) := by decide +kernel
theorem dX3_sharePool_74 : decode cX3_sharePool 74 = .ok (.aload_n 0, 1) := by decide +kernel
theorem dX3_sharePool_75 : decode cX3_sharePool 75 = .ok (.iload 4, 2) := by decide +kernel
theorem dX3_sharePool_77 : decode cX3_sharePool 77 = .ok (.invokevirtual 46, 3) := by decide +kernel
theorem dX3_sharePool_80 : decode cX3_sharePool 80 = .ok (.iload_n 3, 1) := by decide +kernel
theorem dX3_sharePool_81 : decode cX3_sharePool 81 = .ok (.if_icmp .ge 10, 3) := by decide +kernel
theorem dX3_sharePool_84 : decode cX3_sharePool 84 = .ok (.aload_n 0, 1) := by decide +kernel
theorem dX3_sharePool_85 : decode cX3_sharePool 85 = .ok (.iload 4, 2) := by decide +kernel
theorem dX3_sharePool_87 : decode cX3_sharePool 87 = .ok (.iconst 1, 1) := by decide +kernel
theorem dX3_sharePool_88 : decode cX3_sharePool 88 = .ok (.invokevirtual 42, 3) := by decide +kernel
theorem dX3_sharePool_91 : decode cX3_sharePool 91 = .ok (.iinc 4 1, 3) := by decide +kernel
theorem dX3_sharePool_94 : decode cX3_sharePool 94 = .ok (.goto (-36), 3) := by decide +kernel
theorem dX3_sharePool_97 : decode cX3_sharePool 97 = .ok (.return_, 1) := by decide +kernel
theorem dX3_allCoins_0 : decode cX3_allCoins 0 = .ok (.aload_n 0, 1) := by decide +kernel
theorem dX3_allCoins_1 : decode cX3_allCoins 1 = .ok (.getfield 9, 3) := by decide +kernel
theorem dX3_allCoins_4 : decode cX3_allCoins 4 = .ok (.invokestatic 38, 3) := by decide +kernel
theorem dX3_allCoins_7 : decode cX3_allCoins 7 = .ok (.aload_n 0, 1) := by decide +kernel
theorem dX3_allCoins_8 : decode cX3_allCoins 8 = .ok (.getfield 15, 3) := by decide +kernel
theorem dX3_allCoins_11 : decode cX3_allCoins 11 = .ok (.invokestatic 38, 3) := by decide +kernel
theorem dX3_allCoins_14 : decode cX3_allCoins 14 = .ok (.iadd, 1) := by decide +kernel
theorem dX3_allCoins_15 : decode cX3_allCoins 15 = .ok (.aload_n 0, 1) := by decide +kernel
theorem dX3_allCoins_16 : decode cX3_allCoins 16 = .ok (.getfield 28, 3) := by decide +kernel
theorem dX3_allCoins_19 : decode cX3_allCoins 19 = .ok (.iadd, 1) := by decide +kernel
theorem dX3_allCoins_20 : decode cX3_allCoins 20 = .ok (.aload_n 0, 1) := by decide +kernel
theorem dX3_allCoins_21 : decode cX3_allCoins 21 = .ok (.getfield 32, 3) := by decide +kernel
theorem dX3_allCoins_24 : decode cX3_allCoins 24 = .ok (.iadd, 1) := by decide +kernel
theorem dX3_allCoins_25 : decode cX3_allCoins 25 = .ok (.ireturn, 1) := by decide +kernel
theorem dX3_payNode_0 : decode cX3_payNode 0 = .ok (.aload_n 0, 1) := by decide +kernel
theorem dX3_payNode_1 : decode cX3_payNode 1 = .ok (.dup, 1) := by decide +kernel
theorem dX3_payNode_2 : decode cX3_payNode 2 = .ok (.getfield 32, 3) := by decide +kernel
theorem dX3_payNode_5 : decode cX3_payNode 5 = .ok (.iload_n 2, 1) := by decide +kernel
theorem dX3_payNode_6 : decode cX3_payNode 6 = .ok (.isub, 1) := by decide +kernel
theorem dX3_payNode_7 : decode cX3_payNode 7 = .ok (.putfield 32, 3) := by decide +kernel
theorem dX3_payNode_10 : decode cX3_payNode 10 = .ok (.aload_n 0, 1) := by decide +kernel
theorem dX3_payNode_11 : decode cX3_payNode 11 = .ok (.getfield 15, 3) := by decide +kernel
theorem dX3_payNode_14 : decode cX3_payNode 14 = .ok (.iload_n 1, 1) := by decide +kernel
theorem dX3_payNode_15 : decode cX3_payNode 15 = .ok (.dup2, 1) := by decide +kernel
theorem dX3_payNode_16 : decode cX3_payNode 16 = .ok (.iaload, 1) := by decide +kernel
theorem dX3_payNode_17 : decode cX3_payNode 17 = .ok (.iload_n 2, 1) := by decide +kernel
theorem dX3_payNode_18 : decode cX3_payNode 18 = .ok (.iadd, 1) := by decide +kernel
theorem dX3_payNode_19 : decode cX3_payNode 19 = .ok (.iastore, 1) := by decide +kernel
theorem dX3_payNode_20 : decode cX3_payNode 20 = .ok (.aload_n 0, 1) := by decide +kernel
theorem dX3_payNode_21 : decode cX3_payNode 21 = .ok (.dup, 1) := by decide +kernel
theorem dX3_payNode_22 : decode cX3_payNode 22 = .ok (.getfield 35, 3) := by decide +kernel
theorem dX3_payNode_25 : decode cX3_payNode 25 = .ok (.iload_n 2, 1) := by decide +kernel
theorem dX3_payNode_26 : decode cX3_payNode 26 = .ok (.iadd, 1) := by decide +kernel
theorem dX3_payNode_27 : decode cX3_payNode 27 = .ok (.putfield 35, 3) := by decide +kernel
theorem dX3_payNode_30 : decode cX3_payNode 30 = .ok (.return_, 1) := by decide +kernel
theorem dX3_rankOf_0 : decode cX3_rankOf 0 = .ok (.iconst 0, 1) := by decide +kernel
theorem dX3_rankOf_1 : decode cX3_rankOf 1 = .ok (.istore_n 2, 1) := by decide +kernel
theorem dX3_rankOf_2 : decode cX3_rankOf 2 = .ok (.iconst 0, 1) := by decide +kernel
theorem dX3_rankOf_3 : decode cX3_rankOf 3 = .ok (.istore_n 3, 1) := by decide +kernel
theorem dX3_rankOf_4 : decode cX3_rankOf 4 = .ok (.iload_n 3, 1) := by decide +kernel
theorem dX3_rankOf_5 : decode cX3_rankOf 5 = .ok (.iconst 5, 1) := by decide +kernel
theorem dX3_rankOf_6 : decode cX3_rankOf 6 = .ok (.if_icmp .ge 47, 3) := by decide +kernel
theorem dX3_rankOf_9 : decode cX3_rankOf 9 = .ok (.aload_n 0, 1) := by decide +kernel
theorem dX3_rankOf_10 : decode cX3_rankOf 10 = .ok (.getfield 18, 3) := by decide +kernel
theorem dX3_rankOf_13 : decode cX3_rankOf 13 = .ok (.iload_n 3, 1) := by decide +kernel
theorem dX3_rankOf_14 : decode cX3_rankOf 14 = .ok (.iaload, 1) := by decide +kernel
theorem dX3_rankOf_15 : decode cX3_rankOf 15 = .ok (.aload_n 0, 1) := by decide +kernel
theorem dX3_rankOf_16 : decode cX3_rankOf 16 = .ok (.getfield 18, 3) := by decide +kernel
theorem dX3_rankOf_19 : decode cX3_rankOf 19 = .ok (.iload_n 1, 1) := by decide +kernel
theorem dX3_rankOf_20 : decode cX3_rankOf 20 = .ok (.iaload, 1) := by decide +kernel
theorem dX3_rankOf_21 : decode cX3_rankOf 21 = .ok (.if_icmp .gt 23, 3) := by decide +kernel
theorem dX3_rankOf_24 : decode cX3_rankOf 24 = .ok (.aload_n 0, 1) := by decide +kernel
theorem dX3_rankOf_25 : decode cX3_rankOf 25 = .ok (.getfield 18, 3) := by decide +kernel
theorem dX3_rankOf_28 : decode cX3_rankOf 28 = .ok (.iload_n 3, 1) := by decide +kernel
theorem dX3_rankOf_29 : decode cX3_rankOf 29 = .ok (.iaload, 1) := by decide +kernel
theorem dX3_rankOf_30 : decode cX3_rankOf 30 = .ok (.aload_n 0, 1) := by decide +kernel
theorem dX3_rankOf_31 : decode cX3_rankOf 31 = .ok (.getfield 18, 3) := by decide +kernel
theorem dX3_rankOf_34 : decode cX3_rankOf 34 = .ok (.iload_n 1, 1) := by decide +kernel
theorem dX3_rankOf_35 : decode cX3_rankOf 35 = .ok (.iaload, 1) := by decide +kernel
theorem dX3_rankOf_36 : decode cX3_rankOf 36 = .ok (.if_icmp .ne 11, 3) := by decide +kernel
theorem dX3_rankOf_39 : decode cX3_rankOf 39 = .ok (.iload_n 3, 1) := by decide +kernel
theorem dX3_rankOf_40 : decode cX3_rankOf 40 = .ok (.iload_n 1, 1) := by decide +kernel
theorem dX3_rankOf_41 : decode cX3_rankOf 41 = .ok (.if_icmp .ge 6, 3) := by decide +kernel
theorem dX3_rankOf_44 : decode cX3_rankOf 44 = .ok (.iinc 2 1, 3) := by decide +kernel
theorem dX3_rankOf_47 : decode cX3_rankOf 47 = .ok (.iinc 3 1, 3) := by decide +kernel
theorem dX3_rankOf_50 : decode cX3_rankOf 50 = .ok (.goto (-46), 3) := by decide +kernel
theorem dX3_rankOf_53 : decode cX3_rankOf 53 = .ok (.iload_n 2, 1) := by decide +kernel
theorem dX3_rankOf_54 : decode cX3_rankOf 54 = .ok (.ireturn, 1) := by decide +kernel
theorem dX3_sumOf_0 : decode cX3_sumOf 0 = .ok (.iconst 0, 1) := by decide +kernel
theorem dX3_sumOf_1 : decode cX3_sumOf 1 = .ok (.istore_n 1, 1) := by decide +kernel
theorem dX3_sumOf_2 : decode cX3_sumOf 2 = .ok (.iconst 0, 1) := by decide +kernel
theorem dX3_sumOf_3 : decode cX3_sumOf 3 = .ok (.istore_n 2, 1) := by decide +kernel
theorem dX3_sumOf_4 : decode cX3_sumOf 4 = .ok (.iload_n 2, 1) := by decide +kernel
theorem dX3_sumOf_5 : decode cX3_sumOf 5 = .ok (.aload_n 0, 1) := by decide +kernel
theorem dX3_sumOf_6 : decode cX3_sumOf 6 = .ok (.arraylength, 1) := by decide +kernel
theorem dX3_sumOf_7 : decode cX3_sumOf 7 = .ok (.if_icmp .ge 15, 3) := by decide +kernel
theorem dX3_sumOf_10 : decode cX3_sumOf 10 = .ok (.iload_n 1, 1) := by decide +kernel
theorem dX3_sumOf_11 : decode cX3_sumOf 11 = .ok (.aload_n 0, 1) := by decide +kernel
theorem dX3_sumOf_12 : decode cX3_sumOf 12 = .ok (.iload_n 2, 1) := by decide +kernel
theorem dX3_sumOf_13 : decode cX3_sumOf 13 = .ok (.iaload, 1) := by decide +kernel
theorem dX3_sumOf_14 : decode cX3_sumOf 14 = .ok (.iadd, 1) := by decide +kernel
theorem dX3_sumOf_15 : decode cX3_sumOf 15 = .ok (.istore_n 1, 1) := by decide +kernel
theorem dX3_sumOf_16 : decode cX3_sumOf 16 = .ok (.iinc 2 1, 3) := by decide +kernel
theorem dX3_sumOf_19 : decode cX3_sumOf 19 = .ok (.goto (-15), 3) := by decide +kernel
theorem dX3_sumOf_22 : decode cX3_sumOf 22 = .ok (.iload_n 1, 1) := by decide +kernel
theorem dX3_sumOf_23 : decode cX3_sumOf 23 = .ok (.ireturn, 1) := by decide +kernel
