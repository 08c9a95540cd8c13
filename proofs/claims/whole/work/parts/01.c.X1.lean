set_option maxRecDepth 20000 in
theorem ggX1_init_X2_init : GoodIn wsX1_init wsX2_init := goodIn_r _ [11, 12, 2, 3, 4, 13, 14, 15, 22, 23, 24, 25] (by decide +kernel) (by decide +kernel)
set_option maxRecDepth 20000 in
theorem gX1_init_X2_init_n17 : GoodIn wsX1_init (wsX2_init) := ggX1_init_X2_init
set_option maxRecDepth 20000 in
theorem ggX1_begin_J7_fill_53178 : GoodIn wsX1_begin wsJ7_fill_53178 := goodIn_r _ [10] (by decide +kernel) (by decide +kernel)
set_option maxRecDepth 20000 in
theorem gX1_begin_J7_fill_53178 : GoodIn wsX1_begin (va_wsS RX1 35 yJ7_fill_53178 wsJ7_fill_53178) := goodIn_app (goodIn_of _ (by decide +kernel)) ggX1_begin_J7_fill_53178
theorem dX1_init_0 : decode cX1_init 0 = .ok (.aload_n 0, 1) := by decide +kernel
theorem dX1_init_1 : decode cX1_init 1 = .ok (.invokespecial 3, 3) := by decide +kernel
theorem dX1_init_4 : decode cX1_init 4 = .ok (.aload_n 0, 1) := by decide +kernel
theorem dX1_init_5 : decode cX1_init 5 = .ok (.iconst 4, 1) := by decide +kernel
theorem dX1_init_6 : decode cX1_init 6 = .ok (.newarray .int, 2) := by decide +kernel
theorem dX1_init_8 : decode cX1_init 8 = .ok (.putfield 9, 3) := by decide +kernel
theorem dX1_init_11 : decode cX1_init 11 = .ok (.aload_n 0, 1) := by decide +kernel
theorem dX1_init_12 : decode cX1_init 12 = .ok (.new 15, 3) := by decide +kernel
theorem dX1_init_15 : decode cX1_init 15 = .ok (.dup, 1) := by decide +kernel
theorem dX1_init_16 : decode cX1_init 16 = .ok (.invokespecial 17, 3) := by decide +kernel
theorem dX1_init_19 : decode cX1_init 19 = .ok (.putfield 18, 3) := by decide +kernel
theorem dX1_init_22 : decode cX1_init 22 = .ok (.return_, 1) := by decide +kernel
theorem dX1_begin_0 : decode cX1_begin 0 = .ok (.aload_n 0, 1) := by decide +kernel
theorem dX1_begin_1 : decode cX1_begin 1 = .ok (.iload_n 1, 1) := by decide +kernel
theorem dX1_begin_2 : decode cX1_begin 2 = .ok (.putfield 22, 3) := by decide +kernel
theorem dX1_begin_5 : decode cX1_begin 5 = .ok (.aload_n 0, 1) := by decide +kernel
theorem dX1_begin_6 : decode cX1_begin 6 = .ok (.iload_n 2, 1) := by decide +kernel
theorem dX1_begin_7 : decode cX1_begin 7 = .ok (.putfield 26, 3) := by decide +kernel
theorem dX1_begin_10 : decode cX1_begin 10 = .ok (.aload_n 0, 1) := by decide +kernel
theorem dX1_begin_11 : decode cX1_begin 11 = .ok (.iload_n 3, 1) := by decide +kernel
theorem dX1_begin_12 : decode cX1_begin 12 = .ok (.putfield 29, 3) := by decide +kernel
theorem dX1_begin_15 : decode cX1_begin 15 = .ok (.aload_n 0, 1) := by decide +kernel
theorem dX1_begin_16 : decode cX1_begin 16 = .ok (.iconst 0, 1) := by decide +kernel
theorem dX1_begin_17 : decode cX1_begin 17 = .ok (.putfield 32, 3) := by decide +kernel
theorem dX1_begin_20 : decode cX1_begin 20 = .ok (.aload_n 0, 1) := by decide +kernel
theorem dX1_begin_21 : decode cX1_begin 21 = .ok (.getfield 9, 3) := by decide +kernel
theorem dX1_begin_24 : decode cX1_begin 24 = .ok (.iconst 0, 1) := by decide +kernel
theorem dX1_begin_25 : decode cX1_begin 25 = .ok (.invokestatic 35, 3) := by decide +kernel
theorem dX1_begin_28 : decode cX1_begin 28 = .ok (.aload_n 0, 1) := by decide +kernel
theorem dX1_begin_29 : decode cX1_begin 29 = .ok (.getfield 18, 3) := by decide +kernel
theorem dX1_begin_32 : decode cX1_begin 32 = .ok (.iconst 0, 1) := by decide +kernel
theorem dX1_begin_33 : decode cX1_begin 33 = .ok (.putfield 41, 3) := by decide +kernel
theorem dX1_begin_36 : decode cX1_begin 36 = .ok (.return_, 1) := by decide +kernel
theorem dX1_sizeNow_0 : decode cX1_sizeNow 0 = .ok (.aload_n 0, 1) := by decide +kernel
theorem dX1_sizeNow_1 : decode cX1_sizeNow 1 = .ok (.getfield 32, 3) := by decide +kernel
theorem dX1_sizeNow_4 : decode cX1_sizeNow 4 = .ok (.iconst 2, 1) := by decide +kernel
theorem dX1_sizeNow_5 : decode cX1_sizeNow 5 = .ok (.if_icmp .ne 7, 3) := by decide +kernel
theorem dX1_sizeNow_8 : decode cX1_sizeNow 8 = .ok (.iconst 0, 1) := by decide +kernel
theorem dX1_sizeNow_9 : decode cX1_sizeNow 9 = .ok (.goto 7, 3) := by decide +kernel
theorem dX1_sizeNow_12 : decode cX1_sizeNow 12 = .ok (.aload_n 0, 1) := by decide +kernel
theorem dX1_sizeNow_13 : decode cX1_sizeNow 13 = .ok (.getfield 26, 3) := by decide +kernel
theorem dX1_sizeNow_16 : decode cX1_sizeNow 16 = .ok (.ireturn, 1) := by decide +kernel
theorem dX1_sumUp_0 : decode cX1_sumUp 0 = .ok (.aload_n 0, 1) := by decide +kernel
theorem dX1_sumUp_1 : decode cX1_sumUp 1 = .ok (.getfield 26, 3) := by decide +kernel
theorem dX1_sumUp_4 : decode cX1_sumUp 4 = .ok (.istore_n 1, 1) := by decide +kernel
theorem dX1_sumUp_5 : decode cX1_sumUp 5 = .ok (.iconst 0, 1) := by decide +kernel
theorem dX1_sumUp_6 : decode cX1_sumUp 6 = .ok (.istore_n 2, 1) := by decide +kernel
theorem dX1_sumUp_7 : decode cX1_sumUp 7 = .ok (.iload_n 2, 1) := by decide +kernel
theorem dX1_sumUp_8 : decode cX1_sumUp 8 = .ok (.iconst 4, 1) := by decide +kernel
theorem dX1_sumUp_9 : decode cX1_sumUp 9 = .ok (.if_icmp .ge 21, 3) := by decide +kernel
theorem dX1_sumUp_12 : decode cX1_sumUp 12 = .ok (.bipush 31, 2) := by decide +kernel
theorem dX1_sumUp_14 : decode cX1_sumUp 14 = .ok (.iload_n 1, 1) := by decide +kernel
theorem dX1_sumUp_15 : decode cX1_sumUp 15 = .ok (.imul, 1) := by decide +kernel
theorem dX1_sumUp_16 : decode cX1_sumUp 16 = .ok (.aload_n 0, 1) := by decide +kernel
theorem dX1_sumUp_17 : decode cX1_sumUp 17 = .ok (.getfield 9, 3) := by decide +kernel
theorem dX1_sumUp_20 : decode cX1_sumUp 20 = .ok (.iload_n 2, 1) := by decide +kernel
theorem dX1_sumUp_21 : decode cX1_sumUp 21 = .ok (.iaload, 1) := by decide +kernel
theorem dX1_sumUp_22 : decode cX1_sumUp 22 = .ok (.iadd, 1) := by decide +kernel
theorem dX1_sumUp_23 : decode cX1_sumUp 23 = .ok (.istore_n 1, 1) := by decide +kernel
theorem dX1_sumUp_24 : decode cX1_sumUp 24 = .ok (.iinc 2 1, 3) := by decide +kernel
theorem dX1_sumUp_27 : decode cX1_sumUp 27 = .ok (.goto (-20), 3) := by decide +kernel
theorem dX1_sumUp_30 : decode cX1_sumUp 30 = .ok (.iload_n 1, 1) := by decide +kernel
theorem dX1_sumUp_31 : decode cX1_sumUp 31 = .ok (.iload_n 1, 1) := by decide +kernel
theorem dX1_sumUp_32 : decode cX1_sumUp 32 = .ok (.bipush 13, 2) := by decide +kernel
theorem dX1_sumUp_34 : decode cX1_sumUp 34 = .ok (.iushr, 1) := by decide +kernel
theorem dX1_sumUp_35 : decode cX1_sumUp 35 = .ok (.ixor, 1) := by decide +kernel
theorem dX1_sumUp_36 : decode cX1_sumUp 36 = .ok (.ireturn, 1) := by decide +kernel
