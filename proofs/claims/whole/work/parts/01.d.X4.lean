theorem dX4_init_0 : decode cX4_init 0 = .ok (.aload_n 0, 1) := by decide +kernel
theorem dX4_init_1 : decode cX4_init 1 = .ok (.invokespecial 1, 3) := by decide +kernel
theorem dX4_init_4 : decode cX4_init 4 = .ok (.aload_n 0, 1) := by decide +kernel
theorem dX4_init_5 : decode cX4_init 5 = .ok (.new 7, 3) := by decide +kernel
theorem dX4_init_8 : decode cX4_init 8 = .ok (.dup, 1) := by decide +kernel
theorem dX4_init_9 : decode cX4_init 9 = .ok (.invokespecial 9, 3) := by decide +kernel
theorem dX4_init_12 : decode cX4_init 12 = .ok (.putfield 10, 3) := by decide +kernel
theorem dX4_init_15 : decode cX4_init 15 = .ok (.aload_n 0, 1) := by decide +kernel
theorem dX4_init_16 : decode cX4_init 16 = .ok (.new 16, 3) := by decide +kernel
theorem dX4_init_19 : decode cX4_init 19 = .ok (.dup, 1) := by decide +kernel
theorem dX4_init_20 : decode cX4_init 20 = .ok (.invokespecial 18, 3) := by decide +kernel
theorem dX4_init_23 : decode cX4_init 23 = .ok (.putfield 19, 3) := by decide +kernel
theorem dX4_init_26 : decode cX4_init 26 = .ok (.aload_n 0, 1) := by decide +kernel
theorem dX4_init_27 : decode cX4_init 27 = .ok (.bipush 6, 2) := by decide +kernel
theorem dX4_init_29 : decode cX4_init 29 = .ok (.newarray .int, 2) := by decide +kernel
theorem dX4_init_31 : decode cX4_init 31 = .ok (.putfield 23, 3) := by decide +kernel
theorem dX4_init_34 : decode cX4_init 34 = .ok (.aload_n 0, 1) := by decide +kernel
theorem dX4_init_35 : decode cX4_init 35 = .ok (.bipush 60, 2) := by decide +kernel
theorem dX4_init_37 : decode cX4_init 37 = .ok (.anewarray 27, 3) := by decide +kernel
theorem dX4_init_40 : decode cX4_init 40 = .ok (.putfield 29, 3) := by decide +kernel
theorem dX4_init_43 : decode cX4_init 43 = .ok (.aload_n 0, 1) := by decide +kernel
theorem dX4_init_44 : decode cX4_init 44 = .ok (.invokevirtual 33, 3) := by decide +kernel
theorem dX4_init_47 : decode cX4_init 47 = .ok (.return_, 1) := by decide +kernel
theorem dX4_edition_0 : decode cX4_edition 0 = .ok (.iload_n 1, 1) := by decide +kernel
theorem dX4_edition_1 : decode cX4_edition 1 = .ok (.iconst 0, 1) := by decide +kernel
theorem dX4_edition_2 : decode cX4_edition 2 = .ok (.ldc 36, 2) := by decide +kernel
theorem dX4_edition_4 : decode cX4_edition 4 = .ok (.invokestatic 37, 3) := by decide +kernel
theorem dX4_edition_7 : decode cX4_edition 7 = .ok (.ifCond .eq 34, 3) := by decide +kernel
theorem dX4_edition_10 : decode cX4_edition 10 = .ok (.iload_n 2, 1) := by decide +kernel
theorem dX4_edition_11 : decode cX4_edition 11 = .ok (.iconst 0, 1) := by decide +kernel
theorem dX4_edition_12 : decode cX4_edition 12 = .ok (.bipush 100, 2) := by decide +kernel
theorem dX4_edition_14 : decode cX4_edition 14 = .ok (.invokestatic 37, 3) := by decide +kernel
theorem dX4_edition_17 : decode cX4_edition 17 = .ok (.ifCond .eq 24, 3) := by decide +kernel
theorem dX4_edition_20 : decode cX4_edition 20 = .ok (.iload_n 3, 1) := by decide +kernel
theorem dX4_edition_21 : decode cX4_edition 21 = .ok (.iconst 0, 1) := by decide +kernel
theorem dX4_edition_22 : decode cX4_edition 22 = .ok (.bipush 20, 2) := by decide +kernel
theorem dX4_edition_24 : decode cX4_edition 24 = .ok (.invokestatic 37, 3) := by decide +kernel
theorem dX4_edition_27 : decode cX4_edition 27 = .ok (.ifCond .eq 14, 3) := by decide +kernel
theorem dX4_edition_30 : decode cX4_edition 30 = .ok (.iload 4, 2) := by decide +kernel
theorem dX4_edition_32 : decode cX4_edition 32 = .ok (.iconst 1, 1) := by decide +kernel
theorem dX4_edition_33 : decode cX4_edition 33 = .ok (.bipush 64, 2) := by decide +kernel
theorem dX4_edition_35 : decode cX4_edition 35 = .ok (.invokestatic 37, 3) := by decide +kernel
theorem dX4_edition_38 : decode cX4_edition 38 = .ok (.ifCond .ne 6, 3) := by decide +kernel
theorem dX4_edition_41 : decode cX4_edition 41 = .ok (.bipush (-102), 2) := by decide +kernel
theorem dX4_edition_43 : decode cX4_edition 43 = .ok (.ireturn, 1) := by decide +kernel
theorem dX4_edition_44 : decode cX4_edition 44 = .ok (.iload_n 1, 1) := by decide +kernel
theorem dX4_edition_45 : decode cX4_edition 45 = .ok (.aload_n 0, 1) := by decide +kernel
theorem dX4_edition_46 : decode cX4_edition 46 = .ok (.getfield 41, 3) := by decide +kernel
theorem dX4_edition_49 : decode cX4_edition 49 = .ok (.iconst 5, 1) := by decide +kernel
theorem dX4_edition_50 : decode cX4_edition 50 = .ok (.iadd, 1) := by decide +kernel
theorem dX4_edition_51 : decode cX4_edition 51 = .ok (.if_icmp .lt 14, 3) := by decide +kernel
theorem dX4_edition_54 : decode cX4_edition 54 = .ok (.iload_n 1, 1) := by decide +kernel
theorem dX4_edition_55 : decode cX4_edition 55 = .ok (.aload_n 0, 1) := by decide +kernel
theorem dX4_edition_56 : decode cX4_edition 56 = .ok (.getfield 10, 3) := by decide +kernel
theorem dX4_edition_59 : decode cX4_edition 59 = .ok (.invokevirtual 45, 3) := by decide +kernel
theorem dX4_edition_62 : decode cX4_edition 62 = .ok (.if_icmp .gt 6, 3) := by decide +kernel
theorem dX4_edition_65 : decode cX4_edition 65 = .ok (.bipush (-103), 2) := by decide +kernel
theorem dX4_edition_67 : decode cX4_edition 67 = .ok (.ireturn, 1) := by decide +kernel
theorem dX4_edition_68 : decode cX4_edition 68 = .ok (.aload_n 0, 1) := by decide +kernel
theorem dX4_edition_69 : decode cX4_edition 69 = .ok (.getfield 10, 3) := by decide +kernel
theorem dX4_edition_72 : decode cX4_edition 72 = .ok (.invokevirtual 49, 3) := by decide +kernel
theorem dX4_edition_75 : decode cX4_edition 75 = .ok (.ifCond .ne 6, 3) := by decide +kernel
theorem dX4_edition_78 : decode cX4_edition 78 = .ok (.bipush (-107), 2) := by decide +kernel
theorem dX4_edition_80 : decode cX4_edition 80 = .ok (.ireturn, 1) := by decide +kernel
theorem dX4_edition_81 : decode cX4_edition 81 = .ok (.aload_n 0, 1) := by decide +kernel
theorem dX4_edition_82 : decode cX4_edition 82 = .ok (.getfield 10, 3) := by decide +kernel
theorem dX4_edition_85 : decode cX4_edition 85 = .ok (.iload_n 1, 1) := by decide +kernel
theorem dX4_edition_86 : decode cX4_edition 86 = .ok (.iload_n 2, 1) := by decide +kernel
theorem dX4_edition_87 : decode cX4_edition 87 = .ok (.iload_n 3, 1) := by decide +kernel
theorem dX4_edition_88 : decode cX4_edition 88 = .ok (.iload 4, 2) := by decide +kernel
theorem dX4_edition_90 : decode cX4_edition 90 = .ok (.invokevirtual 53, 3) := by decide +kernel
theorem dX4_edition_93 : decode cX4_edition 93 = .ok (.aload_n 0, 1) := by decide +kernel
theorem dX4_edition_94 : decode cX4_edition 94 = .ok (.getfield 10, 3) := by decide +kernel
theorem dX4_edition_97 : decode cX4_edition 97 = .ok (.getfield 57, 3) := by decide +kernel
theorem dX4_edition_100 : decode cX4_edition 100 = .ok (.ireturn, 1) := by decide +kernel
theorem dX4_priceAt_0 : decode cX4_priceAt 0 = .ok (.iload_n 1, 1) := by decide +kernel
theorem dX4_priceAt_1 : decode cX4_priceAt 1 = .ok (.iconst 0, 1) := by decide +kernel
theorem dX4_priceAt_2 : decode cX4_priceAt 2 = .ok (.ldc 36, 2) := by decide +kernel
theorem dX4_priceAt_4 : decode cX4_priceAt 4 = .ok (.invokestatic 37, 3) := by decide +kernel
theorem dX4_priceAt_7 : decode cX4_priceAt 7 = .ok (.ifCond .ne 6, 3) := by decide +kernel
theorem dX4_priceAt_10 : decode cX4_priceAt 10 = .ok (.bipush (-102), 2) := by decide +kernel
theorem dX4_priceAt_12 : decode cX4_priceAt 12 = .ok (.ireturn, 1) := by decide +kernel
theorem dX4_priceAt_13 : decode cX4_priceAt 13 = .ok (.iload_n 2, 1) := by decide +kernel
theorem dX4_priceAt_14 : decode cX4_priceAt 14 = .ok (.tableswitch 66 0 3 #[30, 39, 48, 57], 30) := by decide +kernel
theorem dX4_priceAt_44 : decode cX4_priceAt 44 = .ok (.aload_n 0, 1) := by decide +kernel
theorem dX4_priceAt_45 : decode cX4_priceAt 45 = .ok (.getfield 10, 3) := by decide +kernel
theorem dX4_priceAt_48 : decode cX4_priceAt 48 = .ok (.iload_n 1, 1) := by decide +kernel
theorem dX4_priceAt_49 : decode cX4_priceAt 49 = .ok (.invokevirtual 60, 3) := by decide +kernel
theorem dX4_priceAt_52 : decode cX4_priceAt 52 = .ok (.ireturn, 1) := by decide +kernel
theorem dX4_priceAt_53 : decode cX4_priceAt 53 = .ok (.aload_n 0, 1) := by decide +kernel
theorem dX4_priceAt_54 : decode cX4_priceAt 54 = .ok (.getfield 10, 3) := by decide +kernel
theorem dX4_priceAt_57 : decode cX4_priceAt 57 = .ok (.iload_n 1, 1) := by decide +kernel
theorem dX4_priceAt_58 : decode cX4_priceAt 58 = .ok (.invokevirtual 64, 3) := by decide +kernel
theorem dX4_priceAt_61 : decode cX4_priceAt 61 = .ok (.ireturn, 1) := by decide +kernel
theorem dX4_priceAt_62 : decode cX4_priceAt 62 = .ok (.aload_n 0, 1) := by decide +kernel
theorem dX4_priceAt_63 : decode cX4_priceAt 63 = .ok (.getfield 10, 3) := by decide +kernel
theorem dX4_priceAt_66 : decode cX4_priceAt 66 = .ok (.iload_n 1, 1) := by decide +kernel
theorem dX4_priceAt_67 : decode cX4_priceAt 67 = .ok (.invokevirtual 67, 3) := by decide +kernel
theorem dX4_priceAt_70 : decode cX4_priceAt 70 = .ok (.ireturn, 1) := by decide +kernel
theorem dX4_priceAt_71 : decode cX4_priceAt 71 = .ok (.aload_n 0, 1) := by decide +kernel
theorem dX4_priceAt_72 : decode cX4_priceAt 72 = .ok (.getfield 10, 3) := by decide +kernel
theorem dX4_priceAt_75 : decode cX4_priceAt 75 = .ok (.iload_n 1, 1) := by decide +kernel
theorem dX4_priceAt_76 : decode cX4_priceAt 76 = .ok (.invokevirtual 70, 3) := by decide +kernel
theorem dX4_priceAt_79 : decode cX4_priceAt 79 = .ok (.ireturn, 1) := by decide +kernel
theorem dX4_priceAt_80 : decode cX4_priceAt 80 = .ok (.bipush (-102), 2) := by decide +kernel
theorem dX4_priceAt_82 : decode cX4_priceAt 82 = .ok (.ireturn, 1) := by decide +kernel
theorem dX4_cap_0 : decode cX4_cap 0 = .ok (.iload_n 1, 1) := by decide +kernel
theorem dX4_cap_1 : decode cX4_cap 1 = .ok (.invokestatic 73, 3) := by decide +kernel
theorem dX4_cap_4 : decode cX4_cap 4 = .ok (.ifCond .ne 6, 3) := by decide +kernel
theorem dX4_cap_7 : decode cX4_cap 7 = .ok (.bipush (-101), 2) := by decide +kernel
theorem dX4_cap_9 : decode cX4_cap 9 = .ok (.ireturn, 1) := by decide +kernel
theorem dX4_cap_10 : decode cX4_cap 10 = .ok (.iload_n 2, 1) := by decide +kernel
theorem dX4_cap_11 : decode cX4_cap 11 = .ok (.iconst 0, 1) := by decide +kernel
theorem dX4_cap_12 : decode cX4_cap 12 = .ok (.sipush 5000, 3) := by decide +kernel
theorem dX4_cap_15 : decode cX4_cap 15 = .ok (.invokestatic 37, 3) := by decide +kernel
theorem dX4_cap_18 : decode cX4_cap 18 = .ok (.ifCond .ne 6, 3) := by decide +kernel
theorem dX4_cap_21 : decode cX4_cap 21 = .ok (.bipush (-102), 2) := by decide +kernel
theorem dX4_cap_23 : decode cX4_cap 23 = .ok (.ireturn, 1) := by decide +kernel
theorem dX4_cap_24 : decode cX4_cap 24 = .ok (.aload_n 0, 1) := by decide +kernel
theorem dX4_cap_25 : decode cX4_cap 25 = .ok (.getfield 23, 3) := by decide +kernel
theorem dX4_cap_28 : decode cX4_cap 28 = .ok (.iload_n 1, 1) := by decide +kernel
theorem dX4_cap_29 : decode cX4_cap 29 = .ok (.iaload, 1) := by decide +kernel
theorem dX4_cap_30 : decode cX4_cap 30 = .ok (.istore_n 3, 1) := by decide +kernel
theorem dX4_cap_31 : decode cX4_cap 31 = .ok (.aload_n 0, 1) := by decide +kernel
theorem dX4_cap_32 : decode cX4_cap 32 = .ok (.getfield 23, 3) := by decide +kernel
theorem dX4_cap_35 : decode cX4_cap 35 = .ok (.iload_n 1, 1) := by decide +kernel
theorem dX4_cap_36 : decode cX4_cap 36 = .ok (.iload_n 2, 1) := by decide +kernel
theorem dX4_cap_37 : decode cX4_cap 37 = .ok (.iastore, 1) := by decide +kernel
theorem dX4_cap_38 : decode cX4_cap 38 = .ok (.iload_n 3, 1) := by decide +kernel
theorem dX4_cap_39 : decode cX4_cap 39 = .ok (.ireturn, 1) := by decide +kernel
theorem dX4_make_0 : decode cX4_make 0 = .ok (.iload_n 1, 1) := by decide +kernel
theorem dX4_make_1 : decode cX4_make 1 = .ok (.invokestatic 73, 3) := by decide +kernel
theorem dX4_make_4 : decode cX4_make 4 = .ok (.ifCond .eq 10, 3) := by decide +kernel
theorem dX4_make_7 : decode cX4_make 7 = .ok (.iload_n 2, 1) := by decide +kernel
theorem dX4_make_8 : decode cX4_make 8 = .ok (.invokestatic 73, 3) := by decide +kernel
theorem dX4_make_11 : decode cX4_make 11 = .ok (.ifCond .ne 6, 3) := by decide +kernel
theorem dX4_make_14 : decode cX4_make 14 = .ok (.bipush (-101), 2) := by decide +kernel
theorem dX4_make_16 : decode cX4_make 16 = .ok (.ireturn, 1) := by decide +kernel
theorem dX4_make_17 : decode cX4_make 17 = .ok (.iload_n 3, 1) := by decide +kernel
theorem dX4_make_18 : decode cX4_make 18 = .ok (.iconst 1, 1) := by decide +kernel
theorem dX4_make_19 : decode cX4_make 19 = .ok (.sipush 1000, 3) := by decide +kernel
theorem dX4_make_22 : decode cX4_make 22 = .ok (.invokestatic 37, 3) := by decide +kernel
theorem dX4_make_25 : decode cX4_make 25 = .ok (.ifCond .eq 14, 3) := by decide +kernel
theorem dX4_make_28 : decode cX4_make 28 = .ok (.iload 4, 2) := by decide +kernel
theorem dX4_make_30 : decode cX4_make 30 = .ok (.iconst 1, 1) := by decide +kernel
theorem dX4_make_31 : decode cX4_make 31 = .ok (.bipush 100, 2) := by decide +kernel
theorem dX4_make_33 : decode cX4_make 33 = .ok (.invokestatic 37, 3) := by decide +kernel
theorem dX4_make_36 : decode cX4_make 36 = .ok (.ifCond .ne 6, 3) := by decide +kernel
theorem dX4_make_39 : decode cX4_make 39 = .ok (.bipush (-102), 2) := by decide +kernel
theorem dX4_make_41 : decode cX4_make 41 = .ok (.ireturn, 1) := by decide +kernel
theorem dX4_make_42 : decode cX4_make 42 = .ok (.aload_n 0, 1) := by decide +kernel
theorem dX4_make_43 : decode cX4_make 43 = .ok (.iload_n 2, 1) := by decide +kernel
theorem dX4_make_44 : decode cX4_make 44 = .ok (.iload_n 3, 1) := by decide +kernel
theorem dX4_make_45 : decode cX4_make 45 = .ok (.invokevirtual 77, 3) := by decide +kernel
theorem dX4_make_48 : decode cX4_make 48 = .ok (.ifCond .ne 6, 3) := by decide +kernel
theorem dX4_make_51 : decode cX4_make 51 = .ok (.bipush (-105), 2) := by decide +kernel
theorem dX4_make_53 : decode cX4_make 53 = .ok (.ireturn, 1) := by decide +kernel
theorem dX4_make_54 : decode cX4_make 54 = .ok (.aload_n 0, 1) := by decide +kernel
theorem dX4_make_55 : decode cX4_make 55 = .ok (.getfield 10, 3) := by decide +kernel
theorem dX4_make_58 : decode cX4_make 58 = .ok (.aload_n 0, 1) := by decide +kernel
theorem dX4_make_59 : decode cX4_make 59 = .ok (.getfield 41, 3) := by decide +kernel
theorem dX4_make_62 : decode cX4_make 62 = .ok (.invokevirtual 60, 3) := by decide +kernel
theorem dX4_make_65 : decode cX4_make 65 = .ok (.istore 5, 2) := by decide +kernel
theorem dX4_make_67 : decode cX4_make 67 = .ok (.iload_n 3, 1) := by decide +kernel
theorem dX4_make_68 : decode cX4_make 68 = .ok (.i2l, 1) := by decide +kernel
theorem dX4_make_69 : decode cX4_make 69 = .ok (.iload 5, 2) := by decide +kernel
theorem dX4_make_71 : decode cX4_make 71 = .ok (.i2l, 1) := by decide +kernel
theorem dX4_make_72 : decode cX4_make 72 = .ok (.lmul, 1) := by decide +kernel
theorem dX4_make_73 : decode cX4_make 73 = .ok (.lstore 6, 2) := by decide +kernel
theorem dX4_make_75 : decode cX4_make 75 = .ok (.aload_n 0, 1) := by decide +kernel
theorem dX4_make_76 : decode cX4_make 76 = .ok (.aload_n 0, 1) := by decide +kernel
theorem dX4_make_77 : decode cX4_make 77 = .ok (.iload_n 3, 1) := by decide +kernel
theorem dX4_make_78 : decode cX4_make 78 = .ok (.invokevirtual 81, 3) := by decide +kernel
theorem dX4_make_81 : decode cX4_make 81 = .ok (.iload 4, 2) := by decide +kernel
theorem dX4_make_83 : decode cX4_make 83 = .ok (.invokevirtual 84, 3) := by decide +kernel
theorem dX4_make_86 : decode cX4_make 86 = .ok (.lstore 8, 2) := by decide +kernel
theorem dX4_make_88 : decode cX4_make 88 = .ok (.aload_n 0, 1) := by decide +kernel
theorem dX4_make_89 : decode cX4_make 89 = .ok (.getfield 19, 3) := by decide +kernel
theorem dX4_make_92 : decode cX4_make 92 = .ok (.iload_n 1, 1) := by decide +kernel
theorem dX4_make_93 : decode cX4_make 93 = .ok (.lload 6, 2) := by decide +kernel
theorem dX4_make_95 : decode cX4_make 95 = .ok (.lload 8, 2) := by decide +kernel
theorem dX4_make_97 : decode cX4_make 97 = .ok (.ladd, 1) := by decide +kernel
theorem dX4_make_98 : decode cX4_make 98 = .ok (.invokevirtual 88, 3) := by decide +kernel
theorem dX4_make_101 : decode cX4_make 101 = .ok (.ifCond .ne 6, 3) := by decide +kernel
theorem dX4_make_104 : decode cX4_make 104 = .ok (.bipush (-106), 2) := by decide +kernel
theorem dX4_make_106 : decode cX4_make 106 = .ok (.ireturn, 1) := by decide +kernel
theorem dX4_make_107 : decode cX4_make 107 = .ok (.aload_n 0, 1) := by decide +kernel
theorem dX4_make_108 : decode cX4_make 108 = .ok (.getfield 92, 3) := by decide +kernel
theorem dX4_make_111 : decode cX4_make 111 = .ok (.bipush 60, 2) := by decide +kernel
theorem dX4_make_113 : decode cX4_make 113 = .ok (.if_icmp .lt 6, 3) := by decide +kernel
theorem dX4_make_116 : decode cX4_make 116 = .ok (.bipush (-107), 2) := by decide +kernel
theorem dX4_make_118 : decode cX4_make 118 = .ok (.ireturn, 1) := by decide +kernel
theorem dX4_make_119 : decode cX4_make 119 = .ok (.aload_n 0, 1) := by decide +kernel
theorem dX4_make_120 : decode cX4_make 120 = .ok (.getfield 19, 3) := by decide +kernel
theorem dX4_make_123 : decode cX4_make 123 = .ok (.iload_n 1, 1) := by decide +kernel
theorem dX4_make_124 : decode cX4_make 124 = .ok (.lload 6, 2) := by decide +kernel
theorem dX4_make_126 : decode cX4_make 126 = .ok (.lload 8, 2) := by decide +kernel
theorem dX4_make_128 : decode cX4_make 128 = .ok (.invokevirtual 95, 3) := by decide +kernel
theorem dX4_make_131 : decode cX4_make 131 = .ok (.pop, 1) := by decide +kernel
theorem dX4_make_132 : decode cX4_make 132 = .ok (.aload_n 0, 1) := by decide +kernel
theorem dX4_make_133 : decode cX4_make 133 = .ok (.invokevirtual 99, 3) := by decide +kernel
theorem dX4_make_136 : decode cX4_make 136 = .ok (.astore 10, 2) := by decide +kernel
theorem dX4_make_138 : decode cX4_make 138 = .ok (.aload 10, 2) := by decide +kernel
theorem dX4_make_140 : decode cX4_make 140 = .ok (.iload_n 2, 1) := by decide +kernel
theorem dX4_make_141 : decode cX4_make 141 = .ok (.iload_n 3, 1) := by decide +kernel
theorem dX4_make_142 : decode cX4_make 142 = .ok (.aload_n 0, 1) := by decide +kernel
theorem dX4_make_143 : decode cX4_make 143 = .ok (.getfield 41, 3) := by decide +kernel
theorem dX4_make_146 : decode cX4_make 146 = .ok (.iload 4, 2) := by decide +kernel
theorem dX4_make_148 : decode cX4_make 148 = .ok (.iadd, 1) := by decide +kernel
theorem dX4_make_149 : decode cX4_make 149 = .ok (.invokevirtual 103, 3) := by decide +kernel
theorem dX4_make_152 : decode cX4_make 152 = .ok (.aload 10, 2) := by decide +kernel
theorem dX4_make_154 : decode cX4_make 154 = .ok (.getfield 107, 3) := by decide +kernel
theorem dX4_make_157 : decode cX4_make 157 = .ok (.iload_n 3, 1) := by decide +kernel
theorem dX4_make_158 : decode cX4_make 158 = .ok (.iload 5, 2) := by decide +kernel
theorem dX4_make_160 : decode cX4_make 160 = .ok (.iload_n 1, 1) := by decide +kernel
theorem dX4_make_161 : decode cX4_make 161 = .ok (.invokevirtual 111, 3) := by decide +kernel
theorem dX4_make_164 : decode cX4_make 164 = .ok (.aload_n 0, 1) := by decide +kernel
theorem dX4_make_165 : decode cX4_make 165 = .ok (.getfield 92, 3) := by decide +kernel
theorem dX4_make_168 : decode cX4_make 168 = .ok (.iconst 1, 1) := by decide +kernel
theorem dX4_make_169 : decode cX4_make 169 = .ok (.isub, 1) := by decide +kernel
theorem dX4_make_170 : decode cX4_make 170 = .ok (.ireturn, 1) := by decide +kernel
theorem dX4_grow_0 : decode cX4_grow 0 = .ok (.aload_n 0, 1) := by decide +kernel
theorem dX4_grow_1 : decode cX4_grow 1 = .ok (.iload_n 1, 1) := by decide +kernel
theorem dX4_grow_2 : decode cX4_grow 2 = .ok (.invokevirtual 116, 3) := by decide +kernel
theorem dX4_grow_5 : decode cX4_grow 5 = .ok (.astore 4, 2) := by decide +kernel
theorem dX4_grow_7 : decode cX4_grow 7 = .ok (.aload 4, 2) := by decide +kernel
theorem dX4_grow_9 : decode cX4_grow 9 = .ok (.ifnull 10, 3) := by decide +kernel
theorem dX4_grow_12 : decode cX4_grow 12 = .ok (.iload_n 2, 1) := by decide +kernel
theorem dX4_grow_13 : decode cX4_grow 13 = .ok (.invokestatic 73, 3) := by decide +kernel
theorem dX4_grow_16 : decode cX4_grow 16 = .ok (.ifCond .ne 6, 3) := by decide +kernel
theorem dX4_grow_19 : decode cX4_grow 19 = .ok (.bipush (-101), 2) := by decide +kernel
theorem dX4_grow_21 : decode cX4_grow 21 = .ok (.ireturn, 1) := by decide +kernel
theorem dX4_grow_22 : decode cX4_grow 22 = .ok (.iload_n 3, 1) := by decide +kernel
theorem dX4_grow_23 : decode cX4_grow 23 = .ok (.iconst 1, 1) := by decide +kernel
theorem dX4_grow_24 : decode cX4_grow 24 = .ok (.sipush 999, 3) := by decide +kernel
theorem dX4_grow_27 : decode cX4_grow 27 = .ok (.invokestatic 37, 3) := by decide +kernel
theorem dX4_grow_30 : decode cX4_grow 30 = .ok (.ifCond .eq 16, 3) := by decide +kernel
theorem dX4_grow_33 : decode cX4_grow 33 = .ok (.aload 4, 2) := by decide +kernel
theorem dX4_grow_35 : decode cX4_grow 35 = .ok (.invokevirtual 120, 3) := by decide +kernel
theorem dX4_grow_38 : decode cX4_grow 38 = .ok (.iload_n 3, 1) := by decide +kernel
theorem dX4_grow_39 : decode cX4_grow 39 = .ok (.iadd, 1) := by decide +kernel
theorem dX4_grow_40 : decode cX4_grow 40 = .ok (.sipush 1000, 3) := by decide +kernel
theorem dX4_grow_43 : decode cX4_grow 43 = .ok (.if_icmp .le 6, 3) := by decide +kernel
theorem dX4_grow_46 : decode cX4_grow 46 = .ok (.bipush (-102), 2) := by decide +kernel
theorem dX4_grow_48 : decode cX4_grow 48 = .ok (.ireturn, 1) := by decide +kernel
theorem dX4_grow_49 : decode cX4_grow 49 = .ok (.aload 4, 2) := by decide +kernel
theorem dX4_grow_51 : decode cX4_grow 51 = .ok (.getfield 123, 3) := by decide +kernel
theorem dX4_grow_54 : decode cX4_grow 54 = .ok (.ifCond .eq 6, 3) := by decide +kernel
theorem dX4_grow_57 : decode cX4_grow 57 = .ok (.bipush (-103), 2) := by decide +kernel
theorem dX4_grow_59 : decode cX4_grow 59 = .ok (.ireturn, 1) := by decide +kernel
theorem dX4_grow_60 : decode cX4_grow 60 = .ok (.aload_n 0, 1) := by decide +kernel
theorem dX4_grow_61 : decode cX4_grow 61 = .ok (.aload 4, 2) := by decide +kernel
theorem dX4_grow_63 : decode cX4_grow 63 = .ok (.getfield 126, 3) := by decide +kernel
theorem dX4_grow_66 : decode cX4_grow 66 = .ok (.iload_n 3, 1) := by decide +kernel
theorem dX4_grow_67 : decode cX4_grow 67 = .ok (.invokevirtual 77, 3) := by decide +kernel
theorem dX4_grow_70 : decode cX4_grow 70 = .ok (.ifCond .ne 6, 3) := by decide +kernel
theorem dX4_grow_73 : decode cX4_grow 73 = .ok (.bipush (-105), 2) := by decide +kernel
theorem dX4_grow_75 : decode cX4_grow 75 = .ok (.ireturn, 1) := by decide +kernel
theorem dX4_grow_76 : decode cX4_grow 76 = .ok (.aload_n 0, 1) := by decide +kernel
theorem dX4_grow_77 : decode cX4_grow 77 = .ok (.getfield 10, 3) := by decide +kernel
theorem dX4_grow_80 : decode cX4_grow 80 = .ok (.aload_n 0, 1) := by decide +kernel
theorem dX4_grow_81 : decode cX4_grow 81 = .ok (.getfield 41, 3) := by decide +kernel
theorem dX4_grow_84 : decode cX4_grow 84 = .ok (.invokevirtual 60, 3) := by decide +kernel
theorem dX4_grow_87 : decode cX4_grow 87 = .ok (.istore 5, 2) := by decide +kernel
theorem dX4_grow_89 : decode cX4_grow 89 = .ok (.iload_n 3, 1) := by decide +kernel
theorem dX4_grow_90 : decode cX4_grow 90 = .ok (.i2l, 1) := by decide +kernel
theorem dX4_grow_91 : decode cX4_grow 91 = .ok (.iload 5, 2) := by decide +kernel
theorem dX4_grow_93 : decode cX4_grow 93 = .ok (.i2l, 1) := by decide +kernel
theorem dX4_grow_94 : decode cX4_grow 94 = .ok (.lmul, 1) := by decide +kernel
theorem dX4_grow_95 : decode cX4_grow 95 = .ok (.lstore 6, 2) := by decide +kernel
theorem dX4_grow_97 : decode cX4_grow 97 = .ok (.aload_n 0, 1) := by decide +kernel
theorem dX4_grow_98 : decode cX4_grow 98 = .ok (.aload 4, 2) := by decide +kernel
theorem dX4_grow_100 : decode cX4_grow 100 = .ok (.getfield 129, 3) := by decide +kernel
theorem dX4_grow_103 : decode cX4_grow 103 = .ok (.iload_n 3, 1) := by decide +kernel
theorem dX4_grow_104 : decode cX4_grow 104 = .ok (.iadd, 1) := by decide +kernel
theorem dX4_grow_105 : decode cX4_grow 105 = .ok (.invokevirtual 81, 3) := by decide +kernel
theorem dX4_grow_108 : decode cX4_grow 108 = .ok (.aload_n 0, 1) := by decide +kernel
theorem dX4_grow_109 : decode cX4_grow 109 = .ok (.aload 4, 2) := by decide +kernel
theorem dX4_grow_111 : decode cX4_grow 111 = .ok (.getfield 129, 3) := by decide +kernel
theorem dX4_grow_114 : decode cX4_grow 114 = .ok (.invokevirtual 81, 3) := by decide +kernel
theorem dX4_grow_117 : decode cX4_grow 117 = .ok (.isub, 1) := by decide +kernel
theorem dX4_grow_118 : decode cX4_grow 118 = .ok (.istore 8, 2) := by decide +kernel
theorem dX4_grow_120 : decode cX4_grow 120 = .ok (.aload_n 0, 1) := by decide +kernel
theorem dX4_grow_121 : decode cX4_grow 121 = .ok (.iload 8, 2) := by decide +kernel
theorem dX4_grow_123 : decode cX4_grow 123 = .ok (.aload 4, 2) := by decide +kernel
theorem dX4_grow_125 : decode cX4_grow 125 = .ok (.getfield 132, 3) := by decide +kernel
theorem dX4_grow_128 : decode cX4_grow 128 = .ok (.aload_n 0, 1) := by decide +kernel
theorem dX4_grow_129 : decode cX4_grow 129 = .ok (.getfield 41, 3) := by decide +kernel
theorem dX4_grow_132 : decode cX4_grow 132 = .ok (.isub, 1) := by decide +kernel
theorem dX4_grow_133 : decode cX4_grow 133 = .ok (.invokevirtual 84, 3) := by decide +kernel
theorem dX4_grow_136 : decode cX4_grow 136 = .ok (.lstore 9, 2) := by decide +kernel
theorem dX4_grow_138 : decode cX4_grow 138 = .ok (.aload_n 0, 1) := by decide +kernel
theorem dX4_grow_139 : decode cX4_grow 139 = .ok (.getfield 19, 3) := by decide +kernel
theorem dX4_grow_142 : decode cX4_grow 142 = .ok (.iload_n 2, 1) := by decide +kernel
theorem dX4_grow_143 : decode cX4_grow 143 = .ok (.lload 6, 2) := by decide +kernel
theorem dX4_grow_145 : decode cX4_grow 145 = .ok (.lload 9, 2) := by decide +kernel
theorem dX4_grow_147 : decode cX4_grow 147 = .ok (.ladd, 1) := by decide +kernel
theorem dX4_grow_148 : decode cX4_grow 148 = .ok (.invokevirtual 88, 3) := by decide +kernel
theorem dX4_grow_151 : decode cX4_grow 151 = .ok (.ifCond .ne 6, 3) := by decide +kernel
theorem dX4_grow_154 : decode cX4_grow 154 = .ok (.bipush (-106), 2) := by decide +kernel
theorem dX4_grow_156 : decode cX4_grow 156 = .ok (.ireturn, 1) := by decide +kernel
theorem dX4_grow_157 : decode cX4_grow 157 = .ok (.aload 4, 2) := by decide +kernel
theorem dX4_grow_159 : decode cX4_grow 159 = .ok (.getfield 107, 3) := by decide +kernel
theorem dX4_grow_162 : decode cX4_grow 162 = .ok (.iload 5, 2) := by decide +kernel
theorem dX4_grow_164 : decode cX4_grow 164 = .ok (.iload_n 2, 1) := by decide +kernel
theorem dX4_grow_165 : decode cX4_grow 165 = .ok (.invokevirtual 135, 3) := by decide +kernel
theorem dX4_grow_168 : decode cX4_grow 168 = .ok (.ifCond .ne 6, 3) := by decide +kernel
theorem dX4_grow_171 : decode cX4_grow 171 = .ok (.bipush (-107), 2) := by decide +kernel
theorem dX4_grow_173 : decode cX4_grow 173 = .ok (.ireturn, 1) := by decide +kernel
theorem dX4_grow_174 : decode cX4_grow 174 = .ok (.aload 4, 2) := by decide +kernel
theorem dX4_grow_176 : decode cX4_grow 176 = .ok (.getfield 107, 3) := by decide +kernel
theorem dX4_grow_179 : decode cX4_grow 179 = .ok (.iload_n 3, 1) := by decide +kernel
theorem dX4_grow_180 : decode cX4_grow 180 = .ok (.iload 5, 2) := by decide +kernel
theorem dX4_grow_182 : decode cX4_grow 182 = .ok (.iload_n 2, 1) := by decide +kernel
theorem dX4_grow_183 : decode cX4_grow 183 = .ok (.invokevirtual 111, 3) := by decide +kernel
theorem dX4_grow_186 : decode cX4_grow 186 = .ok (.aload 4, 2) := by decide +kernel
theorem dX4_grow_188 : decode cX4_grow 188 = .ok (.dup, 1) := by decide +kernel
theorem dX4_grow_189 : decode cX4_grow 189 = .ok (.getfield 129, 3) := by decide +kernel
theorem dX4_grow_192 : decode cX4_grow 192 = .ok (.iload_n 3, 1) := by decide +kernel
theorem dX4_grow_193 : decode cX4_grow 193 = .ok (.iadd, 1) := by decide +kernel
theorem dX4_grow_194 : decode cX4_grow 194 = .ok (.putfield 129, 3) := by decide +kernel
theorem dX4_grow_197 : decode cX4_grow 197 = .ok (.aload_n 0, 1) := by decide +kernel
theorem dX4_grow_198 : decode cX4_grow 198 = .ok (.getfield 19, 3) := by decide +kernel
theorem dX4_grow_201 : decode cX4_grow 201 = .ok (.iload_n 2, 1) := by decide +kernel
theorem dX4_grow_202 : decode cX4_grow 202 = .ok (.lload 6, 2) := by decide +kernel
theorem dX4_grow_204 : decode cX4_grow 204 = .ok (.lload 9, 2) := by decide +kernel
theorem dX4_grow_206 : decode cX4_grow 206 = .ok (.invokevirtual 95, 3) := by decide +kernel
theorem dX4_grow_209 : decode cX4_grow 209 = .ok (.ireturn, 1) := by decide +kernel
theorem dX4_shrink_0 : decode cX4_shrink 0 = .ok (.aload_n 0, 1) := by decide +kernel
theorem dX4_shrink_1 : decode cX4_shrink 1 = .ok (.iload_n 1, 1) := by decide +kernel
theorem dX4_shrink_2 : decode cX4_shrink 2 = .ok (.invokevirtual 116, 3) := by decide +kernel
theorem dX4_shrink_5 : decode cX4_shrink 5 = .ok (.astore_n 3, 1) := by decide +kernel
theorem dX4_shrink_6 : decode cX4_shrink 6 = .ok (.aload_n 3, 1) := by decide +kernel
theorem dX4_shrink_7 : decode cX4_shrink 7 = .ok (.ifnonnull 6, 3) := by decide +kernel
theorem dX4_shrink_10 : decode cX4_shrink 10 = .ok (.bipush (-101), 2) := by decide +kernel
theorem dX4_shrink_12 : decode cX4_shrink 12 = .ok (.ireturn, 1) := by decide +kernel
theorem dX4_shrink_13 : decode cX4_shrink 13 = .ok (.aload_n 3, 1) := by decide +kernel
theorem dX4_shrink_14 : decode cX4_shrink 14 = .ok (.iload_n 2, 1) := by decide +kernel
theorem dX4_shrink_15 : decode cX4_shrink 15 = .ok (.invokestatic 138, 3) := by decide +kernel
theorem dX4_shrink_18 : decode cX4_shrink 18 = .ok (.istore 4, 2) := by decide +kernel
theorem dX4_shrink_20 : decode cX4_shrink 20 = .ok (.iload 4, 2) := by decide +kernel
theorem dX4_shrink_22 : decode cX4_shrink 22 = .ok (.ifCond .eq 6, 3) := by decide +kernel
theorem dX4_shrink_25 : decode cX4_shrink 25 = .ok (.iload 4, 2) := by decide +kernel
theorem dX4_shrink_27 : decode cX4_shrink 27 = .ok (.ireturn, 1) := by decide +kernel
theorem dX4_shrink_28 : decode cX4_shrink 28 = .ok (.aload_n 0, 1) := by decide +kernel
theorem dX4_shrink_29 : decode cX4_shrink 29 = .ok (.aload_n 3, 1) := by decide +kernel
theorem dX4_shrink_30 : decode cX4_shrink 30 = .ok (.iload_n 2, 1) := by decide +kernel
theorem dX4_shrink_31 : decode cX4_shrink 31 = .ok (.invokevirtual 142, 3) := by decide +kernel
theorem dX4_shrink_34 : decode cX4_shrink 34 = .ok (.istore 5, 2) := by decide +kernel
theorem dX4_shrink_36 : decode cX4_shrink 36 = .ok (.aload_n 3, 1) := by decide +kernel
theorem dX4_shrink_37 : decode cX4_shrink 37 = .ok (.dup, 1) := by decide +kernel
theorem dX4_shrink_38 : decode cX4_shrink 38 = .ok (.getfield 129, 3) := by decide +kernel
theorem dX4_shrink_41 : decode cX4_shrink 41 = .ok (.iload_n 2, 1) := by decide +kernel
theorem dX4_shrink_42 : decode cX4_shrink 42 = .ok (.isub, 1) := by decide +kernel
theorem dX4_shrink_43 : decode cX4_shrink 43 = .ok (.putfield 129, 3) := by decide +kernel
theorem dX4_shrink_46 : decode cX4_shrink 46 = .ok (.iload 5, 2) := by decide +kernel
theorem dX4_shrink_48 : decode cX4_shrink 48 = .ok (.ireturn, 1) := by decide +kernel
theorem dX4_pay_0 : decode cX4_pay 0 = .ok (.aload_n 0, 1) := by decide +kernel
theorem dX4_pay_1 : decode cX4_pay 1 = .ok (.iload_n 1, 1) := by decide +kernel
theorem dX4_pay_2 : decode cX4_pay 2 = .ok (.invokevirtual 116, 3) := by decide +kernel
theorem dX4_pay_5 : decode cX4_pay 5 = .ok (.astore 4, 2) := by decide +kernel
theorem dX4_pay_7 : decode cX4_pay 7 = .ok (.aload 4, 2) := by decide +kernel
theorem dX4_pay_9 : decode cX4_pay 9 = .ok (.ifnull 10, 3) := by decide +kernel
theorem dX4_pay_12 : decode cX4_pay 12 = .ok (.iload_n 2, 1) := by decide +kernel
theorem dX4_pay_13 : decode cX4_pay 13 = .ok (.invokestatic 73, 3) := by decide +kernel
theorem dX4_pay_16 : decode cX4_pay 16 = .ok (.ifCond .ne 6, 3) := by decide +kernel
theorem dX4_pay_19 : decode cX4_pay 19 = .ok (.bipush (-101), 2) := by decide +kernel
theorem dX4_pay_21 : decode cX4_pay 21 = .ok (.ireturn, 1) := by decide +kernel
theorem dX4_pay_22 : decode cX4_pay 22 = .ok (.iload_n 3, 1) := by decide +kernel
theorem dX4_pay_23 : decode cX4_pay 23 = .ok (.iconst 1, 1) := by decide +kernel
theorem dX4_pay_24 : decode cX4_pay 24 = .ok (.bipush 100, 2) := by decide +kernel
theorem dX4_pay_26 : decode cX4_pay 26 = .ok (.invokestatic 37, 3) := by decide +kernel
theorem dX4_pay_29 : decode cX4_pay 29 = .ok (.ifCond .ne 6, 3) := by decide +kernel
theorem dX4_pay_32 : decode cX4_pay 32 = .ok (.bipush (-102), 2) := by decide +kernel
theorem dX4_pay_34 : decode cX4_pay 34 = .ok (.ireturn, 1) := by decide +kernel
theorem dX4_pay_35 : decode cX4_pay 35 = .ok (.aload 4, 2) := by decide +kernel
theorem dX4_pay_37 : decode cX4_pay 37 = .ok (.getfield 123, 3) := by decide +kernel
theorem dX4_pay_40 : decode cX4_pay 40 = .ok (.ifCond .ne 21, 3) := by decide +kernel
theorem dX4_pay_43 : decode cX4_pay 43 = .ok (.aload 4, 2) := by decide +kernel
theorem dX4_pay_45 : decode cX4_pay 45 = .ok (.getfield 132, 3) := by decide +kernel
theorem dX4_pay_48 : decode cX4_pay 48 = .ok (.iload_n 3, 1) := by decide +kernel
theorem dX4_pay_49 : decode cX4_pay 49 = .ok (.iadd, 1) := by decide +kernel
theorem dX4_pay_50 : decode cX4_pay 50 = .ok (.aload_n 0, 1) := by decide +kernel
theorem dX4_pay_51 : decode cX4_pay 51 = .ok (.getfield 41, 3) := by decide +kernel
theorem dX4_pay_54 : decode cX4_pay 54 = .ok (.sipush 400, 3) := by decide +kernel
theorem dX4_pay_57 : decode cX4_pay 57 = .ok (.iadd, 1) := by decide +kernel
theorem dX4_pay_58 : decode cX4_pay 58 = .ok (.if_icmp .le 6, 3) := by decide +kernel
theorem dX4_pay_61 : decode cX4_pay 61 = .ok (.bipush (-103), 2) := by decide +kernel
theorem dX4_pay_63 : decode cX4_pay 63 = .ok (.ireturn, 1) := by decide +kernel
theorem dX4_pay_64 : decode cX4_pay 64 = .ok (.aload_n 0, 1) := by decide +kernel
theorem dX4_pay_65 : decode cX4_pay 65 = .ok (.aload_n 0, 1) := by decide +kernel
theorem dX4_pay_66 : decode cX4_pay 66 = .ok (.aload 4, 2) := by decide +kernel
theorem dX4_pay_68 : decode cX4_pay 68 = .ok (.getfield 129, 3) := by decide +kernel
theorem dX4_pay_71 : decode cX4_pay 71 = .ok (.invokevirtual 81, 3) := by decide +kernel
theorem dX4_pay_74 : decode cX4_pay 74 = .ok (.iload_n 3, 1) := by decide +kernel
theorem dX4_pay_75 : decode cX4_pay 75 = .ok (.invokevirtual 84, 3) := by decide +kernel
theorem dX4_pay_78 : decode cX4_pay 78 = .ok (.lstore 5, 2) := by decide +kernel
theorem dX4_pay_80 : decode cX4_pay 80 = .ok (.aload_n 0, 1) := by decide +kernel
theorem dX4_pay_81 : decode cX4_pay 81 = .ok (.getfield 19, 3) := by decide +kernel
theorem dX4_pay_84 : decode cX4_pay 84 = .ok (.iload_n 2, 1) := by decide +kernel
theorem dX4_pay_85 : decode cX4_pay 85 = .ok (.lload 5, 2) := by decide +kernel
theorem dX4_pay_87 : decode cX4_pay 87 = .ok (.invokevirtual 88, 3) := by decide +kernel
theorem dX4_pay_90 : decode cX4_pay 90 = .ok (.ifCond .ne 6, 3) := by decide +kernel
theorem dX4_pay_93 : decode cX4_pay 93 = .ok (.bipush (-106), 2) := by decide +kernel
theorem dX4_pay_95 : decode cX4_pay 95 = .ok (.ireturn, 1) := by decide +kernel
theorem dX4_pay_96 : decode cX4_pay 96 = .ok (.aload 4, 2) := by decide +kernel
theorem dX4_pay_98 : decode cX4_pay 98 = .ok (.dup, 1) := by decide +kernel
theorem dX4_pay_99 : decode cX4_pay 99 = .ok (.getfield 132, 3) := by decide +kernel
theorem dX4_pay_102 : decode cX4_pay 102 = .ok (.iload_n 3, 1) := by decide +kernel
theorem dX4_pay_103 : decode cX4_pay 103 = .ok (.iadd, 1) := by decide +kernel
theorem dX4_pay_104 : decode cX4_pay 104 = .ok (.putfield 132, 3) := by decide +kernel
theorem dX4_pay_107 : decode cX4_pay 107 = .ok (.aload_n 0, 1) := by decide +kernel
theorem dX4_pay_108 : decode cX4_pay 108 = .ok (.getfield 19, 3) := by decide +kernel
theorem dX4_pay_111 : decode cX4_pay 111 = .ok (.iload_n 2, 1) := by decide +kernel
theorem dX4_pay_112 : decode cX4_pay 112 = .ok (.lconst 0, 1) := by decide +kernel
theorem dX4_pay_113 : decode cX4_pay 113 = .ok (.lload 5, 2) := by decide +kernel
theorem dX4_pay_115 : decode cX4_pay 115 = .ok (.invokevirtual 95, 3) := by decide +kernel
theorem dX4_pay_118 : decode cX4_pay 118 = .ok (.ireturn, 1) := by decide +kernel
theorem dX4_write_0 : decode cX4_write 0 = .ok (.aload_n 0, 1) := by decide +kernel
theorem dX4_write_1 : decode cX4_write 1 = .ok (.iload_n 1, 1) := by decide +kernel
theorem dX4_write_2 : decode cX4_write 2 = .ok (.invokevirtual 116, 3) := by decide +kernel
theorem dX4_write_5 : decode cX4_write 5 = .ok (.astore 4, 2) := by decide +kernel
theorem dX4_write_7 : decode cX4_write 7 = .ok (.aload 4, 2) := by decide +kernel
theorem dX4_write_9 : decode cX4_write 9 = .ok (.ifnonnull 6, 3) := by decide +kernel
theorem dX4_write_12 : decode cX4_write 12 = .ok (.bipush (-101), 2) := by decide +kernel
theorem dX4_write_14 : decode cX4_write 14 = .ok (.ireturn, 1) := by decide +kernel
theorem dX4_write_15 : decode cX4_write 15 = .ok (.iload_n 2, 1) := by decide +kernel
theorem dX4_write_16 : decode cX4_write 16 = .ok (.iconst 0, 1) := by decide +kernel
theorem dX4_write_17 : decode cX4_write 17 = .ok (.iconst 3, 1) := by decide +kernel
theorem dX4_write_18 : decode cX4_write 18 = .ok (.invokestatic 37, 3) := by decide +kernel
theorem dX4_write_21 : decode cX4_write 21 = .ok (.ifCond .ne 6, 3) := by decide +kernel
theorem dX4_write_24 : decode cX4_write 24 = .ok (.bipush (-102), 2) := by decide +kernel
theorem dX4_write_26 : decode cX4_write 26 = .ok (.ireturn, 1) := by decide +kernel
theorem dX4_write_27 : decode cX4_write 27 = .ok (.aload 4, 2) := by decide +kernel
theorem dX4_write_29 : decode cX4_write 29 = .ok (.getfield 123, 3) := by decide +kernel
theorem dX4_write_32 : decode cX4_write 32 = .ok (.ifCond .eq 6, 3) := by decide +kernel
theorem dX4_write_35 : decode cX4_write 35 = .ok (.bipush (-103), 2) := by decide +kernel
theorem dX4_write_37 : decode cX4_write 37 = .ok (.ireturn, 1) := by decide +kernel
theorem dX4_write_38 : decode cX4_write 38 = .ok (.aload 4, 2) := by decide +kernel
theorem dX4_write_40 : decode cX4_write 40 = .ok (.getfield 145, 3) := by decide +kernel
theorem dX4_write_43 : decode cX4_write 43 = .ok (.iload_n 2, 1) := by decide +kernel
theorem dX4_write_44 : decode cX4_write 44 = .ok (.iload_n 3, 1) := by decide +kernel
theorem dX4_write_45 : decode cX4_write 45 = .ok (.iastore, 1) := by decide +kernel
theorem dX4_write_46 : decode cX4_write 46 = .ok (.iconst 1, 1) := by decide +kernel
theorem dX4_write_47 : decode cX4_write 47 = .ok (.ireturn, 1) := by decide +kernel
theorem dX4_drop_0 : decode cX4_drop 0 = .ok (.aload_n 0, 1) := by decide +kernel
theorem dX4_drop_1 : decode cX4_drop 1 = .ok (.iload_n 1, 1) := by decide +kernel
theorem dX4_drop_2 : decode cX4_drop 2 = .ok (.invokevirtual 116, 3) := by decide +kernel
theorem dX4_drop_5 : decode cX4_drop 5 = .ok (.astore_n 2, 1) := by decide +kernel
theorem dX4_drop_6 : decode cX4_drop 6 = .ok (.aload_n 2, 1) := by decide +kernel
theorem dX4_drop_7 : decode cX4_drop 7 = .ok (.ifnonnull 6, 3) := by decide +kernel
theorem dX4_drop_10 : decode cX4_drop 10 = .ok (.bipush (-101), 2) := by decide +kernel
theorem dX4_drop_12 : decode cX4_drop 12 = .ok (.ireturn, 1) := by decide +kernel
theorem dX4_drop_13 : decode cX4_drop 13 = .ok (.aload_n 2, 1) := by decide +kernel
theorem dX4_drop_14 : decode cX4_drop 14 = .ok (.getfield 123, 3) := by decide +kernel
theorem dX4_drop_17 : decode cX4_drop 17 = .ok (.iconst 2, 1) := by decide +kernel
theorem dX4_drop_18 : decode cX4_drop 18 = .ok (.if_icmp .ne 6, 3) := by decide +kernel
theorem dX4_drop_21 : decode cX4_drop 21 = .ok (.bipush (-103), 2) := by decide +kernel
theorem dX4_drop_23 : decode cX4_drop 23 = .ok (.ireturn, 1) := by decide +kernel
theorem dX4_drop_24 : decode cX4_drop 24 = .ok (.aload_n 0, 1) := by decide +kernel
theorem dX4_drop_25 : decode cX4_drop 25 = .ok (.aload_n 2, 1) := by decide +kernel
theorem dX4_drop_26 : decode cX4_drop 26 = .ok (.aload_n 2, 1) := by decide +kernel
theorem dX4_drop_27 : decode cX4_drop 27 = .ok (.getfield 129, 3) := by decide +kernel
theorem dX4_drop_30 : decode cX4_drop 30 = .ok (.invokevirtual 142, 3) := by decide +kernel
theorem dX4_drop_33 : decode cX4_drop 33 = .ok (.istore_n 3, 1) := by decide +kernel
theorem dX4_drop_34 : decode cX4_drop 34 = .ok (.aload_n 2, 1) := by decide +kernel
theorem dX4_drop_35 : decode cX4_drop 35 = .ok (.iconst 2, 1) := by decide +kernel
theorem dX4_drop_36 : decode cX4_drop 36 = .ok (.putfield 123, 3) := by decide +kernel
theorem dX4_drop_39 : decode cX4_drop 39 = .ok (.iload_n 3, 1) := by decide +kernel
theorem dX4_drop_40 : decode cX4_drop 40 = .ok (.ireturn, 1) := by decide +kernel
theorem dX4_back_0 : decode cX4_back 0 = .ok (.aload_n 0, 1) := by decide +kernel
theorem dX4_back_1 : decode cX4_back 1 = .ok (.iload_n 1, 1) := by decide +kernel
theorem dX4_back_2 : decode cX4_back 2 = .ok (.invokevirtual 116, 3) := by decide +kernel
theorem dX4_back_5 : decode cX4_back 5 = .ok (.astore 5, 2) := by decide +kernel
theorem dX4_back_7 : decode cX4_back 7 = .ok (.aload 5, 2) := by decide +kernel
theorem dX4_back_9 : decode cX4_back 9 = .ok (.ifnull 10, 3) := by decide +kernel
theorem dX4_back_12 : decode cX4_back 12 = .ok (.iload_n 2, 1) := by decide +kernel
theorem dX4_back_13 : decode cX4_back 13 = .ok (.invokestatic 73, 3) := by decide +kernel
theorem dX4_back_16 : decode cX4_back 16 = .ok (.ifCond .ne 6, 3) := by decide +kernel
theorem dX4_back_19 : decode cX4_back 19 = .ok (.bipush (-101), 2) := by decide +kernel
theorem dX4_back_21 : decode cX4_back 21 = .ok (.ireturn, 1) := by decide +kernel
theorem dX4_back_22 : decode cX4_back 22 = .ok (.iload 4, 2) := by decide +kernel
theorem dX4_back_24 : decode cX4_back 24 = .ok (.iconst 1, 1) := by decide +kernel
theorem dX4_back_25 : decode cX4_back 25 = .ok (.bipush 100, 2) := by decide +kernel
theorem dX4_back_27 : decode cX4_back 27 = .ok (.invokestatic 37, 3) := by decide +kernel
theorem dX4_back_30 : decode cX4_back 30 = .ok (.ifCond .ne 6, 3) := by decide +kernel
theorem dX4_back_33 : decode cX4_back 33 = .ok (.bipush (-102), 2) := by decide +kernel
theorem dX4_back_35 : decode cX4_back 35 = .ok (.ireturn, 1) := by decide +kernel
theorem dX4_back_36 : decode cX4_back 36 = .ok (.aload 5, 2) := by decide +kernel
theorem dX4_back_38 : decode cX4_back 38 = .ok (.getfield 123, 3) := by decide +kernel
theorem dX4_back_41 : decode cX4_back 41 = .ok (.iconst 1, 1) := by decide +kernel
theorem dX4_back_42 : decode cX4_back 42 = .ok (.if_icmp .eq 6, 3) := by decide +kernel
theorem dX4_back_45 : decode cX4_back 45 = .ok (.bipush (-103), 2) := by decide +kernel
theorem dX4_back_47 : decode cX4_back 47 = .ok (.ireturn, 1) := by decide +kernel
theorem dX4_back_48 : decode cX4_back 48 = .ok (.iload_n 3, 1) := by decide +kernel
theorem dX4_back_49 : decode cX4_back 49 = .ok (.aload 5, 2) := by decide +kernel
theorem dX4_back_51 : decode cX4_back 51 = .ok (.invokevirtual 148, 3) := by decide +kernel
theorem dX4_back_54 : decode cX4_back 54 = .ok (.if_icmp .eq 6, 3) := by decide +kernel
theorem dX4_back_57 : decode cX4_back 57 = .ok (.bipush (-104), 2) := by decide +kernel
theorem dX4_back_59 : decode cX4_back 59 = .ok (.ireturn, 1) := by decide +kernel
theorem dX4_back_60 : decode cX4_back 60 = .ok (.aload_n 0, 1) := by decide +kernel
theorem dX4_back_61 : decode cX4_back 61 = .ok (.aload 5, 2) := by decide +kernel
theorem dX4_back_63 : decode cX4_back 63 = .ok (.getfield 126, 3) := by decide +kernel
theorem dX4_back_66 : decode cX4_back 66 = .ok (.aload 5, 2) := by decide +kernel
theorem dX4_back_68 : decode cX4_back 68 = .ok (.getfield 129, 3) := by decide +kernel
theorem dX4_back_71 : decode cX4_back 71 = .ok (.invokevirtual 77, 3) := by decide +kernel
theorem dX4_back_74 : decode cX4_back 74 = .ok (.ifCond .ne 6, 3) := by decide +kernel
theorem dX4_back_77 : decode cX4_back 77 = .ok (.bipush (-105), 2) := by decide +kernel
theorem dX4_back_79 : decode cX4_back 79 = .ok (.ireturn, 1) := by decide +kernel
theorem dX4_back_80 : decode cX4_back 80 = .ok (.aload_n 0, 1) := by decide +kernel
theorem dX4_back_81 : decode cX4_back 81 = .ok (.aload_n 0, 1) := by decide +kernel
theorem dX4_back_82 : decode cX4_back 82 = .ok (.aload 5, 2) := by decide +kernel
theorem dX4_back_84 : decode cX4_back 84 = .ok (.getfield 129, 3) := by decide +kernel
theorem dX4_back_87 : decode cX4_back 87 = .ok (.invokevirtual 81, 3) := by decide +kernel
theorem dX4_back_90 : decode cX4_back 90 = .ok (.aload_n 0, 1) := by decide +kernel
theorem dX4_back_91 : decode cX4_back 91 = .ok (.getfield 41, 3) := by decide +kernel
theorem dX4_back_94 : decode cX4_back 94 = .ok (.aload 5, 2) := by decide +kernel
theorem dX4_back_96 : decode cX4_back 96 = .ok (.getfield 132, 3) := by decide +kernel
theorem dX4_back_99 : decode cX4_back 99 = .ok (.isub, 1) := by decide +kernel
theorem dX4_back_100 : decode cX4_back 100 = .ok (.iload 4, 2) := by decide +kernel
theorem dX4_back_102 : decode cX4_back 102 = .ok (.iadd, 1) := by decide +kernel
theorem dX4_back_103 : decode cX4_back 103 = .ok (.invokevirtual 84, 3) := by decide +kernel
theorem dX4_back_106 : decode cX4_back 106 = .ok (.lstore 6, 2) := by decide +kernel
theorem dX4_back_108 : decode cX4_back 108 = .ok (.aload_n 0, 1) := by decide +kernel
theorem dX4_back_109 : decode cX4_back 109 = .ok (.getfield 19, 3) := by decide +kernel
theorem dX4_back_112 : decode cX4_back 112 = .ok (.iload_n 2, 1) := by decide +kernel
theorem dX4_back_113 : decode cX4_back 113 = .ok (.lload 6, 2) := by decide +kernel
theorem dX4_back_115 : decode cX4_back 115 = .ok (.invokevirtual 88, 3) := by decide +kernel
theorem dX4_back_118 : decode cX4_back 118 = .ok (.ifCond .ne 6, 3) := by decide +kernel
theorem dX4_back_121 : decode cX4_back 121 = .ok (.bipush (-106), 2) := by decide +kernel
theorem dX4_back_123 : decode cX4_back 123 = .ok (.ireturn, 1) := by decide +kernel
theorem dX4_back_124 : decode cX4_back 124 = .ok (.aload 5, 2) := by decide +kernel
theorem dX4_back_126 : decode cX4_back 126 = .ok (.iconst 0, 1) := by decide +kernel
theorem dX4_back_127 : decode cX4_back 127 = .ok (.putfield 123, 3) := by decide +kernel
theorem dX4_back_130 : decode cX4_back 130 = .ok (.aload 5, 2) := by decide +kernel
theorem dX4_back_132 : decode cX4_back 132 = .ok (.aload_n 0, 1) := by decide +kernel
theorem dX4_back_133 : decode cX4_back 133 = .ok (.getfield 41, 3) := by decide +kernel
theorem dX4_back_136 : decode cX4_back 136 = .ok (.iload 4, 2) := by decide +kernel
theorem dX4_back_138 : decode cX4_back 138 = .ok (.iadd, 1) := by decide +kernel
theorem dX4_back_139 : decode cX4_back 139 = .ok (.putfield 132, 3) := by decide +kernel
theorem dX4_back_142 : decode cX4_back 142 = .ok (.aload_n 0, 1) := by decide +kernel
theorem dX4_back_143 : decode cX4_back 143 = .ok (.getfield 19, 3) := by decide +kernel
theorem dX4_back_146 : decode cX4_back 146 = .ok (.iload_n 2, 1) := by decide +kernel
theorem dX4_back_147 : decode cX4_back 147 = .ok (.lconst 0, 1) := by decide +kernel
theorem dX4_back_148 : decode cX4_back 148 = .ok (.lload 6, 2) := by decide +kernel
theorem dX4_back_150 : decode cX4_back 150 = .ok (.invokevirtual 95, 3) := by decide +kernel
theorem dX4_back_153 : decode cX4_back 153 = .ok (.ireturn, 1) := by decide +kernel
theorem dX4_digest_0 : decode cX4_digest 0 = .ok (.aload_n 0, 1) := by decide +kernel
theorem dX4_digest_1 : decode cX4_digest 1 = .ok (.iload_n 1, 1) := by decide +kernel
theorem dX4_digest_2 : decode cX4_digest 2 = .ok (.invokevirtual 116, 3) := by decide +kernel
theorem dX4_digest_5 : decode cX4_digest 5 = .ok (.astore_n 2, 1) := by decide +kernel
theorem dX4_digest_6 : decode cX4_digest 6 = .ok (.aload_n 2, 1) := by decide +kernel
theorem dX4_digest_7 : decode cX4_digest 7 = .ok (.ifnonnull 8, 3) := by decide +kernel
theorem dX4_digest_10 : decode cX4_digest 10 = .ok (.bipush (-109), 2) := by decide +kernel
theorem dX4_digest_12 : decode cX4_digest 12 = .ok (.goto 7, 3) := by decide +kernel
theorem dX4_digest_15 : decode cX4_digest 15 = .ok (.aload_n 2, 1) := by decide +kernel
theorem dX4_digest_16 : decode cX4_digest 16 = .ok (.invokevirtual 148, 3) := by decide +kernel
theorem dX4_digest_19 : decode cX4_digest 19 = .ok (.ireturn, 1) := by decide +kernel
theorem dX4_tick_0 : decode cX4_tick 0 = .ok (.iload_n 1, 1) := by decide +kernel
theorem dX4_tick_1 : decode cX4_tick 1 = .ok (.iconst 1, 1) := by decide +kernel
theorem dX4_tick_2 : decode cX4_tick 2 = .ok (.bipush 100, 2) := by decide +kernel
theorem dX4_tick_4 : decode cX4_tick 4 = .ok (.invokestatic 37, 3) := by decide +kernel
theorem dX4_tick_7 : decode cX4_tick 7 = .ok (.ifCond .eq 14, 3) := by decide +kernel
theorem dX4_tick_10 : decode cX4_tick 10 = .ok (.aload_n 0, 1) := by decide +kernel
theorem dX4_tick_11 : decode cX4_tick 11 = .ok (.getfield 41, 3) := by decide +kernel
theorem dX4_tick_14 : decode cX4_tick 14 = .ok (.iload_n 1, 1) := by decide +kernel
theorem dX4_tick_15 : decode cX4_tick 15 = .ok (.iadd, 1) := by decide +kernel
theorem dX4_tick_16 : decode cX4_tick 16 = .ok (.ldc 36, 2) := by decide +kernel
theorem dX4_tick_18 : decode cX4_tick 18 = .ok (.if_icmp .le 6, 3) := by decide +kernel
theorem dX4_tick_21 : decode cX4_tick 21 = .ok (.bipush (-102), 2) := by decide +kernel
theorem dX4_tick_23 : decode cX4_tick 23 = .ok (.ireturn, 1) := by decide +kernel
theorem dX4_tick_24 : decode cX4_tick 24 = .ok (.iconst 0, 1) := by decide +kernel
theorem dX4_tick_25 : decode cX4_tick 25 = .ok (.istore_n 2, 1) := by decide +kernel
theorem dX4_tick_26 : decode cX4_tick 26 = .ok (.iconst 0, 1) := by decide +kernel
theorem dX4_tick_27 : decode cX4_tick 27 = .ok (.istore_n 3, 1) := by decide +kernel
theorem dX4_tick_28 : decode cX4_tick 28 = .ok (.iload_n 3, 1) := by decide +kernel
theorem dX4_tick_29 : decode cX4_tick 29 = .ok (.iload_n 1, 1) := by decide +kernel
theorem dX4_tick_30 : decode cX4_tick 30 = .ok (.if_icmp .ge 33, 3) := by decide +kernel
theorem dX4_tick_33 : decode cX4_tick 33 = .ok (.aload_n 0, 1) := by decide +kernel
theorem dX4_tick_34 : decode cX4_tick 34 = .ok (.dup, 1) := by decide +kernel
theorem dX4_tick_35 : decode cX4_tick 35 = .ok (.getfield 41, 3) := by decide +kernel
theorem dX4_tick_38 : decode cX4_tick 38 = .ok (.iconst 1, 1) := by decide +kernel
theorem dX4_tick_39 : decode cX4_tick 39 = .ok (.iadd, 1) := by decide +kernel
theorem dX4_tick_40 : decode cX4_tick 40 = .ok (.putfield 41, 3) := by decide +kernel
theorem dX4_tick_43 : decode cX4_tick 43 = .ok (.iload_n 2, 1) := by decide +kernel
theorem dX4_tick_44 : decode cX4_tick 44 = .ok (.aload_n 0, 1) := by decide +kernel
theorem dX4_tick_45 : decode cX4_tick 45 = .ok (.invokevirtual 151, 3) := by decide +kernel
theorem dX4_tick_48 : decode cX4_tick 48 = .ok (.iadd, 1) := by decide +kernel
theorem dX4_tick_49 : decode cX4_tick 49 = .ok (.istore_n 2, 1) := by decide +kernel
theorem dX4_tick_50 : decode cX4_tick 50 = .ok (.aload_n 0, 1) := by decide +kernel
theorem dX4_tick_51 : decode cX4_tick 51 = .ok (.getfield 19, 3) := by decide +kernel
theorem dX4_tick_54 : decode cX4_tick 54 = .ok (.invokevirtual 154, 3) := by decide +kernel
theorem dX4_tick_57 : decode cX4_tick 57 = .ok (.iinc 3 1, 3) := by decide +kernel
theorem dX4_tick_60 : decode cX4_tick 60 = .ok (.goto (-32), 3) := by decide +kernel
theorem dX4_tick_63 : decode cX4_tick 63 = .ok (.iload_n 2, 1) := by decide +kernel
theorem dX4_tick_64 : decode cX4_tick 64 = .ok (.ireturn, 1) := by decide +kernel
theorem dX4_weight_0 : decode cX4_weight 0 = .ok (.iload_n 1, 1) := by decide +kernel
theorem dX4_weight_1 : decode cX4_weight 1 = .ok (.invokestatic 157, 3) := by decide +kernel
theorem dX4_weight_4 : decode cX4_weight 4 = .ok (.ifCond .ne 6, 3) := by decide +kernel
theorem dX4_weight_7 : decode cX4_weight 7 = .ok (.bipush (-101), 2) := by decide +kernel
theorem dX4_weight_9 : decode cX4_weight 9 = .ok (.ireturn, 1) := by decide +kernel
theorem dX4_weight_10 : decode cX4_weight 10 = .ok (.iload_n 2, 1) := by decide +kernel
theorem dX4_weight_11 : decode cX4_weight 11 = .ok (.iconst 0, 1) := by decide +kernel
theorem dX4_weight_12 : decode cX4_weight 12 = .ok (.sipush 1000, 3) := by decide +kernel
theorem dX4_weight_15 : decode cX4_weight 15 = .ok (.invokestatic 37, 3) := by decide +kernel
theorem dX4_weight_18 : decode cX4_weight 18 = .ok (.ifCond .ne 6, 3) := by decide +kernel
theorem dX4_weight_21 : decode cX4_weight 21 = .ok (.bipush (-102), 2) := by decide +kernel
theorem dX4_weight_23 : decode cX4_weight 23 = .ok (.ireturn, 1) := by decide +kernel
theorem dX4_weight_24 : decode cX4_weight 24 = .ok (.aload_n 0, 1) := by decide +kernel
theorem dX4_weight_25 : decode cX4_weight 25 = .ok (.getfield 19, 3) := by decide +kernel
theorem dX4_weight_28 : decode cX4_weight 28 = .ok (.getfield 160, 3) := by decide +kernel
theorem dX4_weight_31 : decode cX4_weight 31 = .ok (.iload_n 1, 1) := by decide +kernel
theorem dX4_weight_32 : decode cX4_weight 32 = .ok (.iaload, 1) := by decide +kernel
theorem dX4_weight_33 : decode cX4_weight 33 = .ok (.istore_n 3, 1) := by decide +kernel
theorem dX4_weight_34 : decode cX4_weight 34 = .ok (.aload_n 0, 1) := by decide +kernel
theorem dX4_weight_35 : decode cX4_weight 35 = .ok (.getfield 19, 3) := by decide +kernel
theorem dX4_weight_38 : decode cX4_weight 38 = .ok (.getfield 160, 3) := by decide +kernel
theorem dX4_weight_41 : decode cX4_weight 41 = .ok (.iload_n 1, 1) := by decide +kernel
theorem dX4_weight_42 : decode cX4_weight 42 = .ok (.iload_n 2, 1) := by decide +kernel
theorem dX4_weight_43 : decode cX4_weight 43 = .ok (.iastore, 1) := by decide +kernel
theorem dX4_weight_44 : decode cX4_weight 44 = .ok (.iload_n 3, 1) := by decide +kernel
theorem dX4_weight_45 : decode cX4_weight 45 = .ok (.ireturn, 1) := by decide +kernel
theorem dX4_coins_0 : decode cX4_coins 0 = .ok (.iload_n 1, 1) := by decide +kernel
theorem dX4_coins_1 : decode cX4_coins 1 = .ok (.lookupswitch 71 #[(0, 27), (1, 49)], 27) := by decide +kernel
theorem dX4_coins_28 : decode cX4_coins 28 = .ok (.iload_n 2, 1) := by decide +kernel
theorem dX4_coins_29 : decode cX4_coins 29 = .ok (.invokestatic 73, 3) := by decide +kernel
theorem dX4_coins_32 : decode cX4_coins 32 = .ok (.ifCond .eq 15, 3) := by decide +kernel
theorem dX4_coins_35 : decode cX4_coins 35 = .ok (.aload_n 0, 1) := by decide +kernel
theorem dX4_coins_36 : decode cX4_coins 36 = .ok (.getfield 19, 3) := by decide +kernel
theorem dX4_coins_39 : decode cX4_coins 39 = .ok (.getfield 163, 3) := by decide +kernel
theorem dX4_coins_42 : decode cX4_coins 42 = .ok (.iload_n 2, 1) := by decide +kernel
theorem dX4_coins_43 : decode cX4_coins 43 = .ok (.iaload, 1) := by decide +kernel
theorem dX4_coins_44 : decode cX4_coins 44 = .ok (.goto 5, 3) := by decide +kernel
theorem dX4_coins_47 : decode cX4_coins 47 = .ok (.bipush (-101), 2) := by decide +kernel
theorem dX4_coins_49 : decode cX4_coins 49 = .ok (.ireturn, 1) := by decide +kernel
theorem dX4_coins_50 : decode cX4_coins 50 = .ok (.iload_n 2, 1) := by decide +kernel
theorem dX4_coins_51 : decode cX4_coins 51 = .ok (.invokestatic 157, 3) := by decide +kernel
theorem dX4_coins_54 : decode cX4_coins 54 = .ok (.ifCond .eq 15, 3) := by decide +kernel
theorem dX4_coins_57 : decode cX4_coins 57 = .ok (.aload_n 0, 1) := by decide +kernel
theorem dX4_coins_58 : decode cX4_coins 58 = .ok (.getfield 19, 3) := by decide +kernel
theorem dX4_coins_61 : decode cX4_coins 61 = .ok (.getfield 166, 3) := by decide +kernel
theorem dX4_coins_64 : decode cX4_coins 64 = .ok (.iload_n 2, 1) := by decide +kernel
theorem dX4_coins_65 : decode cX4_coins 65 = .ok (.iaload, 1) := by decide +kernel
theorem dX4_coins_66 : decode cX4_coins 66 = .ok (.goto 5, 3) := by decide +kernel
theorem dX4_coins_69 : decode cX4_coins 69 = .ok (.bipush (-101), 2) := by decide +kernel
theorem dX4_coins_71 : decode cX4_coins 71 = .ok (.ireturn, 1) := by decide +kernel
theorem dX4_coins_72 : decode cX4_coins 72 = .ok (.bipush (-102), 2) := by decide +kernel
theorem dX4_coins_74 : decode cX4_coins 74 = .ok (.ireturn, 1) := by decide +kernel
theorem dX4_object_0 : decode cX4_object 0 = .ok (.aload_n 0, 1) := by decide +kernel
theorem dX4_object_1 : decode cX4_object 1 = .ok (.iload_n 1, 1) := by decide +kernel
theorem dX4_object_2 : decode cX4_object 2 = .ok (.invokevirtual 116, 3) := by decide +kernel
theorem dX4_object_5 : decode cX4_object 5 = .ok (.astore_n 3, 1) := by decide +kernel
theorem dX4_object_6 : decode cX4_object 6 = .ok (.aload_n 3, 1) := by decide +kernel
theorem dX4_object_7 : decode cX4_object 7 = .ok (.ifnonnull 6, 3) := by decide +kernel
theorem dX4_object_10 : decode cX4_object 10 = .ok (.bipush (-101), 2) := by decide +kernel
theorem dX4_object_12 : decode cX4_object 12 = .ok (.ireturn, 1) := by decide +kernel
theorem dX4_object_13 : decode cX4_object 13 = .ok (.iload_n 2, 1) := by decide +kernel
theorem dX4_object_14 : decode cX4_object 14 = .ok (.tableswitch 99 0 6 #[42, 47, 52, 57, 62, 70, 78], 42) := by decide +kernel
theorem dX4_object_56 : decode cX4_object 56 = .ok (.aload_n 3, 1) := by decide +kernel
theorem dX4_object_57 : decode cX4_object 57 = .ok (.getfield 126, 3) := by decide +kernel
theorem dX4_object_60 : decode cX4_object 60 = .ok (.ireturn, 1) := by decide +kernel
theorem dX4_object_61 : decode cX4_object 61 = .ok (.aload_n 3, 1) := by decide +kernel
theorem dX4_object_62 : decode cX4_object 62 = .ok (.invokevirtual 120, 3) := by decide +kernel
theorem dX4_object_65 : decode cX4_object 65 = .ok (.ireturn, 1) := by decide +kernel
theorem dX4_object_66 : decode cX4_object 66 = .ok (.aload_n 3, 1) := by decide +kernel
theorem dX4_object_67 : decode cX4_object 67 = .ok (.getfield 132, 3) := by decide +kernel
theorem dX4_object_70 : decode cX4_object 70 = .ok (.ireturn, 1) := by decide +kernel
theorem dX4_object_71 : decode cX4_object 71 = .ok (.aload_n 3, 1) := by decide +kernel
theorem dX4_object_72 : decode cX4_object 72 = .ok (.getfield 123, 3) := by decide +kernel
theorem dX4_object_75 : decode cX4_object 75 = .ok (.ireturn, 1) := by decide +kernel
theorem dX4_object_76 : decode cX4_object 76 = .ok (.aload_n 3, 1) := by decide +kernel
theorem dX4_object_77 : decode cX4_object 77 = .ok (.getfield 107, 3) := by decide +kernel
theorem dX4_object_80 : decode cX4_object 80 = .ok (.getfield 169, 3) := by decide +kernel
theorem dX4_object_83 : decode cX4_object 83 = .ok (.ireturn, 1) := by decide +kernel
theorem dX4_object_84 : decode cX4_object 84 = .ok (.aload_n 3, 1) := by decide +kernel
theorem dX4_object_85 : decode cX4_object 85 = .ok (.getfield 107, 3) := by decide +kernel
theorem dX4_object_88 : decode cX4_object 88 = .ok (.invokevirtual 170, 3) := by decide +kernel
theorem dX4_object_91 : decode cX4_object 91 = .ok (.ireturn, 1) := by decide +kernel
theorem dX4_object_92 : decode cX4_object 92 = .ok (.aload_n 3, 1) := by decide +kernel
theorem dX4_object_93 : decode cX4_object 93 = .ok (.getfield 123, 3) := by decide +kernel
theorem dX4_object_96 : decode cX4_object 96 = .ok (.iconst 2, 1) := by decide +kernel
theorem dX4_object_97 : decode cX4_object 97 = .ok (.if_icmp .ne 7, 3) := by decide +kernel
theorem dX4_object_100 : decode cX4_object 100 = .ok (.iconst 0, 1) := by decide +kernel
theorem dX4_object_101 : decode cX4_object 101 = .ok (.goto 11, 3) := by decide +kernel
theorem dX4_object_104 : decode cX4_object 104 = .ok (.aload_n 0, 1) := by decide +kernel
theorem dX4_object_105 : decode cX4_object 105 = .ok (.aload_n 3, 1) := by decide +kernel
theorem dX4_object_106 : decode cX4_object 106 = .ok (.getfield 129, 3) := by decide +kernel
theorem dX4_object_109 : decode cX4_object 109 = .ok (.invokevirtual 81, 3) := by decide +kernel
theorem dX4_object_112 : decode cX4_object 112 = .ok (.ireturn, 1) := by decide +kernel
theorem dX4_object_113 : decode cX4_object 113 = .ok (.bipush (-102), 2) := by decide +kernel
theorem dX4_object_115 : decode cX4_object 115 = .ok (.ireturn, 1) := by decide +kernel
theorem dX4_layer_0 : decode cX4_layer 0 = .ok (.aload_n 0, 1) := by decide +kernel
theorem dX4_layer_1 : decode cX4_layer 1 = .ok (.iload_n 1, 1) := by decide +kernel
theorem dX4_layer_2 : decode cX4_layer 2 = .ok (.invokevirtual 116, 3) := by decide +kernel
theorem dX4_layer_5 : decode cX4_layer 5 = .ok (.astore 4, 2) := by decide +kernel
theorem dX4_layer_7 : decode cX4_layer 7 = .ok (.aload 4, 2) := by decide +kernel
theorem dX4_layer_9 : decode cX4_layer 9 = .ok (.ifnonnull 6, 3) := by decide +kernel
theorem dX4_layer_12 : decode cX4_layer 12 = .ok (.bipush (-101), 2) := by decide +kernel
theorem dX4_layer_14 : decode cX4_layer 14 = .ok (.ireturn, 1) := by decide +kernel
theorem dX4_layer_15 : decode cX4_layer 15 = .ok (.iload_n 3, 1) := by decide +kernel
theorem dX4_layer_16 : decode cX4_layer 16 = .ok (.iconst 0, 1) := by decide +kernel
theorem dX4_layer_17 : decode cX4_layer 17 = .ok (.iconst 2, 1) := by decide +kernel
theorem dX4_layer_18 : decode cX4_layer 18 = .ok (.invokestatic 37, 3) := by decide +kernel
theorem dX4_layer_21 : decode cX4_layer 21 = .ok (.ifCond .ne 6, 3) := by decide +kernel
theorem dX4_layer_24 : decode cX4_layer 24 = .ok (.bipush (-102), 2) := by decide +kernel
theorem dX4_layer_26 : decode cX4_layer 26 = .ok (.ireturn, 1) := by decide +kernel
theorem dX4_layer_27 : decode cX4_layer 27 = .ok (.aload 4, 2) := by decide +kernel
theorem dX4_layer_29 : decode cX4_layer 29 = .ok (.getfield 107, 3) := by decide +kernel
theorem dX4_layer_32 : decode cX4_layer 32 = .ok (.iload_n 2, 1) := by decide +kernel
theorem dX4_layer_33 : decode cX4_layer 33 = .ok (.invokevirtual 173, 3) := by decide +kernel
theorem dX4_layer_36 : decode cX4_layer 36 = .ok (.ifCond .ne 6, 3) := by decide +kernel
theorem dX4_layer_39 : decode cX4_layer 39 = .ok (.bipush (-109), 2) := by decide +kernel
theorem dX4_layer_41 : decode cX4_layer 41 = .ok (.ireturn, 1) := by decide +kernel
theorem dX4_layer_42 : decode cX4_layer 42 = .ok (.iload_n 3, 1) := by decide +kernel
theorem dX4_layer_43 : decode cX4_layer 43 = .ok (.lookupswitch 47 #[(0, 25), (1, 36)], 25) := by decide +kernel
theorem dX4_layer_68 : decode cX4_layer 68 = .ok (.aload 4, 2) := by decide +kernel
theorem dX4_layer_70 : decode cX4_layer 70 = .ok (.getfield 107, 3) := by decide +kernel
theorem dX4_layer_73 : decode cX4_layer 73 = .ok (.getfield 176, 3) := by decide +kernel
theorem dX4_layer_76 : decode cX4_layer 76 = .ok (.iload_n 2, 1) := by decide +kernel
theorem dX4_layer_77 : decode cX4_layer 77 = .ok (.iaload, 1) := by decide +kernel
theorem dX4_layer_78 : decode cX4_layer 78 = .ok (.ireturn, 1) := by decide +kernel
theorem dX4_layer_79 : decode cX4_layer 79 = .ok (.aload 4, 2) := by decide +kernel
theorem dX4_layer_81 : decode cX4_layer 81 = .ok (.getfield 107, 3) := by decide +kernel
theorem dX4_layer_84 : decode cX4_layer 84 = .ok (.getfield 179, 3) := by decide +kernel
theorem dX4_layer_87 : decode cX4_layer 87 = .ok (.iload_n 2, 1) := by decide +kernel
theorem dX4_layer_88 : decode cX4_layer 88 = .ok (.iaload, 1) := by decide +kernel
theorem dX4_layer_89 : decode cX4_layer 89 = .ok (.ireturn, 1) := by decide +kernel
theorem dX4_layer_90 : decode cX4_layer 90 = .ok (.aload 4, 2) := by decide +kernel
theorem dX4_layer_92 : decode cX4_layer 92 = .ok (.getfield 107, 3) := by decide +kernel
theorem dX4_layer_95 : decode cX4_layer 95 = .ok (.getfield 182, 3) := by decide +kernel
theorem dX4_layer_98 : decode cX4_layer 98 = .ok (.iload_n 2, 1) := by decide +kernel
theorem dX4_layer_99 : decode cX4_layer 99 = .ok (.iaload, 1) := by decide +kernel
theorem dX4_layer_100 : decode cX4_layer 100 = .ok (.ireturn, 1) := by decide +kernel
theorem dX4_word_0 : decode cX4_word 0 = .ok (.aload_n 0, 1) := by decide +kernel
theorem dX4_word_1 : decode cX4_word 1 = .ok (.iload_n 1, 1) := by decide +kernel
theorem dX4_word_2 : decode cX4_word 2 = .ok (.invokevirtual 116, 3) := by decide +kernel
theorem dX4_word_5 : decode cX4_word 5 = .ok (.astore_n 3, 1) := by decide +kernel
theorem dX4_word_6 : decode cX4_word 6 = .ok (.aload_n 3, 1) := by decide +kernel
theorem dX4_word_7 : decode cX4_word 7 = .ok (.ifnonnull 6, 3) := by decide +kernel
theorem dX4_word_10 : decode cX4_word 10 = .ok (.bipush (-101), 2) := by decide +kernel
theorem dX4_word_12 : decode cX4_word 12 = .ok (.ireturn, 1) := by decide +kernel
theorem dX4_word_13 : decode cX4_word 13 = .ok (.iload_n 2, 1) := by decide +kernel
theorem dX4_word_14 : decode cX4_word 14 = .ok (.iconst 0, 1) := by decide +kernel
theorem dX4_word_15 : decode cX4_word 15 = .ok (.iconst 3, 1) := by decide +kernel
theorem dX4_word_16 : decode cX4_word 16 = .ok (.invokestatic 37, 3) := by decide +kernel
theorem dX4_word_19 : decode cX4_word 19 = .ok (.ifCond .ne 6, 3) := by decide +kernel
theorem dX4_word_22 : decode cX4_word 22 = .ok (.bipush (-102), 2) := by decide +kernel
theorem dX4_word_24 : decode cX4_word 24 = .ok (.ireturn, 1) := by decide +kernel
theorem dX4_word_25 : decode cX4_word 25 = .ok (.aload_n 3, 1) := by decide +kernel
theorem dX4_word_26 : decode cX4_word 26 = .ok (.getfield 123, 3) := by decide +kernel
theorem dX4_word_29 : decode cX4_word 29 = .ok (.ifCond .ne 12, 3) := by decide +kernel
theorem dX4_word_32 : decode cX4_word 32 = .ok (.aload_n 3, 1) := by decide +kernel
theorem dX4_word_33 : decode cX4_word 33 = .ok (.getfield 145, 3) := by decide +kernel
theorem dX4_word_36 : decode cX4_word 36 = .ok (.iload_n 2, 1) := by decide +kernel
theorem dX4_word_37 : decode cX4_word 37 = .ok (.iaload, 1) := by decide +kernel
theorem dX4_word_38 : decode cX4_word 38 = .ok (.goto 5, 3) := by decide +kernel
theorem dX4_word_41 : decode cX4_word 41 = .ok (.bipush (-103), 2) := by decide +kernel
theorem dX4_word_43 : decode cX4_word 43 = .ok (.ireturn, 1) := by decide +kernel
theorem dX4_wouldGive_0 : decode cX4_wouldGive 0 = .ok (.aload_n 0, 1) := by decide +kernel
theorem dX4_wouldGive_1 : decode cX4_wouldGive 1 = .ok (.iload_n 1, 1) := by decide +kernel
theorem dX4_wouldGive_2 : decode cX4_wouldGive 2 = .ok (.invokevirtual 116, 3) := by decide +kernel
theorem dX4_wouldGive_5 : decode cX4_wouldGive 5 = .ok (.astore 4, 2) := by decide +kernel
theorem dX4_wouldGive_7 : decode cX4_wouldGive 7 = .ok (.aload 4, 2) := by decide +kernel
theorem dX4_wouldGive_9 : decode cX4_wouldGive 9 = .ok (.ifnull 10, 3) := by decide +kernel
theorem dX4_wouldGive_12 : decode cX4_wouldGive 12 = .ok (.iload_n 3, 1) := by decide +kernel
theorem dX4_wouldGive_13 : decode cX4_wouldGive 13 = .ok (.invokestatic 73, 3) := by decide +kernel
theorem dX4_wouldGive_16 : decode cX4_wouldGive 16 = .ok (.ifCond .ne 6, 3) := by decide +kernel
theorem dX4_wouldGive_19 : decode cX4_wouldGive 19 = .ok (.bipush (-101), 2) := by decide +kernel
theorem dX4_wouldGive_21 : decode cX4_wouldGive 21 = .ok (.ireturn, 1) := by decide +kernel
theorem dX4_wouldGive_22 : decode cX4_wouldGive 22 = .ok (.aload 4, 2) := by decide +kernel
theorem dX4_wouldGive_24 : decode cX4_wouldGive 24 = .ok (.iload_n 2, 1) := by decide +kernel
theorem dX4_wouldGive_25 : decode cX4_wouldGive 25 = .ok (.invokestatic 138, 3) := by decide +kernel
theorem dX4_wouldGive_28 : decode cX4_wouldGive 28 = .ok (.istore 5, 2) := by decide +kernel
theorem dX4_wouldGive_30 : decode cX4_wouldGive 30 = .ok (.iload 5, 2) := by decide +kernel
theorem dX4_wouldGive_32 : decode cX4_wouldGive 32 = .ok (.ifCond .eq 8, 3) := by decide +kernel
theorem dX4_wouldGive_35 : decode cX4_wouldGive 35 = .ok (.iload 5, 2) := by decide +kernel
theorem dX4_wouldGive_37 : decode cX4_wouldGive 37 = .ok (.goto 13, 3) := by decide +kernel
theorem dX4_wouldGive_40 : decode cX4_wouldGive 40 = .ok (.aload 4, 2) := by decide +kernel
theorem dX4_wouldGive_42 : decode cX4_wouldGive 42 = .ok (.getfield 107, 3) := by decide +kernel
theorem dX4_wouldGive_45 : decode cX4_wouldGive 45 = .ok (.iload_n 3, 1) := by decide +kernel
theorem dX4_wouldGive_46 : decode cX4_wouldGive 46 = .ok (.iload_n 2, 1) := by decide +kernel
theorem dX4_wouldGive_47 : decode cX4_wouldGive 47 = .ok (.invokevirtual 185, 3) := by decide +kernel
theorem dX4_wouldGive_50 : decode cX4_wouldGive 50 = .ok (.ireturn, 1) := by decide +kernel
theorem dX4_exact_0 : decode cX4_exact 0 = .ok (.lload_n 1, 1) := by decide +kernel
theorem dX4_exact_1 : decode cX4_exact 1 = .ok (.lconst 0, 1) := by decide +kernel
theorem dX4_exact_2 : decode cX4_exact 2 = .ok (.lcmp, 1) := by decide +kernel
theorem dX4_exact_3 : decode cX4_exact 3 = .ok (.ifCond .eq 9, 3) := by decide +kernel
theorem dX4_exact_6 : decode cX4_exact 6 = .ok (.lload_n 3, 1) := by decide +kernel
theorem dX4_exact_7 : decode cX4_exact 7 = .ok (.lconst 0, 1) := by decide +kernel
theorem dX4_exact_8 : decode cX4_exact 8 = .ok (.lcmp, 1) := by decide +kernel
theorem dX4_exact_9 : decode cX4_exact 9 = .ok (.ifCond .ne 5, 3) := by decide +kernel
theorem dX4_exact_12 : decode cX4_exact 12 = .ok (.lconst 0, 1) := by decide +kernel
theorem dX4_exact_13 : decode cX4_exact 13 = .ok (.lreturn, 1) := by decide +kernel
theorem dX4_exact_14 : decode cX4_exact 14 = .ok (.lload_n 1, 1) := by decide +kernel
theorem dX4_exact_15 : decode cX4_exact 15 = .ok (.ldc2_w 191, 3) := by decide +kernel
theorem dX4_exact_18 : decode cX4_exact 18 = .ok (.lcmp, 1) := by decide +kernel
theorem dX4_exact_19 : decode cX4_exact 19 = .ok (.ifCond .ne 15, 3) := by decide +kernel
theorem dX4_exact_22 : decode cX4_exact 22 = .ok (.lload_n 3, 1) := by decide +kernel
theorem dX4_exact_23 : decode cX4_exact 23 = .ok (.ldc2_w 193, 3) := by decide +kernel
theorem dX4_exact_26 : decode cX4_exact 26 = .ok (.lcmp, 1) := by decide +kernel
theorem dX4_exact_27 : decode cX4_exact 27 = .ok (.ifCond .ne 7, 3) := by decide +kernel
theorem dX4_exact_30 : decode cX4_exact 30 = .ok (.iconst 1, 1) := by decide +kernel
theorem dX4_exact_31 : decode cX4_exact 31 = .ok (.goto 4, 3) := by decide +kernel
theorem dX4_exact_34 : decode cX4_exact 34 = .ok (.iconst 0, 1) := by decide +kernel
theorem dX4_exact_35 : decode cX4_exact 35 = .ok (.istore 5, 2) := by decide +kernel
theorem dX4_exact_37 : decode cX4_exact 37 = .ok (.lload_n 1, 1) := by decide +kernel
theorem dX4_exact_38 : decode cX4_exact 38 = .ok (.lload_n 3, 1) := by decide +kernel
theorem dX4_exact_39 : decode cX4_exact 39 = .ok (.lmul, 1) := by decide +kernel
theorem dX4_exact_40 : decode cX4_exact 40 = .ok (.lstore 6, 2) := by decide +kernel
theorem dX4_exact_42 : decode cX4_exact 42 = .ok (.iload 5, 2) := by decide +kernel
theorem dX4_exact_44 : decode cX4_exact 44 = .ok (.ifCond .ne 12, 3) := by decide +kernel
theorem dX4_exact_47 : decode cX4_exact 47 = .ok (.lload 6, 2) := by decide +kernel
theorem dX4_exact_49 : decode cX4_exact 49 = .ok (.lload_n 3, 1) := by decide +kernel
theorem dX4_exact_50 : decode cX4_exact 50 = .ok (.ldiv, 1) := by decide +kernel
theorem dX4_exact_51 : decode cX4_exact 51 = .ok (.lload_n 1, 1) := by decide +kernel
theorem dX4_exact_52 : decode cX4_exact 52 = .ok (.lcmp, 1) := by decide +kernel
theorem dX4_exact_53 : decode cX4_exact 53 = .ok (.ifCond .eq 13, 3) := by decide +kernel
theorem dX4_exact_56 : decode cX4_exact 56 = .ok (.new 195, 3) := by decide +kernel
theorem dX4_exact_59 : decode cX4_exact 59 = .ok (.dup, 1) := by decide +kernel
theorem dX4_exact_60 : decode cX4_exact 60 = .ok (.ldc 197, 2) := by decide +kernel
theorem dX4_exact_62 : decode cX4_exact 62 = .ok (.invokespecial 199, 3) := by decide +kernel
theorem dX4_exact_65 : decode cX4_exact 65 = .ok (.athrow, 1) := by decide +kernel
theorem dX4_exact_66 : decode cX4_exact 66 = .ok (.lload 6, 2) := by decide +kernel
theorem dX4_exact_68 : decode cX4_exact 68 = .ok (.lreturn, 1) := by decide +kernel
theorem dX4_told_0 : decode cX4_told 0 = .ok (.iload_n 1, 1) := by decide +kernel
theorem dX4_told_1 : decode cX4_told 1 = .ok (.tableswitch 123 0 9 #[55, 60, 65, 71, 77, 83, 91, 99, 107, 115], 55) := by decide +kernel
theorem dX4_told_56 : decode cX4_told 56 = .ok (.aload_n 0, 1) := by decide +kernel
theorem dX4_told_57 : decode cX4_told 57 = .ok (.getfield 41, 3) := by decide +kernel
theorem dX4_told_60 : decode cX4_told 60 = .ok (.ireturn, 1) := by decide +kernel
theorem dX4_told_61 : decode cX4_told 61 = .ok (.aload_n 0, 1) := by decide +kernel
theorem dX4_told_62 : decode cX4_told 62 = .ok (.getfield 92, 3) := by decide +kernel
theorem dX4_told_65 : decode cX4_told 65 = .ok (.ireturn, 1) := by decide +kernel
theorem dX4_told_66 : decode cX4_told 66 = .ok (.aload_n 0, 1) := by decide +kernel
theorem dX4_told_67 : decode cX4_told 67 = .ok (.iconst 0, 1) := by decide +kernel
theorem dX4_told_68 : decode cX4_told 68 = .ok (.invokevirtual 202, 3) := by decide +kernel
theorem dX4_told_71 : decode cX4_told 71 = .ok (.ireturn, 1) := by decide +kernel
theorem dX4_told_72 : decode cX4_told 72 = .ok (.aload_n 0, 1) := by decide +kernel
theorem dX4_told_73 : decode cX4_told 73 = .ok (.iconst 1, 1) := by decide +kernel
theorem dX4_told_74 : decode cX4_told 74 = .ok (.invokevirtual 202, 3) := by decide +kernel
theorem dX4_told_77 : decode cX4_told 77 = .ok (.ireturn, 1) := by decide +kernel
theorem dX4_told_78 : decode cX4_told 78 = .ok (.aload_n 0, 1) := by decide +kernel
theorem dX4_told_79 : decode cX4_told 79 = .ok (.iconst (-1), 1) := by decide +kernel
theorem dX4_told_80 : decode cX4_told 80 = .ok (.invokevirtual 205, 3) := by decide +kernel
theorem dX4_told_83 : decode cX4_told 83 = .ok (.ireturn, 1) := by decide +kernel
theorem dX4_told_84 : decode cX4_told 84 = .ok (.aload_n 0, 1) := by decide +kernel
theorem dX4_told_85 : decode cX4_told 85 = .ok (.getfield 19, 3) := by decide +kernel
theorem dX4_told_88 : decode cX4_told 88 = .ok (.getfield 208, 3) := by decide +kernel
theorem dX4_told_91 : decode cX4_told 91 = .ok (.ireturn, 1) := by decide +kernel
theorem dX4_told_92 : decode cX4_told 92 = .ok (.aload_n 0, 1) := by decide +kernel
theorem dX4_told_93 : decode cX4_told 93 = .ok (.getfield 19, 3) := by decide +kernel
theorem dX4_told_96 : decode cX4_told 96 = .ok (.getfield 211, 3) := by decide +kernel
theorem dX4_told_99 : decode cX4_told 99 = .ok (.ireturn, 1) := by decide +kernel
theorem dX4_told_100 : decode cX4_told 100 = .ok (.aload_n 0, 1) := by decide +kernel
theorem dX4_told_101 : decode cX4_told 101 = .ok (.getfield 19, 3) := by decide +kernel
theorem dX4_told_104 : decode cX4_told 104 = .ok (.invokevirtual 214, 3) := by decide +kernel
theorem dX4_told_107 : decode cX4_told 107 = .ok (.ireturn, 1) := by decide +kernel
theorem dX4_told_108 : decode cX4_told 108 = .ok (.aload_n 0, 1) := by decide +kernel
theorem dX4_told_109 : decode cX4_told 109 = .ok (.getfield 10, 3) := by decide +kernel
theorem dX4_told_112 : decode cX4_told 112 = .ok (.getfield 57, 3) := by decide +kernel
theorem dX4_told_115 : decode cX4_told 115 = .ok (.ireturn, 1) := by decide +kernel
theorem dX4_told_116 : decode cX4_told 116 = .ok (.aload_n 0, 1) := by decide +kernel
theorem dX4_told_117 : decode cX4_told 117 = .ok (.getfield 19, 3) := by decide +kernel
theorem dX4_told_120 : decode cX4_told 120 = .ok (.getfield 217, 3) := by decide +kernel
theorem dX4_told_123 : decode cX4_told 123 = .ok (.ireturn, 1) := by decide +kernel
theorem dX4_told_124 : decode cX4_told 124 = .ok (.bipush (-102), 2) := by decide +kernel
theorem dX4_told_126 : decode cX4_told 126 = .ok (.ireturn, 1) := by decide +kernel
theorem dX4_clear_0 : decode cX4_clear 0 = .ok (.aload_n 0, 1) := by decide +kernel
theorem dX4_clear_1 : decode cX4_clear 1 = .ok (.getfield 92, 3) := by decide +kernel
theorem dX4_clear_4 : decode cX4_clear 4 = .ok (.istore_n 1, 1) := by decide +kernel
theorem dX4_clear_5 : decode cX4_clear 5 = .ok (.aload_n 0, 1) := by decide +kernel
theorem dX4_clear_6 : decode cX4_clear 6 = .ok (.invokevirtual 33, 3) := by decide +kernel
theorem dX4_clear_9 : decode cX4_clear 9 = .ok (.iload_n 1, 1) := by decide +kernel
theorem dX4_clear_10 : decode cX4_clear 10 = .ok (.ireturn, 1) := by decide +kernel
theorem dX4_beginAnew_0 : decode cX4_beginAnew 0 = .ok (.aload_n 0, 1) := by decide +kernel
theorem dX4_beginAnew_1 : decode cX4_beginAnew 1 = .ok (.getfield 10, 3) := by decide +kernel
theorem dX4_beginAnew_4 : decode cX4_beginAnew 4 = .ok (.invokevirtual 220, 3) := by decide +kernel
theorem dX4_beginAnew_7 : decode cX4_beginAnew 7 = .ok (.aload_n 0, 1) := by decide +kernel
theorem dX4_beginAnew_8 : decode cX4_beginAnew 8 = .ok (.getfield 19, 3) := by decide +kernel
theorem dX4_beginAnew_11 : decode cX4_beginAnew 11 = .ok (.invokevirtual 223, 3) := by decide +kernel
theorem dX4_beginAnew_14 : decode cX4_beginAnew 14 = .ok (.aload_n 0, 1) := by decide +kernel
theorem dX4_beginAnew_15 : decode cX4_beginAnew 15 = .ok (.getfield 23, 3) := by decide +kernel
theorem dX4_beginAnew_18 : decode cX4_beginAnew 18 = .ok (.sipush 1000, 3) := by decide +kernel
theorem dX4_beginAnew_21 : decode cX4_beginAnew 21 = .ok (.invokestatic 224, 3) := by decide +kernel
theorem dX4_beginAnew_24 : decode cX4_beginAnew 24 = .ok (.aload_n 0, 1) := by decide +kernel
theorem dX4_beginAnew_25 : decode cX4_beginAnew 25 = .ok (.iconst 0, 1) := by decide +kernel
theorem dX4_beginAnew_26 : decode cX4_beginAnew 26 = .ok (.putfield 92, 3) := by decide +kernel
theorem dX4_beginAnew_29 : decode cX4_beginAnew 29 = .ok (.aload_n 0, 1) := by decide +kernel
theorem dX4_beginAnew_30 : decode cX4_beginAnew 30 = .ok (.iconst 0, 1) := by decide +kernel
theorem dX4_beginAnew_31 : decode cX4_beginAnew 31 = .ok (.putfield 41, 3) := by decide +kernel
theorem dX4_beginAnew_34 : decode cX4_beginAnew 34 = .ok (.return_, 1) := by decide +kernel
theorem dX4_within_0 : decode cX4_within 0 = .ok (.iload_n 0, 1) := by decide +kernel
theorem dX4_within_1 : decode cX4_within 1 = .ok (.iload_n 1, 1) := by decide +kernel
theorem dX4_within_2 : decode cX4_within 2 = .ok (.if_icmp .lt 12, 3) := by decide +kernel
theorem dX4_within_5 : decode cX4_within 5 = .ok (.iload_n 0, 1) := by decide +kernel
theorem dX4_within_6 : decode cX4_within 6 = .ok (.iload_n 2, 1) := by decide +kernel
theorem dX4_within_7 : decode cX4_within 7 = .ok (.if_icmp .gt 7, 3) := by decide +kernel
theorem dX4_within_10 : decode cX4_within 10 = .ok (.iconst 1, 1) := by decide +kernel
theorem dX4_within_11 : decode cX4_within 11 = .ok (.goto 4, 3) := by decide +kernel
theorem dX4_within_14 : decode cX4_within 14 = .ok (.iconst 0, 1) := by decide +kernel
theorem dX4_within_15 : decode cX4_within 15 = .ok (.ireturn, 1) := by decide +kernel
theorem dX4_isAccount_0 : decode cX4_isAccount 0 = .ok (.iload_n 0, 1) := by decide +kernel
theorem dX4_isAccount_1 : decode cX4_isAccount 1 = .ok (.iconst 0, 1) := by decide +kernel
theorem dX4_isAccount_2 : decode cX4_isAccount 2 = .ok (.iconst 5, 1) := by decide +kernel
theorem dX4_isAccount_3 : decode cX4_isAccount 3 = .ok (.invokestatic 37, 3) := by decide +kernel
theorem dX4_isAccount_6 : decode cX4_isAccount 6 = .ok (.ireturn, 1) := by decide +kernel
theorem dX4_isNode_0 : decode cX4_isNode 0 = .ok (.iload_n 0, 1) := by decide +kernel
theorem dX4_isNode_1 : decode cX4_isNode 1 = .ok (.iconst 0, 1) := by decide +kernel
theorem dX4_isNode_2 : decode cX4_isNode 2 = .ok (.iconst 4, 1) := by decide +kernel
theorem dX4_isNode_3 : decode cX4_isNode 3 = .ok (.invokestatic 37, 3) := by decide +kernel
theorem dX4_isNode_6 : decode cX4_isNode 6 = .ok (.ireturn, 1) := by decide +kernel
theorem dX4_find_0 : decode cX4_find 0 = .ok (.iload_n 1, 1) := by decide +kernel
theorem dX4_find_1 : decode cX4_find 1 = .ok (.iconst 0, 1) := by decide +kernel
theorem dX4_find_2 : decode cX4_find 2 = .ok (.aload_n 0, 1) := by decide +kernel
theorem dX4_find_3 : decode cX4_find 3 = .ok (.getfield 92, 3) := by decide +kernel
theorem dX4_find_6 : decode cX4_find 6 = .ok (.iconst 1, 1) := by decide +kernel
theorem dX4_find_7 : decode cX4_find 7 = .ok (.isub, 1) := by decide +kernel
theorem dX4_find_8 : decode cX4_find 8 = .ok (.invokestatic 37, 3) := by decide +kernel
theorem dX4_find_11 : decode cX4_find 11 = .ok (.ifCond .eq 12, 3) := by decide +kernel
theorem dX4_find_14 : decode cX4_find 14 = .ok (.aload_n 0, 1) := by decide +kernel
theorem dX4_find_15 : decode cX4_find 15 = .ok (.getfield 29, 3) := by decide +kernel
theorem dX4_find_18 : decode cX4_find 18 = .ok (.iload_n 1, 1) := by decide +kernel
theorem dX4_find_19 : decode cX4_find 19 = .ok (.aaload, 1) := by decide +kernel
theorem dX4_find_20 : decode cX4_find 20 = .ok (.goto 4, 3) := by decide +kernel
theorem dX4_find_23 : decode cX4_find 23 = .ok (.aconst_null, 1) := by decide +kernel
theorem dX4_find_24 : decode cX4_find 24 = .ok (.areturn, 1) := by decide +kernel
theorem dX4_freshItem_0 : decode cX4_freshItem 0 = .ok (.aload_n 0, 1) := by decide +kernel
theorem dX4_freshItem_1 : decode cX4_freshItem 1 = .ok (.getfield 29, 3) := by decide +kernel
theorem dX4_freshItem_4 : decode cX4_freshItem 4 = .ok (.aload_n 0, 1) := by decide +kernel
theorem dX4_freshItem_5 : decode cX4_freshItem 5 = .ok (.getfield 92, 3) := by decide +kernel
theorem dX4_freshItem_8 : decode cX4_freshItem 8 = .ok (.aaload, 1) := by decide +kernel
theorem dX4_freshItem_9 : decode cX4_freshItem 9 = .ok (.ifnonnull 19, 3) := by decide +kernel
theorem dX4_freshItem_12 : decode cX4_freshItem 12 = .ok (.aload_n 0, 1) := by decide +kernel
theorem dX4_freshItem_13 : decode cX4_freshItem 13 = .ok (.getfield 29, 3) := by decide +kernel
theorem dX4_freshItem_16 : decode cX4_freshItem 16 = .ok (.aload_n 0, 1) := by decide +kernel
theorem dX4_freshItem_17 : decode cX4_freshItem 17 = .ok (.getfield 92, 3) := by decide +kernel
theorem dX4_freshItem_20 : decode cX4_freshItem 20 = .ok (.new 27, 3) := by decide +kernel
theorem dX4_freshItem_23 : decode cX4_freshItem 23 = .ok (.dup, 1) := by decide +kernel
theorem dX4_freshItem_24 : decode cX4_freshItem 24 = .ok (.invokespecial 230, 3) := by decide +kernel
theorem dX4_freshItem_27 : decode cX4_freshItem 27 = .ok (.aastore, 1) := by decide +kernel
theorem dX4_freshItem_28 : decode cX4_freshItem 28 = .ok (.aload_n 0, 1) := by decide +kernel
theorem dX4_freshItem_29 : decode cX4_freshItem 29 = .ok (.getfield 29, 3) := by decide +kernel
theorem dX4_freshItem_32 : decode cX4_freshItem 32 = .ok (.aload_n 0, 1) := by decide +kernel
theorem dX4_freshItem_33 : decode cX4_freshItem 33 = .ok (.dup, 1) := by decide +kernel
theorem dX4_freshItem_34 : decode cX4_freshItem 34 = .ok (.getfield 92, 3) := by decide +kernel
theorem dX4_freshItem_37 : decode cX4_freshItem 37 = .ok (.dup_x1, 1) := by decide +kernel
theorem dX4_freshItem_38 : decode cX4_freshItem 38 = .ok (.iconst 1, 1) := by decide +kernel
theorem dX4_freshItem_39 : decode cX4_freshItem 39 = .ok (.iadd, 1) := by decide +kernel
theorem dX4_freshItem_40 : decode cX4_freshItem 40 = .ok (.putfield 92, 3) := by decide +kernel
theorem dX4_freshItem_43 : decode cX4_freshItem 43 = .ok (.aaload, 1) := by decide +kernel
theorem dX4_freshItem_44 : decode cX4_freshItem 44 = .ok (.areturn, 1) := by decide +kernel
theorem dX4_chargedSize_0 : decode cX4_chargedSize 0 = .ok (.iload_n 1, 1) := by decide +kernel
theorem dX4_chargedSize_1 : decode cX4_chargedSize 1 = .ok (.aload_n 0, 1) := by decide +kernel
theorem dX4_chargedSize_2 : decode cX4_chargedSize 2 = .ok (.getfield 10, 3) := by decide +kernel
theorem dX4_chargedSize_5 : decode cX4_chargedSize 5 = .ok (.aload_n 0, 1) := by decide +kernel
theorem dX4_chargedSize_6 : decode cX4_chargedSize 6 = .ok (.getfield 41, 3) := by decide +kernel
theorem dX4_chargedSize_9 : decode cX4_chargedSize 9 = .ok (.invokevirtual 67, 3) := by decide +kernel
theorem dX4_chargedSize_12 : decode cX4_chargedSize 12 = .ok (.invokestatic 231, 3) := by decide +kernel
theorem dX4_chargedSize_15 : decode cX4_chargedSize 15 = .ok (.ireturn, 1) := by decide +kernel
theorem dX4_rentOf_0 : decode cX4_rentOf 0 = .ok (.iload_n 1, 1) := by decide +kernel
theorem dX4_rentOf_1 : decode cX4_rentOf 1 = .ok (.i2l, 1) := by decide +kernel
theorem dX4_rentOf_2 : decode cX4_rentOf 2 = .ok (.aload_n 0, 1) := by decide +kernel
theorem dX4_rentOf_3 : decode cX4_rentOf 3 = .ok (.getfield 10, 3) := by decide +kernel
theorem dX4_rentOf_6 : decode cX4_rentOf 6 = .ok (.aload_n 0, 1) := by decide +kernel
theorem dX4_rentOf_7 : decode cX4_rentOf 7 = .ok (.getfield 41, 3) := by decide +kernel
theorem dX4_rentOf_10 : decode cX4_rentOf 10 = .ok (.invokevirtual 64, 3) := by decide +kernel
theorem dX4_rentOf_13 : decode cX4_rentOf 13 = .ok (.i2l, 1) := by decide +kernel
theorem dX4_rentOf_14 : decode cX4_rentOf 14 = .ok (.lmul, 1) := by decide +kernel
theorem dX4_rentOf_15 : decode cX4_rentOf 15 = .ok (.iload_n 2, 1) := by decide +kernel
theorem dX4_rentOf_16 : decode cX4_rentOf 16 = .ok (.i2l, 1) := by decide +kernel
theorem dX4_rentOf_17 : decode cX4_rentOf 17 = .ok (.lmul, 1) := by decide +kernel
theorem dX4_rentOf_18 : decode cX4_rentOf 18 = .ok (.lreturn, 1) := by decide +kernel
theorem dX4_capsAllow_0 : decode cX4_capsAllow 0 = .ok (.aload_n 0, 1) := by decide +kernel
theorem dX4_capsAllow_1 : decode cX4_capsAllow 1 = .ok (.iconst (-1), 1) := by decide +kernel
theorem dX4_capsAllow_2 : decode cX4_capsAllow 2 = .ok (.invokevirtual 205, 3) := by decide +kernel
theorem dX4_capsAllow_5 : decode cX4_capsAllow 5 = .ok (.iload_n 2, 1) := by decide +kernel
theorem dX4_capsAllow_6 : decode cX4_capsAllow 6 = .ok (.iadd, 1) := by decide +kernel
theorem dX4_capsAllow_7 : decode cX4_capsAllow 7 = .ok (.sipush 5000, 3) := by decide +kernel
theorem dX4_capsAllow_10 : decode cX4_capsAllow 10 = .ok (.if_icmp .gt 23, 3) := by decide +kernel
theorem dX4_capsAllow_13 : decode cX4_capsAllow 13 = .ok (.aload_n 0, 1) := by decide +kernel
theorem dX4_capsAllow_14 : decode cX4_capsAllow 14 = .ok (.iload_n 1, 1) := by decide +kernel
theorem dX4_capsAllow_15 : decode cX4_capsAllow 15 = .ok (.invokevirtual 205, 3) := by decide +kernel
theorem dX4_capsAllow_18 : decode cX4_capsAllow 18 = .ok (.iload_n 2, 1) := by decide +kernel
theorem dX4_capsAllow_19 : decode cX4_capsAllow 19 = .ok (.iadd, 1) := by decide +kernel
theorem dX4_capsAllow_20 : decode cX4_capsAllow 20 = .ok (.aload_n 0, 1) := by decide +kernel
theorem dX4_capsAllow_21 : decode cX4_capsAllow 21 = .ok (.getfield 23, 3) := by decide +kernel
theorem dX4_capsAllow_24 : decode cX4_capsAllow 24 = .ok (.iload_n 1, 1) := by decide +kernel
theorem dX4_capsAllow_25 : decode cX4_capsAllow 25 = .ok (.iaload, 1) := by decide +kernel
theorem dX4_capsAllow_26 : decode cX4_capsAllow 26 = .ok (.if_icmp .gt 7, 3) := by decide +kernel
theorem dX4_capsAllow_29 : decode cX4_capsAllow 29 = .ok (.iconst 1, 1) := by decide +kernel
theorem dX4_capsAllow_30 : decode cX4_capsAllow 30 = .ok (.goto 4, 3) := by decide +kernel
theorem dX4_capsAllow_33 : decode cX4_capsAllow 33 = .ok (.iconst 0, 1) := by decide +kernel
theorem dX4_capsAllow_34 : decode cX4_capsAllow 34 = .ok (.ireturn, 1) := by decide +kernel
theorem dX4_liveSizes_0 : decode cX4_liveSizes 0 = .ok (.iconst 0, 1) := by decide +kernel
theorem dX4_liveSizes_1 : decode cX4_liveSizes 1 = .ok (.istore_n 2, 1) := by decide +kernel
theorem dX4_liveSizes_2 : decode cX4_liveSizes 2 = .ok (.iconst 0, 1) := by decide +kernel
theorem dX4_liveSizes_3 : decode cX4_liveSizes 3 = .ok (.istore_n 3, 1) := by decide +kernel
theorem dX4_liveSizes_4 : decode cX4_liveSizes 4 = .ok (.iload_n 3, 1) := by decide +kernel
theorem dX4_liveSizes_5 : decode cX4_liveSizes 5 = .ok (.aload_n 0, 1) := by decide +kernel
theorem dX4_liveSizes_6 : decode cX4_liveSizes 6 = .ok (.getfield 92, 3) := by decide +kernel
theorem dX4_liveSizes_9 : decode cX4_liveSizes 9 = .ok (.if_icmp .ge 47, 3) := by decide +kernel
theorem dX4_liveSizes_12 : decode cX4_liveSizes 12 = .ok (.aload_n 0, 1) := by decide +kernel
theorem dX4_liveSizes_13 : decode cX4_liveSizes 13 = .ok (.getfield 29, 3) := by decide +kernel
theorem dX4_liveSizes_16 : decode cX4_liveSizes 16 = .ok (.iload_n 3, 1) := by decide +kernel
theorem dX4_liveSizes_17 : decode cX4_liveSizes 17 = .ok (.aaload, 1) := by decide +kernel
theorem dX4_liveSizes_18 : decode cX4_liveSizes 18 = .ok (.astore 4, 2) := by decide +kernel
theorem dX4_liveSizes_20 : decode cX4_liveSizes 20 = .ok (.aload 4, 2) := by decide +kernel
theorem dX4_liveSizes_22 : decode cX4_liveSizes 22 = .ok (.getfield 123, 3) := by decide +kernel
theorem dX4_liveSizes_25 : decode cX4_liveSizes 25 = .ok (.ifCond .ne 25, 3) := by decide +kernel
theorem dX4_liveSizes_28 : decode cX4_liveSizes 28 = .ok (.iload_n 1, 1) := by decide +kernel
theorem dX4_liveSizes_29 : decode cX4_liveSizes 29 = .ok (.iconst (-1), 1) := by decide +kernel
theorem dX4_liveSizes_30 : decode cX4_liveSizes 30 = .ok (.if_icmp .eq 12, 3) := by decide +kernel
theorem dX4_liveSizes_33 : decode cX4_liveSizes 33 = .ok (.iload_n 1, 1) := by decide +kernel
theorem dX4_liveSizes_34 : decode cX4_liveSizes 34 = .ok (.aload 4, 2) := by decide +kernel
theorem dX4_liveSizes_36 : decode cX4_liveSizes 36 = .ok (.getfield 126, 3) := by decide +kernel
theorem dX4_liveSizes_39 : decode cX4_liveSizes 39 = .ok (.if_icmp .ne 11, 3) := by decide +kernel
theorem dX4_liveSizes_42 : decode cX4_liveSizes 42 = .ok (.iload_n 2, 1) := by decide +kernel
theorem dX4_liveSizes_43 : decode cX4_liveSizes 43 = .ok (.aload 4, 2) := by decide +kernel
theorem dX4_liveSizes_45 : decode cX4_liveSizes 45 = .ok (.getfield 129, 3) := by decide +kernel
theorem dX4_liveSizes_48 : decode cX4_liveSizes 48 = .ok (.iadd, 1) := by decide +kernel
theorem dX4_liveSizes_49 : decode cX4_liveSizes 49 = .ok (.istore_n 2, 1) := by decide +kernel
theorem dX4_liveSizes_50 : decode cX4_liveSizes 50 = .ok (.iinc 3 1, 3) := by decide +kernel
theorem dX4_liveSizes_53 : decode cX4_liveSizes 53 = .ok (.goto (-49), 3) := by decide +kernel
theorem dX4_liveSizes_56 : decode cX4_liveSizes 56 = .ok (.iload_n 2, 1) := by decide +kernel
theorem dX4_liveSizes_57 : decode cX4_liveSizes 57 = .ok (.ireturn, 1) := by decide +kernel
theorem dX4_countOf_0 : decode cX4_countOf 0 = .ok (.iconst 0, 1) := by decide +kernel
theorem dX4_countOf_1 : decode cX4_countOf 1 = .ok (.istore_n 2, 1) := by decide +kernel
theorem dX4_countOf_2 : decode cX4_countOf 2 = .ok (.iconst 0, 1) := by decide +kernel
theorem dX4_countOf_3 : decode cX4_countOf 3 = .ok (.istore_n 3, 1) := by decide +kernel
theorem dX4_countOf_4 : decode cX4_countOf 4 = .ok (.iload_n 3, 1) := by decide +kernel
theorem dX4_countOf_5 : decode cX4_countOf 5 = .ok (.aload_n 0, 1) := by decide +kernel
theorem dX4_countOf_6 : decode cX4_countOf 6 = .ok (.getfield 92, 3) := by decide +kernel
theorem dX4_countOf_9 : decode cX4_countOf 9 = .ok (.if_icmp .ge 25, 3) := by decide +kernel
theorem dX4_countOf_12 : decode cX4_countOf 12 = .ok (.aload_n 0, 1) := by decide +kernel
theorem dX4_countOf_13 : decode cX4_countOf 13 = .ok (.getfield 29, 3) := by decide +kernel
theorem dX4_countOf_16 : decode cX4_countOf 16 = .ok (.iload_n 3, 1) := by decide +kernel
theorem dX4_countOf_17 : decode cX4_countOf 17 = .ok (.aaload, 1) := by decide +kernel
theorem dX4_countOf_18 : decode cX4_countOf 18 = .ok (.getfield 123, 3) := by decide +kernel
theorem dX4_countOf_21 : decode cX4_countOf 21 = .ok (.iload_n 1, 1) := by decide +kernel
theorem dX4_countOf_22 : decode cX4_countOf 22 = .ok (.if_icmp .ne 6, 3) := by decide +kernel
theorem dX4_countOf_25 : decode cX4_countOf 25 = .ok (.iinc 2 1, 3) := by decide +kernel
theorem dX4_countOf_28 : decode cX4_countOf 28 = .ok (.iinc 3 1, 3) := by decide +kernel
theorem dX4_countOf_31 : decode cX4_countOf 31 = .ok (.goto (-27), 3) := by decide +kernel
theorem dX4_countOf_34 : decode cX4_countOf 34 = .ok (.iload_n 2, 1) := by decide +kernel
theorem dX4_countOf_35 : decode cX4_countOf 35 = .ok (.ireturn, 1) := by decide +kernel
theorem dX4_archiveUnpaid_0 : decode cX4_archiveUnpaid 0 = .ok (.iconst 0, 1) := by decide +kernel
theorem dX4_archiveUnpaid_1 : decode cX4_archiveUnpaid 1 = .ok (.istore_n 1, 1) := by decide +kernel
theorem dX4_archiveUnpaid_2 : decode cX4_archiveUnpaid 2 = .ok (.iconst 0, 1) := by decide +kernel
theorem dX4_archiveUnpaid_3 : decode cX4_archiveUnpaid 3 = .ok (.istore_n 2, 1) := by decide +kernel
theorem dX4_archiveUnpaid_4 : decode cX4_archiveUnpaid 4 = .ok (.iload_n 2, 1) := by decide +kernel
theorem dX4_archiveUnpaid_5 : decode cX4_archiveUnpaid 5 = .ok (.aload_n 0, 1) := by decide +kernel
theorem dX4_archiveUnpaid_6 : decode cX4_archiveUnpaid 6 = .ok (.getfield 92, 3) := by decide +kernel
theorem dX4_archiveUnpaid_9 : decode cX4_archiveUnpaid 9 = .ok (.if_icmp .ge 42, 3) := by decide +kernel
theorem dX4_archiveUnpaid_12 : decode cX4_archiveUnpaid 12 = .ok (.aload_n 0, 1) := by decide +kernel
theorem dX4_archiveUnpaid_13 : decode cX4_archiveUnpaid 13 = .ok (.getfield 29, 3) := by decide +kernel
theorem dX4_archiveUnpaid_16 : decode cX4_archiveUnpaid 16 = .ok (.iload_n 2, 1) := by decide +kernel
theorem dX4_archiveUnpaid_17 : decode cX4_archiveUnpaid 17 = .ok (.aaload, 1) := by decide +kernel
theorem dX4_archiveUnpaid_18 : decode cX4_archiveUnpaid 18 = .ok (.astore_n 3, 1) := by decide +kernel
theorem dX4_archiveUnpaid_19 : decode cX4_archiveUnpaid 19 = .ok (.aload_n 3, 1) := by decide +kernel
theorem dX4_archiveUnpaid_20 : decode cX4_archiveUnpaid 20 = .ok (.getfield 123, 3) := by decide +kernel
theorem dX4_archiveUnpaid_23 : decode cX4_archiveUnpaid 23 = .ok (.ifCond .ne 22, 3) := by decide +kernel
theorem dX4_archiveUnpaid_26 : decode cX4_archiveUnpaid 26 = .ok (.aload_n 3, 1) := by decide +kernel
theorem dX4_archiveUnpaid_27 : decode cX4_archiveUnpaid 27 = .ok (.getfield 132, 3) := by decide +kernel
theorem dX4_archiveUnpaid_30 : decode cX4_archiveUnpaid 30 = .ok (.aload_n 0, 1) := by decide +kernel
theorem dX4_archiveUnpaid_31 : decode cX4_archiveUnpaid 31 = .ok (.getfield 41, 3) := by decide +kernel
theorem dX4_archiveUnpaid_34 : decode cX4_archiveUnpaid 34 = .ok (.if_icmp .ge 11, 3) := by decide +kernel
theorem dX4_archiveUnpaid_37 : decode cX4_archiveUnpaid 37 = .ok (.aload_n 3, 1) := by decide +kernel
theorem dX4_archiveUnpaid_38 : decode cX4_archiveUnpaid 38 = .ok (.iconst 1, 1) := by decide +kernel
theorem dX4_archiveUnpaid_39 : decode cX4_archiveUnpaid 39 = .ok (.putfield 123, 3) := by decide +kernel
theorem dX4_archiveUnpaid_42 : decode cX4_archiveUnpaid 42 = .ok (.iinc 1 1, 3) := by decide +kernel
theorem dX4_archiveUnpaid_45 : decode cX4_archiveUnpaid 45 = .ok (.iinc 2 1, 3) := by decide +kernel
theorem dX4_archiveUnpaid_48 : decode cX4_archiveUnpaid 48 = .ok (.goto (-44), 3) := by decide +kernel
theorem dX4_archiveUnpaid_51 : decode cX4_archiveUnpaid 51 = .ok (.iload_n 1, 1) := by decide +kernel
theorem dX4_archiveUnpaid_52 : decode cX4_archiveUnpaid 52 = .ok (.ireturn, 1) := by decide +kernel
theorem dX4_refusalToShrink_0 : decode cX4_refusalToShrink 0 = .ok (.aload_n 0, 1) := by decide +kernel
theorem dX4_refusalToShrink_1 : decode cX4_refusalToShrink 1 = .ok (.getfield 123, 3) := by decide +kernel
theorem dX4_refusalToShrink_4 : decode cX4_refusalToShrink 4 = .ok (.ifCond .eq 6, 3) := by decide +kernel
theorem dX4_refusalToShrink_7 : decode cX4_refusalToShrink 7 = .ok (.bipush (-103), 2) := by decide +kernel
theorem dX4_refusalToShrink_9 : decode cX4_refusalToShrink 9 = .ok (.ireturn, 1) := by decide +kernel
theorem dX4_refusalToShrink_10 : decode cX4_refusalToShrink 10 = .ok (.iload_n 1, 1) := by decide +kernel
theorem dX4_refusalToShrink_11 : decode cX4_refusalToShrink 11 = .ok (.iconst 1, 1) := by decide +kernel
theorem dX4_refusalToShrink_12 : decode cX4_refusalToShrink 12 = .ok (.aload_n 0, 1) := by decide +kernel
theorem dX4_refusalToShrink_13 : decode cX4_refusalToShrink 13 = .ok (.getfield 129, 3) := by decide +kernel
theorem dX4_refusalToShrink_16 : decode cX4_refusalToShrink 16 = .ok (.iconst 1, 1) := by decide +kernel
theorem dX4_refusalToShrink_17 : decode cX4_refusalToShrink 17 = .ok (.isub, 1) := by decide +kernel
theorem dX4_refusalToShrink_18 : decode cX4_refusalToShrink 18 = .ok (.invokestatic 37, 3) := by decide +kernel
theorem dX4_refusalToShrink_21 : decode cX4_refusalToShrink 21 = .ok (.ifCond .eq 7, 3) := by decide +kernel
theorem dX4_refusalToShrink_24 : decode cX4_refusalToShrink 24 = .ok (.iconst 0, 1) := by decide +kernel
theorem dX4_refusalToShrink_25 : decode cX4_refusalToShrink 25 = .ok (.goto 5, 3) := by decide +kernel
theorem dX4_refusalToShrink_28 : decode cX4_refusalToShrink 28 = .ok (.bipush (-102), 2) := by decide +kernel
theorem dX4_refusalToShrink_30 : decode cX4_refusalToShrink 30 = .ok (.ireturn, 1) := by decide +kernel
theorem dX4_giveBack_0 : decode cX4_giveBack 0 = .ok (.iconst 0, 1) := by decide +kernel
theorem dX4_giveBack_1 : decode cX4_giveBack 1 = .ok (.istore_n 3, 1) := by decide +kernel
theorem dX4_giveBack_2 : decode cX4_giveBack 2 = .ok (.iconst 0, 1) := by decide +kernel
theorem dX4_giveBack_3 : decode cX4_giveBack 3 = .ok (.istore 4, 2) := by decide +kernel
theorem dX4_giveBack_5 : decode cX4_giveBack 5 = .ok (.iload 4, 2) := by decide +kernel
theorem dX4_giveBack_7 : decode cX4_giveBack 7 = .ok (.bipush 6, 2) := by decide +kernel
theorem dX4_giveBack_9 : decode cX4_giveBack 9 = .ok (.if_icmp .ge 31, 3) := by decide +kernel
theorem dX4_giveBack_12 : decode cX4_giveBack 12 = .ok (.iload_n 3, 1) := by decide +kernel
theorem dX4_giveBack_13 : decode cX4_giveBack 13 = .ok (.aload_n 0, 1) := by decide +kernel
theorem dX4_giveBack_14 : decode cX4_giveBack 14 = .ok (.getfield 19, 3) := by decide +kernel
theorem dX4_giveBack_17 : decode cX4_giveBack 17 = .ok (.iload 4, 2) := by decide +kernel
theorem dX4_giveBack_19 : decode cX4_giveBack 19 = .ok (.aload_n 1, 1) := by decide +kernel
theorem dX4_giveBack_20 : decode cX4_giveBack 20 = .ok (.getfield 107, 3) := by decide +kernel
theorem dX4_giveBack_23 : decode cX4_giveBack 23 = .ok (.iload 4, 2) := by decide +kernel
theorem dX4_giveBack_25 : decode cX4_giveBack 25 = .ok (.iload_n 2, 1) := by decide +kernel
theorem dX4_giveBack_26 : decode cX4_giveBack 26 = .ok (.invokevirtual 185, 3) := by decide +kernel
theorem dX4_giveBack_29 : decode cX4_giveBack 29 = .ok (.invokevirtual 236, 3) := by decide +kernel
theorem dX4_giveBack_32 : decode cX4_giveBack 32 = .ok (.iadd, 1) := by decide +kernel
theorem dX4_giveBack_33 : decode cX4_giveBack 33 = .ok (.istore_n 3, 1) := by decide +kernel
theorem dX4_giveBack_34 : decode cX4_giveBack 34 = .ok (.iinc 4 1, 3) := by decide +kernel
theorem dX4_giveBack_37 : decode cX4_giveBack 37 = .ok (.goto (-32), 3) := by decide +kernel
theorem dX4_giveBack_40 : decode cX4_giveBack 40 = .ok (.aload_n 1, 1) := by decide +kernel
theorem dX4_giveBack_41 : decode cX4_giveBack 41 = .ok (.getfield 107, 3) := by decide +kernel
theorem dX4_giveBack_44 : decode cX4_giveBack 44 = .ok (.iload_n 2, 1) := by decide +kernel
theorem dX4_giveBack_45 : decode cX4_giveBack 45 = .ok (.invokevirtual 239, 3) := by decide +kernel
theorem dX4_giveBack_48 : decode cX4_giveBack 48 = .ok (.iload_n 3, 1) := by decide +kernel
theorem dX4_giveBack_49 : decode cX4_giveBack 49 = .ok (.ireturn, 1) := by decide +kernel
