theorem dX5_grow_192 : decode cX5_grow 192 = .ok (.isub, 1) := by decide +kernel
theorem dX5_grow_193 : decode cX5_grow 193 = .ok (.iastore, 1) := by decide +kernel
theorem dX5_grow_194 : decode cX5_grow 194 = .ok (.aload_n 0, 1) := by decide +kernel
theorem dX5_grow_195 : decode cX5_grow 195 = .ok (.dup, 1) := by decide +kernel
theorem dX5_grow_196 : decode cX5_grow 196 = .ok (.getfield 72, 3) := by decide +kernel
theorem dX5_grow_199 : decode cX5_grow 199 = .ok (.iload 4, 2) := by decide +kernel
theorem dX5_grow_201 : decode cX5_grow 201 = .ok (.iadd, 1) := by decide +kernel
theorem dX5_grow_202 : decode cX5_grow 202 = .ok (.putfield 72, 3) := by decide +kernel
theorem dX5_grow_205 : decode cX5_grow 205 = .ok (.iload 5, 2) := by decide +kernel
theorem dX5_grow_207 : decode cX5_grow 207 = .ok (.ireturn, 1) := by decide +kernel
theorem dX5_shrink_0 : decode cX5_shrink 0 = .ok (.aload_n 0, 1) := by decide +kernel
theorem dX5_shrink_1 : decode cX5_shrink 1 = .ok (.iload_n 1, 1) := by decide +kernel
theorem dX5_shrink_2 : decode cX5_shrink 2 = .ok (.invokevirtual 137, 3) := by decide +kernel
theorem dX5_shrink_5 : decode cX5_shrink 5 = .ok (.ifCond .eq 6, 3) := by decide +kernel
theorem dX5_shrink_8 : decode cX5_shrink 8 = .ok (.bipush (-101), 2) := by decide +kernel
theorem dX5_shrink_10 : decode cX5_shrink 10 = .ok (.ireturn, 1) := by decide +kernel
theorem dX5_shrink_11 : decode cX5_shrink 11 = .ok (.aload_n 0, 1) := by decide +kernel
theorem dX5_shrink_12 : decode cX5_shrink 12 = .ok (.getfield 46, 3) := by decide +kernel
theorem dX5_shrink_15 : decode cX5_shrink 15 = .ok (.iload_n 1, 1) := by decide +kernel
theorem dX5_shrink_16 : decode cX5_shrink 16 = .ok (.iaload, 1) := by decide +kernel
theorem dX5_shrink_17 : decode cX5_shrink 17 = .ok (.ifCond .eq 6, 3) := by decide +kernel
theorem dX5_shrink_20 : decode cX5_shrink 20 = .ok (.bipush (-103), 2) := by decide +kernel
theorem dX5_shrink_22 : decode cX5_shrink 22 = .ok (.ireturn, 1) := by decide +kernel
theorem dX5_shrink_23 : decode cX5_shrink 23 = .ok (.iload_n 2, 1) := by decide +kernel
theorem dX5_shrink_24 : decode cX5_shrink 24 = .ok (.i2l, 1) := by decide +kernel
theorem dX5_shrink_25 : decode cX5_shrink 25 = .ok (.lconst 1, 1) := by decide +kernel
theorem dX5_shrink_26 : decode cX5_shrink 26 = .ok (.aload_n 0, 1) := by decide +kernel
theorem dX5_shrink_27 : decode cX5_shrink 27 = .ok (.getfield 37, 3) := by decide +kernel
theorem dX5_shrink_30 : decode cX5_shrink 30 = .ok (.iload_n 1, 1) := by decide +kernel
theorem dX5_shrink_31 : decode cX5_shrink 31 = .ok (.iaload, 1) := by decide +kernel
theorem dX5_shrink_32 : decode cX5_shrink 32 = .ok (.iconst 1, 1) := by decide +kernel
theorem dX5_shrink_33 : decode cX5_shrink 33 = .ok (.isub, 1) := by decide +kernel
theorem dX5_shrink_34 : decode cX5_shrink 34 = .ok (.i2l, 1) := by decide +kernel
theorem dX5_shrink_35 : decode cX5_shrink 35 = .ok (.invokestatic 83, 3) := by decide +kernel
theorem dX5_shrink_38 : decode cX5_shrink 38 = .ok (.ifCond .ne 6, 3) := by decide +kernel
theorem dX5_shrink_41 : decode cX5_shrink 41 = .ok (.bipush (-102), 2) := by decide +kernel
theorem dX5_shrink_43 : decode cX5_shrink 43 = .ok (.ireturn, 1) := by decide +kernel
theorem dX5_shrink_44 : decode cX5_shrink 44 = .ok (.aload_n 0, 1) := by decide +kernel
theorem dX5_shrink_45 : decode cX5_shrink 45 = .ok (.getfield 37, 3) := by decide +kernel
theorem dX5_shrink_48 : decode cX5_shrink 48 = .ok (.iload_n 1, 1) := by decide +kernel
theorem dX5_shrink_49 : decode cX5_shrink 49 = .ok (.dup2, 1) := by decide +kernel
theorem dX5_shrink_50 : decode cX5_shrink 50 = .ok (.iaload, 1) := by decide +kernel
theorem dX5_shrink_51 : decode cX5_shrink 51 = .ok (.iload_n 2, 1) := by decide +kernel
theorem dX5_shrink_52 : decode cX5_shrink 52 = .ok (.isub, 1) := by decide +kernel
theorem dX5_shrink_53 : decode cX5_shrink 53 = .ok (.iastore, 1) := by decide +kernel
theorem dX5_shrink_54 : decode cX5_shrink 54 = .ok (.aload_n 0, 1) := by decide +kernel
theorem dX5_shrink_55 : decode cX5_shrink 55 = .ok (.iload_n 1, 1) := by decide +kernel
theorem dX5_shrink_56 : decode cX5_shrink 56 = .ok (.iload_n 2, 1) := by decide +kernel
theorem dX5_shrink_57 : decode cX5_shrink 57 = .ok (.invokevirtual 145, 3) := by decide +kernel
theorem dX5_shrink_60 : decode cX5_shrink 60 = .ok (.ireturn, 1) := by decide +kernel
theorem dX5_pay_0 : decode cX5_pay 0 = .ok (.aload_n 0, 1) := by decide +kernel
theorem dX5_pay_1 : decode cX5_pay 1 = .ok (.iload_n 1, 1) := by decide +kernel
theorem dX5_pay_2 : decode cX5_pay 2 = .ok (.invokevirtual 137, 3) := by decide +kernel
theorem dX5_pay_5 : decode cX5_pay 5 = .ok (.ifCond .ne 11, 3) := by decide +kernel
theorem dX5_pay_8 : decode cX5_pay 8 = .ok (.aload_n 0, 1) := by decide +kernel
theorem dX5_pay_9 : decode cX5_pay 9 = .ok (.iload_n 2, 1) := by decide +kernel
theorem dX5_pay_10 : decode cX5_pay 10 = .ok (.invokevirtual 101, 3) := by decide +kernel
theorem dX5_pay_13 : decode cX5_pay 13 = .ok (.ifCond .eq 6, 3) := by decide +kernel
theorem dX5_pay_16 : decode cX5_pay 16 = .ok (.bipush (-101), 2) := by decide +kernel
theorem dX5_pay_18 : decode cX5_pay 18 = .ok (.ireturn, 1) := by decide +kernel
theorem dX5_pay_19 : decode cX5_pay 19 = .ok (.iload_n 3, 1) := by decide +kernel
theorem dX5_pay_20 : decode cX5_pay 20 = .ok (.i2l, 1) := by decide +kernel
theorem dX5_pay_21 : decode cX5_pay 21 = .ok (.lconst 1, 1) := by decide +kernel
theorem dX5_pay_22 : decode cX5_pay 22 = .ok (.ldc2_w 89, 3) := by decide +kernel
theorem dX5_pay_25 : decode cX5_pay 25 = .ok (.invokestatic 83, 3) := by decide +kernel
theorem dX5_pay_28 : decode cX5_pay 28 = .ok (.ifCond .ne 6, 3) := by decide +kernel
theorem dX5_pay_31 : decode cX5_pay 31 = .ok (.bipush (-102), 2) := by decide +kernel
theorem dX5_pay_33 : decode cX5_pay 33 = .ok (.ireturn, 1) := by decide +kernel
theorem dX5_pay_34 : decode cX5_pay 34 = .ok (.aload_n 0, 1) := by decide +kernel
theorem dX5_pay_35 : decode cX5_pay 35 = .ok (.getfield 46, 3) := by decide +kernel
theorem dX5_pay_38 : decode cX5_pay 38 = .ok (.iload_n 1, 1) := by decide +kernel
theorem dX5_pay_39 : decode cX5_pay 39 = .ok (.iaload, 1) := by decide +kernel
theorem dX5_pay_40 : decode cX5_pay 40 = .ok (.ifCond .ne 22, 3) := by decide +kernel
theorem dX5_pay_43 : decode cX5_pay 43 = .ok (.aload_n 0, 1) := by decide +kernel
theorem dX5_pay_44 : decode cX5_pay 44 = .ok (.getfield 43, 3) := by decide +kernel
theorem dX5_pay_47 : decode cX5_pay 47 = .ok (.iload_n 1, 1) := by decide +kernel
theorem dX5_pay_48 : decode cX5_pay 48 = .ok (.iaload, 1) := by decide +kernel
theorem dX5_pay_49 : decode cX5_pay 49 = .ok (.iload_n 3, 1) := by decide +kernel
theorem dX5_pay_50 : decode cX5_pay 50 = .ok (.iadd, 1) := by decide +kernel
theorem dX5_pay_51 : decode cX5_pay 51 = .ok (.aload_n 0, 1) := by decide +kernel
theorem dX5_pay_52 : decode cX5_pay 52 = .ok (.getfield 64, 3) := by decide +kernel
theorem dX5_pay_55 : decode cX5_pay 55 = .ok (.sipush 400, 3) := by decide +kernel
theorem dX5_pay_58 : decode cX5_pay 58 = .ok (.iadd, 1) := by decide +kernel
theorem dX5_pay_59 : decode cX5_pay 59 = .ok (.if_icmp .le 6, 3) := by decide +kernel
theorem dX5_pay_62 : decode cX5_pay 62 = .ok (.bipush (-103), 2) := by decide +kernel
theorem dX5_pay_64 : decode cX5_pay 64 = .ok (.ireturn, 1) := by decide +kernel
theorem dX5_pay_65 : decode cX5_pay 65 = .ok (.aload_n 0, 1) := by decide +kernel
theorem dX5_pay_66 : decode cX5_pay 66 = .ok (.aload_n 0, 1) := by decide +kernel
theorem dX5_pay_67 : decode cX5_pay 67 = .ok (.getfield 37, 3) := by decide +kernel
theorem dX5_pay_70 : decode cX5_pay 70 = .ok (.iload_n 1, 1) := by decide +kernel
theorem dX5_pay_71 : decode cX5_pay 71 = .ok (.iaload, 1) := by decide +kernel
theorem dX5_pay_72 : decode cX5_pay 72 = .ok (.invokevirtual 127, 3) := by decide +kernel
theorem dX5_pay_75 : decode cX5_pay 75 = .ok (.aload_n 0, 1) := by decide +kernel
theorem dX5_pay_76 : decode cX5_pay 76 = .ok (.invokevirtual 130, 3) := by decide +kernel
theorem dX5_pay_79 : decode cX5_pay 79 = .ok (.imul, 1) := by decide +kernel
theorem dX5_pay_80 : decode cX5_pay 80 = .ok (.iload_n 3, 1) := by decide +kernel
theorem dX5_pay_81 : decode cX5_pay 81 = .ok (.imul, 1) := by decide +kernel
theorem dX5_pay_82 : decode cX5_pay 82 = .ok (.istore 4, 2) := by decide +kernel
theorem dX5_pay_84 : decode cX5_pay 84 = .ok (.aload_n 0, 1) := by decide +kernel
theorem dX5_pay_85 : decode cX5_pay 85 = .ok (.getfield 22, 3) := by decide +kernel
theorem dX5_pay_88 : decode cX5_pay 88 = .ok (.iload_n 2, 1) := by decide +kernel
theorem dX5_pay_89 : decode cX5_pay 89 = .ok (.iaload, 1) := by decide +kernel
theorem dX5_pay_90 : decode cX5_pay 90 = .ok (.iload 4, 2) := by decide +kernel
theorem dX5_pay_92 : decode cX5_pay 92 = .ok (.if_icmp .ge 6, 3) := by decide +kernel
theorem dX5_pay_95 : decode cX5_pay 95 = .ok (.bipush (-106), 2) := by decide +kernel
theorem dX5_pay_97 : decode cX5_pay 97 = .ok (.ireturn, 1) := by decide +kernel
theorem dX5_pay_98 : decode cX5_pay 98 = .ok (.aload_n 0, 1) := by decide +kernel
theorem dX5_pay_99 : decode cX5_pay 99 = .ok (.getfield 22, 3) := by decide +kernel
theorem dX5_pay_102 : decode cX5_pay 102 = .ok (.iload_n 2, 1) := by decide +kernel
theorem dX5_pay_103 : decode cX5_pay 103 = .ok (.dup2, 1) := by decide +kernel
theorem dX5_pay_104 : decode cX5_pay 104 = .ok (.iaload, 1) := by decide +kernel
theorem dX5_pay_105 : decode cX5_pay 105 = .ok (.iload 4, 2) := by decide +kernel
theorem dX5_pay_107 : decode cX5_pay 107 = .ok (.isub, 1) := by decide +kernel
theorem dX5_pay_108 : decode cX5_pay 108 = .ok (.iastore, 1) := by decide +kernel
theorem dX5_pay_109 : decode cX5_pay 109 = .ok (.aload_n 0, 1) := by decide +kernel
theorem dX5_pay_110 : decode cX5_pay 110 = .ok (.dup, 1) := by decide +kernel
theorem dX5_pay_111 : decode cX5_pay 111 = .ok (.getfield 72, 3) := by decide +kernel
theorem dX5_pay_114 : decode cX5_pay 114 = .ok (.iload 4, 2) := by decide +kernel
theorem dX5_pay_116 : decode cX5_pay 116 = .ok (.iadd, 1) := by decide +kernel
theorem dX5_pay_117 : decode cX5_pay 117 = .ok (.putfield 72, 3) := by decide +kernel
theorem dX5_pay_120 : decode cX5_pay 120 = .ok (.aload_n 0, 1) := by decide +kernel
theorem dX5_pay_121 : decode cX5_pay 121 = .ok (.getfield 43, 3) := by decide +kernel
theorem dX5_pay_124 : decode cX5_pay 124 = .ok (.iload_n 1, 1) := by decide +kernel
theorem dX5_pay_125 : decode cX5_pay 125 = .ok (.dup2, 1) := by decide +kernel
theorem dX5_pay_126 : decode cX5_pay 126 = .ok (.iaload, 1) := by decide +kernel
theorem dX5_pay_127 : decode cX5_pay 127 = .ok (.iload_n 3, 1) := by decide +kernel
theorem dX5_pay_128 : decode cX5_pay 128 = .ok (.iadd, 1) := by decide +kernel
theorem dX5_pay_129 : decode cX5_pay 129 = .ok (.iastore, 1) := by decide +kernel
theorem dX5_pay_130 : decode cX5_pay 130 = .ok (.iload 4, 2) := by decide +kernel
theorem dX5_pay_132 : decode cX5_pay 132 = .ok (.ireturn, 1) := by decide +kernel
theorem dX5_write_0 : decode cX5_write 0 = .ok (.aload_n 0, 1) := by decide +kernel
theorem dX5_write_1 : decode cX5_write 1 = .ok (.iload_n 1, 1) := by decide +kernel
theorem dX5_write_2 : decode cX5_write 2 = .ok (.invokevirtual 137, 3) := by decide +kernel
theorem dX5_write_5 : decode cX5_write 5 = .ok (.ifCond .eq 6, 3) := by decide +kernel
theorem dX5_write_8 : decode cX5_write 8 = .ok (.bipush (-101), 2) := by decide +kernel
theorem dX5_write_10 : decode cX5_write 10 = .ok (.ireturn, 1) := by decide +kernel
theorem dX5_write_11 : decode cX5_write 11 = .ok (.iload_n 2, 1) := by decide +kernel
theorem dX5_write_12 : decode cX5_write 12 = .ok (.i2l, 1) := by decide +kernel
theorem dX5_write_13 : decode cX5_write 13 = .ok (.lconst 0, 1) := by decide +kernel
theorem dX5_write_14 : decode cX5_write 14 = .ok (.ldc2_w 95, 3) := by decide +kernel
theorem dX5_write_17 : decode cX5_write 17 = .ok (.invokestatic 83, 3) := by decide +kernel
theorem dX5_write_20 : decode cX5_write 20 = .ok (.ifCond .ne 6, 3) := by decide +kernel
theorem dX5_write_23 : decode cX5_write 23 = .ok (.bipush (-102), 2) := by decide +kernel
theorem dX5_write_25 : decode cX5_write 25 = .ok (.ireturn, 1) := by decide +kernel
theorem dX5_write_26 : decode cX5_write 26 = .ok (.aload_n 0, 1) := by decide +kernel
theorem dX5_write_27 : decode cX5_write 27 = .ok (.getfield 46, 3) := by decide +kernel
theorem dX5_write_30 : decode cX5_write 30 = .ok (.iload_n 1, 1) := by decide +kernel
theorem dX5_write_31 : decode cX5_write 31 = .ok (.iaload, 1) := by decide +kernel
theorem dX5_write_32 : decode cX5_write 32 = .ok (.ifCond .eq 6, 3) := by decide +kernel
theorem dX5_write_35 : decode cX5_write 35 = .ok (.bipush (-103), 2) := by decide +kernel
theorem dX5_write_37 : decode cX5_write 37 = .ok (.ireturn, 1) := by decide +kernel
theorem dX5_write_38 : decode cX5_write 38 = .ok (.aload_n 0, 1) := by decide +kernel
theorem dX5_write_39 : decode cX5_write 39 = .ok (.getfield 40, 3) := by decide +kernel
theorem dX5_write_42 : decode cX5_write 42 = .ok (.iconst 4, 1) := by decide +kernel
theorem dX5_write_43 : decode cX5_write 43 = .ok (.iload_n 1, 1) := by decide +kernel
theorem dX5_write_44 : decode cX5_write 44 = .ok (.imul, 1) := by decide +kernel
theorem dX5_write_45 : decode cX5_write 45 = .ok (.iload_n 2, 1) := by decide +kernel
theorem dX5_write_46 : decode cX5_write 46 = .ok (.iadd, 1) := by decide +kernel
theorem dX5_write_47 : decode cX5_write 47 = .ok (.iload_n 3, 1) := by decide +kernel
theorem dX5_write_48 : decode cX5_write 48 = .ok (.iastore, 1) := by decide +kernel
theorem dX5_write_49 : decode cX5_write 49 = .ok (.iconst 1, 1) := by decide +kernel
theorem dX5_write_50 : decode cX5_write 50 = .ok (.ireturn, 1) := by decide +kernel
theorem dX5_drop_0 : decode cX5_drop 0 = .ok (.aload_n 0, 1) := by decide +kernel
theorem dX5_drop_1 : decode cX5_drop 1 = .ok (.iload_n 1, 1) := by decide +kernel
theorem dX5_drop_2 : decode cX5_drop 2 = .ok (.invokevirtual 137, 3) := by decide +kernel
theorem dX5_drop_5 : decode cX5_drop 5 = .ok (.ifCond .eq 6, 3) := by decide +kernel
theorem dX5_drop_8 : decode cX5_drop 8 = .ok (.bipush (-101), 2) := by decide +kernel
theorem dX5_drop_10 : decode cX5_drop 10 = .ok (.ireturn, 1) := by decide +kernel
theorem dX5_drop_11 : decode cX5_drop 11 = .ok (.aload_n 0, 1) := by decide +kernel
theorem dX5_drop_12 : decode cX5_drop 12 = .ok (.getfield 46, 3) := by decide +kernel
theorem dX5_drop_15 : decode cX5_drop 15 = .ok (.iload_n 1, 1) := by decide +kernel
theorem dX5_drop_16 : decode cX5_drop 16 = .ok (.iaload, 1) := by decide +kernel
theorem dX5_drop_17 : decode cX5_drop 17 = .ok (.iconst 2, 1) := by decide +kernel
theorem dX5_drop_18 : decode cX5_drop 18 = .ok (.if_icmp .ne 6, 3) := by decide +kernel
theorem dX5_drop_21 : decode cX5_drop 21 = .ok (.bipush (-103), 2) := by decide +kernel
theorem dX5_drop_23 : decode cX5_drop 23 = .ok (.ireturn, 1) := by decide +kernel
theorem dX5_drop_24 : decode cX5_drop 24 = .ok (.aload_n 0, 1) := by decide +kernel
theorem dX5_drop_25 : decode cX5_drop 25 = .ok (.getfield 46, 3) := by decide +kernel
theorem dX5_drop_28 : decode cX5_drop 28 = .ok (.iload_n 1, 1) := by decide +kernel
theorem dX5_drop_29 : decode cX5_drop 29 = .ok (.iconst 2, 1) := by decide +kernel
theorem dX5_drop_30 : decode cX5_drop 30 = .ok (.iastore, 1) := by decide +kernel
theorem dX5_drop_31 : decode cX5_drop 31 = .ok (.aload_n 0, 1) := by decide +kernel
theorem dX5_drop_32 : decode cX5_drop 32 = .ok (.iload_n 1, 1) := by decide +kernel
theorem dX5_drop_33 : decode cX5_drop 33 = .ok (.aload_n 0, 1) := by decide +kernel
theorem dX5_drop_34 : decode cX5_drop 34 = .ok (.getfield 37, 3) := by decide +kernel
theorem dX5_drop_37 : decode cX5_drop 37 = .ok (.iload_n 1, 1) := by decide +kernel
theorem dX5_drop_38 : decode cX5_drop 38 = .ok (.iaload, 1) := by decide +kernel
theorem dX5_drop_39 : decode cX5_drop 39 = .ok (.invokevirtual 145, 3) := by decide +kernel
theorem dX5_drop_42 : decode cX5_drop 42 = .ok (.ireturn, 1) := by decide +kernel
theorem dX5_digestOf_0 : decode cX5_digestOf 0 = .ok (.aload_n 0, 1) := by decide +kernel
theorem dX5_digestOf_1 : decode cX5_digestOf 1 = .ok (.getfield 37, 3) := by decide +kernel
theorem dX5_digestOf_4 : decode cX5_digestOf 4 = .ok (.iload_n 1, 1) := by decide +kernel
theorem dX5_digestOf_5 : decode cX5_digestOf 5 = .ok (.iaload, 1) := by decide +kernel
theorem dX5_digestOf_6 : decode cX5_digestOf 6 = .ok (.istore_n 2, 1) := by decide +kernel
theorem dX5_digestOf_7 : decode cX5_digestOf 7 = .ok (.iconst 0, 1) := by decide +kernel
theorem dX5_digestOf_8 : decode cX5_digestOf 8 = .ok (.istore_n 3, 1) := by decide +kernel
theorem dX5_digestOf_9 : decode cX5_digestOf 9 = .ok (.iload_n 3, 1) := by decide +kernel
theorem dX5_digestOf_10 : decode cX5_digestOf 10 = .ok (.iconst 4, 1) := by decide +kernel
theorem dX5_digestOf_11 : decode cX5_digestOf 11 = .ok (.if_icmp .ge 25, 3) := by decide +kernel
theorem dX5_digestOf_14 : decode cX5_digestOf 14 = .ok (.bipush 31, 2) := by decide +kernel
theorem dX5_digestOf_16 : decode cX5_digestOf 16 = .ok (.iload_n 2, 1) := by decide +kernel
theorem dX5_digestOf_17 : decode cX5_digestOf 17 = .ok (.imul, 1) := by decide +kernel
theorem dX5_digestOf_18 : decode cX5_digestOf 18 = .ok (.aload_n 0, 1) := by decide +kernel
theorem dX5_digestOf_19 : decode cX5_digestOf 19 = .ok (.getfield 40, 3) := by decide +kernel
theorem dX5_digestOf_22 : decode cX5_digestOf 22 = .ok (.iconst 4, 1) := by decide +kernel
theorem dX5_digestOf_23 : decode cX5_digestOf 23 = .ok (.iload_n 1, 1) := by decide +kernel
theorem dX5_digestOf_24 : decode cX5_digestOf 24 = .ok (.imul, 1) := by decide +kernel
theorem dX5_digestOf_25 : decode cX5_digestOf 25 = .ok (.iload_n 3, 1) := by decide +kernel
theorem dX5_digestOf_26 : decode cX5_digestOf 26 = .ok (.iadd, 1) := by decide +kernel
theorem dX5_digestOf_27 : decode cX5_digestOf 27 = .ok (.iaload, 1) := by decide +kernel
theorem dX5_digestOf_28 : decode cX5_digestOf 28 = .ok (.iadd, 1) := by decide +kernel
theorem dX5_digestOf_29 : decode cX5_digestOf 29 = .ok (.istore_n 2, 1) := by decide +kernel
theorem dX5_digestOf_30 : decode cX5_digestOf 30 = .ok (.iinc 3 1, 3) := by decide +kernel
theorem dX5_digestOf_33 : decode cX5_digestOf 33 = .ok (.goto (-24), 3) := by decide +kernel
theorem dX5_digestOf_36 : decode cX5_digestOf 36 = .ok (.iload_n 2, 1) := by decide +kernel
theorem dX5_digestOf_37 : decode cX5_digestOf 37 = .ok (.iload_n 2, 1) := by decide +kernel
theorem dX5_digestOf_38 : decode cX5_digestOf 38 = .ok (.bipush 13, 2) := by decide +kernel
theorem dX5_digestOf_40 : decode cX5_digestOf 40 = .ok (.iushr, 1) := by decide +kernel
theorem dX5_digestOf_41 : decode cX5_digestOf 41 = .ok (.ixor, 1) := by decide +kernel
theorem dX5_digestOf_42 : decode cX5_digestOf 42 = .ok (.ireturn, 1) := by decide +kernel
theorem dX5_back_0 : decode cX5_back 0 = .ok (.aload_n 0, 1) := by decide +kernel
theorem dX5_back_1 : decode cX5_back 1 = .ok (.iload_n 1, 1) := by decide +kernel
theorem dX5_back_2 : decode cX5_back 2 = .ok (.invokevirtual 137, 3) := by decide +kernel
theorem dX5_back_5 : decode cX5_back 5 = .ok (.ifCond .ne 11, 3) := by decide +kernel
theorem dX5_back_8 : decode cX5_back 8 = .ok (.aload_n 0, 1) := by decide +kernel
theorem dX5_back_9 : decode cX5_back 9 = .ok (.iload_n 2, 1) := by decide +kernel
theorem dX5_back_10 : decode cX5_back 10 = .ok (.invokevirtual 101, 3) := by decide +kernel
theorem dX5_back_13 : decode cX5_back 13 = .ok (.ifCond .eq 6, 3) := by decide +kernel
theorem dX5_back_16 : decode cX5_back 16 = .ok (.bipush (-101), 2) := by decide +kernel
theorem dX5_back_18 : decode cX5_back 18 = .ok (.ireturn, 1) := by decide +kernel
theorem dX5_back_19 : decode cX5_back 19 = .ok (.iload 4, 2) := by decide +kernel
theorem dX5_back_21 : decode cX5_back 21 = .ok (.i2l, 1) := by decide +kernel
theorem dX5_back_22 : decode cX5_back 22 = .ok (.lconst 1, 1) := by decide +kernel
theorem dX5_back_23 : decode cX5_back 23 = .ok (.ldc2_w 89, 3) := by decide +kernel
theorem dX5_back_26 : decode cX5_back 26 = .ok (.invokestatic 83, 3) := by decide +kernel
theorem dX5_back_29 : decode cX5_back 29 = .ok (.ifCond .ne 6, 3) := by decide +kernel
theorem dX5_back_32 : decode cX5_back 32 = .ok (.bipush (-102), 2) := by decide +kernel
theorem dX5_back_34 : decode cX5_back 34 = .ok (.ireturn, 1) := by decide +kernel
theorem dX5_back_35 : decode cX5_back 35 = .ok (.aload_n 0, 1) := by decide +kernel
theorem dX5_back_36 : decode cX5_back 36 = .ok (.getfield 46, 3) := by decide +kernel
theorem dX5_back_39 : decode cX5_back 39 = .ok (.iload_n 1, 1) := by decide +kernel
theorem dX5_back_40 : decode cX5_back 40 = .ok (.iaload, 1) := by decide +kernel
theorem dX5_back_41 : decode cX5_back 41 = .ok (.iconst 1, 1) := by decide +kernel
theorem dX5_back_42 : decode cX5_back 42 = .ok (.if_icmp .eq 6, 3) := by decide +kernel
theorem dX5_back_45 : decode cX5_back 45 = .ok (.bipush (-103), 2) := by decide +kernel
theorem dX5_back_47 : decode cX5_back 47 = .ok (.ireturn, 1) := by decide +kernel
theorem dX5_back_48 : decode cX5_back 48 = .ok (.iload_n 3, 1) := by decide +kernel
theorem dX5_back_49 : decode cX5_back 49 = .ok (.aload_n 0, 1) := by decide +kernel
theorem dX5_back_50 : decode cX5_back 50 = .ok (.iload_n 1, 1) := by decide +kernel
theorem dX5_back_51 : decode cX5_back 51 = .ok (.invokevirtual 149, 3) := by decide +kernel
theorem dX5_back_54 : decode cX5_back 54 = .ok (.if_icmp .eq 6, 3) := by decide +kernel
theorem dX5_back_57 : decode cX5_back 57 = .ok (.bipush (-104), 2) := by decide +kernel
theorem dX5_back_59 : decode cX5_back 59 = .ok (.ireturn, 1) := by decide +kernel
theorem dX5_back_60 : decode cX5_back 60 = .ok (.aload_n 0, 1) := by decide +kernel
theorem dX5_back_61 : decode cX5_back 61 = .ok (.aload_n 0, 1) := by decide +kernel
theorem dX5_back_62 : decode cX5_back 62 = .ok (.getfield 34, 3) := by decide +kernel
theorem dX5_back_65 : decode cX5_back 65 = .ok (.iload_n 1, 1) := by decide +kernel
theorem dX5_back_66 : decode cX5_back 66 = .ok (.iaload, 1) := by decide +kernel
theorem dX5_back_67 : decode cX5_back 67 = .ok (.aload_n 0, 1) := by decide +kernel
theorem dX5_back_68 : decode cX5_back 68 = .ok (.getfield 37, 3) := by decide +kernel
theorem dX5_back_71 : decode cX5_back 71 = .ok (.iload_n 1, 1) := by decide +kernel
theorem dX5_back_72 : decode cX5_back 72 = .ok (.iaload, 1) := by decide +kernel
theorem dX5_back_73 : decode cX5_back 73 = .ok (.invokevirtual 124, 3) := by decide +kernel
theorem dX5_back_76 : decode cX5_back 76 = .ok (.ifCond .eq 6, 3) := by decide +kernel
theorem dX5_back_79 : decode cX5_back 79 = .ok (.bipush (-105), 2) := by decide +kernel
theorem dX5_back_81 : decode cX5_back 81 = .ok (.ireturn, 1) := by decide +kernel
theorem dX5_back_82 : decode cX5_back 82 = .ok (.aload_n 0, 1) := by decide +kernel
theorem dX5_back_83 : decode cX5_back 83 = .ok (.aload_n 0, 1) := by decide +kernel
theorem dX5_back_84 : decode cX5_back 84 = .ok (.getfield 37, 3) := by decide +kernel
theorem dX5_back_87 : decode cX5_back 87 = .ok (.iload_n 1, 1) := by decide +kernel
theorem dX5_back_88 : decode cX5_back 88 = .ok (.iaload, 1) := by decide +kernel
theorem dX5_back_89 : decode cX5_back 89 = .ok (.invokevirtual 127, 3) := by decide +kernel
theorem dX5_back_92 : decode cX5_back 92 = .ok (.i2l, 1) := by decide +kernel
theorem dX5_back_93 : decode cX5_back 93 = .ok (.aload_n 0, 1) := by decide +kernel
theorem dX5_back_94 : decode cX5_back 94 = .ok (.invokevirtual 130, 3) := by decide +kernel
theorem dX5_back_97 : decode cX5_back 97 = .ok (.i2l, 1) := by decide +kernel
theorem dX5_back_98 : decode cX5_back 98 = .ok (.lmul, 1) := by decide +kernel
theorem dX5_back_99 : decode cX5_back 99 = .ok (.iload 4, 2) := by decide +kernel
theorem dX5_back_101 : decode cX5_back 101 = .ok (.aload_n 0, 1) := by decide +kernel
theorem dX5_back_102 : decode cX5_back 102 = .ok (.getfield 64, 3) := by decide +kernel
theorem dX5_back_105 : decode cX5_back 105 = .ok (.iadd, 1) := by decide +kernel
theorem dX5_back_106 : decode cX5_back 106 = .ok (.aload_n 0, 1) := by decide +kernel
theorem dX5_back_107 : decode cX5_back 107 = .ok (.getfield 43, 3) := by decide +kernel
theorem dX5_back_110 : decode cX5_back 110 = .ok (.iload_n 1, 1) := by decide +kernel
theorem dX5_back_111 : decode cX5_back 111 = .ok (.iaload, 1) := by decide +kernel
theorem dX5_back_112 : decode cX5_back 112 = .ok (.isub, 1) := by decide +kernel
theorem dX5_back_113 : decode cX5_back 113 = .ok (.i2l, 1) := by decide +kernel
theorem dX5_back_114 : decode cX5_back 114 = .ok (.lmul, 1) := by decide +kernel
theorem dX5_back_115 : decode cX5_back 115 = .ok (.lstore 5, 2) := by decide +kernel
theorem dX5_back_117 : decode cX5_back 117 = .ok (.aload_n 0, 1) := by decide +kernel
theorem dX5_back_118 : decode cX5_back 118 = .ok (.getfield 22, 3) := by decide +kernel
theorem dX5_back_121 : decode cX5_back 121 = .ok (.iload_n 2, 1) := by decide +kernel
theorem dX5_back_122 : decode cX5_back 122 = .ok (.iaload, 1) := by decide +kernel
theorem dX5_back_123 : decode cX5_back 123 = .ok (.i2l, 1) := by decide +kernel
theorem dX5_back_124 : decode cX5_back 124 = .ok (.lload 5, 2) := by decide +kernel
theorem dX5_back_126 : decode cX5_back 126 = .ok (.lcmp, 1) := by decide +kernel
theorem dX5_back_127 : decode cX5_back 127 = .ok (.ifCond .ge 6, 3) := by decide +kernel
theorem dX5_back_130 : decode cX5_back 130 = .ok (.bipush (-106), 2) := by decide +kernel
theorem dX5_back_132 : decode cX5_back 132 = .ok (.ireturn, 1) := by decide +kernel
theorem dX5_back_133 : decode cX5_back 133 = .ok (.aload_n 0, 1) := by decide +kernel
theorem dX5_back_134 : decode cX5_back 134 = .ok (.getfield 22, 3) := by decide +kernel
theorem dX5_back_137 : decode cX5_back 137 = .ok (.iload_n 2, 1) := by decide +kernel
theorem dX5_back_138 : decode cX5_back 138 = .ok (.dup2, 1) := by decide +kernel
theorem dX5_back_139 : decode cX5_back 139 = .ok (.iaload, 1) := by decide +kernel
theorem dX5_back_140 : decode cX5_back 140 = .ok (.lload 5, 2) := by decide +kernel
theorem dX5_back_142 : decode cX5_back 142 = .ok (.l2i, 1) := by decide +kernel
theorem dX5_back_143 : decode cX5_back 143 = .ok (.isub, 1) := by decide +kernel
theorem dX5_back_144 : decode cX5_back 144 = .ok (.iastore, 1) := by decide +kernel
theorem dX5_back_145 : decode cX5_back 145 = .ok (.aload_n 0, 1) := by decide +kernel
theorem dX5_back_146 : decode cX5_back 146 = .ok (.dup, 1) := by decide +kernel
theorem dX5_back_147 : decode cX5_back 147 = .ok (.getfield 72, 3) := by decide +kernel
theorem dX5_back_150 : decode cX5_back 150 = .ok (.lload 5, 2) := by decide +kernel
theorem dX5_back_152 : decode cX5_back 152 = .ok (.l2i, 1) := by decide +kernel
theorem dX5_back_153 : decode cX5_back 153 = .ok (.iadd, 1) := by decide +kernel
theorem dX5_back_154 : decode cX5_back 154 = .ok (.putfield 72, 3) := by decide +kernel
theorem dX5_back_157 : decode cX5_back 157 = .ok (.aload_n 0, 1) := by decide +kernel
theorem dX5_back_158 : decode cX5_back 158 = .ok (.getfield 43, 3) := by decide +kernel
theorem dX5_back_161 : decode cX5_back 161 = .ok (.iload_n 1, 1) := by decide +kernel
theorem dX5_back_162 : decode cX5_back 162 = .ok (.aload_n 0, 1) := by decide +kernel
theorem dX5_back_163 : decode cX5_back 163 = .ok (.getfield 64, 3) := by decide +kernel
theorem dX5_back_166 : decode cX5_back 166 = .ok (.iload 4, 2) := by decide +kernel
theorem dX5_back_168 : decode cX5_back 168 = .ok (.iadd, 1) := by decide +kernel
theorem dX5_back_169 : decode cX5_back 169 = .ok (.iastore, 1) := by decide +kernel
theorem dX5_back_170 : decode cX5_back 170 = .ok (.aload_n 0, 1) := by decide +kernel
theorem dX5_back_171 : decode cX5_back 171 = .ok (.getfield 46, 3) := by decide +kernel
theorem dX5_back_174 : decode cX5_back 174 = .ok (.iload_n 1, 1) := by decide +kernel
theorem dX5_back_175 : decode cX5_back 175 = .ok (.iconst 0, 1) := by decide +kernel
theorem dX5_back_176 : decode cX5_back 176 = .ok (.iastore, 1) := by decide +kernel
theorem dX5_back_177 : decode cX5_back 177 = .ok (.lload 5, 2) := by decide +kernel
theorem dX5_back_179 : decode cX5_back 179 = .ok (.l2i, 1) := by decide +kernel
theorem dX5_back_180 : decode cX5_back 180 = .ok (.ireturn, 1) := by decide +kernel
theorem dX5_digest_0 : decode cX5_digest 0 = .ok (.aload_n 0, 1) := by decide +kernel
theorem dX5_digest_1 : decode cX5_digest 1 = .ok (.iload_n 1, 1) := by decide +kernel
theorem dX5_digest_2 : decode cX5_digest 2 = .ok (.invokevirtual 137, 3) := by decide +kernel
theorem dX5_digest_5 : decode cX5_digest 5 = .ok (.ifCond .eq 8, 3) := by decide +kernel
theorem dX5_digest_8 : decode cX5_digest 8 = .ok (.bipush (-109), 2) := by decide +kernel
theorem dX5_digest_10 : decode cX5_digest 10 = .ok (.goto 8, 3) := by decide +kernel
theorem dX5_digest_13 : decode cX5_digest 13 = .ok (.aload_n 0, 1) := by decide +kernel
theorem dX5_digest_14 : decode cX5_digest 14 = .ok (.iload_n 1, 1) := by decide +kernel
theorem dX5_digest_15 : decode cX5_digest 15 = .ok (.invokevirtual 149, 3) := by decide +kernel
theorem dX5_digest_18 : decode cX5_digest 18 = .ok (.ireturn, 1) := by decide +kernel
theorem dX5_allWeights_0 : decode cX5_allWeights 0 = .ok (.iconst 0, 1) := by decide +kernel
theorem dX5_allWeights_1 : decode cX5_allWeights 1 = .ok (.istore_n 1, 1) := by decide +kernel
theorem dX5_allWeights_2 : decode cX5_allWeights 2 = .ok (.iconst 0, 1) := by decide +kernel
theorem dX5_allWeights_3 : decode cX5_allWeights 3 = .ok (.istore_n 2, 1) := by decide +kernel
theorem dX5_allWeights_4 : decode cX5_allWeights 4 = .ok (.iload_n 2, 1) := by decide +kernel
theorem dX5_allWeights_5 : decode cX5_allWeights 5 = .ok (.iconst 5, 1) := by decide +kernel
theorem dX5_allWeights_6 : decode cX5_allWeights 6 = .ok (.if_icmp .ge 18, 3) := by decide +kernel
theorem dX5_allWeights_9 : decode cX5_allWeights 9 = .ok (.iload_n 1, 1) := by decide +kernel
theorem dX5_allWeights_10 : decode cX5_allWeights 10 = .ok (.aload_n 0, 1) := by decide +kernel
theorem dX5_allWeights_11 : decode cX5_allWeights 11 = .ok (.getfield 31, 3) := by decide +kernel
theorem dX5_allWeights_14 : decode cX5_allWeights 14 = .ok (.iload_n 2, 1) := by decide +kernel
theorem dX5_allWeights_15 : decode cX5_allWeights 15 = .ok (.iaload, 1) := by decide +kernel
theorem dX5_allWeights_16 : decode cX5_allWeights 16 = .ok (.iadd, 1) := by decide +kernel
theorem dX5_allWeights_17 : decode cX5_allWeights 17 = .ok (.istore_n 1, 1) := by decide +kernel
theorem dX5_allWeights_18 : decode cX5_allWeights 18 = .ok (.iinc 2 1, 3) := by decide +kernel
theorem dX5_allWeights_21 : decode cX5_allWeights 21 = .ok (.goto (-17), 3) := by decide +kernel
theorem dX5_allWeights_24 : decode cX5_allWeights 24 = .ok (.iload_n 1, 1) := by decide +kernel
theorem dX5_allWeights_25 : decode cX5_allWeights 25 = .ok (.ireturn, 1) := by decide +kernel
theorem dX5_rank_0 : decode cX5_rank 0 = .ok (.iconst 0, 1) := by decide +kernel
theorem dX5_rank_1 : decode cX5_rank 1 = .ok (.istore_n 2, 1) := by decide +kernel
theorem dX5_rank_2 : decode cX5_rank 2 = .ok (.iconst 0, 1) := by decide +kernel
theorem dX5_rank_3 : decode cX5_rank 3 = .ok (.istore_n 3, 1) := by decide +kernel
theorem dX5_rank_4 : decode cX5_rank 4 = .ok (.iload_n 3, 1) := by decide +kernel
theorem dX5_rank_5 : decode cX5_rank 5 = .ok (.iconst 5, 1) := by decide +kernel
theorem dX5_rank_6 : decode cX5_rank 6 = .ok (.if_icmp .ge 52, 3) := by decide +kernel
theorem dX5_rank_9 : decode cX5_rank 9 = .ok (.iload_n 2, 1) := by decide +kernel
theorem dX5_rank_10 : decode cX5_rank 10 = .ok (.aload_n 0, 1) := by decide +kernel
theorem dX5_rank_11 : decode cX5_rank 11 = .ok (.getfield 31, 3) := by decide +kernel
theorem dX5_rank_14 : decode cX5_rank 14 = .ok (.iload_n 3, 1) := by decide +kernel
theorem dX5_rank_15 : decode cX5_rank 15 = .ok (.iaload, 1) := by decide +kernel
theorem dX5_rank_16 : decode cX5_rank 16 = .ok (.aload_n 0, 1) := by decide +kernel
theorem dX5_rank_17 : decode cX5_rank 17 = .ok (.getfield 31, 3) := by decide +kernel
theorem dX5_rank_20 : decode cX5_rank 20 = .ok (.iload_n 1, 1) := by decide +kernel
theorem dX5_rank_21 : decode cX5_rank 21 = .ok (.iaload, 1) := by decide +kernel
theorem dX5_rank_22 : decode cX5_rank 22 = .ok (.if_icmp .gt 23, 3) := by decide +kernel
theorem dX5_rank_25 : decode cX5_rank 25 = .ok (.aload_n 0, 1) := by decide +kernel
theorem dX5_rank_26 : decode cX5_rank 26 = .ok (.getfield 31, 3) := by decide +kernel
theorem dX5_rank_29 : decode cX5_rank 29 = .ok (.iload_n 3, 1) := by decide +kernel
theorem dX5_rank_30 : decode cX5_rank 30 = .ok (.iaload, 1) := by decide +kernel
theorem dX5_rank_31 : decode cX5_rank 31 = .ok (.aload_n 0, 1) := by decide +kernel
theorem dX5_rank_32 : decode cX5_rank 32 = .ok (.getfield 31, 3) := by decide +kernel
theorem dX5_rank_35 : decode cX5_rank 35 = .ok (.iload_n 1, 1) := by decide +kernel
theorem dX5_rank_36 : decode cX5_rank 36 = .ok (.iaload, 1) := by decide +kernel
theorem dX5_rank_37 : decode cX5_rank 37 = .ok (.if_icmp .ne 12, 3) := by decide +kernel
theorem dX5_rank_40 : decode cX5_rank 40 = .ok (.iload_n 3, 1) := by decide +kernel
theorem dX5_rank_41 : decode cX5_rank 41 = .ok (.iload_n 1, 1) := by decide +kernel
theorem dX5_rank_42 : decode cX5_rank 42 = .ok (.if_icmp .ge 7, 3) := by decide +kernel
theorem dX5_rank_45 : decode cX5_rank 45 = .ok (.iconst 1, 1) := by decide +kernel
theorem dX5_rank_46 : decode cX5_rank 46 = .ok (.goto 4, 3) := by decide +kernel
theorem dX5_rank_49 : decode cX5_rank 49 = .ok (.iconst 0, 1) := by decide +kernel
theorem dX5_rank_50 : decode cX5_rank 50 = .ok (.iadd, 1) := by decide +kernel
theorem dX5_rank_51 : decode cX5_rank 51 = .ok (.istore_n 2, 1) := by decide +kernel
theorem dX5_rank_52 : decode cX5_rank 52 = .ok (.iinc 3 1, 3) := by decide +kernel
theorem dX5_rank_55 : decode cX5_rank 55 = .ok (.goto (-51), 3) := by decide +kernel
theorem dX5_rank_58 : decode cX5_rank 58 = .ok (.iload_n 2, 1) := by decide +kernel
theorem dX5_rank_59 : decode cX5_rank 59 = .ok (.ireturn, 1) := by decide +kernel
theorem dX5_share_0 : decode cX5_share 0 = .ok (.aload_n 0, 1) := by decide +kernel
theorem dX5_share_1 : decode cX5_share 1 = .ok (.invokevirtual 152, 3) := by decide +kernel
theorem dX5_share_4 : decode cX5_share 4 = .ok (.istore_n 1, 1) := by decide +kernel
theorem dX5_share_5 : decode cX5_share 5 = .ok (.iload_n 1, 1) := by decide +kernel
theorem dX5_share_6 : decode cX5_share 6 = .ok (.ifCond .ne 4, 3) := by decide +kernel
theorem dX5_share_9 : decode cX5_share 9 = .ok (.return_, 1) := by decide +kernel
theorem dX5_share_10 : decode cX5_share 10 = .ok (.aload_n 0, 1) := by decide +kernel
theorem dX5_share_11 : decode cX5_share 11 = .ok (.getfield 72, 3) := by decide +kernel
theorem dX5_share_14 : decode cX5_share 14 = .ok (.istore_n 2, 1) := by decide +kernel
theorem dX5_share_15 : decode cX5_share 15 = .ok (.iconst 0, 1) := by decide +kernel
theorem dX5_share_16 : decode cX5_share 16 = .ok (.istore_n 3, 1) := by decide +kernel
theorem dX5_share_17 : decode cX5_share 17 = .ok (.iconst 0, 1) := by decide +kernel
theorem dX5_share_18 : decode cX5_share 18 = .ok (.istore 4, 2) := by decide +kernel
theorem dX5_share_20 : decode cX5_share 20 = .ok (.iload 4, 2) := by decide +kernel
theorem dX5_share_22 : decode cX5_share 22 = .ok (.iconst 5, 1) := by decide +kernel
theorem dX5_share_23 : decode cX5_share 23 = .ok (.if_icmp .ge 64, 3) := by decide +kernel
theorem dX5_share_26 : decode cX5_share 26 = .ok (.aload_n 0, 1) := by decide +kernel
theorem dX5_share_27 : decode cX5_share 27 = .ok (.getfield 72, 3) := by decide +kernel
theorem dX5_share_30 : decode cX5_share 30 = .ok (.i2l, 1) := by decide +kernel
theorem dX5_share_31 : decode cX5_share 31 = .ok (.aload_n 0, 1) := by decide +kernel
theorem dX5_share_32 : decode cX5_share 32 = .ok (.getfield 31, 3) := by decide +kernel
theorem dX5_share_35 : decode cX5_share 35 = .ok (.iload 4, 2) := by decide +kernel
theorem dX5_share_37 : decode cX5_share 37 = .ok (.iaload, 1) := by decide +kernel
theorem dX5_share_38 : decode cX5_share 38 = .ok (.i2l, 1) := by decide +kernel
theorem dX5_share_39 : decode cX5_share 39 = .ok (.lmul, 1) := by decide +kernel
theorem dX5_share_40 : decode cX5_share 40 = .ok (.iload_n 1, 1) := by decide +kernel
theorem dX5_share_41 : decode cX5_share 41 = .ok (.i2l, 1) := by decide +kernel
theorem dX5_share_42 : decode cX5_share 42 = .ok (.ldiv, 1) := by decide +kernel
theorem dX5_share_43 : decode cX5_share 43 = .ok (.l2i, 1) := by decide +kernel
theorem dX5_share_44 : decode cX5_share 44 = .ok (.istore 5, 2) := by decide +kernel
theorem dX5_share_46 : decode cX5_share 46 = .ok (.aload_n 0, 1) := by decide +kernel
theorem dX5_share_47 : decode cX5_share 47 = .ok (.getfield 28, 3) := by decide +kernel
theorem dX5_share_50 : decode cX5_share 50 = .ok (.iload 4, 2) := by decide +kernel
theorem dX5_share_52 : decode cX5_share 52 = .ok (.dup2, 1) := by decide +kernel
theorem dX5_share_53 : decode cX5_share 53 = .ok (.iaload, 1) := by decide +kernel
theorem dX5_share_54 : decode cX5_share 54 = .ok (.iload 5, 2) := by decide +kernel
theorem dX5_share_56 : decode cX5_share 56 = .ok (.iadd, 1) := by decide +kernel
theorem dX5_share_57 : decode cX5_share 57 = .ok (.iastore, 1) := by decide +kernel
theorem dX5_share_58 : decode cX5_share 58 = .ok (.iload_n 2, 1) := by decide +kernel
theorem dX5_share_59 : decode cX5_share 59 = .ok (.iload 5, 2) := by decide +kernel
theorem dX5_share_61 : decode cX5_share 61 = .ok (.isub, 1) := by decide +kernel
theorem dX5_share_62 : decode cX5_share 62 = .ok (.istore_n 2, 1) := by decide +kernel
theorem dX5_share_63 : decode cX5_share 63 = .ok (.iload_n 3, 1) := by decide +kernel
theorem dX5_share_64 : decode cX5_share 64 = .ok (.aload_n 0, 1) := by decide +kernel
theorem dX5_share_65 : decode cX5_share 65 = .ok (.getfield 31, 3) := by decide +kernel
theorem dX5_share_68 : decode cX5_share 68 = .ok (.iload 4, 2) := by decide +kernel
theorem dX5_share_70 : decode cX5_share 70 = .ok (.iaload, 1) := by decide +kernel
theorem dX5_share_71 : decode cX5_share 71 = .ok (.ifCond .le 7, 3) := by decide +kernel
theorem dX5_share_74 : decode cX5_share 74 = .ok (.iconst 1, 1) := by decide +kernel
theorem dX5_share_75 : decode cX5_share 75 = .ok (.goto 4, 3) := by decide +kernel
theorem dX5_share_78 : decode cX5_share 78 = .ok (.iconst 0, 1) := by decide +kernel
theorem dX5_share_79 : decode cX5_share 79 = .ok (.iadd, 1) := by decide +kernel
theorem dX5_share_80 : decode cX5_share 80 = .ok (.istore_n 3, 1) := by decide +kernel
theorem dX5_share_81 : decode cX5_share 81 = .ok (.iinc 4 1, 3) := by decide +kernel
theorem dX5_share_84 : decode cX5_share 84 = .ok (.goto (-64), 3) := by decide +kernel
theorem dX5_share_87 : decode cX5_share 87 = .ok (.iconst 0, 1) := by decide +kernel
theorem dX5_share_88 : decode cX5_share 88 = .ok (.istore 4, 2) := by decide +kernel
theorem dX5_share_90 : decode cX5_share 90 = .ok (.iload 4, 2) := by decide +kernel
theorem dX5_share_92 : decode cX5_share 92 = .ok (.iconst 5, 1) := by decide +kernel
theorem dX5_share_93 : decode cX5_share 93 = .ok (.if_icmp .ge 57, 3) := by decide +kernel
theorem dX5_share_96 : decode cX5_share 96 = .ok (.aload_n 0, 1) := by decide +kernel
theorem dX5_share_97 : decode cX5_share 97 = .ok (.iload 4, 2) := by decide +kernel
theorem dX5_share_99 : decode cX5_share 99 = .ok (.invokevirtual 155, 3) := by decide +kernel
theorem dX5_share_102 : decode cX5_share 102 = .ok (.istore 5, 2) := by decide +kernel
theorem dX5_share_104 : decode cX5_share 104 = .ok (.aload_n 0, 1) := by decide +kernel
theorem dX5_share_105 : decode cX5_share 105 = .ok (.getfield 28, 3) := by decide +kernel
theorem dX5_share_108 : decode cX5_share 108 = .ok (.iload 4, 2) := by decide +kernel
theorem dX5_share_110 : decode cX5_share 110 = .ok (.dup2, 1) := by decide +kernel
theorem dX5_share_111 : decode cX5_share 111 = .ok (.iaload, 1) := by decide +kernel
theorem dX5_share_112 : decode cX5_share 112 = .ok (.aload_n 0, 1) := by decide +kernel
theorem dX5_share_113 : decode cX5_share 113 = .ok (.getfield 31, 3) := by decide +kernel
theorem dX5_share_116 : decode cX5_share 116 = .ok (.iload 4, 2) := by decide +kernel
theorem dX5_share_118 : decode cX5_share 118 = .ok (.iaload, 1) := by decide +kernel
theorem dX5_share_119 : decode cX5_share 119 = .ok (.ifCond .le 22, 3) := by decide +kernel
theorem dX5_share_122 : decode cX5_share 122 = .ok (.iload_n 2, 1) := by decide +kernel
theorem dX5_share_123 : decode cX5_share 123 = .ok (.iload 5, 2) := by decide +kernel
theorem dX5_share_125 : decode cX5_share 125 = .ok (.if_icmp .le 16, 3) := by decide +kernel
theorem dX5_share_128 : decode cX5_share 128 = .ok (.iload_n 2, 1) := by decide +kernel
theorem dX5_share_129 : decode cX5_share 129 = .ok (.iload 5, 2) := by decide +kernel
theorem dX5_share_131 : decode cX5_share 131 = .ok (.isub, 1) := by decide +kernel
theorem dX5_share_132 : decode cX5_share 132 = .ok (.iconst 1, 1) := by decide +kernel
theorem dX5_share_133 : decode cX5_share 133 = .ok (.isub, 1) := by decide +kernel
theorem dX5_share_134 : decode cX5_share 134 = .ok (.iload_n 3, 1) := by decide +kernel
theorem dX5_share_135 : decode cX5_share 135 = .ok (.idiv, 1) := by decide +kernel
theorem dX5_share_136 : decode cX5_share 136 = .ok (.iconst 1, 1) := by decide +kernel
theorem dX5_share_137 : decode cX5_share 137 = .ok (.iadd, 1) := by decide +kernel
theorem dX5_share_138 : decode cX5_share 138 = .ok (.goto 4, 3) := by decide +kernel
theorem dX5_share_141 : decode cX5_share 141 = .ok (.iconst 0, 1) := by decide +kernel
theorem dX5_share_142 : decode cX5_share 142 = .ok (.iadd, 1) := by decide +kernel
theorem dX5_share_143 : decode cX5_share 143 = .ok (.iastore, 1) := by decide +kernel
theorem dX5_share_144 : decode cX5_share 144 = .ok (.iinc 4 1, 3) := by decide +kernel
theorem dX5_share_147 : decode cX5_share 147 = .ok (.goto (-57), 3) := by decide +kernel
theorem dX5_share_150 : decode cX5_share 150 = .ok (.aload_n 0, 1) := by decide +kernel
theorem dX5_share_151 : decode cX5_share 151 = .ok (.dup, 1) := by decide +kernel
theorem dX5_share_152 : decode cX5_share 152 = .ok (.getfield 75, 3) := by decide +kernel
theorem dX5_share_155 : decode cX5_share 155 = .ok (.aload_n 0, 1) := by decide +kernel
theorem dX5_share_156 : decode cX5_share 156 = .ok (.getfield 72, 3) := by decide +kernel
theorem dX5_share_159 : decode cX5_share 159 = .ok (.iadd, 1) := by decide +kernel
theorem dX5_share_160 : decode cX5_share 160 = .ok (.putfield 75, 3) := by decide +kernel
theorem dX5_share_163 : decode cX5_share 163 = .ok (.aload_n 0, 1) := by decide +kernel
theorem dX5_share_164 : decode cX5_share 164 = .ok (.iconst 0, 1) := by decide +kernel
theorem dX5_share_165 : decode cX5_share 165 = .ok (.putfield 72, 3) := by decide +kernel
theorem dX5_share_168 : decode cX5_share 168 = .ok (.return_, 1) := by decide +kernel
theorem dX5_tick_0 : decode cX5_tick 0 = .ok (.iload_n 1, 1) := by decide +kernel
theorem dX5_tick_1 : decode cX5_tick 1 = .ok (.i2l, 1) := by decide +kernel
theorem dX5_tick_2 : decode cX5_tick 2 = .ok (.lconst 1, 1) := by decide +kernel
theorem dX5_tick_3 : decode cX5_tick 3 = .ok (.ldc2_w 89, 3) := by decide +kernel
theorem dX5_tick_6 : decode cX5_tick 6 = .ok (.invokestatic 83, 3) := by decide +kernel
theorem dX5_tick_9 : decode cX5_tick 9 = .ok (.ifCond .eq 14, 3) := by decide +kernel
theorem dX5_tick_12 : decode cX5_tick 12 = .ok (.aload_n 0, 1) := by decide +kernel
theorem dX5_tick_13 : decode cX5_tick 13 = .ok (.getfield 64, 3) := by decide +kernel
theorem dX5_tick_16 : decode cX5_tick 16 = .ok (.iload_n 1, 1) := by decide +kernel
theorem dX5_tick_17 : decode cX5_tick 17 = .ok (.iadd, 1) := by decide +kernel
theorem dX5_tick_18 : decode cX5_tick 18 = .ok (.ldc 71, 2) := by decide +kernel
theorem dX5_tick_20 : decode cX5_tick 20 = .ok (.if_icmp .le 6, 3) := by decide +kernel
theorem dX5_tick_23 : decode cX5_tick 23 = .ok (.bipush (-102), 2) := by decide +kernel
theorem dX5_tick_25 : decode cX5_tick 25 = .ok (.ireturn, 1) := by decide +kernel
theorem dX5_tick_26 : decode cX5_tick 26 = .ok (.iconst 0, 1) := by decide +kernel
theorem dX5_tick_27 : decode cX5_tick 27 = .ok (.istore_n 2, 1) := by decide +kernel
theorem dX5_tick_28 : decode cX5_tick 28 = .ok (.iconst 0, 1) := by decide +kernel
theorem dX5_tick_29 : decode cX5_tick 29 = .ok (.istore_n 3, 1) := by decide +kernel
theorem dX5_tick_30 : decode cX5_tick 30 = .ok (.iload_n 3, 1) := by decide +kernel
theorem dX5_tick_31 : decode cX5_tick 31 = .ok (.iload_n 1, 1) := by decide +kernel
theorem dX5_tick_32 : decode cX5_tick 32 = .ok (.if_icmp .ge 76, 3) := by decide +kernel
theorem dX5_tick_35 : decode cX5_tick 35 = .ok (.aload_n 0, 1) := by decide +kernel
theorem dX5_tick_36 : decode cX5_tick 36 = .ok (.dup, 1) := by decide +kernel
theorem dX5_tick_37 : decode cX5_tick 37 = .ok (.getfield 64, 3) := by decide +kernel
theorem dX5_tick_40 : decode cX5_tick 40 = .ok (.iconst 1, 1) := by decide +kernel
theorem dX5_tick_41 : decode cX5_tick 41 = .ok (.iadd, 1) := by decide +kernel
theorem dX5_tick_42 : decode cX5_tick 42 = .ok (.putfield 64, 3) := by decide +kernel
theorem dX5_tick_45 : decode cX5_tick 45 = .ok (.iconst 0, 1) := by decide +kernel
theorem dX5_tick_46 : decode cX5_tick 46 = .ok (.istore 4, 2) := by decide +kernel
theorem dX5_tick_48 : decode cX5_tick 48 = .ok (.iload 4, 2) := by decide +kernel
theorem dX5_tick_50 : decode cX5_tick 50 = .ok (.aload_n 0, 1) := by decide +kernel
theorem dX5_tick_51 : decode cX5_tick 51 = .ok (.getfield 78, 3) := by decide +kernel
theorem dX5_tick_54 : decode cX5_tick 54 = .ok (.if_icmp .ge 44, 3) := by decide +kernel
theorem dX5_tick_57 : decode cX5_tick 57 = .ok (.aload_n 0, 1) := by decide +kernel
theorem dX5_tick_58 : decode cX5_tick 58 = .ok (.getfield 46, 3) := by decide +kernel
theorem dX5_tick_61 : decode cX5_tick 61 = .ok (.iload 4, 2) := by decide +kernel
theorem dX5_tick_63 : decode cX5_tick 63 = .ok (.iaload, 1) := by decide +kernel
theorem dX5_tick_64 : decode cX5_tick 64 = .ok (.ifCond .ne 28, 3) := by decide +kernel
theorem dX5_tick_67 : decode cX5_tick 67 = .ok (.aload_n 0, 1) := by decide +kernel
theorem dX5_tick_68 : decode cX5_tick 68 = .ok (.getfield 43, 3) := by decide +kernel
theorem dX5_tick_71 : decode cX5_tick 71 = .ok (.iload 4, 2) := by decide +kernel
theorem dX5_tick_73 : decode cX5_tick 73 = .ok (.iaload, 1) := by decide +kernel
theorem dX5_tick_74 : decode cX5_tick 74 = .ok (.aload_n 0, 1) := by decide +kernel
theorem dX5_tick_75 : decode cX5_tick 75 = .ok (.getfield 64, 3) := by decide +kernel
theorem dX5_tick_78 : decode cX5_tick 78 = .ok (.if_icmp .ge 14, 3) := by decide +kernel
theorem dX5_tick_81 : decode cX5_tick 81 = .ok (.aload_n 0, 1) := by decide +kernel
theorem dX5_tick_82 : decode cX5_tick 82 = .ok (.getfield 46, 3) := by decide +kernel
theorem dX5_tick_85 : decode cX5_tick 85 = .ok (.iload 4, 2) := by decide +kernel
theorem dX5_tick_87 : decode cX5_tick 87 = .ok (.iconst 1, 1) := by decide +kernel
theorem dX5_tick_88 : decode cX5_tick 88 = .ok (.iastore, 1) := by decide +kernel
theorem dX5_tick_89 : decode cX5_tick 89 = .ok (.iinc 2 1, 3) := by decide +kernel
theorem dX5_tick_92 : decode cX5_tick 92 = .ok (.iinc 4 1, 3) := by decide +kernel
theorem dX5_tick_95 : decode cX5_tick 95 = .ok (.goto (-47), 3) := by decide +kernel
theorem dX5_tick_98 : decode cX5_tick 98 = .ok (.aload_n 0, 1) := by decide +kernel
theorem dX5_tick_99 : decode cX5_tick 99 = .ok (.invokevirtual 158, 3) := by decide +kernel
theorem dX5_tick_102 : decode cX5_tick 102 = .ok (.iinc 3 1, 3) := by decide +kernel
theorem dX5_tick_105 : decode cX5_tick 105 = .ok (.goto (-75), 3) := by decide +kernel
theorem dX5_tick_108 : decode cX5_tick 108 = .ok (.iload_n 2, 1) := by decide +kernel
theorem dX5_tick_109 : decode cX5_tick 109 = .ok (.ireturn, 1) := by decide +kernel
theorem dX5_weight_0 : decode cX5_weight 0 = .ok (.iload_n 1, 1) := by decide +kernel
theorem dX5_weight_1 : decode cX5_weight 1 = .ok (.i2l, 1) := by decide +kernel
theorem dX5_weight_2 : decode cX5_weight 2 = .ok (.lconst 0, 1) := by decide +kernel
theorem dX5_weight_3 : decode cX5_weight 3 = .ok (.ldc2_w 161, 3) := by decide +kernel
theorem dX5_weight_6 : decode cX5_weight 6 = .ok (.invokestatic 83, 3) := by decide +kernel
theorem dX5_weight_9 : decode cX5_weight 9 = .ok (.ifCond .ne 6, 3) := by decide +kernel
theorem dX5_weight_12 : decode cX5_weight 12 = .ok (.bipush (-101), 2) := by decide +kernel
theorem dX5_weight_14 : decode cX5_weight 14 = .ok (.ireturn, 1) := by decide +kernel
theorem dX5_weight_15 : decode cX5_weight 15 = .ok (.iload_n 2, 1) := by decide +kernel
theorem dX5_weight_16 : decode cX5_weight 16 = .ok (.i2l, 1) := by decide +kernel
theorem dX5_weight_17 : decode cX5_weight 17 = .ok (.lconst 0, 1) := by decide +kernel
theorem dX5_weight_18 : decode cX5_weight 18 = .ok (.ldc2_w 122, 3) := by decide +kernel
theorem dX5_weight_21 : decode cX5_weight 21 = .ok (.invokestatic 83, 3) := by decide +kernel
theorem dX5_weight_24 : decode cX5_weight 24 = .ok (.ifCond .ne 6, 3) := by decide +kernel
theorem dX5_weight_27 : decode cX5_weight 27 = .ok (.bipush (-102), 2) := by decide +kernel
theorem dX5_weight_29 : decode cX5_weight 29 = .ok (.ireturn, 1) := by decide +kernel
theorem dX5_weight_30 : decode cX5_weight 30 = .ok (.aload_n 0, 1) := by decide +kernel
theorem dX5_weight_31 : decode cX5_weight 31 = .ok (.getfield 31, 3) := by decide +kernel
theorem dX5_weight_34 : decode cX5_weight 34 = .ok (.iload_n 1, 1) := by decide +kernel
theorem dX5_weight_35 : decode cX5_weight 35 = .ok (.iaload, 1) := by decide +kernel
theorem dX5_weight_36 : decode cX5_weight 36 = .ok (.istore_n 3, 1) := by decide +kernel
theorem dX5_weight_37 : decode cX5_weight 37 = .ok (.aload_n 0, 1) := by decide +kernel
theorem dX5_weight_38 : decode cX5_weight 38 = .ok (.getfield 31, 3) := by decide +kernel
theorem dX5_weight_41 : decode cX5_weight 41 = .ok (.iload_n 1, 1) := by decide +kernel
theorem dX5_weight_42 : decode cX5_weight 42 = .ok (.iload_n 2, 1) := by decide +kernel
theorem dX5_weight_43 : decode cX5_weight 43 = .ok (.iastore, 1) := by decide +kernel
theorem dX5_weight_44 : decode cX5_weight 44 = .ok (.iload_n 3, 1) := by decide +kernel
theorem dX5_weight_45 : decode cX5_weight 45 = .ok (.ireturn, 1) := by decide +kernel
theorem dX5_coins_0 : decode cX5_coins 0 = .ok (.iload_n 1, 1) := by decide +kernel
theorem dX5_coins_1 : decode cX5_coins 1 = .ok (.i2l, 1) := by decide +kernel
theorem dX5_coins_2 : decode cX5_coins 2 = .ok (.lconst 0, 1) := by decide +kernel
theorem dX5_coins_3 : decode cX5_coins 3 = .ok (.lconst 1, 1) := by decide +kernel
theorem dX5_coins_4 : decode cX5_coins 4 = .ok (.invokestatic 83, 3) := by decide +kernel
theorem dX5_coins_7 : decode cX5_coins 7 = .ok (.ifCond .ne 6, 3) := by decide +kernel
theorem dX5_coins_10 : decode cX5_coins 10 = .ok (.bipush (-102), 2) := by decide +kernel
theorem dX5_coins_12 : decode cX5_coins 12 = .ok (.ireturn, 1) := by decide +kernel
theorem dX5_coins_13 : decode cX5_coins 13 = .ok (.iload_n 1, 1) := by decide +kernel
theorem dX5_coins_14 : decode cX5_coins 14 = .ok (.ifCond .ne 23, 3) := by decide +kernel
theorem dX5_coins_17 : decode cX5_coins 17 = .ok (.aload_n 0, 1) := by decide +kernel
theorem dX5_coins_18 : decode cX5_coins 18 = .ok (.iload_n 2, 1) := by decide +kernel
theorem dX5_coins_19 : decode cX5_coins 19 = .ok (.invokevirtual 101, 3) := by decide +kernel
theorem dX5_coins_22 : decode cX5_coins 22 = .ok (.ifCond .eq 8, 3) := by decide +kernel
theorem dX5_coins_25 : decode cX5_coins 25 = .ok (.bipush (-101), 2) := by decide +kernel
theorem dX5_coins_27 : decode cX5_coins 27 = .ok (.goto 9, 3) := by decide +kernel
theorem dX5_coins_30 : decode cX5_coins 30 = .ok (.aload_n 0, 1) := by decide +kernel
theorem dX5_coins_31 : decode cX5_coins 31 = .ok (.getfield 22, 3) := by decide +kernel
theorem dX5_coins_34 : decode cX5_coins 34 = .ok (.iload_n 2, 1) := by decide +kernel
theorem dX5_coins_35 : decode cX5_coins 35 = .ok (.iaload, 1) := by decide +kernel
theorem dX5_coins_36 : decode cX5_coins 36 = .ok (.ireturn, 1) := by decide +kernel
theorem dX5_coins_37 : decode cX5_coins 37 = .ok (.iload_n 2, 1) := by decide +kernel
theorem dX5_coins_38 : decode cX5_coins 38 = .ok (.i2l, 1) := by decide +kernel
theorem dX5_coins_39 : decode cX5_coins 39 = .ok (.lconst 0, 1) := by decide +kernel
theorem dX5_coins_40 : decode cX5_coins 40 = .ok (.ldc2_w 161, 3) := by decide +kernel
theorem dX5_coins_43 : decode cX5_coins 43 = .ok (.invokestatic 83, 3) := by decide +kernel
theorem dX5_coins_46 : decode cX5_coins 46 = .ok (.ifCond .eq 12, 3) := by decide +kernel
theorem dX5_coins_49 : decode cX5_coins 49 = .ok (.aload_n 0, 1) := by decide +kernel
theorem dX5_coins_50 : decode cX5_coins 50 = .ok (.getfield 28, 3) := by decide +kernel
theorem dX5_coins_53 : decode cX5_coins 53 = .ok (.iload_n 2, 1) := by decide +kernel
theorem dX5_coins_54 : decode cX5_coins 54 = .ok (.iaload, 1) := by decide +kernel
theorem dX5_coins_55 : decode cX5_coins 55 = .ok (.goto 5, 3) := by decide +kernel
theorem dX5_coins_58 : decode cX5_coins 58 = .ok (.bipush (-101), 2) := by decide +kernel
theorem dX5_coins_60 : decode cX5_coins 60 = .ok (.ireturn, 1) := by decide +kernel
theorem dX5_object_0 : decode cX5_object 0 = .ok (.aload_n 0, 1) := by decide +kernel
theorem dX5_object_1 : decode cX5_object 1 = .ok (.iload_n 1, 1) := by decide +kernel
theorem dX5_object_2 : decode cX5_object 2 = .ok (.invokevirtual 137, 3) := by decide +kernel
theorem dX5_object_5 : decode cX5_object 5 = .ok (.ifCond .eq 6, 3) := by decide +kernel
theorem dX5_object_8 : decode cX5_object 8 = .ok (.bipush (-101), 2) := by decide +kernel
theorem dX5_object_10 : decode cX5_object 10 = .ok (.ireturn, 1) := by decide +kernel
theorem dX5_object_11 : decode cX5_object 11 = .ok (.iload_n 2, 1) := by decide +kernel
theorem dX5_object_12 : decode cX5_object 12 = .ok (.tableswitch 109 0 6 #[44, 51, 57, 64, 71, 78, 84], 44) := by decide +kernel
theorem dX5_object_56 : decode cX5_object 56 = .ok (.aload_n 0, 1) := by decide +kernel
theorem dX5_object_57 : decode cX5_object 57 = .ok (.getfield 34, 3) := by decide +kernel
theorem dX5_object_60 : decode cX5_object 60 = .ok (.iload_n 1, 1) := by decide +kernel
theorem dX5_object_61 : decode cX5_object 61 = .ok (.iaload, 1) := by decide +kernel
theorem dX5_object_62 : decode cX5_object 62 = .ok (.ireturn, 1) := by decide +kernel
theorem dX5_object_63 : decode cX5_object 63 = .ok (.aload_n 0, 1) := by decide +kernel
theorem dX5_object_64 : decode cX5_object 64 = .ok (.iload_n 1, 1) := by decide +kernel
theorem dX5_object_65 : decode cX5_object 65 = .ok (.invokevirtual 142, 3) := by decide +kernel
theorem dX5_object_68 : decode cX5_object 68 = .ok (.ireturn, 1) := by decide +kernel
theorem dX5_object_69 : decode cX5_object 69 = .ok (.aload_n 0, 1) := by decide +kernel
theorem dX5_object_70 : decode cX5_object 70 = .ok (.getfield 43, 3) := by decide +kernel
theorem dX5_object_73 : decode cX5_object 73 = .ok (.iload_n 1, 1) := by decide +kernel
theorem dX5_object_74 : decode cX5_object 74 = .ok (.iaload, 1) := by decide +kernel
theorem dX5_object_75 : decode cX5_object 75 = .ok (.ireturn, 1) := by decide +kernel
theorem dX5_object_76 : decode cX5_object 76 = .ok (.aload_n 0, 1) := by decide +kernel
theorem dX5_object_77 : decode cX5_object 77 = .ok (.getfield 46, 3) := by decide +kernel
theorem dX5_object_80 : decode cX5_object 80 = .ok (.iload_n 1, 1) := by decide +kernel
theorem dX5_object_81 : decode cX5_object 81 = .ok (.iaload, 1) := by decide +kernel
theorem dX5_object_82 : decode cX5_object 82 = .ok (.ireturn, 1) := by decide +kernel
theorem dX5_object_83 : decode cX5_object 83 = .ok (.aload_n 0, 1) := by decide +kernel
theorem dX5_object_84 : decode cX5_object 84 = .ok (.getfield 49, 3) := by decide +kernel
theorem dX5_object_87 : decode cX5_object 87 = .ok (.iload_n 1, 1) := by decide +kernel
theorem dX5_object_88 : decode cX5_object 88 = .ok (.iaload, 1) := by decide +kernel
theorem dX5_object_89 : decode cX5_object 89 = .ok (.ireturn, 1) := by decide +kernel
theorem dX5_object_90 : decode cX5_object 90 = .ok (.aload_n 0, 1) := by decide +kernel
theorem dX5_object_91 : decode cX5_object 91 = .ok (.iload_n 1, 1) := by decide +kernel
theorem dX5_object_92 : decode cX5_object 92 = .ok (.invokevirtual 163, 3) := by decide +kernel
theorem dX5_object_95 : decode cX5_object 95 = .ok (.ireturn, 1) := by decide +kernel
theorem dX5_object_96 : decode cX5_object 96 = .ok (.aload_n 0, 1) := by decide +kernel
theorem dX5_object_97 : decode cX5_object 97 = .ok (.getfield 46, 3) := by decide +kernel
theorem dX5_object_100 : decode cX5_object 100 = .ok (.iload_n 1, 1) := by decide +kernel
theorem dX5_object_101 : decode cX5_object 101 = .ok (.iaload, 1) := by decide +kernel
theorem dX5_object_102 : decode cX5_object 102 = .ok (.iconst 2, 1) := by decide +kernel
theorem dX5_object_103 : decode cX5_object 103 = .ok (.if_icmp .ne 7, 3) := by decide +kernel
theorem dX5_object_106 : decode cX5_object 106 = .ok (.iconst 0, 1) := by decide +kernel
theorem dX5_object_107 : decode cX5_object 107 = .ok (.goto 13, 3) := by decide +kernel
theorem dX5_object_110 : decode cX5_object 110 = .ok (.aload_n 0, 1) := by decide +kernel
theorem dX5_object_111 : decode cX5_object 111 = .ok (.aload_n 0, 1) := by decide +kernel
theorem dX5_object_112 : decode cX5_object 112 = .ok (.getfield 37, 3) := by decide +kernel
theorem dX5_object_115 : decode cX5_object 115 = .ok (.iload_n 1, 1) := by decide +kernel
theorem dX5_object_116 : decode cX5_object 116 = .ok (.iaload, 1) := by decide +kernel
theorem dX5_object_117 : decode cX5_object 117 = .ok (.invokevirtual 127, 3) := by decide +kernel
theorem dX5_object_120 : decode cX5_object 120 = .ok (.ireturn, 1) := by decide +kernel
theorem dX5_object_121 : decode cX5_object 121 = .ok (.bipush (-102), 2) := by decide +kernel
theorem dX5_object_123 : decode cX5_object 123 = .ok (.ireturn, 1) := by decide +kernel
theorem dX5_layer_0 : decode cX5_layer 0 = .ok (.aload_n 0, 1) := by decide +kernel
theorem dX5_layer_1 : decode cX5_layer 1 = .ok (.iload_n 1, 1) := by decide +kernel
theorem dX5_layer_2 : decode cX5_layer 2 = .ok (.invokevirtual 137, 3) := by decide +kernel
theorem dX5_layer_5 : decode cX5_layer 5 = .ok (.ifCond .eq 6, 3) := by decide +kernel
theorem dX5_layer_8 : decode cX5_layer 8 = .ok (.bipush (-101), 2) := by decide +kernel
theorem dX5_layer_10 : decode cX5_layer 10 = .ok (.ireturn, 1) := by decide +kernel
theorem dX5_layer_11 : decode cX5_layer 11 = .ok (.iload_n 3, 1) := by decide +kernel
theorem dX5_layer_12 : decode cX5_layer 12 = .ok (.i2l, 1) := by decide +kernel
theorem dX5_layer_13 : decode cX5_layer 13 = .ok (.lconst 0, 1) := by decide +kernel
theorem dX5_layer_14 : decode cX5_layer 14 = .ok (.ldc2_w 166, 3) := by decide +kernel
theorem dX5_layer_17 : decode cX5_layer 17 = .ok (.invokestatic 83, 3) := by decide +kernel
theorem dX5_layer_20 : decode cX5_layer 20 = .ok (.ifCond .ne 6, 3) := by decide +kernel
theorem dX5_layer_23 : decode cX5_layer 23 = .ok (.bipush (-102), 2) := by decide +kernel
theorem dX5_layer_25 : decode cX5_layer 25 = .ok (.ireturn, 1) := by decide +kernel
theorem dX5_layer_26 : decode cX5_layer 26 = .ok (.iload_n 2, 1) := by decide +kernel
theorem dX5_layer_27 : decode cX5_layer 27 = .ok (.i2l, 1) := by decide +kernel
theorem dX5_layer_28 : decode cX5_layer 28 = .ok (.lconst 0, 1) := by decide +kernel
theorem dX5_layer_29 : decode cX5_layer 29 = .ok (.aload_n 0, 1) := by decide +kernel
theorem dX5_layer_30 : decode cX5_layer 30 = .ok (.getfield 49, 3) := by decide +kernel
theorem dX5_layer_33 : decode cX5_layer 33 = .ok (.iload_n 1, 1) := by decide +kernel
theorem dX5_layer_34 : decode cX5_layer 34 = .ok (.iaload, 1) := by decide +kernel
theorem dX5_layer_35 : decode cX5_layer 35 = .ok (.iconst 1, 1) := by decide +kernel
theorem dX5_layer_36 : decode cX5_layer 36 = .ok (.isub, 1) := by decide +kernel
theorem dX5_layer_37 : decode cX5_layer 37 = .ok (.i2l, 1) := by decide +kernel
theorem dX5_layer_38 : decode cX5_layer 38 = .ok (.invokestatic 83, 3) := by decide +kernel
theorem dX5_layer_41 : decode cX5_layer 41 = .ok (.ifCond .ne 6, 3) := by decide +kernel
theorem dX5_layer_44 : decode cX5_layer 44 = .ok (.bipush (-109), 2) := by decide +kernel
theorem dX5_layer_46 : decode cX5_layer 46 = .ok (.ireturn, 1) := by decide +kernel
theorem dX5_layer_47 : decode cX5_layer 47 = .ok (.bipush 16, 2) := by decide +kernel
theorem dX5_layer_49 : decode cX5_layer 49 = .ok (.iload_n 1, 1) := by decide +kernel
theorem dX5_layer_50 : decode cX5_layer 50 = .ok (.imul, 1) := by decide +kernel
theorem dX5_layer_51 : decode cX5_layer 51 = .ok (.iload_n 2, 1) := by decide +kernel
theorem dX5_layer_52 : decode cX5_layer 52 = .ok (.iadd, 1) := by decide +kernel
theorem dX5_layer_53 : decode cX5_layer 53 = .ok (.istore 4, 2) := by decide +kernel
theorem dX5_layer_55 : decode cX5_layer 55 = .ok (.iload_n 3, 1) := by decide +kernel
theorem dX5_layer_56 : decode cX5_layer 56 = .ok (.ifCond .ne 13, 3) := by decide +kernel
theorem dX5_layer_59 : decode cX5_layer 59 = .ok (.aload_n 0, 1) := by decide +kernel
theorem dX5_layer_60 : decode cX5_layer 60 = .ok (.getfield 52, 3) := by decide +kernel
theorem dX5_layer_63 : decode cX5_layer 63 = .ok (.iload 4, 2) := by decide +kernel
theorem dX5_layer_65 : decode cX5_layer 65 = .ok (.iaload, 1) := by decide +kernel
theorem dX5_layer_66 : decode cX5_layer 66 = .ok (.goto 25, 3) := by decide +kernel
theorem dX5_layer_69 : decode cX5_layer 69 = .ok (.iload_n 3, 1) := by decide +kernel
theorem dX5_layer_70 : decode cX5_layer 70 = .ok (.iconst 1, 1) := by decide +kernel
theorem dX5_layer_71 : decode cX5_layer 71 = .ok (.if_icmp .ne 13, 3) := by decide +kernel
theorem dX5_layer_74 : decode cX5_layer 74 = .ok (.aload_n 0, 1) := by decide +kernel
theorem dX5_layer_75 : decode cX5_layer 75 = .ok (.getfield 55, 3) := by decide +kernel
theorem dX5_layer_78 : decode cX5_layer 78 = .ok (.iload 4, 2) := by decide +kernel
theorem dX5_layer_80 : decode cX5_layer 80 = .ok (.iaload, 1) := by decide +kernel
theorem dX5_layer_81 : decode cX5_layer 81 = .ok (.goto 10, 3) := by decide +kernel
theorem dX5_layer_84 : decode cX5_layer 84 = .ok (.aload_n 0, 1) := by decide +kernel
theorem dX5_layer_85 : decode cX5_layer 85 = .ok (.getfield 58, 3) := by decide +kernel
theorem dX5_layer_88 : decode cX5_layer 88 = .ok (.iload 4, 2) := by decide +kernel
theorem dX5_layer_90 : decode cX5_layer 90 = .ok (.iaload, 1) := by decide +kernel
theorem dX5_layer_91 : decode cX5_layer 91 = .ok (.ireturn, 1) := by decide +kernel
theorem dX5_word_0 : decode cX5_word 0 = .ok (.aload_n 0, 1) := by decide +kernel
theorem dX5_word_1 : decode cX5_word 1 = .ok (.iload_n 1, 1) := by decide +kernel
theorem dX5_word_2 : decode cX5_word 2 = .ok (.invokevirtual 137, 3) := by decide +kernel
theorem dX5_word_5 : decode cX5_word 5 = .ok (.ifCond .eq 6, 3) := by decide +kernel
theorem dX5_word_8 : decode cX5_word 8 = .ok (.bipush (-101), 2) := by decide +kernel
theorem dX5_word_10 : decode cX5_word 10 = .ok (.ireturn, 1) := by decide +kernel
theorem dX5_word_11 : decode cX5_word 11 = .ok (.iload_n 2, 1) := by decide +kernel
theorem dX5_word_12 : decode cX5_word 12 = .ok (.i2l, 1) := by decide +kernel
theorem dX5_word_13 : decode cX5_word 13 = .ok (.lconst 0, 1) := by decide +kernel
theorem dX5_word_14 : decode cX5_word 14 = .ok (.ldc2_w 95, 3) := by decide +kernel
theorem dX5_word_17 : decode cX5_word 17 = .ok (.invokestatic 83, 3) := by decide +kernel
theorem dX5_word_20 : decode cX5_word 20 = .ok (.ifCond .ne 6, 3) := by decide +kernel
theorem dX5_word_23 : decode cX5_word 23 = .ok (.bipush (-102), 2) := by decide +kernel
theorem dX5_word_25 : decode cX5_word 25 = .ok (.ireturn, 1) := by decide +kernel
theorem dX5_word_26 : decode cX5_word 26 = .ok (.aload_n 0, 1) := by decide +kernel
theorem dX5_word_27 : decode cX5_word 27 = .ok (.getfield 46, 3) := by decide +kernel
theorem dX5_word_30 : decode cX5_word 30 = .ok (.iload_n 1, 1) := by decide +kernel
theorem dX5_word_31 : decode cX5_word 31 = .ok (.iaload, 1) := by decide +kernel
theorem dX5_word_32 : decode cX5_word 32 = .ok (.ifCond .ne 16, 3) := by decide +kernel
theorem dX5_word_35 : decode cX5_word 35 = .ok (.aload_n 0, 1) := by decide +kernel
theorem dX5_word_36 : decode cX5_word 36 = .ok (.getfield 40, 3) := by decide +kernel
theorem dX5_word_39 : decode cX5_word 39 = .ok (.iconst 4, 1) := by decide +kernel
theorem dX5_word_40 : decode cX5_word 40 = .ok (.iload_n 1, 1) := by decide +kernel
theorem dX5_word_41 : decode cX5_word 41 = .ok (.imul, 1) := by decide +kernel
theorem dX5_word_42 : decode cX5_word 42 = .ok (.iload_n 2, 1) := by decide +kernel
theorem dX5_word_43 : decode cX5_word 43 = .ok (.iadd, 1) := by decide +kernel
theorem dX5_word_44 : decode cX5_word 44 = .ok (.iaload, 1) := by decide +kernel
theorem dX5_word_45 : decode cX5_word 45 = .ok (.goto 5, 3) := by decide +kernel
theorem dX5_word_48 : decode cX5_word 48 = .ok (.bipush (-103), 2) := by decide +kernel
theorem dX5_word_50 : decode cX5_word 50 = .ok (.ireturn, 1) := by decide +kernel
theorem dX5_wouldGive_0 : decode cX5_wouldGive 0 = .ok (.aload_n 0, 1) := by decide +kernel
theorem dX5_wouldGive_1 : decode cX5_wouldGive 1 = .ok (.iload_n 1, 1) := by decide +kernel
theorem dX5_wouldGive_2 : decode cX5_wouldGive 2 = .ok (.invokevirtual 137, 3) := by decide +kernel
theorem dX5_wouldGive_5 : decode cX5_wouldGive 5 = .ok (.ifCond .ne 11, 3) := by decide +kernel
theorem dX5_wouldGive_8 : decode cX5_wouldGive 8 = .ok (.aload_n 0, 1) := by decide +kernel
theorem dX5_wouldGive_9 : decode cX5_wouldGive 9 = .ok (.iload_n 3, 1) := by decide +kernel
theorem dX5_wouldGive_10 : decode cX5_wouldGive 10 = .ok (.invokevirtual 101, 3) := by decide +kernel
theorem dX5_wouldGive_13 : decode cX5_wouldGive 13 = .ok (.ifCond .eq 6, 3) := by decide +kernel
theorem dX5_wouldGive_16 : decode cX5_wouldGive 16 = .ok (.bipush (-101), 2) := by decide +kernel
theorem dX5_wouldGive_18 : decode cX5_wouldGive 18 = .ok (.ireturn, 1) := by decide +kernel
theorem dX5_wouldGive_19 : decode cX5_wouldGive 19 = .ok (.aload_n 0, 1) := by decide +kernel
theorem dX5_wouldGive_20 : decode cX5_wouldGive 20 = .ok (.getfield 46, 3) := by decide +kernel
theorem dX5_wouldGive_23 : decode cX5_wouldGive 23 = .ok (.iload_n 1, 1) := by decide +kernel
theorem dX5_wouldGive_24 : decode cX5_wouldGive 24 = .ok (.iaload, 1) := by decide +kernel
theorem dX5_wouldGive_25 : decode cX5_wouldGive 25 = .ok (.ifCond .eq 6, 3) := by decide +kernel
theorem dX5_wouldGive_28 : decode cX5_wouldGive 28 = .ok (.bipush (-103), 2) := by decide +kernel
theorem dX5_wouldGive_30 : decode cX5_wouldGive 30 = .ok (.ireturn, 1) := by decide +kernel
theorem dX5_wouldGive_31 : decode cX5_wouldGive 31 = .ok (.iload_n 2, 1) := by decide +kernel
theorem dX5_wouldGive_32 : decode cX5_wouldGive 32 = .ok (.i2l, 1) := by decide +kernel
theorem dX5_wouldGive_33 : decode cX5_wouldGive 33 = .ok (.lconst 1, 1) := by decide +kernel
theorem dX5_wouldGive_34 : decode cX5_wouldGive 34 = .ok (.aload_n 0, 1) := by decide +kernel
theorem dX5_wouldGive_35 : decode cX5_wouldGive 35 = .ok (.getfield 37, 3) := by decide +kernel
theorem dX5_wouldGive_38 : decode cX5_wouldGive 38 = .ok (.iload_n 1, 1) := by decide +kernel
theorem dX5_wouldGive_39 : decode cX5_wouldGive 39 = .ok (.iaload, 1) := by decide +kernel
theorem dX5_wouldGive_40 : decode cX5_wouldGive 40 = .ok (.iconst 1, 1) := by decide +kernel
theorem dX5_wouldGive_41 : decode cX5_wouldGive 41 = .ok (.isub, 1) := by decide +kernel
theorem dX5_wouldGive_42 : decode cX5_wouldGive 42 = .ok (.i2l, 1) := by decide +kernel
theorem dX5_wouldGive_43 : decode cX5_wouldGive 43 = .ok (.invokestatic 83, 3) := by decide +kernel
theorem dX5_wouldGive_46 : decode cX5_wouldGive 46 = .ok (.ifCond .eq 13, 3) := by decide +kernel
theorem dX5_wouldGive_49 : decode cX5_wouldGive 49 = .ok (.aload_n 0, 1) := by decide +kernel
theorem dX5_wouldGive_50 : decode cX5_wouldGive 50 = .ok (.iload_n 1, 1) := by decide +kernel
theorem dX5_wouldGive_51 : decode cX5_wouldGive 51 = .ok (.iload_n 2, 1) := by decide +kernel
theorem dX5_wouldGive_52 : decode cX5_wouldGive 52 = .ok (.iload_n 3, 1) := by decide +kernel
theorem dX5_wouldGive_53 : decode cX5_wouldGive 53 = .ok (.invokevirtual 118, 3) := by decide +kernel
theorem dX5_wouldGive_56 : decode cX5_wouldGive 56 = .ok (.goto 5, 3) := by decide +kernel
theorem dX5_wouldGive_59 : decode cX5_wouldGive 59 = .ok (.bipush (-102), 2) := by decide +kernel
theorem dX5_wouldGive_61 : decode cX5_wouldGive 61 = .ok (.ireturn, 1) := by decide +kernel
theorem dX5_exact_0 : decode cX5_exact 0 = .ok (.aload_n 0, 1) := by decide +kernel
theorem dX5_exact_1 : decode cX5_exact 1 = .ok (.iconst 0, 1) := by decide +kernel
theorem dX5_exact_2 : decode cX5_exact 2 = .ok (.putfield 168, 3) := by decide +kernel
theorem dX5_exact_5 : decode cX5_exact 5 = .ok (.lload_n 1, 1) := by decide +kernel
theorem dX5_exact_6 : decode cX5_exact 6 = .ok (.lconst 0, 1) := by decide +kernel
theorem dX5_exact_7 : decode cX5_exact 7 = .ok (.lcmp, 1) := by decide +kernel
theorem dX5_exact_8 : decode cX5_exact 8 = .ok (.ifCond .eq 9, 3) := by decide +kernel
theorem dX5_exact_11 : decode cX5_exact 11 = .ok (.lload_n 3, 1) := by decide +kernel
theorem dX5_exact_12 : decode cX5_exact 12 = .ok (.lconst 0, 1) := by decide +kernel
theorem dX5_exact_13 : decode cX5_exact 13 = .ok (.lcmp, 1) := by decide +kernel
theorem dX5_exact_14 : decode cX5_exact 14 = .ok (.ifCond .ne 5, 3) := by decide +kernel
theorem dX5_exact_17 : decode cX5_exact 17 = .ok (.lconst 0, 1) := by decide +kernel
theorem dX5_exact_18 : decode cX5_exact 18 = .ok (.lreturn, 1) := by decide +kernel
theorem dX5_exact_19 : decode cX5_exact 19 = .ok (.lload_n 1, 1) := by decide +kernel
theorem dX5_exact_20 : decode cX5_exact 20 = .ok (.lload_n 3, 1) := by decide +kernel
theorem dX5_exact_21 : decode cX5_exact 21 = .ok (.lmul, 1) := by decide +kernel
theorem dX5_exact_22 : decode cX5_exact 22 = .ok (.lstore 5, 2) := by decide +kernel
theorem dX5_exact_24 : decode cX5_exact 24 = .ok (.lload 5, 2) := by decide +kernel
theorem dX5_exact_26 : decode cX5_exact 26 = .ok (.lload_n 3, 1) := by decide +kernel
theorem dX5_exact_27 : decode cX5_exact 27 = .ok (.ldiv, 1) := by decide +kernel
theorem dX5_exact_28 : decode cX5_exact 28 = .ok (.lload_n 1, 1) := by decide +kernel
theorem dX5_exact_29 : decode cX5_exact 29 = .ok (.lcmp, 1) := by decide +kernel
theorem dX5_exact_30 : decode cX5_exact 30 = .ok (.ifCond .ne 35, 3) := by decide +kernel
theorem dX5_exact_33 : decode cX5_exact 33 = .ok (.lload_n 1, 1) := by decide +kernel
theorem dX5_exact_34 : decode cX5_exact 34 = .ok (.ldc2_w 171, 3) := by decide +kernel
theorem dX5_exact_37 : decode cX5_exact 37 = .ok (.lcmp, 1) := by decide +kernel
theorem dX5_exact_38 : decode cX5_exact 38 = .ok (.ifCond .ne 11, 3) := by decide +kernel
theorem dX5_exact_41 : decode cX5_exact 41 = .ok (.lload_n 3, 1) := by decide +kernel
theorem dX5_exact_42 : decode cX5_exact 42 = .ok (.ldc2_w 173, 3) := by decide +kernel
theorem dX5_exact_45 : decode cX5_exact 45 = .ok (.lcmp, 1) := by decide +kernel
theorem dX5_exact_46 : decode cX5_exact 46 = .ok (.ifCond .eq 19, 3) := by decide +kernel
theorem dX5_exact_49 : decode cX5_exact 49 = .ok (.lload_n 3, 1) := by decide +kernel
theorem dX5_exact_50 : decode cX5_exact 50 = .ok (.ldc2_w 171, 3) := by decide +kernel
theorem dX5_exact_53 : decode cX5_exact 53 = .ok (.lcmp, 1) := by decide +kernel
theorem dX5_exact_54 : decode cX5_exact 54 = .ok (.ifCond .ne 15, 3) := by decide +kernel
theorem dX5_exact_57 : decode cX5_exact 57 = .ok (.lload_n 1, 1) := by decide +kernel
theorem dX5_exact_58 : decode cX5_exact 58 = .ok (.ldc2_w 173, 3) := by decide +kernel
theorem dX5_exact_61 : decode cX5_exact 61 = .ok (.lcmp, 1) := by decide +kernel
theorem dX5_exact_62 : decode cX5_exact 62 = .ok (.ifCond .ne 7, 3) := by decide +kernel
theorem dX5_exact_65 : decode cX5_exact 65 = .ok (.iconst 1, 1) := by decide +kernel
theorem dX5_exact_66 : decode cX5_exact 66 = .ok (.goto 4, 3) := by decide +kernel
theorem dX5_exact_69 : decode cX5_exact 69 = .ok (.iconst 0, 1) := by decide +kernel
theorem dX5_exact_70 : decode cX5_exact 70 = .ok (.istore 7, 2) := by decide +kernel
theorem dX5_exact_72 : decode cX5_exact 72 = .ok (.aload_n 0, 1) := by decide +kernel
theorem dX5_exact_73 : decode cX5_exact 73 = .ok (.iload 7, 2) := by decide +kernel
theorem dX5_exact_75 : decode cX5_exact 75 = .ok (.ifCond .eq 7, 3) := by decide +kernel
theorem dX5_exact_78 : decode cX5_exact 78 = .ok (.iconst 1, 1) := by decide +kernel
theorem dX5_exact_79 : decode cX5_exact 79 = .ok (.goto 4, 3) := by decide +kernel
theorem dX5_exact_82 : decode cX5_exact 82 = .ok (.iconst 0, 1) := by decide +kernel
theorem dX5_exact_83 : decode cX5_exact 83 = .ok (.putfield 168, 3) := by decide +kernel
theorem dX5_exact_86 : decode cX5_exact 86 = .ok (.iload 7, 2) := by decide +kernel
theorem dX5_exact_88 : decode cX5_exact 88 = .ok (.ifCond .eq 7, 3) := by decide +kernel
theorem dX5_exact_91 : decode cX5_exact 91 = .ok (.lconst 0, 1) := by decide +kernel
theorem dX5_exact_92 : decode cX5_exact 92 = .ok (.goto 5, 3) := by decide +kernel
theorem dX5_exact_95 : decode cX5_exact 95 = .ok (.lload 5, 2) := by decide +kernel
theorem dX5_exact_97 : decode cX5_exact 97 = .ok (.lreturn, 1) := by decide +kernel
theorem dX5_thrown_0 : decode cX5_thrown 0 = .ok (.aload_n 0, 1) := by decide +kernel
theorem dX5_thrown_1 : decode cX5_thrown 1 = .ok (.getfield 168, 3) := by decide +kernel
theorem dX5_thrown_4 : decode cX5_thrown 4 = .ok (.ireturn, 1) := by decide +kernel
theorem dX5_held_0 : decode cX5_held 0 = .ok (.iconst 0, 1) := by decide +kernel
theorem dX5_held_1 : decode cX5_held 1 = .ok (.istore_n 1, 1) := by decide +kernel
theorem dX5_held_2 : decode cX5_held 2 = .ok (.iconst 0, 1) := by decide +kernel
theorem dX5_held_3 : decode cX5_held 3 = .ok (.istore_n 2, 1) := by decide +kernel
theorem dX5_held_4 : decode cX5_held 4 = .ok (.iload_n 2, 1) := by decide +kernel
theorem dX5_held_5 : decode cX5_held 5 = .ok (.aload_n 0, 1) := by decide +kernel
theorem dX5_held_6 : decode cX5_held 6 = .ok (.getfield 78, 3) := by decide +kernel
theorem dX5_held_9 : decode cX5_held 9 = .ok (.if_icmp .ge 17, 3) := by decide +kernel
theorem dX5_held_12 : decode cX5_held 12 = .ok (.iload_n 1, 1) := by decide +kernel
theorem dX5_held_13 : decode cX5_held 13 = .ok (.aload_n 0, 1) := by decide +kernel
theorem dX5_held_14 : decode cX5_held 14 = .ok (.iload_n 2, 1) := by decide +kernel
theorem dX5_held_15 : decode cX5_held 15 = .ok (.invokevirtual 163, 3) := by decide +kernel
theorem dX5_held_18 : decode cX5_held 18 = .ok (.iadd, 1) := by decide +kernel
theorem dX5_held_19 : decode cX5_held 19 = .ok (.istore_n 1, 1) := by decide +kernel
theorem dX5_held_20 : decode cX5_held 20 = .ok (.iinc 2 1, 3) := by decide +kernel
theorem dX5_held_23 : decode cX5_held 23 = .ok (.goto (-19), 3) := by decide +kernel
theorem dX5_held_26 : decode cX5_held 26 = .ok (.iload_n 1, 1) := by decide +kernel
theorem dX5_held_27 : decode cX5_held 27 = .ok (.ireturn, 1) := by decide +kernel
theorem dX5_manyOf_0 : decode cX5_manyOf 0 = .ok (.iconst 0, 1) := by decide +kernel
theorem dX5_manyOf_1 : decode cX5_manyOf 1 = .ok (.istore_n 2, 1) := by decide +kernel
theorem dX5_manyOf_2 : decode cX5_manyOf 2 = .ok (.iconst 0, 1) := by decide +kernel
theorem dX5_manyOf_3 : decode cX5_manyOf 3 = .ok (.istore_n 3, 1) := by decide +kernel
theorem dX5_manyOf_4 : decode cX5_manyOf 4 = .ok (.iload_n 3, 1) := by decide +kernel
theorem dX5_manyOf_5 : decode cX5_manyOf 5 = .ok (.aload_n 0, 1) := by decide +kernel
theorem dX5_manyOf_6 : decode cX5_manyOf 6 = .ok (.getfield 78, 3) := by decide +kernel
theorem dX5_manyOf_9 : decode cX5_manyOf 9 = .ok (.if_icmp .ge 27, 3) := by decide +kernel
theorem dX5_manyOf_12 : decode cX5_manyOf 12 = .ok (.iload_n 2, 1) := by decide +kernel
theorem dX5_manyOf_13 : decode cX5_manyOf 13 = .ok (.aload_n 0, 1) := by decide +kernel
theorem dX5_manyOf_14 : decode cX5_manyOf 14 = .ok (.getfield 46, 3) := by decide +kernel
theorem dX5_manyOf_17 : decode cX5_manyOf 17 = .ok (.iload_n 3, 1) := by decide +kernel
theorem dX5_manyOf_18 : decode cX5_manyOf 18 = .ok (.iaload, 1) := by decide +kernel
theorem dX5_manyOf_19 : decode cX5_manyOf 19 = .ok (.iload_n 1, 1) := by decide +kernel
theorem dX5_manyOf_20 : decode cX5_manyOf 20 = .ok (.if_icmp .ne 7, 3) := by decide +kernel
theorem dX5_manyOf_23 : decode cX5_manyOf 23 = .ok (.iconst 1, 1) := by decide +kernel
theorem dX5_manyOf_24 : decode cX5_manyOf 24 = .ok (.goto 4, 3) := by decide +kernel
theorem dX5_manyOf_27 : decode cX5_manyOf 27 = .ok (.iconst 0, 1) := by decide +kernel
theorem dX5_manyOf_28 : decode cX5_manyOf 28 = .ok (.iadd, 1) := by decide +kernel
theorem dX5_manyOf_29 : decode cX5_manyOf 29 = .ok (.istore_n 2, 1) := by decide +kernel
theorem dX5_manyOf_30 : decode cX5_manyOf 30 = .ok (.iinc 3 1, 3) := by decide +kernel
theorem dX5_manyOf_33 : decode cX5_manyOf 33 = .ok (.goto (-29), 3) := by decide +kernel
theorem dX5_manyOf_36 : decode cX5_manyOf 36 = .ok (.iload_n 2, 1) := by decide +kernel
theorem dX5_manyOf_37 : decode cX5_manyOf 37 = .ok (.ireturn, 1) := by decide +kernel
theorem dX5_allCoins_0 : decode cX5_allCoins 0 = .ok (.aload_n 0, 1) := by decide +kernel
theorem dX5_allCoins_1 : decode cX5_allCoins 1 = .ok (.invokevirtual 175, 3) := by decide +kernel
theorem dX5_allCoins_4 : decode cX5_allCoins 4 = .ok (.aload_n 0, 1) := by decide +kernel
theorem dX5_allCoins_5 : decode cX5_allCoins 5 = .ok (.getfield 72, 3) := by decide +kernel
theorem dX5_allCoins_8 : decode cX5_allCoins 8 = .ok (.iadd, 1) := by decide +kernel
theorem dX5_allCoins_9 : decode cX5_allCoins 9 = .ok (.istore_n 1, 1) := by decide +kernel
theorem dX5_allCoins_10 : decode cX5_allCoins 10 = .ok (.iconst 0, 1) := by decide +kernel
theorem dX5_allCoins_11 : decode cX5_allCoins 11 = .ok (.istore_n 2, 1) := by decide +kernel
theorem dX5_allCoins_12 : decode cX5_allCoins 12 = .ok (.iload_n 2, 1) := by decide +kernel
theorem dX5_allCoins_13 : decode cX5_allCoins 13 = .ok (.bipush 6, 2) := by decide +kernel
theorem dX5_allCoins_15 : decode cX5_allCoins 15 = .ok (.if_icmp .ge 18, 3) := by decide +kernel
theorem dX5_allCoins_18 : decode cX5_allCoins 18 = .ok (.iload_n 1, 1) := by decide +kernel
theorem dX5_allCoins_19 : decode cX5_allCoins 19 = .ok (.aload_n 0, 1) := by decide +kernel
theorem dX5_allCoins_20 : decode cX5_allCoins 20 = .ok (.getfield 22, 3) := by decide +kernel
theorem dX5_allCoins_23 : decode cX5_allCoins 23 = .ok (.iload_n 2, 1) := by decide +kernel
theorem dX5_allCoins_24 : decode cX5_allCoins 24 = .ok (.iaload, 1) := by decide +kernel
theorem dX5_allCoins_25 : decode cX5_allCoins 25 = .ok (.iadd, 1) := by decide +kernel
theorem dX5_allCoins_26 : decode cX5_allCoins 26 = .ok (.istore_n 1, 1) := by decide +kernel
theorem dX5_allCoins_27 : decode cX5_allCoins 27 = .ok (.iinc 2 1, 3) := by decide +kernel
theorem dX5_allCoins_30 : decode cX5_allCoins 30 = .ok (.goto (-18), 3) := by decide +kernel
theorem dX5_allCoins_33 : decode cX5_allCoins 33 = .ok (.iconst 0, 1) := by decide +kernel
theorem dX5_allCoins_34 : decode cX5_allCoins 34 = .ok (.istore_n 2, 1) := by decide +kernel
theorem dX5_allCoins_35 : decode cX5_allCoins 35 = .ok (.iload_n 2, 1) := by decide +kernel
theorem dX5_allCoins_36 : decode cX5_allCoins 36 = .ok (.iconst 5, 1) := by decide +kernel
theorem dX5_allCoins_37 : decode cX5_allCoins 37 = .ok (.if_icmp .ge 18, 3) := by decide +kernel
theorem dX5_allCoins_40 : decode cX5_allCoins 40 = .ok (.iload_n 1, 1) := by decide +kernel
theorem dX5_allCoins_41 : decode cX5_allCoins 41 = .ok (.aload_n 0, 1) := by decide +kernel
theorem dX5_allCoins_42 : decode cX5_allCoins 42 = .ok (.getfield 28, 3) := by decide +kernel
theorem dX5_allCoins_45 : decode cX5_allCoins 45 = .ok (.iload_n 2, 1) := by decide +kernel
theorem dX5_allCoins_46 : decode cX5_allCoins 46 = .ok (.iaload, 1) := by decide +kernel
theorem dX5_allCoins_47 : decode cX5_allCoins 47 = .ok (.iadd, 1) := by decide +kernel
theorem dX5_allCoins_48 : decode cX5_allCoins 48 = .ok (.istore_n 1, 1) := by decide +kernel
theorem dX5_allCoins_49 : decode cX5_allCoins 49 = .ok (.iinc 2 1, 3) := by decide +kernel
theorem dX5_allCoins_52 : decode cX5_allCoins 52 = .ok (.goto (-17), 3) := by decide +kernel
theorem dX5_allCoins_55 : decode cX5_allCoins 55 = .ok (.iload_n 1, 1) := by decide +kernel
theorem dX5_allCoins_56 : decode cX5_allCoins 56 = .ok (.ireturn, 1) := by decide +kernel
theorem dX5_told_0 : decode cX5_told 0 = .ok (.iload_n 1, 1) := by decide +kernel
theorem dX5_told_1 : decode cX5_told 1 = .ok (.tableswitch 109 0 9 #[55, 60, 65, 71, 77, 84, 89, 94, 99, 104], 55) := by decide +kernel
theorem dX5_told_56 : decode cX5_told 56 = .ok (.aload_n 0, 1) := by decide +kernel
theorem dX5_told_57 : decode cX5_told 57 = .ok (.getfield 64, 3) := by decide +kernel
theorem dX5_told_60 : decode cX5_told 60 = .ok (.ireturn, 1) := by decide +kernel
theorem dX5_told_61 : decode cX5_told 61 = .ok (.aload_n 0, 1) := by decide +kernel
theorem dX5_told_62 : decode cX5_told 62 = .ok (.getfield 78, 3) := by decide +kernel
theorem dX5_told_65 : decode cX5_told 65 = .ok (.ireturn, 1) := by decide +kernel
theorem dX5_told_66 : decode cX5_told 66 = .ok (.aload_n 0, 1) := by decide +kernel
theorem dX5_told_67 : decode cX5_told 67 = .ok (.iconst 0, 1) := by decide +kernel
theorem dX5_told_68 : decode cX5_told 68 = .ok (.invokevirtual 178, 3) := by decide +kernel
theorem dX5_told_71 : decode cX5_told 71 = .ok (.ireturn, 1) := by decide +kernel
theorem dX5_told_72 : decode cX5_told 72 = .ok (.aload_n 0, 1) := by decide +kernel
theorem dX5_told_73 : decode cX5_told 73 = .ok (.iconst 1, 1) := by decide +kernel
theorem dX5_told_74 : decode cX5_told 74 = .ok (.invokevirtual 178, 3) := by decide +kernel
theorem dX5_told_77 : decode cX5_told 77 = .ok (.ireturn, 1) := by decide +kernel
theorem dX5_told_78 : decode cX5_told 78 = .ok (.aload_n 0, 1) := by decide +kernel
theorem dX5_told_79 : decode cX5_told 79 = .ok (.bipush (-109), 2) := by decide +kernel
theorem dX5_told_81 : decode cX5_told 81 = .ok (.invokevirtual 107, 3) := by decide +kernel
theorem dX5_told_84 : decode cX5_told 84 = .ok (.ireturn, 1) := by decide +kernel
theorem dX5_told_85 : decode cX5_told 85 = .ok (.aload_n 0, 1) := by decide +kernel
theorem dX5_told_86 : decode cX5_told 86 = .ok (.invokevirtual 175, 3) := by decide +kernel
theorem dX5_told_89 : decode cX5_told 89 = .ok (.ireturn, 1) := by decide +kernel
theorem dX5_told_90 : decode cX5_told 90 = .ok (.aload_n 0, 1) := by decide +kernel
theorem dX5_told_91 : decode cX5_told 91 = .ok (.getfield 72, 3) := by decide +kernel
theorem dX5_told_94 : decode cX5_told 94 = .ok (.ireturn, 1) := by decide +kernel
theorem dX5_told_95 : decode cX5_told 95 = .ok (.aload_n 0, 1) := by decide +kernel
theorem dX5_told_96 : decode cX5_told 96 = .ok (.invokevirtual 181, 3) := by decide +kernel
theorem dX5_told_99 : decode cX5_told 99 = .ok (.ireturn, 1) := by decide +kernel
theorem dX5_told_100 : decode cX5_told 100 = .ok (.aload_n 0, 1) := by decide +kernel
theorem dX5_told_101 : decode cX5_told 101 = .ok (.getfield 68, 3) := by decide +kernel
theorem dX5_told_104 : decode cX5_told 104 = .ok (.ireturn, 1) := by decide +kernel
theorem dX5_told_105 : decode cX5_told 105 = .ok (.aload_n 0, 1) := by decide +kernel
theorem dX5_told_106 : decode cX5_told 106 = .ok (.getfield 75, 3) := by decide +kernel
theorem dX5_told_109 : decode cX5_told 109 = .ok (.ireturn, 1) := by decide +kernel
theorem dX5_told_110 : decode cX5_told 110 = .ok (.bipush (-102), 2) := by decide +kernel
theorem dX5_told_112 : decode cX5_told 112 = .ok (.ireturn, 1) := by decide +kernel
theorem dX5_clear_0 : decode cX5_clear 0 = .ok (.aload_n 0, 1) := by decide +kernel
theorem dX5_clear_1 : decode cX5_clear 1 = .ok (.getfield 78, 3) := by decide +kernel
theorem dX5_clear_4 : decode cX5_clear 4 = .ok (.istore_n 1, 1) := by decide +kernel
theorem dX5_clear_5 : decode cX5_clear 5 = .ok (.aload_n 0, 1) := by decide +kernel
theorem dX5_clear_6 : decode cX5_clear 6 = .ok (.invokevirtual 61, 3) := by decide +kernel
theorem dX5_clear_9 : decode cX5_clear 9 = .ok (.iload_n 1, 1) := by decide +kernel
theorem dX5_clear_10 : decode cX5_clear 10 = .ok (.ireturn, 1) := by decide +kernel
