theorem dX5_init_0 : decode cX5_init 0 = .ok (.aload_n 0, 1) := by decide +kernel
theorem dX5_init_1 : decode cX5_init 1 = .ok (.invokespecial 1, 3) := by decide +kernel
theorem dX5_init_4 : decode cX5_init 4 = .ok (.aload_n 0, 1) := by decide +kernel
theorem dX5_init_5 : decode cX5_init 5 = .ok (.bipush 10, 2) := by decide +kernel
theorem dX5_init_7 : decode cX5_init 7 = .ok (.newarray .int, 2) := by decide +kernel
theorem dX5_init_9 : decode cX5_init 9 = .ok (.putfield 7, 3) := by decide +kernel
theorem dX5_init_12 : decode cX5_init 12 = .ok (.aload_n 0, 1) := by decide +kernel
theorem dX5_init_13 : decode cX5_init 13 = .ok (.bipush 10, 2) := by decide +kernel
theorem dX5_init_15 : decode cX5_init 15 = .ok (.newarray .int, 2) := by decide +kernel
theorem dX5_init_17 : decode cX5_init 17 = .ok (.putfield 13, 3) := by decide +kernel
theorem dX5_init_20 : decode cX5_init 20 = .ok (.aload_n 0, 1) := by decide +kernel
theorem dX5_init_21 : decode cX5_init 21 = .ok (.bipush 10, 2) := by decide +kernel
theorem dX5_init_23 : decode cX5_init 23 = .ok (.newarray .int, 2) := by decide +kernel
theorem dX5_init_25 : decode cX5_init 25 = .ok (.putfield 16, 3) := by decide +kernel
theorem dX5_init_28 : decode cX5_init 28 = .ok (.aload_n 0, 1) := by decide +kernel
theorem dX5_init_29 : decode cX5_init 29 = .ok (.bipush 10, 2) := by decide +kernel
theorem dX5_init_31 : decode cX5_init 31 = .ok (.newarray .int, 2) := by decide +kernel
theorem dX5_init_33 : decode cX5_init 33 = .ok (.putfield 19, 3) := by decide +kernel
theorem dX5_init_36 : decode cX5_init 36 = .ok (.aload_n 0, 1) := by decide +kernel
theorem dX5_init_37 : decode cX5_init 37 = .ok (.bipush 6, 2) := by decide +kernel
theorem dX5_init_39 : decode cX5_init 39 = .ok (.newarray .int, 2) := by decide +kernel
theorem dX5_init_41 : decode cX5_init 41 = .ok (.putfield 22, 3) := by decide +kernel
theorem dX5_init_44 : decode cX5_init 44 = .ok (.aload_n 0, 1) := by decide +kernel
theorem dX5_init_45 : decode cX5_init 45 = .ok (.bipush 6, 2) := by decide +kernel
theorem dX5_init_47 : decode cX5_init 47 = .ok (.newarray .int, 2) := by decide +kernel
theorem dX5_init_49 : decode cX5_init 49 = .ok (.putfield 25, 3) := by decide +kernel
theorem dX5_init_52 : decode cX5_init 52 = .ok (.aload_n 0, 1) := by decide +kernel
theorem dX5_init_53 : decode cX5_init 53 = .ok (.iconst 5, 1) := by decide +kernel
theorem dX5_init_54 : decode cX5_init 54 = .ok (.newarray .int, 2) := by decide +kernel
theorem dX5_init_56 : decode cX5_init 56 = .ok (.putfield 28, 3) := by decide +kernel
theorem dX5_init_59 : decode cX5_init 59 = .ok (.aload_n 0, 1) := by decide +kernel
theorem dX5_init_60 : decode cX5_init 60 = .ok (.iconst 5, 1) := by decide +kernel
theorem dX5_init_61 : decode cX5_init 61 = .ok (.newarray .int, 2) := by decide +kernel
theorem dX5_init_63 : decode cX5_init 63 = .ok (.putfield 31, 3) := by decide +kernel
theorem dX5_init_66 : decode cX5_init 66 = .ok (.aload_n 0, 1) := by decide +kernel
theorem dX5_init_67 : decode cX5_init 67 = .ok (.bipush 60, 2) := by decide +kernel
theorem dX5_init_69 : decode cX5_init 69 = .ok (.newarray .int, 2) := by decide +kernel
theorem dX5_init_71 : decode cX5_init 71 = .ok (.putfield 34, 3) := by decide +kernel
theorem dX5_init_74 : decode cX5_init 74 = .ok (.aload_n 0, 1) := by decide +kernel
theorem dX5_init_75 : decode cX5_init 75 = .ok (.bipush 60, 2) := by decide +kernel
theorem dX5_init_77 : decode cX5_init 77 = .ok (.newarray .int, 2) := by decide +kernel
theorem dX5_init_79 : decode cX5_init 79 = .ok (.putfield 37, 3) := by decide +kernel
theorem dX5_init_82 : decode cX5_init 82 = .ok (.aload_n 0, 1) := by decide +kernel
theorem dX5_init_83 : decode cX5_init 83 = .ok (.sipush 240, 3) := by decide +kernel
theorem dX5_init_86 : decode cX5_init 86 = .ok (.newarray .int, 2) := by decide +kernel
theorem dX5_init_88 : decode cX5_init 88 = .ok (.putfield 40, 3) := by decide +kernel
theorem dX5_init_91 : decode cX5_init 91 = .ok (.aload_n 0, 1) := by decide +kernel
theorem dX5_init_92 : decode cX5_init 92 = .ok (.bipush 60, 2) := by decide +kernel
theorem dX5_init_94 : decode cX5_init 94 = .ok (.newarray .int, 2) := by decide +kernel
theorem dX5_init_96 : decode cX5_init 96 = .ok (.putfield 43, 3) := by decide +kernel
theorem dX5_init_99 : decode cX5_init 99 = .ok (.aload_n 0, 1) := by decide +kernel
theorem dX5_init_100 : decode cX5_init 100 = .ok (.bipush 60, 2) := by decide +kernel
theorem dX5_init_102 : decode cX5_init 102 = .ok (.newarray .int, 2) := by decide +kernel
theorem dX5_init_104 : decode cX5_init 104 = .ok (.putfield 46, 3) := by decide +kernel
theorem dX5_init_107 : decode cX5_init 107 = .ok (.aload_n 0, 1) := by decide +kernel
theorem dX5_init_108 : decode cX5_init 108 = .ok (.bipush 60, 2) := by decide +kernel
theorem dX5_init_110 : decode cX5_init 110 = .ok (.newarray .int, 2) := by decide +kernel
theorem dX5_init_112 : decode cX5_init 112 = .ok (.putfield 49, 3) := by decide +kernel
theorem dX5_init_115 : decode cX5_init 115 = .ok (.aload_n 0, 1) := by decide +kernel
theorem dX5_init_116 : decode cX5_init 116 = .ok (.sipush 960, 3) := by decide +kernel
theorem dX5_init_119 : decode cX5_init 119 = .ok (.newarray .int, 2) := by decide +kernel
theorem dX5_init_121 : decode cX5_init 121 = .ok (.putfield 52, 3) := by decide +kernel
theorem dX5_init_124 : decode cX5_init 124 = .ok (.aload_n 0, 1) := by decide +kernel
theorem dX5_init_125 : decode cX5_init 125 = .ok (.sipush 960, 3) := by decide +kernel
theorem dX5_init_128 : decode cX5_init 128 = .ok (.newarray .int, 2) := by decide +kernel
theorem dX5_init_130 : decode cX5_init 130 = .ok (.putfield 55, 3) := by decide +kernel
theorem dX5_init_133 : decode cX5_init 133 = .ok (.aload_n 0, 1) := by decide +kernel
theorem dX5_init_134 : decode cX5_init 134 = .ok (.sipush 960, 3) := by decide +kernel
theorem dX5_init_137 : decode cX5_init 137 = .ok (.newarray .int, 2) := by decide +kernel
theorem dX5_init_139 : decode cX5_init 139 = .ok (.putfield 58, 3) := by decide +kernel
theorem dX5_init_142 : decode cX5_init 142 = .ok (.aload_n 0, 1) := by decide +kernel
theorem dX5_init_143 : decode cX5_init 143 = .ok (.invokevirtual 61, 3) := by decide +kernel
theorem dX5_init_146 : decode cX5_init 146 = .ok (.return_, 1) := by decide +kernel
theorem dX5_in_0 : decode cX5_in 0 = .ok (.lload_n 0, 1) := by decide +kernel
theorem dX5_in_1 : decode cX5_in 1 = .ok (.lload_n 2, 1) := by decide +kernel
theorem dX5_in_2 : decode cX5_in 2 = .ok (.lcmp, 1) := by decide +kernel
theorem dX5_in_3 : decode cX5_in 3 = .ok (.ifCond .lt 14, 3) := by decide +kernel
theorem dX5_in_6 : decode cX5_in 6 = .ok (.lload_n 0, 1) := by decide +kernel
theorem dX5_in_7 : decode cX5_in 7 = .ok (.lload 4, 2) := by decide +kernel
theorem dX5_in_9 : decode cX5_in 9 = .ok (.lcmp, 1) := by decide +kernel
theorem dX5_in_10 : decode cX5_in 10 = .ok (.ifCond .gt 7, 3) := by decide +kernel
theorem dX5_in_13 : decode cX5_in 13 = .ok (.iconst 1, 1) := by decide +kernel
theorem dX5_in_14 : decode cX5_in 14 = .ok (.goto 4, 3) := by decide +kernel
theorem dX5_in_17 : decode cX5_in 17 = .ok (.iconst 0, 1) := by decide +kernel
theorem dX5_in_18 : decode cX5_in 18 = .ok (.ireturn, 1) := by decide +kernel
theorem dX5_begin_0 : decode cX5_begin 0 = .ok (.aload_n 0, 1) := by decide +kernel
theorem dX5_begin_1 : decode cX5_begin 1 = .ok (.iconst 0, 1) := by decide +kernel
theorem dX5_begin_2 : decode cX5_begin 2 = .ok (.putfield 64, 3) := by decide +kernel
theorem dX5_begin_5 : decode cX5_begin 5 = .ok (.aload_n 0, 1) := by decide +kernel
theorem dX5_begin_6 : decode cX5_begin 6 = .ok (.iconst 1, 1) := by decide +kernel
theorem dX5_begin_7 : decode cX5_begin 7 = .ok (.putfield 68, 3) := by decide +kernel
theorem dX5_begin_10 : decode cX5_begin 10 = .ok (.aload_n 0, 1) := by decide +kernel
theorem dX5_begin_11 : decode cX5_begin 11 = .ok (.getfield 7, 3) := by decide +kernel
theorem dX5_begin_14 : decode cX5_begin 14 = .ok (.iconst 0, 1) := by decide +kernel
theorem dX5_begin_15 : decode cX5_begin 15 = .ok (.iconst 0, 1) := by decide +kernel
theorem dX5_begin_16 : decode cX5_begin 16 = .ok (.iastore, 1) := by decide +kernel
theorem dX5_begin_17 : decode cX5_begin 17 = .ok (.aload_n 0, 1) := by decide +kernel
theorem dX5_begin_18 : decode cX5_begin 18 = .ok (.getfield 13, 3) := by decide +kernel
theorem dX5_begin_21 : decode cX5_begin 21 = .ok (.iconst 0, 1) := by decide +kernel
theorem dX5_begin_22 : decode cX5_begin 22 = .ok (.bipush 10, 2) := by decide +kernel
theorem dX5_begin_24 : decode cX5_begin 24 = .ok (.iastore, 1) := by decide +kernel
theorem dX5_begin_25 : decode cX5_begin 25 = .ok (.aload_n 0, 1) := by decide +kernel
theorem dX5_begin_26 : decode cX5_begin 26 = .ok (.getfield 16, 3) := by decide +kernel
theorem dX5_begin_29 : decode cX5_begin 29 = .ok (.iconst 0, 1) := by decide +kernel
theorem dX5_begin_30 : decode cX5_begin 30 = .ok (.iconst 1, 1) := by decide +kernel
theorem dX5_begin_31 : decode cX5_begin 31 = .ok (.iastore, 1) := by decide +kernel
theorem dX5_begin_32 : decode cX5_begin 32 = .ok (.aload_n 0, 1) := by decide +kernel
theorem dX5_begin_33 : decode cX5_begin 33 = .ok (.getfield 19, 3) := by decide +kernel
theorem dX5_begin_36 : decode cX5_begin 36 = .ok (.iconst 0, 1) := by decide +kernel
theorem dX5_begin_37 : decode cX5_begin 37 = .ok (.bipush 8, 2) := by decide +kernel
theorem dX5_begin_39 : decode cX5_begin 39 = .ok (.iastore, 1) := by decide +kernel
theorem dX5_begin_40 : decode cX5_begin 40 = .ok (.iconst 0, 1) := by decide +kernel
theorem dX5_begin_41 : decode cX5_begin 41 = .ok (.istore_n 1, 1) := by decide +kernel
theorem dX5_begin_42 : decode cX5_begin 42 = .ok (.iload_n 1, 1) := by decide +kernel
theorem dX5_begin_43 : decode cX5_begin 43 = .ok (.bipush 6, 2) := by decide +kernel
theorem dX5_begin_45 : decode cX5_begin 45 = .ok (.if_icmp .ge 26, 3) := by decide +kernel
theorem dX5_begin_48 : decode cX5_begin 48 = .ok (.aload_n 0, 1) := by decide +kernel
theorem dX5_begin_49 : decode cX5_begin 49 = .ok (.getfield 22, 3) := by decide +kernel
theorem dX5_begin_52 : decode cX5_begin 52 = .ok (.iload_n 1, 1) := by decide +kernel
theorem dX5_begin_53 : decode cX5_begin 53 = .ok (.ldc 71, 2) := by decide +kernel
theorem dX5_begin_55 : decode cX5_begin 55 = .ok (.iastore, 1) := by decide +kernel
theorem dX5_begin_56 : decode cX5_begin 56 = .ok (.aload_n 0, 1) := by decide +kernel
theorem dX5_begin_57 : decode cX5_begin 57 = .ok (.getfield 25, 3) := by decide +kernel
theorem dX5_begin_60 : decode cX5_begin 60 = .ok (.iload_n 1, 1) := by decide +kernel
theorem dX5_begin_61 : decode cX5_begin 61 = .ok (.sipush 1000, 3) := by decide +kernel
theorem dX5_begin_64 : decode cX5_begin 64 = .ok (.iastore, 1) := by decide +kernel
theorem dX5_begin_65 : decode cX5_begin 65 = .ok (.iinc 1 1, 3) := by decide +kernel
theorem dX5_begin_68 : decode cX5_begin 68 = .ok (.goto (-26), 3) := by decide +kernel
theorem dX5_begin_71 : decode cX5_begin 71 = .ok (.iconst 0, 1) := by decide +kernel
theorem dX5_begin_72 : decode cX5_begin 72 = .ok (.istore_n 1, 1) := by decide +kernel
theorem dX5_begin_73 : decode cX5_begin 73 = .ok (.iload_n 1, 1) := by decide +kernel
theorem dX5_begin_74 : decode cX5_begin 74 = .ok (.iconst 5, 1) := by decide +kernel
theorem dX5_begin_75 : decode cX5_begin 75 = .ok (.if_icmp .ge 23, 3) := by decide +kernel
theorem dX5_begin_78 : decode cX5_begin 78 = .ok (.aload_n 0, 1) := by decide +kernel
theorem dX5_begin_79 : decode cX5_begin 79 = .ok (.getfield 28, 3) := by decide +kernel
theorem dX5_begin_82 : decode cX5_begin 82 = .ok (.iload_n 1, 1) := by decide +kernel
theorem dX5_begin_83 : decode cX5_begin 83 = .ok (.iconst 0, 1) := by decide +kernel
theorem dX5_begin_84 : decode cX5_begin 84 = .ok (.iastore, 1) := by decide +kernel
theorem dX5_begin_85 : decode cX5_begin 85 = .ok (.aload_n 0, 1) := by decide +kernel
theorem dX5_begin_86 : decode cX5_begin 86 = .ok (.getfield 31, 3) := by decide +kernel
theorem dX5_begin_89 : decode cX5_begin 89 = .ok (.iload_n 1, 1) := by decide +kernel
theorem dX5_begin_90 : decode cX5_begin 90 = .ok (.iconst 0, 1) := by decide +kernel
theorem dX5_begin_91 : decode cX5_begin 91 = .ok (.iastore, 1) := by decide +kernel
theorem dX5_begin_92 : decode cX5_begin 92 = .ok (.iinc 1 1, 3) := by decide +kernel
theorem dX5_begin_95 : decode cX5_begin 95 = .ok (.goto (-22), 3) := by decide +kernel
theorem dX5_begin_98 : decode cX5_begin 98 = .ok (.aload_n 0, 1) := by decide +kernel
theorem dX5_begin_99 : decode cX5_begin 99 = .ok (.iconst 0, 1) := by decide +kernel
theorem dX5_begin_100 : decode cX5_begin 100 = .ok (.putfield 72, 3) := by decide +kernel
theorem dX5_begin_103 : decode cX5_begin 103 = .ok (.aload_n 0, 1) := by decide +kernel
theorem dX5_begin_104 : decode cX5_begin 104 = .ok (.iconst 0, 1) := by decide +kernel
theorem dX5_begin_105 : decode cX5_begin 105 = .ok (.putfield 75, 3) := by decide +kernel
theorem dX5_begin_108 : decode cX5_begin 108 = .ok (.aload_n 0, 1) := by decide +kernel
theorem dX5_begin_109 : decode cX5_begin 109 = .ok (.iconst 0, 1) := by decide +kernel
theorem dX5_begin_110 : decode cX5_begin 110 = .ok (.putfield 78, 3) := by decide +kernel
theorem dX5_begin_113 : decode cX5_begin 113 = .ok (.return_, 1) := by decide +kernel
theorem dX5_noAccount_0 : decode cX5_noAccount 0 = .ok (.iload_n 1, 1) := by decide +kernel
theorem dX5_noAccount_1 : decode cX5_noAccount 1 = .ok (.i2l, 1) := by decide +kernel
theorem dX5_noAccount_2 : decode cX5_noAccount 2 = .ok (.lconst 0, 1) := by decide +kernel
theorem dX5_noAccount_3 : decode cX5_noAccount 3 = .ok (.ldc2_w 81, 3) := by decide +kernel
theorem dX5_noAccount_6 : decode cX5_noAccount 6 = .ok (.invokestatic 83, 3) := by decide +kernel
theorem dX5_noAccount_9 : decode cX5_noAccount 9 = .ok (.ifCond .ne 7, 3) := by decide +kernel
theorem dX5_noAccount_12 : decode cX5_noAccount 12 = .ok (.iconst 1, 1) := by decide +kernel
theorem dX5_noAccount_13 : decode cX5_noAccount 13 = .ok (.goto 4, 3) := by decide +kernel
theorem dX5_noAccount_16 : decode cX5_noAccount 16 = .ok (.iconst 0, 1) := by decide +kernel
theorem dX5_noAccount_17 : decode cX5_noAccount 17 = .ok (.ireturn, 1) := by decide +kernel
theorem dX5_noObject_0 : decode cX5_noObject 0 = .ok (.iload_n 1, 1) := by decide +kernel
theorem dX5_noObject_1 : decode cX5_noObject 1 = .ok (.i2l, 1) := by decide +kernel
theorem dX5_noObject_2 : decode cX5_noObject 2 = .ok (.lconst 0, 1) := by decide +kernel
theorem dX5_noObject_3 : decode cX5_noObject 3 = .ok (.aload_n 0, 1) := by decide +kernel
theorem dX5_noObject_4 : decode cX5_noObject 4 = .ok (.getfield 78, 3) := by decide +kernel
theorem dX5_noObject_7 : decode cX5_noObject 7 = .ok (.iconst 1, 1) := by decide +kernel
theorem dX5_noObject_8 : decode cX5_noObject 8 = .ok (.isub, 1) := by decide +kernel
theorem dX5_noObject_9 : decode cX5_noObject 9 = .ok (.i2l, 1) := by decide +kernel
theorem dX5_noObject_10 : decode cX5_noObject 10 = .ok (.invokestatic 83, 3) := by decide +kernel
theorem dX5_noObject_13 : decode cX5_noObject 13 = .ok (.ifCond .ne 7, 3) := by decide +kernel
theorem dX5_noObject_16 : decode cX5_noObject 16 = .ok (.iconst 1, 1) := by decide +kernel
theorem dX5_noObject_17 : decode cX5_noObject 17 = .ok (.goto 4, 3) := by decide +kernel
theorem dX5_noObject_20 : decode cX5_noObject 20 = .ok (.iconst 0, 1) := by decide +kernel
theorem dX5_noObject_21 : decode cX5_noObject 21 = .ok (.ireturn, 1) := by decide +kernel
theorem dX5_edition_0 : decode cX5_edition 0 = .ok (.iload_n 1, 1) := by decide +kernel
theorem dX5_edition_1 : decode cX5_edition 1 = .ok (.i2l, 1) := by decide +kernel
theorem dX5_edition_2 : decode cX5_edition 2 = .ok (.lconst 0, 1) := by decide +kernel
theorem dX5_edition_3 : decode cX5_edition 3 = .ok (.ldc2_w 87, 3) := by decide +kernel
theorem dX5_edition_6 : decode cX5_edition 6 = .ok (.invokestatic 83, 3) := by decide +kernel
theorem dX5_edition_9 : decode cX5_edition 9 = .ok (.ifCond .eq 40, 3) := by decide +kernel
theorem dX5_edition_12 : decode cX5_edition 12 = .ok (.iload_n 2, 1) := by decide +kernel
theorem dX5_edition_13 : decode cX5_edition 13 = .ok (.i2l, 1) := by decide +kernel
theorem dX5_edition_14 : decode cX5_edition 14 = .ok (.lconst 0, 1) := by decide +kernel
theorem dX5_edition_15 : decode cX5_edition 15 = .ok (.ldc2_w 89, 3) := by decide +kernel
theorem dX5_edition_18 : decode cX5_edition 18 = .ok (.invokestatic 83, 3) := by decide +kernel
theorem dX5_edition_21 : decode cX5_edition 21 = .ok (.ifCond .eq 28, 3) := by decide +kernel
theorem dX5_edition_24 : decode cX5_edition 24 = .ok (.iload_n 3, 1) := by decide +kernel
theorem dX5_edition_25 : decode cX5_edition 25 = .ok (.i2l, 1) := by decide +kernel
theorem dX5_edition_26 : decode cX5_edition 26 = .ok (.lconst 0, 1) := by decide +kernel
theorem dX5_edition_27 : decode cX5_edition 27 = .ok (.ldc2_w 91, 3) := by decide +kernel
theorem dX5_edition_30 : decode cX5_edition 30 = .ok (.invokestatic 83, 3) := by decide +kernel
theorem dX5_edition_33 : decode cX5_edition 33 = .ok (.ifCond .eq 16, 3) := by decide +kernel
theorem dX5_edition_36 : decode cX5_edition 36 = .ok (.iload 4, 2) := by decide +kernel
theorem dX5_edition_38 : decode cX5_edition 38 = .ok (.i2l, 1) := by decide +kernel
theorem dX5_edition_39 : decode cX5_edition 39 = .ok (.lconst 1, 1) := by decide +kernel
theorem dX5_edition_40 : decode cX5_edition 40 = .ok (.ldc2_w 93, 3) := by decide +kernel
theorem dX5_edition_43 : decode cX5_edition 43 = .ok (.invokestatic 83, 3) := by decide +kernel
theorem dX5_edition_46 : decode cX5_edition 46 = .ok (.ifCond .ne 6, 3) := by decide +kernel
theorem dX5_edition_49 : decode cX5_edition 49 = .ok (.bipush (-102), 2) := by decide +kernel
theorem dX5_edition_51 : decode cX5_edition 51 = .ok (.ireturn, 1) := by decide +kernel
theorem dX5_edition_52 : decode cX5_edition 52 = .ok (.iload_n 1, 1) := by decide +kernel
theorem dX5_edition_53 : decode cX5_edition 53 = .ok (.aload_n 0, 1) := by decide +kernel
theorem dX5_edition_54 : decode cX5_edition 54 = .ok (.getfield 64, 3) := by decide +kernel
theorem dX5_edition_57 : decode cX5_edition 57 = .ok (.iconst 5, 1) := by decide +kernel
theorem dX5_edition_58 : decode cX5_edition 58 = .ok (.iadd, 1) := by decide +kernel
theorem dX5_edition_59 : decode cX5_edition 59 = .ok (.if_icmp .lt 18, 3) := by decide +kernel
theorem dX5_edition_62 : decode cX5_edition 62 = .ok (.iload_n 1, 1) := by decide +kernel
theorem dX5_edition_63 : decode cX5_edition 63 = .ok (.aload_n 0, 1) := by decide +kernel
theorem dX5_edition_64 : decode cX5_edition 64 = .ok (.getfield 7, 3) := by decide +kernel
theorem dX5_edition_67 : decode cX5_edition 67 = .ok (.aload_n 0, 1) := by decide +kernel
theorem dX5_edition_68 : decode cX5_edition 68 = .ok (.getfield 68, 3) := by decide +kernel
theorem dX5_edition_71 : decode cX5_edition 71 = .ok (.iconst 1, 1) := by decide +kernel
theorem dX5_edition_72 : decode cX5_edition 72 = .ok (.isub, 1) := by decide +kernel
theorem dX5_edition_73 : decode cX5_edition 73 = .ok (.iaload, 1) := by decide +kernel
theorem dX5_edition_74 : decode cX5_edition 74 = .ok (.if_icmp .gt 6, 3) := by decide +kernel
theorem dX5_edition_77 : decode cX5_edition 77 = .ok (.bipush (-103), 2) := by decide +kernel
theorem dX5_edition_79 : decode cX5_edition 79 = .ok (.ireturn, 1) := by decide +kernel
theorem dX5_edition_80 : decode cX5_edition 80 = .ok (.aload_n 0, 1) := by decide +kernel
theorem dX5_edition_81 : decode cX5_edition 81 = .ok (.getfield 68, 3) := by decide +kernel
theorem dX5_edition_84 : decode cX5_edition 84 = .ok (.bipush 10, 2) := by decide +kernel
theorem dX5_edition_86 : decode cX5_edition 86 = .ok (.if_icmp .ne 6, 3) := by decide +kernel
theorem dX5_edition_89 : decode cX5_edition 89 = .ok (.bipush (-107), 2) := by decide +kernel
theorem dX5_edition_91 : decode cX5_edition 91 = .ok (.ireturn, 1) := by decide +kernel
theorem dX5_edition_92 : decode cX5_edition 92 = .ok (.aload_n 0, 1) := by decide +kernel
theorem dX5_edition_93 : decode cX5_edition 93 = .ok (.getfield 7, 3) := by decide +kernel
theorem dX5_edition_96 : decode cX5_edition 96 = .ok (.aload_n 0, 1) := by decide +kernel
theorem dX5_edition_97 : decode cX5_edition 97 = .ok (.getfield 68, 3) := by decide +kernel
theorem dX5_edition_100 : decode cX5_edition 100 = .ok (.iload_n 1, 1) := by decide +kernel
theorem dX5_edition_101 : decode cX5_edition 101 = .ok (.iastore, 1) := by decide +kernel
theorem dX5_edition_102 : decode cX5_edition 102 = .ok (.aload_n 0, 1) := by decide +kernel
theorem dX5_edition_103 : decode cX5_edition 103 = .ok (.getfield 13, 3) := by decide +kernel
theorem dX5_edition_106 : decode cX5_edition 106 = .ok (.aload_n 0, 1) := by decide +kernel
theorem dX5_edition_107 : decode cX5_edition 107 = .ok (.getfield 68, 3) := by decide +kernel
theorem dX5_edition_110 : decode cX5_edition 110 = .ok (.iload_n 2, 1) := by decide +kernel
theorem dX5_edition_111 : decode cX5_edition 111 = .ok (.iastore, 1) := by decide +kernel
theorem dX5_edition_112 : decode cX5_edition 112 = .ok (.aload_n 0, 1) := by decide +kernel
theorem dX5_edition_113 : decode cX5_edition 113 = .ok (.getfield 16, 3) := by decide +kernel
theorem dX5_edition_116 : decode cX5_edition 116 = .ok (.aload_n 0, 1) := by decide +kernel
theorem dX5_edition_117 : decode cX5_edition 117 = .ok (.getfield 68, 3) := by decide +kernel
theorem dX5_edition_120 : decode cX5_edition 120 = .ok (.iload_n 3, 1) := by decide +kernel
theorem dX5_edition_121 : decode cX5_edition 121 = .ok (.iastore, 1) := by decide +kernel
theorem dX5_edition_122 : decode cX5_edition 122 = .ok (.aload_n 0, 1) := by decide +kernel
theorem dX5_edition_123 : decode cX5_edition 123 = .ok (.getfield 19, 3) := by decide +kernel
theorem dX5_edition_126 : decode cX5_edition 126 = .ok (.aload_n 0, 1) := by decide +kernel
theorem dX5_edition_127 : decode cX5_edition 127 = .ok (.getfield 68, 3) := by decide +kernel
theorem dX5_edition_130 : decode cX5_edition 130 = .ok (.iload 4, 2) := by decide +kernel
theorem dX5_edition_132 : decode cX5_edition 132 = .ok (.iastore, 1) := by decide +kernel
theorem dX5_edition_133 : decode cX5_edition 133 = .ok (.aload_n 0, 1) := by decide +kernel
theorem dX5_edition_134 : decode cX5_edition 134 = .ok (.dup, 1) := by decide +kernel
theorem dX5_edition_135 : decode cX5_edition 135 = .ok (.getfield 68, 3) := by decide +kernel
theorem dX5_edition_138 : decode cX5_edition 138 = .ok (.iconst 1, 1) := by decide +kernel
theorem dX5_edition_139 : decode cX5_edition 139 = .ok (.iadd, 1) := by decide +kernel
theorem dX5_edition_140 : decode cX5_edition 140 = .ok (.putfield 68, 3) := by decide +kernel
theorem dX5_edition_143 : decode cX5_edition 143 = .ok (.aload_n 0, 1) := by decide +kernel
theorem dX5_edition_144 : decode cX5_edition 144 = .ok (.getfield 68, 3) := by decide +kernel
theorem dX5_edition_147 : decode cX5_edition 147 = .ok (.ireturn, 1) := by decide +kernel
theorem dX5_editionAt_0 : decode cX5_editionAt 0 = .ok (.iconst 0, 1) := by decide +kernel
theorem dX5_editionAt_1 : decode cX5_editionAt 1 = .ok (.istore_n 2, 1) := by decide +kernel
theorem dX5_editionAt_2 : decode cX5_editionAt 2 = .ok (.iconst 0, 1) := by decide +kernel
theorem dX5_editionAt_3 : decode cX5_editionAt 3 = .ok (.istore_n 3, 1) := by decide +kernel
theorem dX5_editionAt_4 : decode cX5_editionAt 4 = .ok (.iload_n 3, 1) := by decide +kernel
theorem dX5_editionAt_5 : decode cX5_editionAt 5 = .ok (.aload_n 0, 1) := by decide +kernel
theorem dX5_editionAt_6 : decode cX5_editionAt 6 = .ok (.getfield 68, 3) := by decide +kernel
theorem dX5_editionAt_9 : decode cX5_editionAt 9 = .ok (.if_icmp .ge 25, 3) := by decide +kernel
theorem dX5_editionAt_12 : decode cX5_editionAt 12 = .ok (.aload_n 0, 1) := by decide +kernel
theorem dX5_editionAt_13 : decode cX5_editionAt 13 = .ok (.getfield 7, 3) := by decide +kernel
theorem dX5_editionAt_16 : decode cX5_editionAt 16 = .ok (.iload_n 3, 1) := by decide +kernel
theorem dX5_editionAt_17 : decode cX5_editionAt 17 = .ok (.iaload, 1) := by decide +kernel
theorem dX5_editionAt_18 : decode cX5_editionAt 18 = .ok (.iload_n 1, 1) := by decide +kernel
theorem dX5_editionAt_19 : decode cX5_editionAt 19 = .ok (.if_icmp .gt 7, 3) := by decide +kernel
theorem dX5_editionAt_22 : decode cX5_editionAt 22 = .ok (.iload_n 3, 1) := by decide +kernel
theorem dX5_editionAt_23 : decode cX5_editionAt 23 = .ok (.goto 4, 3) := by decide +kernel
theorem dX5_editionAt_26 : decode cX5_editionAt 26 = .ok (.iload_n 2, 1) := by decide +kernel
theorem dX5_editionAt_27 : decode cX5_editionAt 27 = .ok (.istore_n 2, 1) := by decide +kernel
theorem dX5_editionAt_28 : decode cX5_editionAt 28 = .ok (.iinc 3 1, 3) := by decide +kernel
theorem dX5_editionAt_31 : decode cX5_editionAt 31 = .ok (.goto (-27), 3) := by decide +kernel
theorem dX5_editionAt_34 : decode cX5_editionAt 34 = .ok (.iload_n 2, 1) := by decide +kernel
theorem dX5_editionAt_35 : decode cX5_editionAt 35 = .ok (.ireturn, 1) := by decide +kernel
theorem dX5_priceAt_0 : decode cX5_priceAt 0 = .ok (.iload_n 1, 1) := by decide +kernel
theorem dX5_priceAt_1 : decode cX5_priceAt 1 = .ok (.i2l, 1) := by decide +kernel
theorem dX5_priceAt_2 : decode cX5_priceAt 2 = .ok (.lconst 0, 1) := by decide +kernel
theorem dX5_priceAt_3 : decode cX5_priceAt 3 = .ok (.ldc2_w 87, 3) := by decide +kernel
theorem dX5_priceAt_6 : decode cX5_priceAt 6 = .ok (.invokestatic 83, 3) := by decide +kernel
theorem dX5_priceAt_9 : decode cX5_priceAt 9 = .ok (.ifCond .eq 15, 3) := by decide +kernel
theorem dX5_priceAt_12 : decode cX5_priceAt 12 = .ok (.iload_n 2, 1) := by decide +kernel
theorem dX5_priceAt_13 : decode cX5_priceAt 13 = .ok (.i2l, 1) := by decide +kernel
theorem dX5_priceAt_14 : decode cX5_priceAt 14 = .ok (.lconst 0, 1) := by decide +kernel
theorem dX5_priceAt_15 : decode cX5_priceAt 15 = .ok (.ldc2_w 95, 3) := by decide +kernel
theorem dX5_priceAt_18 : decode cX5_priceAt 18 = .ok (.invokestatic 83, 3) := by decide +kernel
theorem dX5_priceAt_21 : decode cX5_priceAt 21 = .ok (.ifCond .ne 6, 3) := by decide +kernel
theorem dX5_priceAt_24 : decode cX5_priceAt 24 = .ok (.bipush (-102), 2) := by decide +kernel
theorem dX5_priceAt_26 : decode cX5_priceAt 26 = .ok (.ireturn, 1) := by decide +kernel
theorem dX5_priceAt_27 : decode cX5_priceAt 27 = .ok (.aload_n 0, 1) := by decide +kernel
theorem dX5_priceAt_28 : decode cX5_priceAt 28 = .ok (.iload_n 1, 1) := by decide +kernel
theorem dX5_priceAt_29 : decode cX5_priceAt 29 = .ok (.invokevirtual 97, 3) := by decide +kernel
theorem dX5_priceAt_32 : decode cX5_priceAt 32 = .ok (.istore_n 3, 1) := by decide +kernel
theorem dX5_priceAt_33 : decode cX5_priceAt 33 = .ok (.iload_n 2, 1) := by decide +kernel
theorem dX5_priceAt_34 : decode cX5_priceAt 34 = .ok (.ifCond .ne 12, 3) := by decide +kernel
theorem dX5_priceAt_37 : decode cX5_priceAt 37 = .ok (.aload_n 0, 1) := by decide +kernel
theorem dX5_priceAt_38 : decode cX5_priceAt 38 = .ok (.getfield 13, 3) := by decide +kernel
theorem dX5_priceAt_41 : decode cX5_priceAt 41 = .ok (.iload_n 3, 1) := by decide +kernel
theorem dX5_priceAt_42 : decode cX5_priceAt 42 = .ok (.iaload, 1) := by decide +kernel
theorem dX5_priceAt_43 : decode cX5_priceAt 43 = .ok (.goto 37, 3) := by decide +kernel
theorem dX5_priceAt_46 : decode cX5_priceAt 46 = .ok (.iload_n 2, 1) := by decide +kernel
theorem dX5_priceAt_47 : decode cX5_priceAt 47 = .ok (.iconst 1, 1) := by decide +kernel
theorem dX5_priceAt_48 : decode cX5_priceAt 48 = .ok (.if_icmp .ne 12, 3) := by decide +kernel
theorem dX5_priceAt_51 : decode cX5_priceAt 51 = .ok (.aload_n 0, 1) := by decide +kernel
theorem dX5_priceAt_52 : decode cX5_priceAt 52 = .ok (.getfield 16, 3) := by decide +kernel
theorem dX5_priceAt_55 : decode cX5_priceAt 55 = .ok (.iload_n 3, 1) := by decide +kernel
theorem dX5_priceAt_56 : decode cX5_priceAt 56 = .ok (.iaload, 1) := by decide +kernel
theorem dX5_priceAt_57 : decode cX5_priceAt 57 = .ok (.goto 23, 3) := by decide +kernel
theorem dX5_priceAt_60 : decode cX5_priceAt 60 = .ok (.iload_n 2, 1) := by decide +kernel
theorem dX5_priceAt_61 : decode cX5_priceAt 61 = .ok (.iconst 2, 1) := by decide +kernel
theorem dX5_priceAt_62 : decode cX5_priceAt 62 = .ok (.if_icmp .ne 12, 3) := by decide +kernel
theorem dX5_priceAt_65 : decode cX5_priceAt 65 = .ok (.aload_n 0, 1) := by decide +kernel
theorem dX5_priceAt_66 : decode cX5_priceAt 66 = .ok (.getfield 19, 3) := by decide +kernel
theorem dX5_priceAt_69 : decode cX5_priceAt 69 = .ok (.iload_n 3, 1) := by decide +kernel
theorem dX5_priceAt_70 : decode cX5_priceAt 70 = .ok (.iaload, 1) := by decide +kernel
theorem dX5_priceAt_71 : decode cX5_priceAt 71 = .ok (.goto 9, 3) := by decide +kernel
theorem dX5_priceAt_74 : decode cX5_priceAt 74 = .ok (.aload_n 0, 1) := by decide +kernel
theorem dX5_priceAt_75 : decode cX5_priceAt 75 = .ok (.getfield 7, 3) := by decide +kernel
theorem dX5_priceAt_78 : decode cX5_priceAt 78 = .ok (.iload_n 3, 1) := by decide +kernel
theorem dX5_priceAt_79 : decode cX5_priceAt 79 = .ok (.iaload, 1) := by decide +kernel
theorem dX5_priceAt_80 : decode cX5_priceAt 80 = .ok (.ireturn, 1) := by decide +kernel
theorem dX5_price_0 : decode cX5_price 0 = .ok (.aload_n 0, 1) := by decide +kernel
theorem dX5_price_1 : decode cX5_price 1 = .ok (.getfield 13, 3) := by decide +kernel
theorem dX5_price_4 : decode cX5_price 4 = .ok (.aload_n 0, 1) := by decide +kernel
theorem dX5_price_5 : decode cX5_price 5 = .ok (.aload_n 0, 1) := by decide +kernel
theorem dX5_price_6 : decode cX5_price 6 = .ok (.getfield 64, 3) := by decide +kernel
theorem dX5_price_9 : decode cX5_price 9 = .ok (.invokevirtual 97, 3) := by decide +kernel
theorem dX5_price_12 : decode cX5_price 12 = .ok (.iaload, 1) := by decide +kernel
theorem dX5_price_13 : decode cX5_price 13 = .ok (.ireturn, 1) := by decide +kernel
theorem dX5_rent_0 : decode cX5_rent 0 = .ok (.aload_n 0, 1) := by decide +kernel
theorem dX5_rent_1 : decode cX5_rent 1 = .ok (.getfield 16, 3) := by decide +kernel
theorem dX5_rent_4 : decode cX5_rent 4 = .ok (.aload_n 0, 1) := by decide +kernel
theorem dX5_rent_5 : decode cX5_rent 5 = .ok (.aload_n 0, 1) := by decide +kernel
theorem dX5_rent_6 : decode cX5_rent 6 = .ok (.getfield 64, 3) := by decide +kernel
theorem dX5_rent_9 : decode cX5_rent 9 = .ok (.invokevirtual 97, 3) := by decide +kernel
theorem dX5_rent_12 : decode cX5_rent 12 = .ok (.iaload, 1) := by decide +kernel
theorem dX5_rent_13 : decode cX5_rent 13 = .ok (.ireturn, 1) := by decide +kernel
theorem dX5_charged_0 : decode cX5_charged 0 = .ok (.aload_n 0, 1) := by decide +kernel
theorem dX5_charged_1 : decode cX5_charged 1 = .ok (.getfield 19, 3) := by decide +kernel
theorem dX5_charged_4 : decode cX5_charged 4 = .ok (.aload_n 0, 1) := by decide +kernel
theorem dX5_charged_5 : decode cX5_charged 5 = .ok (.aload_n 0, 1) := by decide +kernel
theorem dX5_charged_6 : decode cX5_charged 6 = .ok (.getfield 64, 3) := by decide +kernel
theorem dX5_charged_9 : decode cX5_charged 9 = .ok (.invokevirtual 97, 3) := by decide +kernel
theorem dX5_charged_12 : decode cX5_charged 12 = .ok (.iaload, 1) := by decide +kernel
theorem dX5_charged_13 : decode cX5_charged 13 = .ok (.istore_n 2, 1) := by decide +kernel
theorem dX5_charged_14 : decode cX5_charged 14 = .ok (.iload_n 1, 1) := by decide +kernel
theorem dX5_charged_15 : decode cX5_charged 15 = .ok (.iload_n 2, 1) := by decide +kernel
theorem dX5_charged_16 : decode cX5_charged 16 = .ok (.if_icmp .le 7, 3) := by decide +kernel
theorem dX5_charged_19 : decode cX5_charged 19 = .ok (.iload_n 1, 1) := by decide +kernel
theorem dX5_charged_20 : decode cX5_charged 20 = .ok (.goto 4, 3) := by decide +kernel
theorem dX5_charged_23 : decode cX5_charged 23 = .ok (.iload_n 2, 1) := by decide +kernel
theorem dX5_charged_24 : decode cX5_charged 24 = .ok (.ireturn, 1) := by decide +kernel
theorem dX5_cap_0 : decode cX5_cap 0 = .ok (.aload_n 0, 1) := by decide +kernel
theorem dX5_cap_1 : decode cX5_cap 1 = .ok (.iload_n 1, 1) := by decide +kernel
theorem dX5_cap_2 : decode cX5_cap 2 = .ok (.invokevirtual 101, 3) := by decide +kernel
theorem dX5_cap_5 : decode cX5_cap 5 = .ok (.ifCond .eq 6, 3) := by decide +kernel
theorem dX5_cap_8 : decode cX5_cap 8 = .ok (.bipush (-101), 2) := by decide +kernel
theorem dX5_cap_10 : decode cX5_cap 10 = .ok (.ireturn, 1) := by decide +kernel
theorem dX5_cap_11 : decode cX5_cap 11 = .ok (.iload_n 2, 1) := by decide +kernel
theorem dX5_cap_12 : decode cX5_cap 12 = .ok (.i2l, 1) := by decide +kernel
theorem dX5_cap_13 : decode cX5_cap 13 = .ok (.lconst 0, 1) := by decide +kernel
theorem dX5_cap_14 : decode cX5_cap 14 = .ok (.ldc2_w 105, 3) := by decide +kernel
theorem dX5_cap_17 : decode cX5_cap 17 = .ok (.invokestatic 83, 3) := by decide +kernel
theorem dX5_cap_20 : decode cX5_cap 20 = .ok (.ifCond .ne 6, 3) := by decide +kernel
theorem dX5_cap_23 : decode cX5_cap 23 = .ok (.bipush (-102), 2) := by decide +kernel
theorem dX5_cap_25 : decode cX5_cap 25 = .ok (.ireturn, 1) := by decide +kernel
theorem dX5_cap_26 : decode cX5_cap 26 = .ok (.aload_n 0, 1) := by decide +kernel
theorem dX5_cap_27 : decode cX5_cap 27 = .ok (.getfield 25, 3) := by decide +kernel
theorem dX5_cap_30 : decode cX5_cap 30 = .ok (.iload_n 1, 1) := by decide +kernel
theorem dX5_cap_31 : decode cX5_cap 31 = .ok (.iaload, 1) := by decide +kernel
theorem dX5_cap_32 : decode cX5_cap 32 = .ok (.istore_n 3, 1) := by decide +kernel
theorem dX5_cap_33 : decode cX5_cap 33 = .ok (.aload_n 0, 1) := by decide +kernel
theorem dX5_cap_34 : decode cX5_cap 34 = .ok (.getfield 25, 3) := by decide +kernel
theorem dX5_cap_37 : decode cX5_cap 37 = .ok (.iload_n 1, 1) := by decide +kernel
theorem dX5_cap_38 : decode cX5_cap 38 = .ok (.iload_n 2, 1) := by decide +kernel
theorem dX5_cap_39 : decode cX5_cap 39 = .ok (.iastore, 1) := by decide +kernel
theorem dX5_cap_40 : decode cX5_cap 40 = .ok (.iload_n 3, 1) := by decide +kernel
theorem dX5_cap_41 : decode cX5_cap 41 = .ok (.ireturn, 1) := by decide +kernel
theorem dX5_liveSizes_0 : decode cX5_liveSizes 0 = .ok (.iconst 0, 1) := by decide +kernel
theorem dX5_liveSizes_1 : decode cX5_liveSizes 1 = .ok (.istore_n 2, 1) := by decide +kernel
theorem dX5_liveSizes_2 : decode cX5_liveSizes 2 = .ok (.iconst 0, 1) := by decide +kernel
theorem dX5_liveSizes_3 : decode cX5_liveSizes 3 = .ok (.istore_n 3, 1) := by decide +kernel
theorem dX5_liveSizes_4 : decode cX5_liveSizes 4 = .ok (.iload_n 3, 1) := by decide +kernel
theorem dX5_liveSizes_5 : decode cX5_liveSizes 5 = .ok (.aload_n 0, 1) := by decide +kernel
theorem dX5_liveSizes_6 : decode cX5_liveSizes 6 = .ok (.getfield 78, 3) := by decide +kernel
theorem dX5_liveSizes_9 : decode cX5_liveSizes 9 = .ok (.if_icmp .ge 47, 3) := by decide +kernel
theorem dX5_liveSizes_12 : decode cX5_liveSizes 12 = .ok (.iload_n 2, 1) := by decide +kernel
theorem dX5_liveSizes_13 : decode cX5_liveSizes 13 = .ok (.aload_n 0, 1) := by decide +kernel
theorem dX5_liveSizes_14 : decode cX5_liveSizes 14 = .ok (.getfield 46, 3) := by decide +kernel
theorem dX5_liveSizes_17 : decode cX5_liveSizes 17 = .ok (.iload_n 3, 1) := by decide +kernel
theorem dX5_liveSizes_18 : decode cX5_liveSizes 18 = .ok (.iaload, 1) := by decide +kernel
theorem dX5_liveSizes_19 : decode cX5_liveSizes 19 = .ok (.ifCond .ne 28, 3) := by decide +kernel
theorem dX5_liveSizes_22 : decode cX5_liveSizes 22 = .ok (.iload_n 1, 1) := by decide +kernel
theorem dX5_liveSizes_23 : decode cX5_liveSizes 23 = .ok (.bipush (-109), 2) := by decide +kernel
theorem dX5_liveSizes_25 : decode cX5_liveSizes 25 = .ok (.if_icmp .eq 13, 3) := by decide +kernel
theorem dX5_liveSizes_28 : decode cX5_liveSizes 28 = .ok (.aload_n 0, 1) := by decide +kernel
theorem dX5_liveSizes_29 : decode cX5_liveSizes 29 = .ok (.getfield 34, 3) := by decide +kernel
theorem dX5_liveSizes_32 : decode cX5_liveSizes 32 = .ok (.iload_n 3, 1) := by decide +kernel
theorem dX5_liveSizes_33 : decode cX5_liveSizes 33 = .ok (.iaload, 1) := by decide +kernel
theorem dX5_liveSizes_34 : decode cX5_liveSizes 34 = .ok (.iload_n 1, 1) := by decide +kernel
theorem dX5_liveSizes_35 : decode cX5_liveSizes 35 = .ok (.if_icmp .ne 12, 3) := by decide +kernel
theorem dX5_liveSizes_38 : decode cX5_liveSizes 38 = .ok (.aload_n 0, 1) := by decide +kernel
theorem dX5_liveSizes_39 : decode cX5_liveSizes 39 = .ok (.getfield 37, 3) := by decide +kernel
theorem dX5_liveSizes_42 : decode cX5_liveSizes 42 = .ok (.iload_n 3, 1) := by decide +kernel
theorem dX5_liveSizes_43 : decode cX5_liveSizes 43 = .ok (.iaload, 1) := by decide +kernel
theorem dX5_liveSizes_44 : decode cX5_liveSizes 44 = .ok (.goto 4, 3) := by decide +kernel
theorem dX5_liveSizes_47 : decode cX5_liveSizes 47 = .ok (.iconst 0, 1) := by decide +kernel
theorem dX5_liveSizes_48 : decode cX5_liveSizes 48 = .ok (.iadd, 1) := by decide +kernel
theorem dX5_liveSizes_49 : decode cX5_liveSizes 49 = .ok (.istore_n 2, 1) := by decide +kernel
theorem dX5_liveSizes_50 : decode cX5_liveSizes 50 = .ok (.iinc 3 1, 3) := by decide +kernel
theorem dX5_liveSizes_53 : decode cX5_liveSizes 53 = .ok (.goto (-49), 3) := by decide +kernel
theorem dX5_liveSizes_56 : decode cX5_liveSizes 56 = .ok (.iload_n 2, 1) := by decide +kernel
theorem dX5_liveSizes_57 : decode cX5_liveSizes 57 = .ok (.ireturn, 1) := by decide +kernel
theorem dX5_isCapped_0 : decode cX5_isCapped 0 = .ok (.aload_n 0, 1) := by decide +kernel
theorem dX5_isCapped_1 : decode cX5_isCapped 1 = .ok (.bipush (-109), 2) := by decide +kernel
theorem dX5_isCapped_3 : decode cX5_isCapped 3 = .ok (.invokevirtual 107, 3) := by decide +kernel
theorem dX5_isCapped_6 : decode cX5_isCapped 6 = .ok (.iload_n 2, 1) := by decide +kernel
theorem dX5_isCapped_7 : decode cX5_isCapped 7 = .ok (.iadd, 1) := by decide +kernel
theorem dX5_isCapped_8 : decode cX5_isCapped 8 = .ok (.sipush 5000, 3) := by decide +kernel
theorem dX5_isCapped_11 : decode cX5_isCapped 11 = .ok (.if_icmp .gt 19, 3) := by decide +kernel
theorem dX5_isCapped_14 : decode cX5_isCapped 14 = .ok (.aload_n 0, 1) := by decide +kernel
theorem dX5_isCapped_15 : decode cX5_isCapped 15 = .ok (.iload_n 1, 1) := by decide +kernel
theorem dX5_isCapped_16 : decode cX5_isCapped 16 = .ok (.invokevirtual 107, 3) := by decide +kernel
theorem dX5_isCapped_19 : decode cX5_isCapped 19 = .ok (.iload_n 2, 1) := by decide +kernel
theorem dX5_isCapped_20 : decode cX5_isCapped 20 = .ok (.iadd, 1) := by decide +kernel
theorem dX5_isCapped_21 : decode cX5_isCapped 21 = .ok (.aload_n 0, 1) := by decide +kernel
theorem dX5_isCapped_22 : decode cX5_isCapped 22 = .ok (.getfield 25, 3) := by decide +kernel
theorem dX5_isCapped_25 : decode cX5_isCapped 25 = .ok (.iload_n 1, 1) := by decide +kernel
theorem dX5_isCapped_26 : decode cX5_isCapped 26 = .ok (.iaload, 1) := by decide +kernel
theorem dX5_isCapped_27 : decode cX5_isCapped 27 = .ok (.if_icmp .le 7, 3) := by decide +kernel
theorem dX5_isCapped_30 : decode cX5_isCapped 30 = .ok (.iconst 1, 1) := by decide +kernel
theorem dX5_isCapped_31 : decode cX5_isCapped 31 = .ok (.goto 4, 3) := by decide +kernel
theorem dX5_isCapped_34 : decode cX5_isCapped 34 = .ok (.iconst 0, 1) := by decide +kernel
theorem dX5_isCapped_35 : decode cX5_isCapped 35 = .ok (.ireturn, 1) := by decide +kernel
theorem dX5_needsLayer_0 : decode cX5_needsLayer 0 = .ok (.bipush 16, 2) := by decide +kernel
theorem dX5_needsLayer_2 : decode cX5_needsLayer 2 = .ok (.iload_n 1, 1) := by decide +kernel
theorem dX5_needsLayer_3 : decode cX5_needsLayer 3 = .ok (.imul, 1) := by decide +kernel
theorem dX5_needsLayer_4 : decode cX5_needsLayer 4 = .ok (.aload_n 0, 1) := by decide +kernel
theorem dX5_needsLayer_5 : decode cX5_needsLayer 5 = .ok (.getfield 49, 3) := by decide +kernel
theorem dX5_needsLayer_8 : decode cX5_needsLayer 8 = .ok (.iload_n 1, 1) := by decide +kernel
theorem dX5_needsLayer_9 : decode cX5_needsLayer 9 = .ok (.iaload, 1) := by decide +kernel
theorem dX5_needsLayer_10 : decode cX5_needsLayer 10 = .ok (.iadd, 1) := by decide +kernel
theorem dX5_needsLayer_11 : decode cX5_needsLayer 11 = .ok (.iconst 1, 1) := by decide +kernel
theorem dX5_needsLayer_12 : decode cX5_needsLayer 12 = .ok (.isub, 1) := by decide +kernel
theorem dX5_needsLayer_13 : decode cX5_needsLayer 13 = .ok (.istore_n 3, 1) := by decide +kernel
theorem dX5_needsLayer_14 : decode cX5_needsLayer 14 = .ok (.aload_n 0, 1) := by decide +kernel
theorem dX5_needsLayer_15 : decode cX5_needsLayer 15 = .ok (.getfield 49, 3) := by decide +kernel
theorem dX5_needsLayer_18 : decode cX5_needsLayer 18 = .ok (.iload_n 1, 1) := by decide +kernel
theorem dX5_needsLayer_19 : decode cX5_needsLayer 19 = .ok (.iaload, 1) := by decide +kernel
theorem dX5_needsLayer_20 : decode cX5_needsLayer 20 = .ok (.ifCond .eq 26, 3) := by decide +kernel
theorem dX5_needsLayer_23 : decode cX5_needsLayer 23 = .ok (.aload_n 0, 1) := by decide +kernel
theorem dX5_needsLayer_24 : decode cX5_needsLayer 24 = .ok (.getfield 55, 3) := by decide +kernel
theorem dX5_needsLayer_27 : decode cX5_needsLayer 27 = .ok (.iload_n 3, 1) := by decide +kernel
theorem dX5_needsLayer_28 : decode cX5_needsLayer 28 = .ok (.iaload, 1) := by decide +kernel
theorem dX5_needsLayer_29 : decode cX5_needsLayer 29 = .ok (.aload_n 0, 1) := by decide +kernel
theorem dX5_needsLayer_30 : decode cX5_needsLayer 30 = .ok (.invokevirtual 110, 3) := by decide +kernel
theorem dX5_needsLayer_33 : decode cX5_needsLayer 33 = .ok (.if_icmp .ne 13, 3) := by decide +kernel
theorem dX5_needsLayer_36 : decode cX5_needsLayer 36 = .ok (.aload_n 0, 1) := by decide +kernel
theorem dX5_needsLayer_37 : decode cX5_needsLayer 37 = .ok (.getfield 58, 3) := by decide +kernel
theorem dX5_needsLayer_40 : decode cX5_needsLayer 40 = .ok (.iload_n 3, 1) := by decide +kernel
theorem dX5_needsLayer_41 : decode cX5_needsLayer 41 = .ok (.iaload, 1) := by decide +kernel
theorem dX5_needsLayer_42 : decode cX5_needsLayer 42 = .ok (.iload_n 2, 1) := by decide +kernel
theorem dX5_needsLayer_43 : decode cX5_needsLayer 43 = .ok (.if_icmp .eq 7, 3) := by decide +kernel
theorem dX5_needsLayer_46 : decode cX5_needsLayer 46 = .ok (.iconst 1, 1) := by decide +kernel
theorem dX5_needsLayer_47 : decode cX5_needsLayer 47 = .ok (.goto 4, 3) := by decide +kernel
theorem dX5_needsLayer_50 : decode cX5_needsLayer 50 = .ok (.iconst 0, 1) := by decide +kernel
theorem dX5_needsLayer_51 : decode cX5_needsLayer 51 = .ok (.ireturn, 1) := by decide +kernel
theorem dX5_comes_0 : decode cX5_comes 0 = .ok (.aload_n 0, 1) := by decide +kernel
theorem dX5_comes_1 : decode cX5_comes 1 = .ok (.iload_n 1, 1) := by decide +kernel
theorem dX5_comes_2 : decode cX5_comes 2 = .ok (.iload_n 2, 1) := by decide +kernel
theorem dX5_comes_3 : decode cX5_comes 3 = .ok (.invokevirtual 114, 3) := by decide +kernel
theorem dX5_comes_6 : decode cX5_comes 6 = .ok (.ifCond .eq 53, 3) := by decide +kernel
theorem dX5_comes_9 : decode cX5_comes 9 = .ok (.bipush 16, 2) := by decide +kernel
theorem dX5_comes_11 : decode cX5_comes 11 = .ok (.iload_n 1, 1) := by decide +kernel
theorem dX5_comes_12 : decode cX5_comes 12 = .ok (.imul, 1) := by decide +kernel
theorem dX5_comes_13 : decode cX5_comes 13 = .ok (.aload_n 0, 1) := by decide +kernel
theorem dX5_comes_14 : decode cX5_comes 14 = .ok (.getfield 49, 3) := by decide +kernel
theorem dX5_comes_17 : decode cX5_comes 17 = .ok (.iload_n 1, 1) := by decide +kernel
theorem dX5_comes_18 : decode cX5_comes 18 = .ok (.iaload, 1) := by decide +kernel
theorem dX5_comes_19 : decode cX5_comes 19 = .ok (.iadd, 1) := by decide +kernel
theorem dX5_comes_20 : decode cX5_comes 20 = .ok (.istore 4, 2) := by decide +kernel
theorem dX5_comes_22 : decode cX5_comes 22 = .ok (.aload_n 0, 1) := by decide +kernel
theorem dX5_comes_23 : decode cX5_comes 23 = .ok (.getfield 52, 3) := by decide +kernel
theorem dX5_comes_26 : decode cX5_comes 26 = .ok (.iload 4, 2) := by decide +kernel
theorem dX5_comes_28 : decode cX5_comes 28 = .ok (.iconst 0, 1) := by decide +kernel
theorem dX5_comes_29 : decode cX5_comes 29 = .ok (.iastore, 1) := by decide +kernel
theorem dX5_comes_30 : decode cX5_comes 30 = .ok (.aload_n 0, 1) := by decide +kernel
theorem dX5_comes_31 : decode cX5_comes 31 = .ok (.getfield 55, 3) := by decide +kernel
theorem dX5_comes_34 : decode cX5_comes 34 = .ok (.iload 4, 2) := by decide +kernel
theorem dX5_comes_36 : decode cX5_comes 36 = .ok (.aload_n 0, 1) := by decide +kernel
theorem dX5_comes_37 : decode cX5_comes 37 = .ok (.invokevirtual 110, 3) := by decide +kernel
theorem dX5_comes_40 : decode cX5_comes 40 = .ok (.iastore, 1) := by decide +kernel
theorem dX5_comes_41 : decode cX5_comes 41 = .ok (.aload_n 0, 1) := by decide +kernel
theorem dX5_comes_42 : decode cX5_comes 42 = .ok (.getfield 58, 3) := by decide +kernel
theorem dX5_comes_45 : decode cX5_comes 45 = .ok (.iload 4, 2) := by decide +kernel
theorem dX5_comes_47 : decode cX5_comes 47 = .ok (.iload_n 2, 1) := by decide +kernel
theorem dX5_comes_48 : decode cX5_comes 48 = .ok (.iastore, 1) := by decide +kernel
theorem dX5_comes_49 : decode cX5_comes 49 = .ok (.aload_n 0, 1) := by decide +kernel
theorem dX5_comes_50 : decode cX5_comes 50 = .ok (.getfield 49, 3) := by decide +kernel
theorem dX5_comes_53 : decode cX5_comes 53 = .ok (.iload_n 1, 1) := by decide +kernel
theorem dX5_comes_54 : decode cX5_comes 54 = .ok (.dup2, 1) := by decide +kernel
theorem dX5_comes_55 : decode cX5_comes 55 = .ok (.iaload, 1) := by decide +kernel
theorem dX5_comes_56 : decode cX5_comes 56 = .ok (.iconst 1, 1) := by decide +kernel
theorem dX5_comes_57 : decode cX5_comes 57 = .ok (.iadd, 1) := by decide +kernel
theorem dX5_comes_58 : decode cX5_comes 58 = .ok (.iastore, 1) := by decide +kernel
theorem dX5_comes_59 : decode cX5_comes 59 = .ok (.aload_n 0, 1) := by decide +kernel
theorem dX5_comes_60 : decode cX5_comes 60 = .ok (.getfield 52, 3) := by decide +kernel
theorem dX5_comes_63 : decode cX5_comes 63 = .ok (.bipush 16, 2) := by decide +kernel
theorem dX5_comes_65 : decode cX5_comes 65 = .ok (.iload_n 1, 1) := by decide +kernel
theorem dX5_comes_66 : decode cX5_comes 66 = .ok (.imul, 1) := by decide +kernel
theorem dX5_comes_67 : decode cX5_comes 67 = .ok (.aload_n 0, 1) := by decide +kernel
theorem dX5_comes_68 : decode cX5_comes 68 = .ok (.getfield 49, 3) := by decide +kernel
theorem dX5_comes_71 : decode cX5_comes 71 = .ok (.iload_n 1, 1) := by decide +kernel
theorem dX5_comes_72 : decode cX5_comes 72 = .ok (.iaload, 1) := by decide +kernel
theorem dX5_comes_73 : decode cX5_comes 73 = .ok (.iadd, 1) := by decide +kernel
theorem dX5_comes_74 : decode cX5_comes 74 = .ok (.iconst 1, 1) := by decide +kernel
theorem dX5_comes_75 : decode cX5_comes 75 = .ok (.isub, 1) := by decide +kernel
theorem dX5_comes_76 : decode cX5_comes 76 = .ok (.dup2, 1) := by decide +kernel
theorem dX5_comes_77 : decode cX5_comes 77 = .ok (.iaload, 1) := by decide +kernel
theorem dX5_comes_78 : decode cX5_comes 78 = .ok (.iload_n 3, 1) := by decide +kernel
theorem dX5_comes_79 : decode cX5_comes 79 = .ok (.iadd, 1) := by decide +kernel
theorem dX5_comes_80 : decode cX5_comes 80 = .ok (.iastore, 1) := by decide +kernel
theorem dX5_comes_81 : decode cX5_comes 81 = .ok (.return_, 1) := by decide +kernel
theorem dX5_gives_0 : decode cX5_gives 0 = .ok (.iload_n 2, 1) := by decide +kernel
theorem dX5_gives_1 : decode cX5_gives 1 = .ok (.istore 4, 2) := by decide +kernel
theorem dX5_gives_3 : decode cX5_gives 3 = .ok (.iconst 0, 1) := by decide +kernel
theorem dX5_gives_4 : decode cX5_gives 4 = .ok (.istore 5, 2) := by decide +kernel
theorem dX5_gives_6 : decode cX5_gives 6 = .ok (.aload_n 0, 1) := by decide +kernel
theorem dX5_gives_7 : decode cX5_gives 7 = .ok (.getfield 49, 3) := by decide +kernel
theorem dX5_gives_10 : decode cX5_gives 10 = .ok (.iload_n 1, 1) := by decide +kernel
theorem dX5_gives_11 : decode cX5_gives 11 = .ok (.iaload, 1) := by decide +kernel
theorem dX5_gives_12 : decode cX5_gives 12 = .ok (.iconst 1, 1) := by decide +kernel
theorem dX5_gives_13 : decode cX5_gives 13 = .ok (.isub, 1) := by decide +kernel
theorem dX5_gives_14 : decode cX5_gives 14 = .ok (.istore 6, 2) := by decide +kernel
theorem dX5_gives_16 : decode cX5_gives 16 = .ok (.iload 6, 2) := by decide +kernel
theorem dX5_gives_18 : decode cX5_gives 18 = .ok (.ifCond .lt 87, 3) := by decide +kernel
theorem dX5_gives_21 : decode cX5_gives 21 = .ok (.bipush 16, 2) := by decide +kernel
theorem dX5_gives_23 : decode cX5_gives 23 = .ok (.iload_n 1, 1) := by decide +kernel
theorem dX5_gives_24 : decode cX5_gives 24 = .ok (.imul, 1) := by decide +kernel
theorem dX5_gives_25 : decode cX5_gives 25 = .ok (.iload 6, 2) := by decide +kernel
theorem dX5_gives_27 : decode cX5_gives 27 = .ok (.iadd, 1) := by decide +kernel
theorem dX5_gives_28 : decode cX5_gives 28 = .ok (.istore 7, 2) := by decide +kernel
theorem dX5_gives_30 : decode cX5_gives 30 = .ok (.aload_n 0, 1) := by decide +kernel
theorem dX5_gives_31 : decode cX5_gives 31 = .ok (.getfield 52, 3) := by decide +kernel
theorem dX5_gives_34 : decode cX5_gives 34 = .ok (.iload 7, 2) := by decide +kernel
theorem dX5_gives_36 : decode cX5_gives 36 = .ok (.iaload, 1) := by decide +kernel
theorem dX5_gives_37 : decode cX5_gives 37 = .ok (.iload 4, 2) := by decide +kernel
theorem dX5_gives_39 : decode cX5_gives 39 = .ok (.if_icmp .ge 13, 3) := by decide +kernel
theorem dX5_gives_42 : decode cX5_gives 42 = .ok (.aload_n 0, 1) := by decide +kernel
theorem dX5_gives_43 : decode cX5_gives 43 = .ok (.getfield 52, 3) := by decide +kernel
theorem dX5_gives_46 : decode cX5_gives 46 = .ok (.iload 7, 2) := by decide +kernel
theorem dX5_gives_48 : decode cX5_gives 48 = .ok (.iaload, 1) := by decide +kernel
theorem dX5_gives_49 : decode cX5_gives 49 = .ok (.goto 5, 3) := by decide +kernel
theorem dX5_gives_52 : decode cX5_gives 52 = .ok (.iload 4, 2) := by decide +kernel
theorem dX5_gives_54 : decode cX5_gives 54 = .ok (.istore 8, 2) := by decide +kernel
theorem dX5_gives_56 : decode cX5_gives 56 = .ok (.iload 5, 2) := by decide +kernel
theorem dX5_gives_58 : decode cX5_gives 58 = .ok (.iload_n 3, 1) := by decide +kernel
theorem dX5_gives_59 : decode cX5_gives 59 = .ok (.bipush (-109), 2) := by decide +kernel
theorem dX5_gives_61 : decode cX5_gives 61 = .ok (.if_icmp .eq 14, 3) := by decide +kernel
theorem dX5_gives_64 : decode cX5_gives 64 = .ok (.aload_n 0, 1) := by decide +kernel
theorem dX5_gives_65 : decode cX5_gives 65 = .ok (.getfield 58, 3) := by decide +kernel
theorem dX5_gives_68 : decode cX5_gives 68 = .ok (.iload 7, 2) := by decide +kernel
theorem dX5_gives_70 : decode cX5_gives 70 = .ok (.iaload, 1) := by decide +kernel
theorem dX5_gives_71 : decode cX5_gives 71 = .ok (.iload_n 3, 1) := by decide +kernel
theorem dX5_gives_72 : decode cX5_gives 72 = .ok (.if_icmp .ne 16, 3) := by decide +kernel
theorem dX5_gives_75 : decode cX5_gives 75 = .ok (.iload 8, 2) := by decide +kernel
theorem dX5_gives_77 : decode cX5_gives 77 = .ok (.aload_n 0, 1) := by decide +kernel
theorem dX5_gives_78 : decode cX5_gives 78 = .ok (.getfield 55, 3) := by decide +kernel
theorem dX5_gives_81 : decode cX5_gives 81 = .ok (.iload 7, 2) := by decide +kernel
theorem dX5_gives_83 : decode cX5_gives 83 = .ok (.iaload, 1) := by decide +kernel
theorem dX5_gives_84 : decode cX5_gives 84 = .ok (.imul, 1) := by decide +kernel
theorem dX5_gives_85 : decode cX5_gives 85 = .ok (.goto 4, 3) := by decide +kernel
theorem dX5_gives_88 : decode cX5_gives 88 = .ok (.iconst 0, 1) := by decide +kernel
theorem dX5_gives_89 : decode cX5_gives 89 = .ok (.iadd, 1) := by decide +kernel
theorem dX5_gives_90 : decode cX5_gives 90 = .ok (.istore 5, 2) := by decide +kernel
theorem dX5_gives_92 : decode cX5_gives 92 = .ok (.iload 4, 2) := by decide +kernel
theorem dX5_gives_94 : decode cX5_gives 94 = .ok (.iload 8, 2) := by decide +kernel
theorem dX5_gives_96 : decode cX5_gives 96 = .ok (.isub, 1) := by decide +kernel
theorem dX5_gives_97 : decode cX5_gives 97 = .ok (.istore 4, 2) := by decide +kernel
theorem dX5_gives_99 : decode cX5_gives 99 = .ok (.iinc 6 (-1), 3) := by decide +kernel
theorem dX5_gives_102 : decode cX5_gives 102 = .ok (.goto (-86), 3) := by decide +kernel
theorem dX5_gives_105 : decode cX5_gives 105 = .ok (.iload 5, 2) := by decide +kernel
theorem dX5_gives_107 : decode cX5_gives 107 = .ok (.ireturn, 1) := by decide +kernel
theorem dX5_goes_0 : decode cX5_goes 0 = .ok (.aload_n 0, 1) := by decide +kernel
theorem dX5_goes_1 : decode cX5_goes 1 = .ok (.iload_n 1, 1) := by decide +kernel
theorem dX5_goes_2 : decode cX5_goes 2 = .ok (.iload_n 2, 1) := by decide +kernel
theorem dX5_goes_3 : decode cX5_goes 3 = .ok (.bipush (-109), 2) := by decide +kernel
theorem dX5_goes_5 : decode cX5_goes 5 = .ok (.invokevirtual 118, 3) := by decide +kernel
theorem dX5_goes_8 : decode cX5_goes 8 = .ok (.istore_n 3, 1) := by decide +kernel
theorem dX5_goes_9 : decode cX5_goes 9 = .ok (.iconst 0, 1) := by decide +kernel
theorem dX5_goes_10 : decode cX5_goes 10 = .ok (.istore 4, 2) := by decide +kernel
theorem dX5_goes_12 : decode cX5_goes 12 = .ok (.iload 4, 2) := by decide +kernel
theorem dX5_goes_14 : decode cX5_goes 14 = .ok (.bipush 6, 2) := by decide +kernel
theorem dX5_goes_16 : decode cX5_goes 16 = .ok (.if_icmp .ge 27, 3) := by decide +kernel
theorem dX5_goes_19 : decode cX5_goes 19 = .ok (.aload_n 0, 1) := by decide +kernel
theorem dX5_goes_20 : decode cX5_goes 20 = .ok (.getfield 22, 3) := by decide +kernel
theorem dX5_goes_23 : decode cX5_goes 23 = .ok (.iload 4, 2) := by decide +kernel
theorem dX5_goes_25 : decode cX5_goes 25 = .ok (.dup2, 1) := by decide +kernel
theorem dX5_goes_26 : decode cX5_goes 26 = .ok (.iaload, 1) := by decide +kernel
theorem dX5_goes_27 : decode cX5_goes 27 = .ok (.aload_n 0, 1) := by decide +kernel
theorem dX5_goes_28 : decode cX5_goes 28 = .ok (.iload_n 1, 1) := by decide +kernel
theorem dX5_goes_29 : decode cX5_goes 29 = .ok (.iload_n 2, 1) := by decide +kernel
theorem dX5_goes_30 : decode cX5_goes 30 = .ok (.iload 4, 2) := by decide +kernel
theorem dX5_goes_32 : decode cX5_goes 32 = .ok (.invokevirtual 118, 3) := by decide +kernel
theorem dX5_goes_35 : decode cX5_goes 35 = .ok (.iadd, 1) := by decide +kernel
theorem dX5_goes_36 : decode cX5_goes 36 = .ok (.iastore, 1) := by decide +kernel
theorem dX5_goes_37 : decode cX5_goes 37 = .ok (.iinc 4 1, 3) := by decide +kernel
theorem dX5_goes_40 : decode cX5_goes 40 = .ok (.goto (-28), 3) := by decide +kernel
theorem dX5_goes_43 : decode cX5_goes 43 = .ok (.iload_n 2, 1) := by decide +kernel
theorem dX5_goes_44 : decode cX5_goes 44 = .ok (.istore 4, 2) := by decide +kernel
theorem dX5_goes_46 : decode cX5_goes 46 = .ok (.iload 4, 2) := by decide +kernel
theorem dX5_goes_48 : decode cX5_goes 48 = .ok (.ifCond .le 90, 3) := by decide +kernel
theorem dX5_goes_51 : decode cX5_goes 51 = .ok (.bipush 16, 2) := by decide +kernel
theorem dX5_goes_53 : decode cX5_goes 53 = .ok (.iload_n 1, 1) := by decide +kernel
theorem dX5_goes_54 : decode cX5_goes 54 = .ok (.imul, 1) := by decide +kernel
theorem dX5_goes_55 : decode cX5_goes 55 = .ok (.aload_n 0, 1) := by decide +kernel
theorem dX5_goes_56 : decode cX5_goes 56 = .ok (.getfield 49, 3) := by decide +kernel
theorem dX5_goes_59 : decode cX5_goes 59 = .ok (.iload_n 1, 1) := by decide +kernel
theorem dX5_goes_60 : decode cX5_goes 60 = .ok (.iaload, 1) := by decide +kernel
theorem dX5_goes_61 : decode cX5_goes 61 = .ok (.iadd, 1) := by decide +kernel
theorem dX5_goes_62 : decode cX5_goes 62 = .ok (.iconst 1, 1) := by decide +kernel
theorem dX5_goes_63 : decode cX5_goes 63 = .ok (.isub, 1) := by decide +kernel
theorem dX5_goes_64 : decode cX5_goes 64 = .ok (.istore 5, 2) := by decide +kernel
theorem dX5_goes_66 : decode cX5_goes 66 = .ok (.aload_n 0, 1) := by decide +kernel
theorem dX5_goes_67 : decode cX5_goes 67 = .ok (.getfield 52, 3) := by decide +kernel
theorem dX5_goes_70 : decode cX5_goes 70 = .ok (.iload 5, 2) := by decide +kernel
theorem dX5_goes_72 : decode cX5_goes 72 = .ok (.iaload, 1) := by decide +kernel
theorem dX5_goes_73 : decode cX5_goes 73 = .ok (.iload 4, 2) := by decide +kernel
theorem dX5_goes_75 : decode cX5_goes 75 = .ok (.if_icmp .ge 13, 3) := by decide +kernel
theorem dX5_goes_78 : decode cX5_goes 78 = .ok (.aload_n 0, 1) := by decide +kernel
theorem dX5_goes_79 : decode cX5_goes 79 = .ok (.getfield 52, 3) := by decide +kernel
theorem dX5_goes_82 : decode cX5_goes 82 = .ok (.iload 5, 2) := by decide +kernel
theorem dX5_goes_84 : decode cX5_goes 84 = .ok (.iaload, 1) := by decide +kernel
theorem dX5_goes_85 : decode cX5_goes 85 = .ok (.goto 5, 3) := by decide +kernel
theorem dX5_goes_88 : decode cX5_goes 88 = .ok (.iload 4, 2) := by decide +kernel
theorem dX5_goes_90 : decode cX5_goes 90 = .ok (.istore 6, 2) := by decide +kernel
theorem dX5_goes_92 : decode cX5_goes 92 = .ok (.aload_n 0, 1) := by decide +kernel
theorem dX5_goes_93 : decode cX5_goes 93 = .ok (.getfield 52, 3) := by decide +kernel
theorem dX5_goes_96 : decode cX5_goes 96 = .ok (.iload 5, 2) := by decide +kernel
theorem dX5_goes_98 : decode cX5_goes 98 = .ok (.dup2, 1) := by decide +kernel
theorem dX5_goes_99 : decode cX5_goes 99 = .ok (.iaload, 1) := by decide +kernel
theorem dX5_goes_100 : decode cX5_goes 100 = .ok (.iload 6, 2) := by decide +kernel
theorem dX5_goes_102 : decode cX5_goes 102 = .ok (.isub, 1) := by decide +kernel
theorem dX5_goes_103 : decode cX5_goes 103 = .ok (.iastore, 1) := by decide +kernel
theorem dX5_goes_104 : decode cX5_goes 104 = .ok (.iload 4, 2) := by decide +kernel
theorem dX5_goes_106 : decode cX5_goes 106 = .ok (.iload 6, 2) := by decide +kernel
theorem dX5_goes_108 : decode cX5_goes 108 = .ok (.isub, 1) := by decide +kernel
theorem dX5_goes_109 : decode cX5_goes 109 = .ok (.istore 4, 2) := by decide +kernel
theorem dX5_goes_111 : decode cX5_goes 111 = .ok (.aload_n 0, 1) := by decide +kernel
theorem dX5_goes_112 : decode cX5_goes 112 = .ok (.getfield 49, 3) := by decide +kernel
theorem dX5_goes_115 : decode cX5_goes 115 = .ok (.iload_n 1, 1) := by decide +kernel
theorem dX5_goes_116 : decode cX5_goes 116 = .ok (.dup2, 1) := by decide +kernel
theorem dX5_goes_117 : decode cX5_goes 117 = .ok (.iaload, 1) := by decide +kernel
theorem dX5_goes_118 : decode cX5_goes 118 = .ok (.aload_n 0, 1) := by decide +kernel
theorem dX5_goes_119 : decode cX5_goes 119 = .ok (.getfield 52, 3) := by decide +kernel
theorem dX5_goes_122 : decode cX5_goes 122 = .ok (.iload 5, 2) := by decide +kernel
theorem dX5_goes_124 : decode cX5_goes 124 = .ok (.iaload, 1) := by decide +kernel
theorem dX5_goes_125 : decode cX5_goes 125 = .ok (.ifCond .ne 7, 3) := by decide +kernel
theorem dX5_goes_128 : decode cX5_goes 128 = .ok (.iconst 1, 1) := by decide +kernel
theorem dX5_goes_129 : decode cX5_goes 129 = .ok (.goto 4, 3) := by decide +kernel
theorem dX5_goes_132 : decode cX5_goes 132 = .ok (.iconst 0, 1) := by decide +kernel
theorem dX5_goes_133 : decode cX5_goes 133 = .ok (.isub, 1) := by decide +kernel
theorem dX5_goes_134 : decode cX5_goes 134 = .ok (.iastore, 1) := by decide +kernel
theorem dX5_goes_135 : decode cX5_goes 135 = .ok (.goto (-89), 3) := by decide +kernel
theorem dX5_goes_138 : decode cX5_goes 138 = .ok (.iload_n 3, 1) := by decide +kernel
theorem dX5_goes_139 : decode cX5_goes 139 = .ok (.ireturn, 1) := by decide +kernel
theorem dX5_heldFor_0 : decode cX5_heldFor 0 = .ok (.iconst 0, 1) := by decide +kernel
theorem dX5_heldFor_1 : decode cX5_heldFor 1 = .ok (.istore_n 2, 1) := by decide +kernel
theorem dX5_heldFor_2 : decode cX5_heldFor 2 = .ok (.iconst 0, 1) := by decide +kernel
theorem dX5_heldFor_3 : decode cX5_heldFor 3 = .ok (.istore_n 3, 1) := by decide +kernel
theorem dX5_heldFor_4 : decode cX5_heldFor 4 = .ok (.iload_n 3, 1) := by decide +kernel
theorem dX5_heldFor_5 : decode cX5_heldFor 5 = .ok (.aload_n 0, 1) := by decide +kernel
theorem dX5_heldFor_6 : decode cX5_heldFor 6 = .ok (.getfield 49, 3) := by decide +kernel
theorem dX5_heldFor_9 : decode cX5_heldFor 9 = .ok (.iload_n 1, 1) := by decide +kernel
theorem dX5_heldFor_10 : decode cX5_heldFor 10 = .ok (.iaload, 1) := by decide +kernel
theorem dX5_heldFor_11 : decode cX5_heldFor 11 = .ok (.if_icmp .ge 35, 3) := by decide +kernel
theorem dX5_heldFor_14 : decode cX5_heldFor 14 = .ok (.iload_n 2, 1) := by decide +kernel
theorem dX5_heldFor_15 : decode cX5_heldFor 15 = .ok (.aload_n 0, 1) := by decide +kernel
theorem dX5_heldFor_16 : decode cX5_heldFor 16 = .ok (.getfield 52, 3) := by decide +kernel
theorem dX5_heldFor_19 : decode cX5_heldFor 19 = .ok (.bipush 16, 2) := by decide +kernel
theorem dX5_heldFor_21 : decode cX5_heldFor 21 = .ok (.iload_n 1, 1) := by decide +kernel
theorem dX5_heldFor_22 : decode cX5_heldFor 22 = .ok (.imul, 1) := by decide +kernel
theorem dX5_heldFor_23 : decode cX5_heldFor 23 = .ok (.iload_n 3, 1) := by decide +kernel
theorem dX5_heldFor_24 : decode cX5_heldFor 24 = .ok (.iadd, 1) := by decide +kernel
theorem dX5_heldFor_25 : decode cX5_heldFor 25 = .ok (.iaload, 1) := by decide +kernel
theorem dX5_heldFor_26 : decode cX5_heldFor 26 = .ok (.aload_n 0, 1) := by decide +kernel
theorem dX5_heldFor_27 : decode cX5_heldFor 27 = .ok (.getfield 55, 3) := by decide +kernel
theorem dX5_heldFor_30 : decode cX5_heldFor 30 = .ok (.bipush 16, 2) := by decide +kernel
theorem dX5_heldFor_32 : decode cX5_heldFor 32 = .ok (.iload_n 1, 1) := by decide +kernel
theorem dX5_heldFor_33 : decode cX5_heldFor 33 = .ok (.imul, 1) := by decide +kernel
theorem dX5_heldFor_34 : decode cX5_heldFor 34 = .ok (.iload_n 3, 1) := by decide +kernel
theorem dX5_heldFor_35 : decode cX5_heldFor 35 = .ok (.iadd, 1) := by decide +kernel
theorem dX5_heldFor_36 : decode cX5_heldFor 36 = .ok (.iaload, 1) := by decide +kernel
theorem dX5_heldFor_37 : decode cX5_heldFor 37 = .ok (.imul, 1) := by decide +kernel
theorem dX5_heldFor_38 : decode cX5_heldFor 38 = .ok (.iadd, 1) := by decide +kernel
theorem dX5_heldFor_39 : decode cX5_heldFor 39 = .ok (.istore_n 2, 1) := by decide +kernel
theorem dX5_heldFor_40 : decode cX5_heldFor 40 = .ok (.iinc 3 1, 3) := by decide +kernel
theorem dX5_heldFor_43 : decode cX5_heldFor 43 = .ok (.goto (-39), 3) := by decide +kernel
theorem dX5_heldFor_46 : decode cX5_heldFor 46 = .ok (.iload_n 2, 1) := by decide +kernel
theorem dX5_heldFor_47 : decode cX5_heldFor 47 = .ok (.ireturn, 1) := by decide +kernel
theorem dX5_make_0 : decode cX5_make 0 = .ok (.aload_n 0, 1) := by decide +kernel
theorem dX5_make_1 : decode cX5_make 1 = .ok (.iload_n 1, 1) := by decide +kernel
theorem dX5_make_2 : decode cX5_make 2 = .ok (.invokevirtual 101, 3) := by decide +kernel
theorem dX5_make_5 : decode cX5_make 5 = .ok (.ifCond .ne 11, 3) := by decide +kernel
theorem dX5_make_8 : decode cX5_make 8 = .ok (.aload_n 0, 1) := by decide +kernel
theorem dX5_make_9 : decode cX5_make 9 = .ok (.iload_n 2, 1) := by decide +kernel
theorem dX5_make_10 : decode cX5_make 10 = .ok (.invokevirtual 101, 3) := by decide +kernel
theorem dX5_make_13 : decode cX5_make 13 = .ok (.ifCond .eq 6, 3) := by decide +kernel
theorem dX5_make_16 : decode cX5_make 16 = .ok (.bipush (-101), 2) := by decide +kernel
theorem dX5_make_18 : decode cX5_make 18 = .ok (.ireturn, 1) := by decide +kernel
theorem dX5_make_19 : decode cX5_make 19 = .ok (.iload_n 3, 1) := by decide +kernel
theorem dX5_make_20 : decode cX5_make 20 = .ok (.i2l, 1) := by decide +kernel
theorem dX5_make_21 : decode cX5_make 21 = .ok (.lconst 1, 1) := by decide +kernel
theorem dX5_make_22 : decode cX5_make 22 = .ok (.ldc2_w 122, 3) := by decide +kernel
theorem dX5_make_25 : decode cX5_make 25 = .ok (.invokestatic 83, 3) := by decide +kernel
theorem dX5_make_28 : decode cX5_make 28 = .ok (.ifCond .eq 16, 3) := by decide +kernel
theorem dX5_make_31 : decode cX5_make 31 = .ok (.iload 4, 2) := by decide +kernel
theorem dX5_make_33 : decode cX5_make 33 = .ok (.i2l, 1) := by decide +kernel
theorem dX5_make_34 : decode cX5_make 34 = .ok (.lconst 1, 1) := by decide +kernel
theorem dX5_make_35 : decode cX5_make 35 = .ok (.ldc2_w 89, 3) := by decide +kernel
theorem dX5_make_38 : decode cX5_make 38 = .ok (.invokestatic 83, 3) := by decide +kernel
theorem dX5_make_41 : decode cX5_make 41 = .ok (.ifCond .ne 6, 3) := by decide +kernel
theorem dX5_make_44 : decode cX5_make 44 = .ok (.bipush (-102), 2) := by decide +kernel
theorem dX5_make_46 : decode cX5_make 46 = .ok (.ireturn, 1) := by decide +kernel
theorem dX5_make_47 : decode cX5_make 47 = .ok (.aload_n 0, 1) := by decide +kernel
theorem dX5_make_48 : decode cX5_make 48 = .ok (.iload_n 2, 1) := by decide +kernel
theorem dX5_make_49 : decode cX5_make 49 = .ok (.iload_n 3, 1) := by decide +kernel
theorem dX5_make_50 : decode cX5_make 50 = .ok (.invokevirtual 124, 3) := by decide +kernel
theorem dX5_make_53 : decode cX5_make 53 = .ok (.ifCond .eq 6, 3) := by decide +kernel
theorem dX5_make_56 : decode cX5_make 56 = .ok (.bipush (-105), 2) := by decide +kernel
theorem dX5_make_58 : decode cX5_make 58 = .ok (.ireturn, 1) := by decide +kernel
theorem dX5_make_59 : decode cX5_make 59 = .ok (.aload_n 0, 1) := by decide +kernel
theorem dX5_make_60 : decode cX5_make 60 = .ok (.iload_n 3, 1) := by decide +kernel
theorem dX5_make_61 : decode cX5_make 61 = .ok (.invokevirtual 127, 3) := by decide +kernel
theorem dX5_make_64 : decode cX5_make 64 = .ok (.aload_n 0, 1) := by decide +kernel
theorem dX5_make_65 : decode cX5_make 65 = .ok (.invokevirtual 130, 3) := by decide +kernel
theorem dX5_make_68 : decode cX5_make 68 = .ok (.imul, 1) := by decide +kernel
theorem dX5_make_69 : decode cX5_make 69 = .ok (.iload 4, 2) := by decide +kernel
theorem dX5_make_71 : decode cX5_make 71 = .ok (.imul, 1) := by decide +kernel
theorem dX5_make_72 : decode cX5_make 72 = .ok (.istore 5, 2) := by decide +kernel
theorem dX5_make_74 : decode cX5_make 74 = .ok (.aload_n 0, 1) := by decide +kernel
theorem dX5_make_75 : decode cX5_make 75 = .ok (.getfield 22, 3) := by decide +kernel
theorem dX5_make_78 : decode cX5_make 78 = .ok (.iload_n 1, 1) := by decide +kernel
theorem dX5_make_79 : decode cX5_make 79 = .ok (.iaload, 1) := by decide +kernel
theorem dX5_make_80 : decode cX5_make 80 = .ok (.iload_n 3, 1) := by decide +kernel
theorem dX5_make_81 : decode cX5_make 81 = .ok (.aload_n 0, 1) := by decide +kernel
theorem dX5_make_82 : decode cX5_make 82 = .ok (.invokevirtual 110, 3) := by decide +kernel
theorem dX5_make_85 : decode cX5_make 85 = .ok (.imul, 1) := by decide +kernel
theorem dX5_make_86 : decode cX5_make 86 = .ok (.iload 5, 2) := by decide +kernel
theorem dX5_make_88 : decode cX5_make 88 = .ok (.iadd, 1) := by decide +kernel
theorem dX5_make_89 : decode cX5_make 89 = .ok (.if_icmp .ge 6, 3) := by decide +kernel
theorem dX5_make_92 : decode cX5_make 92 = .ok (.bipush (-106), 2) := by decide +kernel
theorem dX5_make_94 : decode cX5_make 94 = .ok (.ireturn, 1) := by decide +kernel
theorem dX5_make_95 : decode cX5_make 95 = .ok (.aload_n 0, 1) := by decide +kernel
theorem dX5_make_96 : decode cX5_make 96 = .ok (.getfield 78, 3) := by decide +kernel
theorem dX5_make_99 : decode cX5_make 99 = .ok (.bipush 60, 2) := by decide +kernel
theorem dX5_make_101 : decode cX5_make 101 = .ok (.if_icmp .ne 6, 3) := by decide +kernel
theorem dX5_make_104 : decode cX5_make 104 = .ok (.bipush (-107), 2) := by decide +kernel
theorem dX5_make_106 : decode cX5_make 106 = .ok (.ireturn, 1) := by decide +kernel
theorem dX5_make_107 : decode cX5_make 107 = .ok (.aload_n 0, 1) := by decide +kernel
theorem dX5_make_108 : decode cX5_make 108 = .ok (.getfield 78, 3) := by decide +kernel
theorem dX5_make_111 : decode cX5_make 111 = .ok (.istore 6, 2) := by decide +kernel
theorem dX5_make_113 : decode cX5_make 113 = .ok (.aload_n 0, 1) := by decide +kernel
theorem dX5_make_114 : decode cX5_make 114 = .ok (.getfield 34, 3) := by decide +kernel
theorem dX5_make_117 : decode cX5_make 117 = .ok (.iload 6, 2) := by decide +kernel
theorem dX5_make_119 : decode cX5_make 119 = .ok (.iload_n 2, 1) := by decide +kernel
theorem dX5_make_120 : decode cX5_make 120 = .ok (.iastore, 1) := by decide +kernel
theorem dX5_make_121 : decode cX5_make 121 = .ok (.aload_n 0, 1) := by decide +kernel
theorem dX5_make_122 : decode cX5_make 122 = .ok (.getfield 37, 3) := by decide +kernel
theorem dX5_make_125 : decode cX5_make 125 = .ok (.iload 6, 2) := by decide +kernel
theorem dX5_make_127 : decode cX5_make 127 = .ok (.iload_n 3, 1) := by decide +kernel
theorem dX5_make_128 : decode cX5_make 128 = .ok (.iastore, 1) := by decide +kernel
theorem dX5_make_129 : decode cX5_make 129 = .ok (.iconst 0, 1) := by decide +kernel
theorem dX5_make_130 : decode cX5_make 130 = .ok (.istore 7, 2) := by decide +kernel
theorem dX5_make_132 : decode cX5_make 132 = .ok (.iload 7, 2) := by decide +kernel
theorem dX5_make_134 : decode cX5_make 134 = .ok (.iconst 4, 1) := by decide +kernel
theorem dX5_make_135 : decode cX5_make 135 = .ok (.if_icmp .ge 22, 3) := by decide +kernel
theorem dX5_make_138 : decode cX5_make 138 = .ok (.aload_n 0, 1) := by decide +kernel
theorem dX5_make_139 : decode cX5_make 139 = .ok (.getfield 40, 3) := by decide +kernel
theorem dX5_make_142 : decode cX5_make 142 = .ok (.iconst 4, 1) := by decide +kernel
theorem dX5_make_143 : decode cX5_make 143 = .ok (.iload 6, 2) := by decide +kernel
theorem dX5_make_145 : decode cX5_make 145 = .ok (.imul, 1) := by decide +kernel
theorem dX5_make_146 : decode cX5_make 146 = .ok (.iload 7, 2) := by decide +kernel
theorem dX5_make_148 : decode cX5_make 148 = .ok (.iadd, 1) := by decide +kernel
theorem dX5_make_149 : decode cX5_make 149 = .ok (.iconst 0, 1) := by decide +kernel
theorem dX5_make_150 : decode cX5_make 150 = .ok (.iastore, 1) := by decide +kernel
theorem dX5_make_151 : decode cX5_make 151 = .ok (.iinc 7 1, 3) := by decide +kernel
theorem dX5_make_154 : decode cX5_make 154 = .ok (.goto (-22), 3) := by decide +kernel
theorem dX5_make_157 : decode cX5_make 157 = .ok (.aload_n 0, 1) := by decide +kernel
theorem dX5_make_158 : decode cX5_make 158 = .ok (.getfield 43, 3) := by decide +kernel
theorem dX5_make_161 : decode cX5_make 161 = .ok (.iload 6, 2) := by decide +kernel
theorem dX5_make_163 : decode cX5_make 163 = .ok (.aload_n 0, 1) := by decide +kernel
theorem dX5_make_164 : decode cX5_make 164 = .ok (.getfield 64, 3) := by decide +kernel
theorem dX5_make_167 : decode cX5_make 167 = .ok (.iload 4, 2) := by decide +kernel
theorem dX5_make_169 : decode cX5_make 169 = .ok (.iadd, 1) := by decide +kernel
theorem dX5_make_170 : decode cX5_make 170 = .ok (.iastore, 1) := by decide +kernel
theorem dX5_make_171 : decode cX5_make 171 = .ok (.aload_n 0, 1) := by decide +kernel
theorem dX5_make_172 : decode cX5_make 172 = .ok (.getfield 46, 3) := by decide +kernel
theorem dX5_make_175 : decode cX5_make 175 = .ok (.iload 6, 2) := by decide +kernel
theorem dX5_make_177 : decode cX5_make 177 = .ok (.iconst 0, 1) := by decide +kernel
theorem dX5_make_178 : decode cX5_make 178 = .ok (.iastore, 1) := by decide +kernel
theorem dX5_make_179 : decode cX5_make 179 = .ok (.aload_n 0, 1) := by decide +kernel
theorem dX5_make_180 : decode cX5_make 180 = .ok (.getfield 49, 3) := by decide +kernel
theorem dX5_make_183 : decode cX5_make 183 = .ok (.iload 6, 2) := by decide +kernel
theorem dX5_make_185 : decode cX5_make 185 = .ok (.iconst 0, 1) := by decide +kernel
theorem dX5_make_186 : decode cX5_make 186 = .ok (.iastore, 1) := by decide +kernel
theorem dX5_make_187 : decode cX5_make 187 = .ok (.aload_n 0, 1) := by decide +kernel
theorem dX5_make_188 : decode cX5_make 188 = .ok (.iload 6, 2) := by decide +kernel
theorem dX5_make_190 : decode cX5_make 190 = .ok (.iload_n 1, 1) := by decide +kernel
theorem dX5_make_191 : decode cX5_make 191 = .ok (.iload_n 3, 1) := by decide +kernel
theorem dX5_make_192 : decode cX5_make 192 = .ok (.invokevirtual 133, 3) := by decide +kernel
theorem dX5_make_195 : decode cX5_make 195 = .ok (.aload_n 0, 1) := by decide +kernel
theorem dX5_make_196 : decode cX5_make 196 = .ok (.getfield 22, 3) := by decide +kernel
theorem dX5_make_199 : decode cX5_make 199 = .ok (.iload_n 1, 1) := by decide +kernel
theorem dX5_make_200 : decode cX5_make 200 = .ok (.dup2, 1) := by decide +kernel
theorem dX5_make_201 : decode cX5_make 201 = .ok (.iaload, 1) := by decide +kernel
theorem dX5_make_202 : decode cX5_make 202 = .ok (.iload_n 3, 1) := by decide +kernel
theorem dX5_make_203 : decode cX5_make 203 = .ok (.aload_n 0, 1) := by decide +kernel
theorem dX5_make_204 : decode cX5_make 204 = .ok (.invokevirtual 110, 3) := by decide +kernel
theorem dX5_make_207 : decode cX5_make 207 = .ok (.imul, 1) := by decide +kernel
theorem dX5_make_208 : decode cX5_make 208 = .ok (.iload 5, 2) := by decide +kernel
theorem dX5_make_210 : decode cX5_make 210 = .ok (.iadd, 1) := by decide +kernel
theorem dX5_make_211 : decode cX5_make 211 = .ok (.isub, 1) := by decide +kernel
theorem dX5_make_212 : decode cX5_make 212 = .ok (.iastore, 1) := by decide +kernel
theorem dX5_make_213 : decode cX5_make 213 = .ok (.aload_n 0, 1) := by decide +kernel
theorem dX5_make_214 : decode cX5_make 214 = .ok (.dup, 1) := by decide +kernel
theorem dX5_make_215 : decode cX5_make 215 = .ok (.getfield 72, 3) := by decide +kernel
theorem dX5_make_218 : decode cX5_make 218 = .ok (.iload 5, 2) := by decide +kernel
theorem dX5_make_220 : decode cX5_make 220 = .ok (.iadd, 1) := by decide +kernel
theorem dX5_make_221 : decode cX5_make 221 = .ok (.putfield 72, 3) := by decide +kernel
theorem dX5_make_224 : decode cX5_make 224 = .ok (.aload_n 0, 1) := by decide +kernel
theorem dX5_make_225 : decode cX5_make 225 = .ok (.dup, 1) := by decide +kernel
theorem dX5_make_226 : decode cX5_make 226 = .ok (.getfield 78, 3) := by decide +kernel
theorem dX5_make_229 : decode cX5_make 229 = .ok (.iconst 1, 1) := by decide +kernel
theorem dX5_make_230 : decode cX5_make 230 = .ok (.iadd, 1) := by decide +kernel
theorem dX5_make_231 : decode cX5_make 231 = .ok (.putfield 78, 3) := by decide +kernel
theorem dX5_make_234 : decode cX5_make 234 = .ok (.iload 6, 2) := by decide +kernel
theorem dX5_make_236 : decode cX5_make 236 = .ok (.ireturn, 1) := by decide +kernel
theorem dX5_sizeNow_0 : decode cX5_sizeNow 0 = .ok (.aload_n 0, 1) := by decide +kernel
theorem dX5_sizeNow_1 : decode cX5_sizeNow 1 = .ok (.getfield 46, 3) := by decide +kernel
theorem dX5_sizeNow_4 : decode cX5_sizeNow 4 = .ok (.iload_n 1, 1) := by decide +kernel
theorem dX5_sizeNow_5 : decode cX5_sizeNow 5 = .ok (.iaload, 1) := by decide +kernel
theorem dX5_sizeNow_6 : decode cX5_sizeNow 6 = .ok (.iconst 2, 1) := by decide +kernel
theorem dX5_sizeNow_7 : decode cX5_sizeNow 7 = .ok (.if_icmp .ne 7, 3) := by decide +kernel
theorem dX5_sizeNow_10 : decode cX5_sizeNow 10 = .ok (.iconst 0, 1) := by decide +kernel
theorem dX5_sizeNow_11 : decode cX5_sizeNow 11 = .ok (.goto 9, 3) := by decide +kernel
theorem dX5_sizeNow_14 : decode cX5_sizeNow 14 = .ok (.aload_n 0, 1) := by decide +kernel
theorem dX5_sizeNow_15 : decode cX5_sizeNow 15 = .ok (.getfield 37, 3) := by decide +kernel
theorem dX5_sizeNow_18 : decode cX5_sizeNow 18 = .ok (.iload_n 1, 1) := by decide +kernel
theorem dX5_sizeNow_19 : decode cX5_sizeNow 19 = .ok (.iaload, 1) := by decide +kernel
theorem dX5_sizeNow_20 : decode cX5_sizeNow 20 = .ok (.ireturn, 1) := by decide +kernel
theorem dX5_grow_0 : decode cX5_grow 0 = .ok (.aload_n 0, 1) := by decide +kernel
theorem dX5_grow_1 : decode cX5_grow 1 = .ok (.iload_n 1, 1) := by decide +kernel
theorem dX5_grow_2 : decode cX5_grow 2 = .ok (.invokevirtual 137, 3) := by decide +kernel
theorem dX5_grow_5 : decode cX5_grow 5 = .ok (.ifCond .ne 11, 3) := by decide +kernel
theorem dX5_grow_8 : decode cX5_grow 8 = .ok (.aload_n 0, 1) := by decide +kernel
theorem dX5_grow_9 : decode cX5_grow 9 = .ok (.iload_n 2, 1) := by decide +kernel
theorem dX5_grow_10 : decode cX5_grow 10 = .ok (.invokevirtual 101, 3) := by decide +kernel
theorem dX5_grow_13 : decode cX5_grow 13 = .ok (.ifCond .eq 6, 3) := by decide +kernel
theorem dX5_grow_16 : decode cX5_grow 16 = .ok (.bipush (-101), 2) := by decide +kernel
theorem dX5_grow_18 : decode cX5_grow 18 = .ok (.ireturn, 1) := by decide +kernel
theorem dX5_grow_19 : decode cX5_grow 19 = .ok (.iload_n 3, 1) := by decide +kernel
theorem dX5_grow_20 : decode cX5_grow 20 = .ok (.i2l, 1) := by decide +kernel
theorem dX5_grow_21 : decode cX5_grow 21 = .ok (.lconst 1, 1) := by decide +kernel
theorem dX5_grow_22 : decode cX5_grow 22 = .ok (.ldc2_w 140, 3) := by decide +kernel
theorem dX5_grow_25 : decode cX5_grow 25 = .ok (.invokestatic 83, 3) := by decide +kernel
theorem dX5_grow_28 : decode cX5_grow 28 = .ok (.ifCond .eq 16, 3) := by decide +kernel
theorem dX5_grow_31 : decode cX5_grow 31 = .ok (.aload_n 0, 1) := by decide +kernel
theorem dX5_grow_32 : decode cX5_grow 32 = .ok (.iload_n 1, 1) := by decide +kernel
theorem dX5_grow_33 : decode cX5_grow 33 = .ok (.invokevirtual 142, 3) := by decide +kernel
theorem dX5_grow_36 : decode cX5_grow 36 = .ok (.iload_n 3, 1) := by decide +kernel
theorem dX5_grow_37 : decode cX5_grow 37 = .ok (.iadd, 1) := by decide +kernel
theorem dX5_grow_38 : decode cX5_grow 38 = .ok (.sipush 1000, 3) := by decide +kernel
theorem dX5_grow_41 : decode cX5_grow 41 = .ok (.if_icmp .le 6, 3) := by decide +kernel
theorem dX5_grow_44 : decode cX5_grow 44 = .ok (.bipush (-102), 2) := by decide +kernel
theorem dX5_grow_46 : decode cX5_grow 46 = .ok (.ireturn, 1) := by decide +kernel
theorem dX5_grow_47 : decode cX5_grow 47 = .ok (.aload_n 0, 1) := by decide +kernel
theorem dX5_grow_48 : decode cX5_grow 48 = .ok (.getfield 46, 3) := by decide +kernel
theorem dX5_grow_51 : decode cX5_grow 51 = .ok (.iload_n 1, 1) := by decide +kernel
theorem dX5_grow_52 : decode cX5_grow 52 = .ok (.iaload, 1) := by decide +kernel
theorem dX5_grow_53 : decode cX5_grow 53 = .ok (.ifCond .eq 6, 3) := by decide +kernel
theorem dX5_grow_56 : decode cX5_grow 56 = .ok (.bipush (-103), 2) := by decide +kernel
theorem dX5_grow_58 : decode cX5_grow 58 = .ok (.ireturn, 1) := by decide +kernel
theorem dX5_grow_59 : decode cX5_grow 59 = .ok (.aload_n 0, 1) := by decide +kernel
theorem dX5_grow_60 : decode cX5_grow 60 = .ok (.aload_n 0, 1) := by decide +kernel
theorem dX5_grow_61 : decode cX5_grow 61 = .ok (.getfield 34, 3) := by decide +kernel
theorem dX5_grow_64 : decode cX5_grow 64 = .ok (.iload_n 1, 1) := by decide +kernel
theorem dX5_grow_65 : decode cX5_grow 65 = .ok (.iaload, 1) := by decide +kernel
theorem dX5_grow_66 : decode cX5_grow 66 = .ok (.iload_n 3, 1) := by decide +kernel
theorem dX5_grow_67 : decode cX5_grow 67 = .ok (.invokevirtual 124, 3) := by decide +kernel
theorem dX5_grow_70 : decode cX5_grow 70 = .ok (.ifCond .eq 6, 3) := by decide +kernel
theorem dX5_grow_73 : decode cX5_grow 73 = .ok (.bipush (-105), 2) := by decide +kernel
theorem dX5_grow_75 : decode cX5_grow 75 = .ok (.ireturn, 1) := by decide +kernel
theorem dX5_grow_76 : decode cX5_grow 76 = .ok (.aload_n 0, 1) := by decide +kernel
theorem dX5_grow_77 : decode cX5_grow 77 = .ok (.aload_n 0, 1) := by decide +kernel
theorem dX5_grow_78 : decode cX5_grow 78 = .ok (.getfield 37, 3) := by decide +kernel
theorem dX5_grow_81 : decode cX5_grow 81 = .ok (.iload_n 1, 1) := by decide +kernel
theorem dX5_grow_82 : decode cX5_grow 82 = .ok (.iaload, 1) := by decide +kernel
theorem dX5_grow_83 : decode cX5_grow 83 = .ok (.iload_n 3, 1) := by decide +kernel
theorem dX5_grow_84 : decode cX5_grow 84 = .ok (.iadd, 1) := by decide +kernel
theorem dX5_grow_85 : decode cX5_grow 85 = .ok (.invokevirtual 127, 3) := by decide +kernel
theorem dX5_grow_88 : decode cX5_grow 88 = .ok (.aload_n 0, 1) := by decide +kernel
theorem dX5_grow_89 : decode cX5_grow 89 = .ok (.aload_n 0, 1) := by decide +kernel
theorem dX5_grow_90 : decode cX5_grow 90 = .ok (.getfield 37, 3) := by decide +kernel
theorem dX5_grow_93 : decode cX5_grow 93 = .ok (.iload_n 1, 1) := by decide +kernel
theorem dX5_grow_94 : decode cX5_grow 94 = .ok (.iaload, 1) := by decide +kernel
theorem dX5_grow_95 : decode cX5_grow 95 = .ok (.invokevirtual 127, 3) := by decide +kernel
theorem dX5_grow_98 : decode cX5_grow 98 = .ok (.isub, 1) := by decide +kernel
theorem dX5_grow_99 : decode cX5_grow 99 = .ok (.aload_n 0, 1) := by decide +kernel
theorem dX5_grow_100 : decode cX5_grow 100 = .ok (.invokevirtual 130, 3) := by decide +kernel
theorem dX5_grow_103 : decode cX5_grow 103 = .ok (.imul, 1) := by decide +kernel
theorem dX5_grow_104 : decode cX5_grow 104 = .ok (.aload_n 0, 1) := by decide +kernel
theorem dX5_grow_105 : decode cX5_grow 105 = .ok (.getfield 43, 3) := by decide +kernel
theorem dX5_grow_108 : decode cX5_grow 108 = .ok (.iload_n 1, 1) := by decide +kernel
theorem dX5_grow_109 : decode cX5_grow 109 = .ok (.iaload, 1) := by decide +kernel
theorem dX5_grow_110 : decode cX5_grow 110 = .ok (.aload_n 0, 1) := by decide +kernel
theorem dX5_grow_111 : decode cX5_grow 111 = .ok (.getfield 64, 3) := by decide +kernel
theorem dX5_grow_114 : decode cX5_grow 114 = .ok (.isub, 1) := by decide +kernel
theorem dX5_grow_115 : decode cX5_grow 115 = .ok (.imul, 1) := by decide +kernel
theorem dX5_grow_116 : decode cX5_grow 116 = .ok (.istore 4, 2) := by decide +kernel
theorem dX5_grow_118 : decode cX5_grow 118 = .ok (.iload_n 3, 1) := by decide +kernel
theorem dX5_grow_119 : decode cX5_grow 119 = .ok (.aload_n 0, 1) := by decide +kernel
theorem dX5_grow_120 : decode cX5_grow 120 = .ok (.invokevirtual 110, 3) := by decide +kernel
theorem dX5_grow_123 : decode cX5_grow 123 = .ok (.imul, 1) := by decide +kernel
theorem dX5_grow_124 : decode cX5_grow 124 = .ok (.iload 4, 2) := by decide +kernel
theorem dX5_grow_126 : decode cX5_grow 126 = .ok (.iadd, 1) := by decide +kernel
theorem dX5_grow_127 : decode cX5_grow 127 = .ok (.istore 5, 2) := by decide +kernel
theorem dX5_grow_129 : decode cX5_grow 129 = .ok (.aload_n 0, 1) := by decide +kernel
theorem dX5_grow_130 : decode cX5_grow 130 = .ok (.getfield 22, 3) := by decide +kernel
theorem dX5_grow_133 : decode cX5_grow 133 = .ok (.iload_n 2, 1) := by decide +kernel
theorem dX5_grow_134 : decode cX5_grow 134 = .ok (.iaload, 1) := by decide +kernel
theorem dX5_grow_135 : decode cX5_grow 135 = .ok (.iload 5, 2) := by decide +kernel
theorem dX5_grow_137 : decode cX5_grow 137 = .ok (.if_icmp .ge 6, 3) := by decide +kernel
theorem dX5_grow_140 : decode cX5_grow 140 = .ok (.bipush (-106), 2) := by decide +kernel
theorem dX5_grow_142 : decode cX5_grow 142 = .ok (.ireturn, 1) := by decide +kernel
theorem dX5_grow_143 : decode cX5_grow 143 = .ok (.aload_n 0, 1) := by decide +kernel
theorem dX5_grow_144 : decode cX5_grow 144 = .ok (.iload_n 1, 1) := by decide +kernel
theorem dX5_grow_145 : decode cX5_grow 145 = .ok (.iload_n 2, 1) := by decide +kernel
theorem dX5_grow_146 : decode cX5_grow 146 = .ok (.invokevirtual 114, 3) := by decide +kernel
theorem dX5_grow_149 : decode cX5_grow 149 = .ok (.ifCond .eq 17, 3) := by decide +kernel
theorem dX5_grow_152 : decode cX5_grow 152 = .ok (.aload_n 0, 1) := by decide +kernel
theorem dX5_grow_153 : decode cX5_grow 153 = .ok (.getfield 49, 3) := by decide +kernel
theorem dX5_grow_156 : decode cX5_grow 156 = .ok (.iload_n 1, 1) := by decide +kernel
theorem dX5_grow_157 : decode cX5_grow 157 = .ok (.iaload, 1) := by decide +kernel
theorem dX5_grow_158 : decode cX5_grow 158 = .ok (.bipush 16, 2) := by decide +kernel
theorem dX5_grow_160 : decode cX5_grow 160 = .ok (.if_icmp .ne 6, 3) := by decide +kernel
theorem dX5_grow_163 : decode cX5_grow 163 = .ok (.bipush (-107), 2) := by decide +kernel
theorem dX5_grow_165 : decode cX5_grow 165 = .ok (.ireturn, 1) := by decide +kernel
theorem dX5_grow_166 : decode cX5_grow 166 = .ok (.aload_n 0, 1) := by decide +kernel
theorem dX5_grow_167 : decode cX5_grow 167 = .ok (.iload_n 1, 1) := by decide +kernel
theorem dX5_grow_168 : decode cX5_grow 168 = .ok (.iload_n 2, 1) := by decide +kernel
theorem dX5_grow_169 : decode cX5_grow 169 = .ok (.iload_n 3, 1) := by decide +kernel
theorem dX5_grow_170 : decode cX5_grow 170 = .ok (.invokevirtual 133, 3) := by decide +kernel
theorem dX5_grow_173 : decode cX5_grow 173 = .ok (.aload_n 0, 1) := by decide +kernel
theorem dX5_grow_174 : decode cX5_grow 174 = .ok (.getfield 37, 3) := by decide +kernel
theorem dX5_grow_177 : decode cX5_grow 177 = .ok (.iload_n 1, 1) := by decide +kernel
theorem dX5_grow_178 : decode cX5_grow 178 = .ok (.dup2, 1) := by decide +kernel
theorem dX5_grow_179 : decode cX5_grow 179 = .ok (.iaload, 1) := by decide +kernel
theorem dX5_grow_180 : decode cX5_grow 180 = .ok (.iload_n 3, 1) := by decide +kernel
theorem dX5_grow_181 : decode cX5_grow 181 = .ok (.iadd, 1) := by decide +kernel
theorem dX5_grow_182 : decode cX5_grow 182 = .ok (.iastore, 1) := by decide +kernel
theorem dX5_grow_183 : decode cX5_grow 183 = .ok (.aload_n 0, 1) := by decide +kernel
theorem dX5_grow_184 : decode cX5_grow 184 = .ok (.getfield 22, 3) := by decide +kernel
theorem dX5_grow_187 : decode cX5_grow 187 = .ok (.iload_n 2, 1) := by decide +kernel
theorem dX5_grow_188 : decode cX5_grow 188 = .ok (.dup2, 1) := by decide +kernel
theorem dX5_grow_189 : decode cX5_grow 189 = .ok (.iaload, 1) := by decide +kernel
theorem dX5_grow_190 : decode cX5_grow 190 = .ok (.iload 5, 2) := by decide +kernel
