theorem dX8_init_0 : dec mX8_init 0 = .ok (.aload_n 0, 1) := by decide +kernel
theorem dX8_init_1 : dec mX8_init 1 = .ok (.invokespecial 1, 3) := by decide +kernel
theorem dX8_init_4 : dec mX8_init 4 = .ok (.aload_n 0, 1) := by decide +kernel
theorem dX8_init_5 : dec mX8_init 5 = .ok (.bipush 120, 2) := by decide +kernel
theorem dX8_init_7 : dec mX8_init 7 = .ok (.newarray .int, 2) := by decide +kernel
theorem dX8_init_9 : dec mX8_init 9 = .ok (.putfield 7, 3) := by decide +kernel
theorem dX8_init_12 : dec mX8_init 12 = .ok (.aload_n 0, 1) := by decide +kernel
theorem dX8_init_13 : dec mX8_init 13 = .ok (.sipush 563, 3) := by decide +kernel
theorem dX8_init_16 : dec mX8_init 16 = .ok (.newarray .int, 2) := by decide +kernel
theorem dX8_init_18 : dec mX8_init 18 = .ok (.putfield 13, 3) := by decide +kernel
theorem dX8_init_21 : dec mX8_init 21 = .ok (.aload_n 0, 1) := by decide +kernel
theorem dX8_init_22 : dec mX8_init 22 = .ok (.sipush 563, 3) := by decide +kernel
theorem dX8_init_25 : dec mX8_init 25 = .ok (.newarray .int, 2) := by decide +kernel
theorem dX8_init_27 : dec mX8_init 27 = .ok (.putfield 16, 3) := by decide +kernel
theorem dX8_init_30 : dec mX8_init 30 = .ok (.aload_n 0, 1) := by decide +kernel
theorem dX8_init_31 : dec mX8_init 31 = .ok (.sipush 7882, 3) := by decide +kernel
theorem dX8_init_34 : dec mX8_init 34 = .ok (.newarray .int, 2) := by decide +kernel
theorem dX8_init_36 : dec mX8_init 36 = .ok (.putfield 19, 3) := by decide +kernel
theorem dX8_init_39 : dec mX8_init 39 = .ok (.aload_n 0, 1) := by decide +kernel
theorem dX8_init_40 : dec mX8_init 40 = .ok (.sipush 1126, 3) := by decide +kernel
theorem dX8_init_43 : dec mX8_init 43 = .ok (.newarray .int, 2) := by decide +kernel
theorem dX8_init_45 : dec mX8_init 45 = .ok (.putfield 22, 3) := by decide +kernel
theorem dX8_init_48 : dec mX8_init 48 = .ok (.aload_n 0, 1) := by decide +kernel
theorem dX8_init_49 : dec mX8_init 49 = .ok (.iconst 2, 1) := by decide +kernel
theorem dX8_init_50 : dec mX8_init 50 = .ok (.newarray .boolean, 2) := by decide +kernel
theorem dX8_init_52 : dec mX8_init 52 = .ok (.putfield 25, 3) := by decide +kernel
theorem dX8_init_55 : dec mX8_init 55 = .ok (.aload_n 0, 1) := by decide +kernel
theorem dX8_init_56 : dec mX8_init 56 = .ok (.bipush 56, 2) := by decide +kernel
theorem dX8_init_58 : dec mX8_init 58 = .ok (.newarray .boolean, 2) := by decide +kernel
theorem dX8_init_60 : dec mX8_init 60 = .ok (.putfield 29, 3) := by decide +kernel
theorem dX8_init_63 : dec mX8_init 63 = .ok (.aload_n 0, 1) := by decide +kernel
theorem dX8_init_64 : dec mX8_init 64 = .ok (.getfield 13, 3) := by decide +kernel
theorem dX8_init_67 : dec mX8_init 67 = .ok (.iconst 3, 1) := by decide +kernel
theorem dX8_init_68 : dec mX8_init 68 = .ok (.iconst 1, 1) := by decide +kernel
theorem dX8_init_69 : dec mX8_init 69 = .ok (.invokestatic 32, 3) := by decide +kernel
theorem dX8_init_72 : dec mX8_init 72 = .ok (.return_, 1) := by decide +kernel
theorem dX8_thrown_0 : dec mX8_thrown 0 = .ok (.aload_n 0, 1) := by decide +kernel
theorem dX8_thrown_1 : dec mX8_thrown 1 = .ok (.getfield 36, 3) := by decide +kernel
theorem dX8_thrown_4 : dec mX8_thrown 4 = .ok (.ireturn, 1) := by decide +kernel
theorem dX8_refused_0 : dec mX8_refused 0 = .ok (.aload_n 0, 1) := by decide +kernel
theorem dX8_refused_1 : dec mX8_refused 1 = .ok (.iload_n 1, 1) := by decide +kernel
theorem dX8_refused_2 : dec mX8_refused 2 = .ok (.putfield 36, 3) := by decide +kernel
theorem dX8_refused_5 : dec mX8_refused 5 = .ok (.iload_n 1, 1) := by decide +kernel
theorem dX8_refused_6 : dec mX8_refused 6 = .ok (.ifCond .le 7, 3) := by decide +kernel
theorem dX8_refused_9 : dec mX8_refused 9 = .ok (.iconst 1, 1) := by decide +kernel
theorem dX8_refused_10 : dec mX8_refused 10 = .ok (.goto 4, 3) := by decide +kernel
theorem dX8_refused_13 : dec mX8_refused 13 = .ok (.iconst 0, 1) := by decide +kernel
theorem dX8_refused_14 : dec mX8_refused 14 = .ok (.ireturn, 1) := by decide +kernel
theorem dX8_in_0 : dec mX8_in 0 = .ok (.lload_n 0, 1) := by decide +kernel
theorem dX8_in_1 : dec mX8_in 1 = .ok (.lload_n 2, 1) := by decide +kernel
theorem dX8_in_2 : dec mX8_in 2 = .ok (.lcmp, 1) := by decide +kernel
theorem dX8_in_3 : dec mX8_in 3 = .ok (.ifCond .lt 14, 3) := by decide +kernel
theorem dX8_in_6 : dec mX8_in 6 = .ok (.lload_n 0, 1) := by decide +kernel
theorem dX8_in_7 : dec mX8_in 7 = .ok (.lload 4, 2) := by decide +kernel
theorem dX8_in_9 : dec mX8_in 9 = .ok (.lcmp, 1) := by decide +kernel
theorem dX8_in_10 : dec mX8_in 10 = .ok (.ifCond .gt 7, 3) := by decide +kernel
theorem dX8_in_13 : dec mX8_in 13 = .ok (.iconst 1, 1) := by decide +kernel
theorem dX8_in_14 : dec mX8_in 14 = .ok (.goto 4, 3) := by decide +kernel
theorem dX8_in_17 : dec mX8_in 17 = .ok (.iconst 0, 1) := by decide +kernel
theorem dX8_in_18 : dec mX8_in 18 = .ok (.ireturn, 1) := by decide +kernel
theorem dX8_copyState_0 : dec mX8_copyState 0 = .ok (.iconst 0, 1) := by decide +kernel
theorem dX8_copyState_1 : dec mX8_copyState 1 = .ok (.istore 4, 2) := by decide +kernel
theorem dX8_copyState_3 : dec mX8_copyState 3 = .ok (.iload 4, 2) := by decide +kernel
theorem dX8_copyState_5 : dec mX8_copyState 5 = .ok (.sipush 563, 3) := by decide +kernel
theorem dX8_copyState_8 : dec mX8_copyState 8 = .ok (.if_icmp .ge 21, 3) := by decide +kernel
theorem dX8_copyState_11 : dec mX8_copyState 11 = .ok (.aload_n 2, 1) := by decide +kernel
theorem dX8_copyState_12 : dec mX8_copyState 12 = .ok (.iload_n 3, 1) := by decide +kernel
theorem dX8_copyState_13 : dec mX8_copyState 13 = .ok (.iload 4, 2) := by decide +kernel
theorem dX8_copyState_15 : dec mX8_copyState 15 = .ok (.iadd, 1) := by decide +kernel
theorem dX8_copyState_16 : dec mX8_copyState 16 = .ok (.aload_n 0, 1) := by decide +kernel
theorem dX8_copyState_17 : dec mX8_copyState 17 = .ok (.iload_n 1, 1) := by decide +kernel
theorem dX8_copyState_18 : dec mX8_copyState 18 = .ok (.iload 4, 2) := by decide +kernel
theorem dX8_copyState_20 : dec mX8_copyState 20 = .ok (.iadd, 1) := by decide +kernel
theorem dX8_copyState_21 : dec mX8_copyState 21 = .ok (.iaload, 1) := by decide +kernel
theorem dX8_copyState_22 : dec mX8_copyState 22 = .ok (.iastore, 1) := by decide +kernel
theorem dX8_copyState_23 : dec mX8_copyState 23 = .ok (.iinc 4 1, 3) := by decide +kernel
theorem dX8_copyState_26 : dec mX8_copyState 26 = .ok (.goto (-23), 3) := by decide +kernel
theorem dX8_copyState_29 : dec mX8_copyState 29 = .ok (.return_, 1) := by decide +kernel
theorem dX8_wide_0 : dec mX8_wide 0 = .ok (.aload_n 0, 1) := by decide +kernel
theorem dX8_wide_1 : dec mX8_wide 1 = .ok (.iconst 0, 1) := by decide +kernel
theorem dX8_wide_2 : dec mX8_wide 2 = .ok (.iaload, 1) := by decide +kernel
theorem dX8_wide_3 : dec mX8_wide 3 = .ok (.iconst 2, 1) := by decide +kernel
theorem dX8_wide_4 : dec mX8_wide 4 = .ok (.iadd, 1) := by decide +kernel
theorem dX8_wide_5 : dec mX8_wide 5 = .ok (.ireturn, 1) := by decide +kernel
theorem dX8_high_0 : dec mX8_high 0 = .ok (.aload_n 0, 1) := by decide +kernel
theorem dX8_high_1 : dec mX8_high 1 = .ok (.iconst 0, 1) := by decide +kernel
theorem dX8_high_2 : dec mX8_high 2 = .ok (.iaload, 1) := by decide +kernel
theorem dX8_high_3 : dec mX8_high 3 = .ok (.iconst 1, 1) := by decide +kernel
theorem dX8_high_4 : dec mX8_high 4 = .ok (.iadd, 1) := by decide +kernel
theorem dX8_high_5 : dec mX8_high 5 = .ok (.aload_n 0, 1) := by decide +kernel
theorem dX8_high_6 : dec mX8_high 6 = .ok (.iconst 1, 1) := by decide +kernel
theorem dX8_high_7 : dec mX8_high 7 = .ok (.iaload, 1) := by decide +kernel
theorem dX8_high_8 : dec mX8_high 8 = .ok (.imul, 1) := by decide +kernel
theorem dX8_high_9 : dec mX8_high 9 = .ok (.ireturn, 1) := by decide +kernel
theorem dX8_squares_0 : dec mX8_squares 0 = .ok (.aload_n 0, 1) := by decide +kernel
theorem dX8_squares_1 : dec mX8_squares 1 = .ok (.invokestatic 40, 3) := by decide +kernel
theorem dX8_squares_4 : dec mX8_squares 4 = .ok (.aload_n 0, 1) := by decide +kernel
theorem dX8_squares_5 : dec mX8_squares 5 = .ok (.invokestatic 44, 3) := by decide +kernel
theorem dX8_squares_8 : dec mX8_squares 8 = .ok (.imul, 1) := by decide +kernel
theorem dX8_squares_9 : dec mX8_squares 9 = .ok (.ireturn, 1) := by decide +kernel
theorem dX8_tiles_0 : dec mX8_tiles 0 = .ok (.aload_n 0, 1) := by decide +kernel
theorem dX8_tiles_1 : dec mX8_tiles 1 = .ok (.invokestatic 47, 3) := by decide +kernel
theorem dX8_tiles_4 : dec mX8_tiles 4 = .ok (.iconst 2, 1) := by decide +kernel
theorem dX8_tiles_5 : dec mX8_tiles 5 = .ok (.idiv, 1) := by decide +kernel
theorem dX8_tiles_6 : dec mX8_tiles 6 = .ok (.ireturn, 1) := by decide +kernel
theorem dX8_isSquare_0 : dec mX8_isSquare 0 = .ok (.iload_n 1, 1) := by decide +kernel
theorem dX8_isSquare_1 : dec mX8_isSquare 1 = .ok (.i2l, 1) := by decide +kernel
theorem dX8_isSquare_2 : dec mX8_isSquare 2 = .ok (.lconst 0, 1) := by decide +kernel
theorem dX8_isSquare_3 : dec mX8_isSquare 3 = .ok (.aload_n 0, 1) := by decide +kernel
theorem dX8_isSquare_4 : dec mX8_isSquare 4 = .ok (.invokestatic 40, 3) := by decide +kernel
theorem dX8_isSquare_7 : dec mX8_isSquare 7 = .ok (.iconst 1, 1) := by decide +kernel
theorem dX8_isSquare_8 : dec mX8_isSquare 8 = .ok (.isub, 1) := by decide +kernel
theorem dX8_isSquare_9 : dec mX8_isSquare 9 = .ok (.i2l, 1) := by decide +kernel
theorem dX8_isSquare_10 : dec mX8_isSquare 10 = .ok (.invokestatic 50, 3) := by decide +kernel
theorem dX8_isSquare_13 : dec mX8_isSquare 13 = .ok (.ifCond .eq 23, 3) := by decide +kernel
theorem dX8_isSquare_16 : dec mX8_isSquare 16 = .ok (.iload_n 2, 1) := by decide +kernel
theorem dX8_isSquare_17 : dec mX8_isSquare 17 = .ok (.i2l, 1) := by decide +kernel
theorem dX8_isSquare_18 : dec mX8_isSquare 18 = .ok (.lconst 0, 1) := by decide +kernel
theorem dX8_isSquare_19 : dec mX8_isSquare 19 = .ok (.aload_n 0, 1) := by decide +kernel
theorem dX8_isSquare_20 : dec mX8_isSquare 20 = .ok (.invokestatic 44, 3) := by decide +kernel
theorem dX8_isSquare_23 : dec mX8_isSquare 23 = .ok (.iconst 1, 1) := by decide +kernel
theorem dX8_isSquare_24 : dec mX8_isSquare 24 = .ok (.isub, 1) := by decide +kernel
theorem dX8_isSquare_25 : dec mX8_isSquare 25 = .ok (.i2l, 1) := by decide +kernel
theorem dX8_isSquare_26 : dec mX8_isSquare 26 = .ok (.invokestatic 50, 3) := by decide +kernel
theorem dX8_isSquare_29 : dec mX8_isSquare 29 = .ok (.ifCond .eq 7, 3) := by decide +kernel
theorem dX8_isSquare_32 : dec mX8_isSquare 32 = .ok (.iconst 1, 1) := by decide +kernel
theorem dX8_isSquare_33 : dec mX8_isSquare 33 = .ok (.goto 4, 3) := by decide +kernel
theorem dX8_isSquare_36 : dec mX8_isSquare 36 = .ok (.iconst 0, 1) := by decide +kernel
theorem dX8_isSquare_37 : dec mX8_isSquare 37 = .ok (.ireturn, 1) := by decide +kernel
theorem dX8_isPlace_0 : dec mX8_isPlace 0 = .ok (.iload_n 1, 1) := by decide +kernel
theorem dX8_isPlace_1 : dec mX8_isPlace 1 = .ok (.i2l, 1) := by decide +kernel
theorem dX8_isPlace_2 : dec mX8_isPlace 2 = .ok (.lconst 0, 1) := by decide +kernel
theorem dX8_isPlace_3 : dec mX8_isPlace 3 = .ok (.aload_n 0, 1) := by decide +kernel
theorem dX8_isPlace_4 : dec mX8_isPlace 4 = .ok (.invokestatic 54, 3) := by decide +kernel
theorem dX8_isPlace_7 : dec mX8_isPlace 7 = .ok (.iconst 1, 1) := by decide +kernel
theorem dX8_isPlace_8 : dec mX8_isPlace 8 = .ok (.isub, 1) := by decide +kernel
theorem dX8_isPlace_9 : dec mX8_isPlace 9 = .ok (.i2l, 1) := by decide +kernel
theorem dX8_isPlace_10 : dec mX8_isPlace 10 = .ok (.invokestatic 50, 3) := by decide +kernel
theorem dX8_isPlace_13 : dec mX8_isPlace 13 = .ok (.ireturn, 1) := by decide +kernel
theorem dX8_start_0 : dec mX8_start 0 = .ok (.iconst 0, 1) := by decide +kernel
theorem dX8_start_1 : dec mX8_start 1 = .ok (.istore_n 3, 1) := by decide +kernel
theorem dX8_start_2 : dec mX8_start 2 = .ok (.iload_n 3, 1) := by decide +kernel
theorem dX8_start_3 : dec mX8_start 3 = .ok (.sipush 563, 3) := by decide +kernel
theorem dX8_start_6 : dec mX8_start 6 = .ok (.if_icmp .ge 13, 3) := by decide +kernel
theorem dX8_start_9 : dec mX8_start 9 = .ok (.aload_n 0, 1) := by decide +kernel
theorem dX8_start_10 : dec mX8_start 10 = .ok (.iload_n 3, 1) := by decide +kernel
theorem dX8_start_11 : dec mX8_start 11 = .ok (.iconst 0, 1) := by decide +kernel
theorem dX8_start_12 : dec mX8_start 12 = .ok (.iastore, 1) := by decide +kernel
theorem dX8_start_13 : dec mX8_start 13 = .ok (.iinc 3 1, 3) := by decide +kernel
theorem dX8_start_16 : dec mX8_start 16 = .ok (.goto (-14), 3) := by decide +kernel
theorem dX8_start_19 : dec mX8_start 19 = .ok (.aload_n 0, 1) := by decide +kernel
theorem dX8_start_20 : dec mX8_start 20 = .ok (.iconst 0, 1) := by decide +kernel
theorem dX8_start_21 : dec mX8_start 21 = .ok (.iload_n 1, 1) := by decide +kernel
theorem dX8_start_22 : dec mX8_start 22 = .ok (.iastore, 1) := by decide +kernel
theorem dX8_start_23 : dec mX8_start 23 = .ok (.aload_n 0, 1) := by decide +kernel
theorem dX8_start_24 : dec mX8_start 24 = .ok (.iconst 1, 1) := by decide +kernel
theorem dX8_start_25 : dec mX8_start 25 = .ok (.iload_n 2, 1) := by decide +kernel
theorem dX8_start_26 : dec mX8_start 26 = .ok (.iastore, 1) := by decide +kernel
theorem dX8_start_27 : dec mX8_start 27 = .ok (.iload_n 1, 1) := by decide +kernel
theorem dX8_start_28 : dec mX8_start 28 = .ok (.iconst 2, 1) := by decide +kernel
theorem dX8_start_29 : dec mX8_start 29 = .ok (.iadd, 1) := by decide +kernel
theorem dX8_start_30 : dec mX8_start 30 = .ok (.istore_n 3, 1) := by decide +kernel
theorem dX8_start_31 : dec mX8_start 31 = .ok (.iconst 0, 1) := by decide +kernel
theorem dX8_start_32 : dec mX8_start 32 = .ok (.istore 4, 2) := by decide +kernel
theorem dX8_start_34 : dec mX8_start 34 = .ok (.iconst 0, 1) := by decide +kernel
theorem dX8_start_35 : dec mX8_start 35 = .ok (.istore 5, 2) := by decide +kernel
theorem dX8_start_37 : dec mX8_start 37 = .ok (.iload 5, 2) := by decide +kernel
theorem dX8_start_39 : dec mX8_start 39 = .ok (.aload_n 0, 1) := by decide +kernel
theorem dX8_start_40 : dec mX8_start 40 = .ok (.invokestatic 47, 3) := by decide +kernel
theorem dX8_start_43 : dec mX8_start 43 = .ok (.if_icmp .ge 82, 3) := by decide +kernel
theorem dX8_start_46 : dec mX8_start 46 = .ok (.iload_n 3, 1) := by decide +kernel
theorem dX8_start_47 : dec mX8_start 47 = .ok (.iconst 2, 1) := by decide +kernel
theorem dX8_start_48 : dec mX8_start 48 = .ok (.irem, 1) := by decide +kernel
theorem dX8_start_49 : dec mX8_start 49 = .ok (.ifCond .ne 18, 3) := by decide +kernel
theorem dX8_start_52 : dec mX8_start 52 = .ok (.iload 5, 2) := by decide +kernel
theorem dX8_start_54 : dec mX8_start 54 = .ok (.iconst 2, 1) := by decide +kernel
theorem dX8_start_55 : dec mX8_start 55 = .ok (.irem, 1) := by decide +kernel
theorem dX8_start_56 : dec mX8_start 56 = .ok (.ifCond .ne 7, 3) := by decide +kernel
theorem dX8_start_59 : dec mX8_start 59 = .ok (.iconst 1, 1) := by decide +kernel
theorem dX8_start_60 : dec mX8_start 60 = .ok (.goto 21, 3) := by decide +kernel
theorem dX8_start_63 : dec mX8_start 63 = .ok (.iconst 0, 1) := by decide +kernel
theorem dX8_start_64 : dec mX8_start 64 = .ok (.goto 17, 3) := by decide +kernel
theorem dX8_start_67 : dec mX8_start 67 = .ok (.iload 5, 2) := by decide +kernel
theorem dX8_start_69 : dec mX8_start 69 = .ok (.iload_n 3, 1) := by decide +kernel
theorem dX8_start_70 : dec mX8_start 70 = .ok (.idiv, 1) := by decide +kernel
theorem dX8_start_71 : dec mX8_start 71 = .ok (.iconst 2, 1) := by decide +kernel
theorem dX8_start_72 : dec mX8_start 72 = .ok (.irem, 1) := by decide +kernel
theorem dX8_start_73 : dec mX8_start 73 = .ok (.ifCond .ne 7, 3) := by decide +kernel
theorem dX8_start_76 : dec mX8_start 76 = .ok (.iconst 1, 1) := by decide +kernel
theorem dX8_start_77 : dec mX8_start 77 = .ok (.goto 4, 3) := by decide +kernel
theorem dX8_start_80 : dec mX8_start 80 = .ok (.iconst 0, 1) := by decide +kernel
theorem dX8_start_81 : dec mX8_start 81 = .ok (.istore 6, 2) := by decide +kernel
theorem dX8_start_83 : dec mX8_start 83 = .ok (.iload 6, 2) := by decide +kernel
theorem dX8_start_85 : dec mX8_start 85 = .ok (.ifCond .eq 34, 3) := by decide +kernel
theorem dX8_start_88 : dec mX8_start 88 = .ok (.aload_n 0, 1) := by decide +kernel
theorem dX8_start_89 : dec mX8_start 89 = .ok (.bipush 115, 2) := by decide +kernel
theorem dX8_start_91 : dec mX8_start 91 = .ok (.iload 5, 2) := by decide +kernel
theorem dX8_start_93 : dec mX8_start 93 = .ok (.iadd, 1) := by decide +kernel
theorem dX8_start_94 : dec mX8_start 94 = .ok (.iload_n 3, 1) := by decide +kernel
theorem dX8_start_95 : dec mX8_start 95 = .ok (.iconst 2, 1) := by decide +kernel
theorem dX8_start_96 : dec mX8_start 96 = .ok (.irem, 1) := by decide +kernel
theorem dX8_start_97 : dec mX8_start 97 = .ok (.ifCond .ne 7, 3) := by decide +kernel
theorem dX8_start_100 : dec mX8_start 100 = .ok (.iconst 1, 1) := by decide +kernel
theorem dX8_start_101 : dec mX8_start 101 = .ok (.goto 4, 3) := by decide +kernel
theorem dX8_start_104 : dec mX8_start 104 = .ok (.iconst 2, 1) := by decide +kernel
theorem dX8_start_105 : dec mX8_start 105 = .ok (.iastore, 1) := by decide +kernel
theorem dX8_start_106 : dec mX8_start 106 = .ok (.aload_n 0, 1) := by decide +kernel
theorem dX8_start_107 : dec mX8_start 107 = .ok (.sipush 227, 3) := by decide +kernel
theorem dX8_start_110 : dec mX8_start 110 = .ok (.iload 5, 2) := by decide +kernel
theorem dX8_start_112 : dec mX8_start 112 = .ok (.iadd, 1) := by decide +kernel
theorem dX8_start_113 : dec mX8_start 113 = .ok (.iload 4, 2) := by decide +kernel
theorem dX8_start_115 : dec mX8_start 115 = .ok (.iastore, 1) := by decide +kernel
theorem dX8_start_116 : dec mX8_start 116 = .ok (.iinc 4 1, 3) := by decide +kernel
theorem dX8_start_119 : dec mX8_start 119 = .ok (.iinc 5 1, 3) := by decide +kernel
theorem dX8_start_122 : dec mX8_start 122 = .ok (.goto (-85), 3) := by decide +kernel
theorem dX8_start_125 : dec mX8_start 125 = .ok (.return_, 1) := by decide +kernel
theorem dX8_lowPips_0 : dec mX8_lowPips 0 = .ok (.aload_n 0, 1) := by decide +kernel
theorem dX8_lowPips_1 : dec mX8_lowPips 1 = .ok (.iconst 0, 1) := by decide +kernel
theorem dX8_lowPips_2 : dec mX8_lowPips 2 = .ok (.iaload, 1) := by decide +kernel
theorem dX8_lowPips_3 : dec mX8_lowPips 3 = .ok (.istore_n 2, 1) := by decide +kernel
theorem dX8_lowPips_4 : dec mX8_lowPips 4 = .ok (.iload_n 1, 1) := by decide +kernel
theorem dX8_lowPips_5 : dec mX8_lowPips 5 = .ok (.iload_n 2, 1) := by decide +kernel
theorem dX8_lowPips_6 : dec mX8_lowPips 6 = .ok (.iconst 1, 1) := by decide +kernel
theorem dX8_lowPips_7 : dec mX8_lowPips 7 = .ok (.iadd, 1) := by decide +kernel
theorem dX8_lowPips_8 : dec mX8_lowPips 8 = .ok (.iload_n 2, 1) := by decide +kernel
theorem dX8_lowPips_9 : dec mX8_lowPips 9 = .ok (.iconst 2, 1) := by decide +kernel
theorem dX8_lowPips_10 : dec mX8_lowPips 10 = .ok (.iadd, 1) := by decide +kernel
theorem dX8_lowPips_11 : dec mX8_lowPips 11 = .ok (.imul, 1) := by decide +kernel
theorem dX8_lowPips_12 : dec mX8_lowPips 12 = .ok (.iconst 2, 1) := by decide +kernel
theorem dX8_lowPips_13 : dec mX8_lowPips 13 = .ok (.idiv, 1) := by decide +kernel
theorem dX8_lowPips_14 : dec mX8_lowPips 14 = .ok (.irem, 1) := by decide +kernel
theorem dX8_lowPips_15 : dec mX8_lowPips 15 = .ok (.istore_n 3, 1) := by decide +kernel
theorem dX8_lowPips_16 : dec mX8_lowPips 16 = .ok (.iconst 0, 1) := by decide +kernel
theorem dX8_lowPips_17 : dec mX8_lowPips 17 = .ok (.istore 4, 2) := by decide +kernel
theorem dX8_lowPips_19 : dec mX8_lowPips 19 = .ok (.iload_n 3, 1) := by decide +kernel
theorem dX8_lowPips_20 : dec mX8_lowPips 20 = .ok (.iload_n 2, 1) := by decide +kernel
theorem dX8_lowPips_21 : dec mX8_lowPips 21 = .ok (.iload 4, 2) := by decide +kernel
theorem dX8_lowPips_23 : dec mX8_lowPips 23 = .ok (.isub, 1) := by decide +kernel
theorem dX8_lowPips_24 : dec mX8_lowPips 24 = .ok (.if_icmp .le 18, 3) := by decide +kernel
theorem dX8_lowPips_27 : dec mX8_lowPips 27 = .ok (.iload_n 3, 1) := by decide +kernel
theorem dX8_lowPips_28 : dec mX8_lowPips 28 = .ok (.iload_n 2, 1) := by decide +kernel
theorem dX8_lowPips_29 : dec mX8_lowPips 29 = .ok (.iload 4, 2) := by decide +kernel
theorem dX8_lowPips_31 : dec mX8_lowPips 31 = .ok (.isub, 1) := by decide +kernel
theorem dX8_lowPips_32 : dec mX8_lowPips 32 = .ok (.iconst 1, 1) := by decide +kernel
theorem dX8_lowPips_33 : dec mX8_lowPips 33 = .ok (.iadd, 1) := by decide +kernel
theorem dX8_lowPips_34 : dec mX8_lowPips 34 = .ok (.isub, 1) := by decide +kernel
theorem dX8_lowPips_35 : dec mX8_lowPips 35 = .ok (.istore_n 3, 1) := by decide +kernel
theorem dX8_lowPips_36 : dec mX8_lowPips 36 = .ok (.iinc 4 1, 3) := by decide +kernel
theorem dX8_lowPips_39 : dec mX8_lowPips 39 = .ok (.goto (-20), 3) := by decide +kernel
theorem dX8_lowPips_42 : dec mX8_lowPips 42 = .ok (.iload 4, 2) := by decide +kernel
theorem dX8_lowPips_44 : dec mX8_lowPips 44 = .ok (.ireturn, 1) := by decide +kernel
theorem dX8_highPips_0 : dec mX8_highPips 0 = .ok (.aload_n 0, 1) := by decide +kernel
theorem dX8_highPips_1 : dec mX8_highPips 1 = .ok (.iconst 0, 1) := by decide +kernel
theorem dX8_highPips_2 : dec mX8_highPips 2 = .ok (.iaload, 1) := by decide +kernel
theorem dX8_highPips_3 : dec mX8_highPips 3 = .ok (.istore_n 2, 1) := by decide +kernel
theorem dX8_highPips_4 : dec mX8_highPips 4 = .ok (.iload_n 1, 1) := by decide +kernel
theorem dX8_highPips_5 : dec mX8_highPips 5 = .ok (.iload_n 2, 1) := by decide +kernel
theorem dX8_highPips_6 : dec mX8_highPips 6 = .ok (.iconst 1, 1) := by decide +kernel
theorem dX8_highPips_7 : dec mX8_highPips 7 = .ok (.iadd, 1) := by decide +kernel
theorem dX8_highPips_8 : dec mX8_highPips 8 = .ok (.iload_n 2, 1) := by decide +kernel
theorem dX8_highPips_9 : dec mX8_highPips 9 = .ok (.iconst 2, 1) := by decide +kernel
theorem dX8_highPips_10 : dec mX8_highPips 10 = .ok (.iadd, 1) := by decide +kernel
theorem dX8_highPips_11 : dec mX8_highPips 11 = .ok (.imul, 1) := by decide +kernel
theorem dX8_highPips_12 : dec mX8_highPips 12 = .ok (.iconst 2, 1) := by decide +kernel
theorem dX8_highPips_13 : dec mX8_highPips 13 = .ok (.idiv, 1) := by decide +kernel
theorem dX8_highPips_14 : dec mX8_highPips 14 = .ok (.irem, 1) := by decide +kernel
theorem dX8_highPips_15 : dec mX8_highPips 15 = .ok (.istore_n 3, 1) := by decide +kernel
theorem dX8_highPips_16 : dec mX8_highPips 16 = .ok (.iconst 0, 1) := by decide +kernel
theorem dX8_highPips_17 : dec mX8_highPips 17 = .ok (.istore 4, 2) := by decide +kernel
theorem dX8_highPips_19 : dec mX8_highPips 19 = .ok (.iload_n 3, 1) := by decide +kernel
theorem dX8_highPips_20 : dec mX8_highPips 20 = .ok (.iload_n 2, 1) := by decide +kernel
theorem dX8_highPips_21 : dec mX8_highPips 21 = .ok (.iload 4, 2) := by decide +kernel
theorem dX8_highPips_23 : dec mX8_highPips 23 = .ok (.isub, 1) := by decide +kernel
theorem dX8_highPips_24 : dec mX8_highPips 24 = .ok (.if_icmp .le 18, 3) := by decide +kernel
theorem dX8_highPips_27 : dec mX8_highPips 27 = .ok (.iload_n 3, 1) := by decide +kernel
theorem dX8_highPips_28 : dec mX8_highPips 28 = .ok (.iload_n 2, 1) := by decide +kernel
theorem dX8_highPips_29 : dec mX8_highPips 29 = .ok (.iload 4, 2) := by decide +kernel
theorem dX8_highPips_31 : dec mX8_highPips 31 = .ok (.isub, 1) := by decide +kernel
theorem dX8_highPips_32 : dec mX8_highPips 32 = .ok (.iconst 1, 1) := by decide +kernel
theorem dX8_highPips_33 : dec mX8_highPips 33 = .ok (.iadd, 1) := by decide +kernel
theorem dX8_highPips_34 : dec mX8_highPips 34 = .ok (.isub, 1) := by decide +kernel
theorem dX8_highPips_35 : dec mX8_highPips 35 = .ok (.istore_n 3, 1) := by decide +kernel
theorem dX8_highPips_36 : dec mX8_highPips 36 = .ok (.iinc 4 1, 3) := by decide +kernel
theorem dX8_highPips_39 : dec mX8_highPips 39 = .ok (.goto (-20), 3) := by decide +kernel
theorem dX8_highPips_42 : dec mX8_highPips 42 = .ok (.iload 4, 2) := by decide +kernel
theorem dX8_highPips_44 : dec mX8_highPips 44 = .ok (.iload_n 3, 1) := by decide +kernel
theorem dX8_highPips_45 : dec mX8_highPips 45 = .ok (.iadd, 1) := by decide +kernel
theorem dX8_highPips_46 : dec mX8_highPips 46 = .ok (.ireturn, 1) := by decide +kernel
theorem dX8_half_0 : dec mX8_half 0 = .ok (.bipush 99, 2) := by decide +kernel
theorem dX8_half_2 : dec mX8_half 2 = .ok (.iload_n 1, 1) := by decide +kernel
theorem dX8_half_3 : dec mX8_half 3 = .ok (.imul, 1) := by decide +kernel
theorem dX8_half_4 : dec mX8_half 4 = .ok (.aload_n 0, 1) := by decide +kernel
theorem dX8_half_5 : dec mX8_half 5 = .ok (.iconst 0, 1) := by decide +kernel
theorem dX8_half_6 : dec mX8_half 6 = .ok (.iaload, 1) := by decide +kernel
theorem dX8_half_7 : dec mX8_half 7 = .ok (.idiv, 1) := by decide +kernel
theorem dX8_half_8 : dec mX8_half 8 = .ok (.ireturn, 1) := by decide +kernel
theorem dX8_errorOf_0 : dec mX8_errorOf 0 = .ok (.aload_n 0, 1) := by decide +kernel
theorem dX8_errorOf_1 : dec mX8_errorOf 1 = .ok (.iconst 3, 1) := by decide +kernel
theorem dX8_errorOf_2 : dec mX8_errorOf 2 = .ok (.iload_n 1, 1) := by decide +kernel
theorem dX8_errorOf_3 : dec mX8_errorOf 3 = .ok (.iadd, 1) := by decide +kernel
theorem dX8_errorOf_4 : dec mX8_errorOf 4 = .ok (.iaload, 1) := by decide +kernel
theorem dX8_errorOf_5 : dec mX8_errorOf 5 = .ok (.aload_n 0, 1) := by decide +kernel
theorem dX8_errorOf_6 : dec mX8_errorOf 6 = .ok (.iload_n 2, 1) := by decide +kernel
theorem dX8_errorOf_7 : dec mX8_errorOf 7 = .ok (.invokestatic 57, 3) := by decide +kernel
theorem dX8_errorOf_10 : dec mX8_errorOf 10 = .ok (.isub, 1) := by decide +kernel
theorem dX8_errorOf_11 : dec mX8_errorOf 11 = .ok (.istore_n 3, 1) := by decide +kernel
theorem dX8_errorOf_12 : dec mX8_errorOf 12 = .ok (.iload_n 3, 1) := by decide +kernel
theorem dX8_errorOf_13 : dec mX8_errorOf 13 = .ok (.iload_n 3, 1) := by decide +kernel
theorem dX8_errorOf_14 : dec mX8_errorOf 14 = .ok (.imul, 1) := by decide +kernel
theorem dX8_errorOf_15 : dec mX8_errorOf 15 = .ok (.ireturn, 1) := by decide +kernel
theorem dX8_errorOn_0 : dec mX8_errorOn 0 = .ok (.iload 4, 2) := by decide +kernel
theorem dX8_errorOn_2 : dec mX8_errorOn 2 = .ok (.iconst 1, 1) := by decide +kernel
theorem dX8_errorOn_3 : dec mX8_errorOn 3 = .ok (.if_icmp .ne 11, 3) := by decide +kernel
theorem dX8_errorOn_6 : dec mX8_errorOn 6 = .ok (.aload_n 0, 1) := by decide +kernel
theorem dX8_errorOn_7 : dec mX8_errorOn 7 = .ok (.iload_n 3, 1) := by decide +kernel
theorem dX8_errorOn_8 : dec mX8_errorOn 8 = .ok (.invokestatic 61, 3) := by decide +kernel
theorem dX8_errorOn_11 : dec mX8_errorOn 11 = .ok (.goto 8, 3) := by decide +kernel
theorem dX8_errorOn_14 : dec mX8_errorOn 14 = .ok (.aload_n 0, 1) := by decide +kernel
theorem dX8_errorOn_15 : dec mX8_errorOn 15 = .ok (.iload_n 3, 1) := by decide +kernel
theorem dX8_errorOn_16 : dec mX8_errorOn 16 = .ok (.invokestatic 64, 3) := by decide +kernel
theorem dX8_errorOn_19 : dec mX8_errorOn 19 = .ok (.istore 5, 2) := by decide +kernel
theorem dX8_errorOn_21 : dec mX8_errorOn 21 = .ok (.iload 4, 2) := by decide +kernel
theorem dX8_errorOn_23 : dec mX8_errorOn 23 = .ok (.iconst 1, 1) := by decide +kernel
theorem dX8_errorOn_24 : dec mX8_errorOn 24 = .ok (.if_icmp .ne 11, 3) := by decide +kernel
theorem dX8_errorOn_27 : dec mX8_errorOn 27 = .ok (.aload_n 0, 1) := by decide +kernel
theorem dX8_errorOn_28 : dec mX8_errorOn 28 = .ok (.iload_n 3, 1) := by decide +kernel
theorem dX8_errorOn_29 : dec mX8_errorOn 29 = .ok (.invokestatic 64, 3) := by decide +kernel
theorem dX8_errorOn_32 : dec mX8_errorOn 32 = .ok (.goto 8, 3) := by decide +kernel
theorem dX8_errorOn_35 : dec mX8_errorOn 35 = .ok (.aload_n 0, 1) := by decide +kernel
theorem dX8_errorOn_36 : dec mX8_errorOn 36 = .ok (.iload_n 3, 1) := by decide +kernel
theorem dX8_errorOn_37 : dec mX8_errorOn 37 = .ok (.invokestatic 61, 3) := by decide +kernel
theorem dX8_errorOn_40 : dec mX8_errorOn 40 = .ok (.istore 6, 2) := by decide +kernel
theorem dX8_errorOn_42 : dec mX8_errorOn 42 = .ok (.aload_n 0, 1) := by decide +kernel
theorem dX8_errorOn_43 : dec mX8_errorOn 43 = .ok (.iload_n 1, 1) := by decide +kernel
theorem dX8_errorOn_44 : dec mX8_errorOn 44 = .ok (.iload 5, 2) := by decide +kernel
theorem dX8_errorOn_46 : dec mX8_errorOn 46 = .ok (.invokestatic 67, 3) := by decide +kernel
theorem dX8_errorOn_49 : dec mX8_errorOn 49 = .ok (.aload_n 0, 1) := by decide +kernel
theorem dX8_errorOn_50 : dec mX8_errorOn 50 = .ok (.iload_n 2, 1) := by decide +kernel
theorem dX8_errorOn_51 : dec mX8_errorOn 51 = .ok (.iload 6, 2) := by decide +kernel
theorem dX8_errorOn_53 : dec mX8_errorOn 53 = .ok (.invokestatic 67, 3) := by decide +kernel
theorem dX8_errorOn_56 : dec mX8_errorOn 56 = .ok (.iadd, 1) := by decide +kernel
theorem dX8_errorOn_57 : dec mX8_errorOn 57 = .ok (.ireturn, 1) := by decide +kernel
theorem dX8_bestWay_0 : dec mX8_bestWay 0 = .ok (.aload_n 0, 1) := by decide +kernel
theorem dX8_bestWay_1 : dec mX8_bestWay 1 = .ok (.iload_n 1, 1) := by decide +kernel
theorem dX8_bestWay_2 : dec mX8_bestWay 2 = .ok (.iload_n 2, 1) := by decide +kernel
theorem dX8_bestWay_3 : dec mX8_bestWay 3 = .ok (.iload_n 3, 1) := by decide +kernel
theorem dX8_bestWay_4 : dec mX8_bestWay 4 = .ok (.iconst 0, 1) := by decide +kernel
theorem dX8_bestWay_5 : dec mX8_bestWay 5 = .ok (.invokestatic 71, 3) := by decide +kernel
theorem dX8_bestWay_8 : dec mX8_bestWay 8 = .ok (.aload_n 0, 1) := by decide +kernel
theorem dX8_bestWay_9 : dec mX8_bestWay 9 = .ok (.iload_n 1, 1) := by decide +kernel
theorem dX8_bestWay_10 : dec mX8_bestWay 10 = .ok (.iload_n 2, 1) := by decide +kernel
theorem dX8_bestWay_11 : dec mX8_bestWay 11 = .ok (.iload_n 3, 1) := by decide +kernel
theorem dX8_bestWay_12 : dec mX8_bestWay 12 = .ok (.iconst 1, 1) := by decide +kernel
theorem dX8_bestWay_13 : dec mX8_bestWay 13 = .ok (.invokestatic 71, 3) := by decide +kernel
theorem dX8_bestWay_16 : dec mX8_bestWay 16 = .ok (.if_icmp .le 7, 3) := by decide +kernel
theorem dX8_bestWay_19 : dec mX8_bestWay 19 = .ok (.iconst 1, 1) := by decide +kernel
theorem dX8_bestWay_20 : dec mX8_bestWay 20 = .ok (.goto 4, 3) := by decide +kernel
theorem dX8_bestWay_23 : dec mX8_bestWay 23 = .ok (.iconst 0, 1) := by decide +kernel
theorem dX8_bestWay_24 : dec mX8_bestWay 24 = .ok (.ireturn, 1) := by decide +kernel
theorem dX8_bestError_0 : dec mX8_bestError 0 = .ok (.aload_n 0, 1) := by decide +kernel
theorem dX8_bestError_1 : dec mX8_bestError 1 = .ok (.iload_n 1, 1) := by decide +kernel
theorem dX8_bestError_2 : dec mX8_bestError 2 = .ok (.iload_n 2, 1) := by decide +kernel
theorem dX8_bestError_3 : dec mX8_bestError 3 = .ok (.iload_n 3, 1) := by decide +kernel
theorem dX8_bestError_4 : dec mX8_bestError 4 = .ok (.aload_n 0, 1) := by decide +kernel
theorem dX8_bestError_5 : dec mX8_bestError 5 = .ok (.iload_n 1, 1) := by decide +kernel
theorem dX8_bestError_6 : dec mX8_bestError 6 = .ok (.iload_n 2, 1) := by decide +kernel
theorem dX8_bestError_7 : dec mX8_bestError 7 = .ok (.iload_n 3, 1) := by decide +kernel
theorem dX8_bestError_8 : dec mX8_bestError 8 = .ok (.invokestatic 75, 3) := by decide +kernel
theorem dX8_bestError_11 : dec mX8_bestError 11 = .ok (.invokestatic 71, 3) := by decide +kernel
theorem dX8_bestError_14 : dec mX8_bestError 14 = .ok (.ireturn, 1) := by decide +kernel
theorem dX8_otherOf_0 : dec mX8_otherOf 0 = .ok (.aload_n 0, 1) := by decide +kernel
theorem dX8_otherOf_1 : dec mX8_otherOf 1 = .ok (.bipush 115, 2) := by decide +kernel
theorem dX8_otherOf_3 : dec mX8_otherOf 3 = .ok (.iload_n 1, 1) := by decide +kernel
theorem dX8_otherOf_4 : dec mX8_otherOf 4 = .ok (.iadd, 1) := by decide +kernel
theorem dX8_otherOf_5 : dec mX8_otherOf 5 = .ok (.iaload, 1) := by decide +kernel
theorem dX8_otherOf_6 : dec mX8_otherOf 6 = .ok (.iconst 1, 1) := by decide +kernel
theorem dX8_otherOf_7 : dec mX8_otherOf 7 = .ok (.if_icmp .ne 9, 3) := by decide +kernel
theorem dX8_otherOf_10 : dec mX8_otherOf 10 = .ok (.iload_n 1, 1) := by decide +kernel
theorem dX8_otherOf_11 : dec mX8_otherOf 11 = .ok (.iconst 1, 1) := by decide +kernel
theorem dX8_otherOf_12 : dec mX8_otherOf 12 = .ok (.iadd, 1) := by decide +kernel
theorem dX8_otherOf_13 : dec mX8_otherOf 13 = .ok (.goto 9, 3) := by decide +kernel
theorem dX8_otherOf_16 : dec mX8_otherOf 16 = .ok (.iload_n 1, 1) := by decide +kernel
theorem dX8_otherOf_17 : dec mX8_otherOf 17 = .ok (.aload_n 0, 1) := by decide +kernel
theorem dX8_otherOf_18 : dec mX8_otherOf 18 = .ok (.invokestatic 40, 3) := by decide +kernel
theorem dX8_otherOf_21 : dec mX8_otherOf 21 = .ok (.iadd, 1) := by decide +kernel
theorem dX8_otherOf_22 : dec mX8_otherOf 22 = .ok (.ireturn, 1) := by decide +kernel
theorem dX8_firstOf_0 : dec mX8_firstOf 0 = .ok (.iconst (-1), 1) := by decide +kernel
theorem dX8_firstOf_1 : dec mX8_firstOf 1 = .ok (.istore_n 2, 1) := by decide +kernel
theorem dX8_firstOf_2 : dec mX8_firstOf 2 = .ok (.iconst (-1), 1) := by decide +kernel
theorem dX8_firstOf_3 : dec mX8_firstOf 3 = .ok (.istore_n 3, 1) := by decide +kernel
theorem dX8_firstOf_4 : dec mX8_firstOf 4 = .ok (.iload_n 2, 1) := by decide +kernel
theorem dX8_firstOf_5 : dec mX8_firstOf 5 = .ok (.iload_n 1, 1) := by decide +kernel
theorem dX8_firstOf_6 : dec mX8_firstOf 6 = .ok (.if_icmp .ge 26, 3) := by decide +kernel
theorem dX8_firstOf_9 : dec mX8_firstOf 9 = .ok (.iinc 3 1, 3) := by decide +kernel
theorem dX8_firstOf_12 : dec mX8_firstOf 12 = .ok (.iload_n 2, 1) := by decide +kernel
theorem dX8_firstOf_13 : dec mX8_firstOf 13 = .ok (.aload_n 0, 1) := by decide +kernel
theorem dX8_firstOf_14 : dec mX8_firstOf 14 = .ok (.bipush 115, 2) := by decide +kernel
theorem dX8_firstOf_16 : dec mX8_firstOf 16 = .ok (.iload_n 3, 1) := by decide +kernel
theorem dX8_firstOf_17 : dec mX8_firstOf 17 = .ok (.iadd, 1) := by decide +kernel
theorem dX8_firstOf_18 : dec mX8_firstOf 18 = .ok (.iaload, 1) := by decide +kernel
theorem dX8_firstOf_19 : dec mX8_firstOf 19 = .ok (.ifCond .le 7, 3) := by decide +kernel
theorem dX8_firstOf_22 : dec mX8_firstOf 22 = .ok (.iconst 1, 1) := by decide +kernel
theorem dX8_firstOf_23 : dec mX8_firstOf 23 = .ok (.goto 4, 3) := by decide +kernel
theorem dX8_firstOf_26 : dec mX8_firstOf 26 = .ok (.iconst 0, 1) := by decide +kernel
theorem dX8_firstOf_27 : dec mX8_firstOf 27 = .ok (.iadd, 1) := by decide +kernel
theorem dX8_firstOf_28 : dec mX8_firstOf 28 = .ok (.istore_n 2, 1) := by decide +kernel
theorem dX8_firstOf_29 : dec mX8_firstOf 29 = .ok (.goto (-25), 3) := by decide +kernel
theorem dX8_firstOf_32 : dec mX8_firstOf 32 = .ok (.iload_n 3, 1) := by decide +kernel
theorem dX8_firstOf_33 : dec mX8_firstOf 33 = .ok (.ireturn, 1) := by decide +kernel
theorem dX8_beginning_0 : dec mX8_beginning 0 = .ok (.aload_n 0, 1) := by decide +kernel
theorem dX8_beginning_1 : dec mX8_beginning 1 = .ok (.bipush 115, 2) := by decide +kernel
theorem dX8_beginning_3 : dec mX8_beginning 3 = .ok (.iload_n 1, 1) := by decide +kernel
theorem dX8_beginning_4 : dec mX8_beginning 4 = .ok (.iadd, 1) := by decide +kernel
theorem dX8_beginning_5 : dec mX8_beginning 5 = .ok (.iaload, 1) := by decide +kernel
theorem dX8_beginning_6 : dec mX8_beginning 6 = .ok (.ifCond .le 7, 3) := by decide +kernel
theorem dX8_beginning_9 : dec mX8_beginning 9 = .ok (.iload_n 1, 1) := by decide +kernel
theorem dX8_beginning_10 : dec mX8_beginning 10 = .ok (.goto 36, 3) := by decide +kernel
theorem dX8_beginning_13 : dec mX8_beginning 13 = .ok (.iload_n 1, 1) := by decide +kernel
theorem dX8_beginning_14 : dec mX8_beginning 14 = .ok (.aload_n 0, 1) := by decide +kernel
theorem dX8_beginning_15 : dec mX8_beginning 15 = .ok (.invokestatic 40, 3) := by decide +kernel
theorem dX8_beginning_18 : dec mX8_beginning 18 = .ok (.irem, 1) := by decide +kernel
theorem dX8_beginning_19 : dec mX8_beginning 19 = .ok (.ifCond .le 21, 3) := by decide +kernel
theorem dX8_beginning_22 : dec mX8_beginning 22 = .ok (.aload_n 0, 1) := by decide +kernel
theorem dX8_beginning_23 : dec mX8_beginning 23 = .ok (.bipush 115, 2) := by decide +kernel
theorem dX8_beginning_25 : dec mX8_beginning 25 = .ok (.iload_n 1, 1) := by decide +kernel
theorem dX8_beginning_26 : dec mX8_beginning 26 = .ok (.iadd, 1) := by decide +kernel
theorem dX8_beginning_27 : dec mX8_beginning 27 = .ok (.iconst 1, 1) := by decide +kernel
theorem dX8_beginning_28 : dec mX8_beginning 28 = .ok (.isub, 1) := by decide +kernel
theorem dX8_beginning_29 : dec mX8_beginning 29 = .ok (.iaload, 1) := by decide +kernel
theorem dX8_beginning_30 : dec mX8_beginning 30 = .ok (.iconst 1, 1) := by decide +kernel
theorem dX8_beginning_31 : dec mX8_beginning 31 = .ok (.if_icmp .ne 9, 3) := by decide +kernel
theorem dX8_beginning_34 : dec mX8_beginning 34 = .ok (.iload_n 1, 1) := by decide +kernel
theorem dX8_beginning_35 : dec mX8_beginning 35 = .ok (.iconst 1, 1) := by decide +kernel
theorem dX8_beginning_36 : dec mX8_beginning 36 = .ok (.isub, 1) := by decide +kernel
theorem dX8_beginning_37 : dec mX8_beginning 37 = .ok (.goto 9, 3) := by decide +kernel
theorem dX8_beginning_40 : dec mX8_beginning 40 = .ok (.iload_n 1, 1) := by decide +kernel
theorem dX8_beginning_41 : dec mX8_beginning 41 = .ok (.aload_n 0, 1) := by decide +kernel
theorem dX8_beginning_42 : dec mX8_beginning 42 = .ok (.invokestatic 40, 3) := by decide +kernel
theorem dX8_beginning_45 : dec mX8_beginning 45 = .ok (.isub, 1) := by decide +kernel
theorem dX8_beginning_46 : dec mX8_beginning 46 = .ok (.ireturn, 1) := by decide +kernel
theorem dX8_placeOf_0 : dec mX8_placeOf 0 = .ok (.aload_n 0, 1) := by decide +kernel
theorem dX8_placeOf_1 : dec mX8_placeOf 1 = .ok (.iload_n 1, 1) := by decide +kernel
theorem dX8_placeOf_2 : dec mX8_placeOf 2 = .ok (.invokestatic 79, 3) := by decide +kernel
theorem dX8_placeOf_5 : dec mX8_placeOf 5 = .ok (.istore_n 2, 1) := by decide +kernel
theorem dX8_placeOf_6 : dec mX8_placeOf 6 = .ok (.iconst 0, 1) := by decide +kernel
theorem dX8_placeOf_7 : dec mX8_placeOf 7 = .ok (.istore_n 3, 1) := by decide +kernel
theorem dX8_placeOf_8 : dec mX8_placeOf 8 = .ok (.iconst 0, 1) := by decide +kernel
theorem dX8_placeOf_9 : dec mX8_placeOf 9 = .ok (.istore 4, 2) := by decide +kernel
theorem dX8_placeOf_11 : dec mX8_placeOf 11 = .ok (.iload 4, 2) := by decide +kernel
theorem dX8_placeOf_13 : dec mX8_placeOf 13 = .ok (.iload_n 2, 1) := by decide +kernel
theorem dX8_placeOf_14 : dec mX8_placeOf 14 = .ok (.if_icmp .ge 27, 3) := by decide +kernel
theorem dX8_placeOf_17 : dec mX8_placeOf 17 = .ok (.iload_n 3, 1) := by decide +kernel
theorem dX8_placeOf_18 : dec mX8_placeOf 18 = .ok (.aload_n 0, 1) := by decide +kernel
theorem dX8_placeOf_19 : dec mX8_placeOf 19 = .ok (.bipush 115, 2) := by decide +kernel
theorem dX8_placeOf_21 : dec mX8_placeOf 21 = .ok (.iload 4, 2) := by decide +kernel
theorem dX8_placeOf_23 : dec mX8_placeOf 23 = .ok (.iadd, 1) := by decide +kernel
theorem dX8_placeOf_24 : dec mX8_placeOf 24 = .ok (.iaload, 1) := by decide +kernel
theorem dX8_placeOf_25 : dec mX8_placeOf 25 = .ok (.ifCond .le 7, 3) := by decide +kernel
theorem dX8_placeOf_28 : dec mX8_placeOf 28 = .ok (.iconst 1, 1) := by decide +kernel
theorem dX8_placeOf_29 : dec mX8_placeOf 29 = .ok (.goto 4, 3) := by decide +kernel
theorem dX8_placeOf_32 : dec mX8_placeOf 32 = .ok (.iconst 0, 1) := by decide +kernel
theorem dX8_placeOf_33 : dec mX8_placeOf 33 = .ok (.iadd, 1) := by decide +kernel
theorem dX8_placeOf_34 : dec mX8_placeOf 34 = .ok (.istore_n 3, 1) := by decide +kernel
theorem dX8_placeOf_35 : dec mX8_placeOf 35 = .ok (.iinc 4 1, 3) := by decide +kernel
theorem dX8_placeOf_38 : dec mX8_placeOf 38 = .ok (.goto (-27), 3) := by decide +kernel
theorem dX8_placeOf_41 : dec mX8_placeOf 41 = .ok (.iload_n 3, 1) := by decide +kernel
theorem dX8_placeOf_42 : dec mX8_placeOf 42 = .ok (.ireturn, 1) := by decide +kernel
theorem dX8_placeError_0 : dec mX8_placeError 0 = .ok (.aload_n 0, 1) := by decide +kernel
theorem dX8_placeError_1 : dec mX8_placeError 1 = .ok (.iload_n 1, 1) := by decide +kernel
theorem dX8_placeError_2 : dec mX8_placeError 2 = .ok (.aload_n 0, 1) := by decide +kernel
theorem dX8_placeError_3 : dec mX8_placeError 3 = .ok (.iload_n 1, 1) := by decide +kernel
theorem dX8_placeError_4 : dec mX8_placeError 4 = .ok (.invokestatic 82, 3) := by decide +kernel
theorem dX8_placeError_7 : dec mX8_placeError 7 = .ok (.aload_n 0, 1) := by decide +kernel
theorem dX8_placeError_8 : dec mX8_placeError 8 = .ok (.sipush 227, 3) := by decide +kernel
theorem dX8_placeError_11 : dec mX8_placeError 11 = .ok (.iload_n 1, 1) := by decide +kernel
theorem dX8_placeError_12 : dec mX8_placeError 12 = .ok (.iadd, 1) := by decide +kernel
theorem dX8_placeError_13 : dec mX8_placeError 13 = .ok (.iaload, 1) := by decide +kernel
theorem dX8_placeError_14 : dec mX8_placeError 14 = .ok (.aload_n 0, 1) := by decide +kernel
theorem dX8_placeError_15 : dec mX8_placeError 15 = .ok (.sipush 339, 3) := by decide +kernel
theorem dX8_placeError_18 : dec mX8_placeError 18 = .ok (.iload_n 1, 1) := by decide +kernel
theorem dX8_placeError_19 : dec mX8_placeError 19 = .ok (.iadd, 1) := by decide +kernel
theorem dX8_placeError_20 : dec mX8_placeError 20 = .ok (.iaload, 1) := by decide +kernel
theorem dX8_placeError_21 : dec mX8_placeError 21 = .ok (.invokestatic 71, 3) := by decide +kernel
theorem dX8_placeError_24 : dec mX8_placeError 24 = .ok (.ireturn, 1) := by decide +kernel
theorem dX8_wholeError_0 : dec mX8_wholeError 0 = .ok (.iconst 0, 1) := by decide +kernel
theorem dX8_wholeError_1 : dec mX8_wholeError 1 = .ok (.istore_n 1, 1) := by decide +kernel
theorem dX8_wholeError_2 : dec mX8_wholeError 2 = .ok (.iconst 0, 1) := by decide +kernel
theorem dX8_wholeError_3 : dec mX8_wholeError 3 = .ok (.istore_n 2, 1) := by decide +kernel
theorem dX8_wholeError_4 : dec mX8_wholeError 4 = .ok (.iload_n 2, 1) := by decide +kernel
theorem dX8_wholeError_5 : dec mX8_wholeError 5 = .ok (.aload_n 0, 1) := by decide +kernel
theorem dX8_wholeError_6 : dec mX8_wholeError 6 = .ok (.invokestatic 47, 3) := by decide +kernel
theorem dX8_wholeError_9 : dec mX8_wholeError 9 = .ok (.if_icmp .ge 30, 3) := by decide +kernel
theorem dX8_wholeError_12 : dec mX8_wholeError 12 = .ok (.iload_n 1, 1) := by decide +kernel
theorem dX8_wholeError_13 : dec mX8_wholeError 13 = .ok (.aload_n 0, 1) := by decide +kernel
theorem dX8_wholeError_14 : dec mX8_wholeError 14 = .ok (.bipush 115, 2) := by decide +kernel
theorem dX8_wholeError_16 : dec mX8_wholeError 16 = .ok (.iload_n 2, 1) := by decide +kernel
theorem dX8_wholeError_17 : dec mX8_wholeError 17 = .ok (.iadd, 1) := by decide +kernel
theorem dX8_wholeError_18 : dec mX8_wholeError 18 = .ok (.iaload, 1) := by decide +kernel
theorem dX8_wholeError_19 : dec mX8_wholeError 19 = .ok (.ifCond .le 11, 3) := by decide +kernel
theorem dX8_wholeError_22 : dec mX8_wholeError 22 = .ok (.aload_n 0, 1) := by decide +kernel
theorem dX8_wholeError_23 : dec mX8_wholeError 23 = .ok (.iload_n 2, 1) := by decide +kernel
theorem dX8_wholeError_24 : dec mX8_wholeError 24 = .ok (.invokestatic 85, 3) := by decide +kernel
theorem dX8_wholeError_27 : dec mX8_wholeError 27 = .ok (.goto 4, 3) := by decide +kernel
theorem dX8_wholeError_30 : dec mX8_wholeError 30 = .ok (.iconst 0, 1) := by decide +kernel
theorem dX8_wholeError_31 : dec mX8_wholeError 31 = .ok (.iadd, 1) := by decide +kernel
theorem dX8_wholeError_32 : dec mX8_wholeError 32 = .ok (.istore_n 1, 1) := by decide +kernel
theorem dX8_wholeError_33 : dec mX8_wholeError 33 = .ok (.iinc 2 1, 3) := by decide +kernel
theorem dX8_wholeError_36 : dec mX8_wholeError 36 = .ok (.goto (-32), 3) := by decide +kernel
theorem dX8_wholeError_39 : dec mX8_wholeError 39 = .ok (.iload_n 1, 1) := by decide +kernel
theorem dX8_wholeError_40 : dec mX8_wholeError 40 = .ok (.ireturn, 1) := by decide +kernel
theorem dX8_pipsOn_0 : dec mX8_pipsOn 0 = .ok (.aload_n 0, 1) := by decide +kernel
theorem dX8_pipsOn_1 : dec mX8_pipsOn 1 = .ok (.iload_n 1, 1) := by decide +kernel
theorem dX8_pipsOn_2 : dec mX8_pipsOn 2 = .ok (.invokestatic 79, 3) := by decide +kernel
theorem dX8_pipsOn_5 : dec mX8_pipsOn 5 = .ok (.istore_n 2, 1) := by decide +kernel
theorem dX8_pipsOn_6 : dec mX8_pipsOn 6 = .ok (.iload_n 2, 1) := by decide +kernel
theorem dX8_pipsOn_7 : dec mX8_pipsOn 7 = .ok (.iload_n 1, 1) := by decide +kernel
theorem dX8_pipsOn_8 : dec mX8_pipsOn 8 = .ok (.if_icmp .ne 7, 3) := by decide +kernel
theorem dX8_pipsOn_11 : dec mX8_pipsOn 11 = .ok (.iconst 1, 1) := by decide +kernel
theorem dX8_pipsOn_12 : dec mX8_pipsOn 12 = .ok (.goto 4, 3) := by decide +kernel
theorem dX8_pipsOn_15 : dec mX8_pipsOn 15 = .ok (.iconst 0, 1) := by decide +kernel
theorem dX8_pipsOn_16 : dec mX8_pipsOn 16 = .ok (.aload_n 0, 1) := by decide +kernel
theorem dX8_pipsOn_17 : dec mX8_pipsOn 17 = .ok (.sipush 339, 3) := by decide +kernel
theorem dX8_pipsOn_20 : dec mX8_pipsOn 20 = .ok (.iload_n 2, 1) := by decide +kernel
theorem dX8_pipsOn_21 : dec mX8_pipsOn 21 = .ok (.iadd, 1) := by decide +kernel
theorem dX8_pipsOn_22 : dec mX8_pipsOn 22 = .ok (.iaload, 1) := by decide +kernel
theorem dX8_pipsOn_23 : dec mX8_pipsOn 23 = .ok (.ifCond .ne 7, 3) := by decide +kernel
theorem dX8_pipsOn_26 : dec mX8_pipsOn 26 = .ok (.iconst 1, 1) := by decide +kernel
theorem dX8_pipsOn_27 : dec mX8_pipsOn 27 = .ok (.goto 4, 3) := by decide +kernel
theorem dX8_pipsOn_30 : dec mX8_pipsOn 30 = .ok (.iconst 0, 1) := by decide +kernel
theorem dX8_pipsOn_31 : dec mX8_pipsOn 31 = .ok (.if_icmp .ne 7, 3) := by decide +kernel
theorem dX8_pipsOn_34 : dec mX8_pipsOn 34 = .ok (.iconst 1, 1) := by decide +kernel
theorem dX8_pipsOn_35 : dec mX8_pipsOn 35 = .ok (.goto 4, 3) := by decide +kernel
theorem dX8_pipsOn_38 : dec mX8_pipsOn 38 = .ok (.iconst 0, 1) := by decide +kernel
theorem dX8_pipsOn_39 : dec mX8_pipsOn 39 = .ok (.istore_n 3, 1) := by decide +kernel
theorem dX8_pipsOn_40 : dec mX8_pipsOn 40 = .ok (.iload_n 3, 1) := by decide +kernel
theorem dX8_pipsOn_41 : dec mX8_pipsOn 41 = .ok (.ifCond .eq 17, 3) := by decide +kernel
theorem dX8_pipsOn_44 : dec mX8_pipsOn 44 = .ok (.aload_n 0, 1) := by decide +kernel
theorem dX8_pipsOn_45 : dec mX8_pipsOn 45 = .ok (.aload_n 0, 1) := by decide +kernel
theorem dX8_pipsOn_46 : dec mX8_pipsOn 46 = .ok (.sipush 227, 3) := by decide +kernel
theorem dX8_pipsOn_49 : dec mX8_pipsOn 49 = .ok (.iload_n 2, 1) := by decide +kernel
theorem dX8_pipsOn_50 : dec mX8_pipsOn 50 = .ok (.iadd, 1) := by decide +kernel
theorem dX8_pipsOn_51 : dec mX8_pipsOn 51 = .ok (.iaload, 1) := by decide +kernel
theorem dX8_pipsOn_52 : dec mX8_pipsOn 52 = .ok (.invokestatic 64, 3) := by decide +kernel
theorem dX8_pipsOn_55 : dec mX8_pipsOn 55 = .ok (.goto 14, 3) := by decide +kernel
theorem dX8_pipsOn_58 : dec mX8_pipsOn 58 = .ok (.aload_n 0, 1) := by decide +kernel
theorem dX8_pipsOn_59 : dec mX8_pipsOn 59 = .ok (.aload_n 0, 1) := by decide +kernel
theorem dX8_pipsOn_60 : dec mX8_pipsOn 60 = .ok (.sipush 227, 3) := by decide +kernel
theorem dX8_pipsOn_63 : dec mX8_pipsOn 63 = .ok (.iload_n 2, 1) := by decide +kernel
theorem dX8_pipsOn_64 : dec mX8_pipsOn 64 = .ok (.iadd, 1) := by decide +kernel
theorem dX8_pipsOn_65 : dec mX8_pipsOn 65 = .ok (.iaload, 1) := by decide +kernel
theorem dX8_pipsOn_66 : dec mX8_pipsOn 66 = .ok (.invokestatic 61, 3) := by decide +kernel
theorem dX8_pipsOn_69 : dec mX8_pipsOn 69 = .ok (.ireturn, 1) := by decide +kernel
theorem dX8_partner_0 : dec mX8_partner 0 = .ok (.aload_n 0, 1) := by decide +kernel
theorem dX8_partner_1 : dec mX8_partner 1 = .ok (.invokestatic 40, 3) := by decide +kernel
theorem dX8_partner_4 : dec mX8_partner 4 = .ok (.istore_n 2, 1) := by decide +kernel
theorem dX8_partner_5 : dec mX8_partner 5 = .ok (.iload_n 1, 1) := by decide +kernel
theorem dX8_partner_6 : dec mX8_partner 6 = .ok (.iload_n 2, 1) := by decide +kernel
theorem dX8_partner_7 : dec mX8_partner 7 = .ok (.irem, 1) := by decide +kernel
theorem dX8_partner_8 : dec mX8_partner 8 = .ok (.iload_n 2, 1) := by decide +kernel
theorem dX8_partner_9 : dec mX8_partner 9 = .ok (.iconst 1, 1) := by decide +kernel
theorem dX8_partner_10 : dec mX8_partner 10 = .ok (.isub, 1) := by decide +kernel
theorem dX8_partner_11 : dec mX8_partner 11 = .ok (.if_icmp .eq 24, 3) := by decide +kernel
theorem dX8_partner_14 : dec mX8_partner 14 = .ok (.iload_n 1, 1) := by decide +kernel
theorem dX8_partner_15 : dec mX8_partner 15 = .ok (.iload_n 2, 1) := by decide +kernel
theorem dX8_partner_16 : dec mX8_partner 16 = .ok (.idiv, 1) := by decide +kernel
theorem dX8_partner_17 : dec mX8_partner 17 = .ok (.aload_n 0, 1) := by decide +kernel
theorem dX8_partner_18 : dec mX8_partner 18 = .ok (.invokestatic 44, 3) := by decide +kernel
theorem dX8_partner_21 : dec mX8_partner 21 = .ok (.iconst 1, 1) := by decide +kernel
theorem dX8_partner_22 : dec mX8_partner 22 = .ok (.isub, 1) := by decide +kernel
theorem dX8_partner_23 : dec mX8_partner 23 = .ok (.if_icmp .ge 12, 3) := by decide +kernel
theorem dX8_partner_26 : dec mX8_partner 26 = .ok (.aload_n 0, 1) := by decide +kernel
theorem dX8_partner_27 : dec mX8_partner 27 = .ok (.bipush 115, 2) := by decide +kernel
theorem dX8_partner_29 : dec mX8_partner 29 = .ok (.iload_n 1, 1) := by decide +kernel
theorem dX8_partner_30 : dec mX8_partner 30 = .ok (.iadd, 1) := by decide +kernel
theorem dX8_partner_31 : dec mX8_partner 31 = .ok (.iaload, 1) := by decide +kernel
theorem dX8_partner_32 : dec mX8_partner 32 = .ok (.ifCond .ne 5, 3) := by decide +kernel
theorem dX8_partner_35 : dec mX8_partner 35 = .ok (.iconst (-1), 1) := by decide +kernel
theorem dX8_partner_36 : dec mX8_partner 36 = .ok (.ireturn, 1) := by decide +kernel
theorem dX8_partner_37 : dec mX8_partner 37 = .ok (.aload_n 0, 1) := by decide +kernel
theorem dX8_partner_38 : dec mX8_partner 38 = .ok (.bipush 115, 2) := by decide +kernel
theorem dX8_partner_40 : dec mX8_partner 40 = .ok (.iload_n 1, 1) := by decide +kernel
theorem dX8_partner_41 : dec mX8_partner 41 = .ok (.iadd, 1) := by decide +kernel
theorem dX8_partner_42 : dec mX8_partner 42 = .ok (.iaload, 1) := by decide +kernel
theorem dX8_partner_43 : dec mX8_partner 43 = .ok (.iconst 1, 1) := by decide +kernel
theorem dX8_partner_44 : dec mX8_partner 44 = .ok (.if_icmp .ne 9, 3) := by decide +kernel
theorem dX8_partner_47 : dec mX8_partner 47 = .ok (.iload_n 1, 1) := by decide +kernel
theorem dX8_partner_48 : dec mX8_partner 48 = .ok (.iload_n 2, 1) := by decide +kernel
theorem dX8_partner_49 : dec mX8_partner 49 = .ok (.iadd, 1) := by decide +kernel
theorem dX8_partner_50 : dec mX8_partner 50 = .ok (.goto 6, 3) := by decide +kernel
theorem dX8_partner_53 : dec mX8_partner 53 = .ok (.iload_n 1, 1) := by decide +kernel
theorem dX8_partner_54 : dec mX8_partner 54 = .ok (.iconst 1, 1) := by decide +kernel
theorem dX8_partner_55 : dec mX8_partner 55 = .ok (.iadd, 1) := by decide +kernel
theorem dX8_partner_56 : dec mX8_partner 56 = .ok (.istore_n 3, 1) := by decide +kernel
theorem dX8_partner_57 : dec mX8_partner 57 = .ok (.aload_n 0, 1) := by decide +kernel
theorem dX8_partner_58 : dec mX8_partner 58 = .ok (.bipush 115, 2) := by decide +kernel
theorem dX8_partner_60 : dec mX8_partner 60 = .ok (.iload_n 3, 1) := by decide +kernel
theorem dX8_partner_61 : dec mX8_partner 61 = .ok (.iadd, 1) := by decide +kernel
theorem dX8_partner_62 : dec mX8_partner 62 = .ok (.iaload, 1) := by decide +kernel
theorem dX8_partner_63 : dec mX8_partner 63 = .ok (.aload_n 0, 1) := by decide +kernel
theorem dX8_partner_64 : dec mX8_partner 64 = .ok (.bipush 115, 2) := by decide +kernel
theorem dX8_partner_66 : dec mX8_partner 66 = .ok (.iload_n 1, 1) := by decide +kernel
theorem dX8_partner_67 : dec mX8_partner 67 = .ok (.iadd, 1) := by decide +kernel
theorem dX8_partner_68 : dec mX8_partner 68 = .ok (.iaload, 1) := by decide +kernel
theorem dX8_partner_69 : dec mX8_partner 69 = .ok (.if_icmp .ne 7, 3) := by decide +kernel
theorem dX8_partner_72 : dec mX8_partner 72 = .ok (.iload_n 3, 1) := by decide +kernel
theorem dX8_partner_73 : dec mX8_partner 73 = .ok (.goto 4, 3) := by decide +kernel
theorem dX8_partner_76 : dec mX8_partner 76 = .ok (.iconst (-1), 1) := by decide +kernel
theorem dX8_partner_77 : dec mX8_partner 77 = .ok (.ireturn, 1) := by decide +kernel
theorem dX8_gainOfTurn_0 : dec mX8_gainOfTurn 0 = .ok (.aload_n 0, 1) := by decide +kernel
theorem dX8_gainOfTurn_1 : dec mX8_gainOfTurn 1 = .ok (.iload_n 1, 1) := by decide +kernel
theorem dX8_gainOfTurn_2 : dec mX8_gainOfTurn 2 = .ok (.invokestatic 85, 3) := by decide +kernel
theorem dX8_gainOfTurn_5 : dec mX8_gainOfTurn 5 = .ok (.aload_n 0, 1) := by decide +kernel
theorem dX8_gainOfTurn_6 : dec mX8_gainOfTurn 6 = .ok (.iload_n 1, 1) := by decide +kernel
theorem dX8_gainOfTurn_7 : dec mX8_gainOfTurn 7 = .ok (.aload_n 0, 1) := by decide +kernel
theorem dX8_gainOfTurn_8 : dec mX8_gainOfTurn 8 = .ok (.iload_n 1, 1) := by decide +kernel
theorem dX8_gainOfTurn_9 : dec mX8_gainOfTurn 9 = .ok (.invokestatic 82, 3) := by decide +kernel
theorem dX8_gainOfTurn_12 : dec mX8_gainOfTurn 12 = .ok (.aload_n 0, 1) := by decide +kernel
theorem dX8_gainOfTurn_13 : dec mX8_gainOfTurn 13 = .ok (.sipush 227, 3) := by decide +kernel
theorem dX8_gainOfTurn_16 : dec mX8_gainOfTurn 16 = .ok (.iload_n 1, 1) := by decide +kernel
theorem dX8_gainOfTurn_17 : dec mX8_gainOfTurn 17 = .ok (.iadd, 1) := by decide +kernel
theorem dX8_gainOfTurn_18 : dec mX8_gainOfTurn 18 = .ok (.iaload, 1) := by decide +kernel
theorem dX8_gainOfTurn_19 : dec mX8_gainOfTurn 19 = .ok (.iconst 1, 1) := by decide +kernel
theorem dX8_gainOfTurn_20 : dec mX8_gainOfTurn 20 = .ok (.aload_n 0, 1) := by decide +kernel
theorem dX8_gainOfTurn_21 : dec mX8_gainOfTurn 21 = .ok (.sipush 339, 3) := by decide +kernel
theorem dX8_gainOfTurn_24 : dec mX8_gainOfTurn 24 = .ok (.iload_n 1, 1) := by decide +kernel
theorem dX8_gainOfTurn_25 : dec mX8_gainOfTurn 25 = .ok (.iadd, 1) := by decide +kernel
theorem dX8_gainOfTurn_26 : dec mX8_gainOfTurn 26 = .ok (.iaload, 1) := by decide +kernel
theorem dX8_gainOfTurn_27 : dec mX8_gainOfTurn 27 = .ok (.isub, 1) := by decide +kernel
theorem dX8_gainOfTurn_28 : dec mX8_gainOfTurn 28 = .ok (.invokestatic 71, 3) := by decide +kernel
theorem dX8_gainOfTurn_31 : dec mX8_gainOfTurn 31 = .ok (.isub, 1) := by decide +kernel
theorem dX8_gainOfTurn_32 : dec mX8_gainOfTurn 32 = .ok (.ireturn, 1) := by decide +kernel
theorem dX8_gainOfSwap_0 : dec mX8_gainOfSwap 0 = .ok (.aload_n 0, 1) := by decide +kernel
theorem dX8_gainOfSwap_1 : dec mX8_gainOfSwap 1 = .ok (.iload_n 1, 1) := by decide +kernel
theorem dX8_gainOfSwap_2 : dec mX8_gainOfSwap 2 = .ok (.invokestatic 85, 3) := by decide +kernel
theorem dX8_gainOfSwap_5 : dec mX8_gainOfSwap 5 = .ok (.aload_n 0, 1) := by decide +kernel
theorem dX8_gainOfSwap_6 : dec mX8_gainOfSwap 6 = .ok (.iload_n 2, 1) := by decide +kernel
theorem dX8_gainOfSwap_7 : dec mX8_gainOfSwap 7 = .ok (.invokestatic 85, 3) := by decide +kernel
theorem dX8_gainOfSwap_10 : dec mX8_gainOfSwap 10 = .ok (.iadd, 1) := by decide +kernel
theorem dX8_gainOfSwap_11 : dec mX8_gainOfSwap 11 = .ok (.istore_n 3, 1) := by decide +kernel
theorem dX8_gainOfSwap_12 : dec mX8_gainOfSwap 12 = .ok (.iload_n 3, 1) := by decide +kernel
theorem dX8_gainOfSwap_13 : dec mX8_gainOfSwap 13 = .ok (.aload_n 0, 1) := by decide +kernel
theorem dX8_gainOfSwap_14 : dec mX8_gainOfSwap 14 = .ok (.iload_n 1, 1) := by decide +kernel
theorem dX8_gainOfSwap_15 : dec mX8_gainOfSwap 15 = .ok (.aload_n 0, 1) := by decide +kernel
theorem dX8_gainOfSwap_16 : dec mX8_gainOfSwap 16 = .ok (.iload_n 1, 1) := by decide +kernel
theorem dX8_gainOfSwap_17 : dec mX8_gainOfSwap 17 = .ok (.invokestatic 82, 3) := by decide +kernel
theorem dX8_gainOfSwap_20 : dec mX8_gainOfSwap 20 = .ok (.aload_n 0, 1) := by decide +kernel
theorem dX8_gainOfSwap_21 : dec mX8_gainOfSwap 21 = .ok (.sipush 227, 3) := by decide +kernel
theorem dX8_gainOfSwap_24 : dec mX8_gainOfSwap 24 = .ok (.iload_n 2, 1) := by decide +kernel
theorem dX8_gainOfSwap_25 : dec mX8_gainOfSwap 25 = .ok (.iadd, 1) := by decide +kernel
theorem dX8_gainOfSwap_26 : dec mX8_gainOfSwap 26 = .ok (.iaload, 1) := by decide +kernel
theorem dX8_gainOfSwap_27 : dec mX8_gainOfSwap 27 = .ok (.invokestatic 88, 3) := by decide +kernel
theorem dX8_gainOfSwap_30 : dec mX8_gainOfSwap 30 = .ok (.isub, 1) := by decide +kernel
theorem dX8_gainOfSwap_31 : dec mX8_gainOfSwap 31 = .ok (.aload_n 0, 1) := by decide +kernel
theorem dX8_gainOfSwap_32 : dec mX8_gainOfSwap 32 = .ok (.iload_n 2, 1) := by decide +kernel
theorem dX8_gainOfSwap_33 : dec mX8_gainOfSwap 33 = .ok (.aload_n 0, 1) := by decide +kernel
theorem dX8_gainOfSwap_34 : dec mX8_gainOfSwap 34 = .ok (.iload_n 2, 1) := by decide +kernel
theorem dX8_gainOfSwap_35 : dec mX8_gainOfSwap 35 = .ok (.invokestatic 82, 3) := by decide +kernel
theorem dX8_gainOfSwap_38 : dec mX8_gainOfSwap 38 = .ok (.aload_n 0, 1) := by decide +kernel
theorem dX8_gainOfSwap_39 : dec mX8_gainOfSwap 39 = .ok (.sipush 227, 3) := by decide +kernel
theorem dX8_gainOfSwap_42 : dec mX8_gainOfSwap 42 = .ok (.iload_n 1, 1) := by decide +kernel
theorem dX8_gainOfSwap_43 : dec mX8_gainOfSwap 43 = .ok (.iadd, 1) := by decide +kernel
theorem dX8_gainOfSwap_44 : dec mX8_gainOfSwap 44 = .ok (.iaload, 1) := by decide +kernel
theorem dX8_gainOfSwap_45 : dec mX8_gainOfSwap 45 = .ok (.invokestatic 88, 3) := by decide +kernel
theorem dX8_gainOfSwap_48 : dec mX8_gainOfSwap 48 = .ok (.isub, 1) := by decide +kernel
theorem dX8_gainOfSwap_49 : dec mX8_gainOfSwap 49 = .ok (.ireturn, 1) := by decide +kernel
theorem dX8_gainOfFlip_0 : dec mX8_gainOfFlip 0 = .ok (.aload_n 0, 1) := by decide +kernel
theorem dX8_gainOfFlip_1 : dec mX8_gainOfFlip 1 = .ok (.invokestatic 40, 3) := by decide +kernel
theorem dX8_gainOfFlip_4 : dec mX8_gainOfFlip 4 = .ok (.istore_n 2, 1) := by decide +kernel
theorem dX8_gainOfFlip_5 : dec mX8_gainOfFlip 5 = .ok (.aload_n 0, 1) := by decide +kernel
theorem dX8_gainOfFlip_6 : dec mX8_gainOfFlip 6 = .ok (.iload_n 1, 1) := by decide +kernel
theorem dX8_gainOfFlip_7 : dec mX8_gainOfFlip 7 = .ok (.invokestatic 91, 3) := by decide +kernel
theorem dX8_gainOfFlip_10 : dec mX8_gainOfFlip 10 = .ok (.istore_n 3, 1) := by decide +kernel
theorem dX8_gainOfFlip_11 : dec mX8_gainOfFlip 11 = .ok (.aload_n 0, 1) := by decide +kernel
theorem dX8_gainOfFlip_12 : dec mX8_gainOfFlip 12 = .ok (.iload_n 1, 1) := by decide +kernel
theorem dX8_gainOfFlip_13 : dec mX8_gainOfFlip 13 = .ok (.invokestatic 85, 3) := by decide +kernel
theorem dX8_gainOfFlip_16 : dec mX8_gainOfFlip 16 = .ok (.aload_n 0, 1) := by decide +kernel
theorem dX8_gainOfFlip_17 : dec mX8_gainOfFlip 17 = .ok (.iload_n 3, 1) := by decide +kernel
theorem dX8_gainOfFlip_18 : dec mX8_gainOfFlip 18 = .ok (.invokestatic 85, 3) := by decide +kernel
theorem dX8_gainOfFlip_21 : dec mX8_gainOfFlip 21 = .ok (.iadd, 1) := by decide +kernel
theorem dX8_gainOfFlip_22 : dec mX8_gainOfFlip 22 = .ok (.istore 4, 2) := by decide +kernel
theorem dX8_gainOfFlip_24 : dec mX8_gainOfFlip 24 = .ok (.aload_n 0, 1) := by decide +kernel
theorem dX8_gainOfFlip_25 : dec mX8_gainOfFlip 25 = .ok (.bipush 115, 2) := by decide +kernel
theorem dX8_gainOfFlip_27 : dec mX8_gainOfFlip 27 = .ok (.iload_n 1, 1) := by decide +kernel
theorem dX8_gainOfFlip_28 : dec mX8_gainOfFlip 28 = .ok (.iadd, 1) := by decide +kernel
theorem dX8_gainOfFlip_29 : dec mX8_gainOfFlip 29 = .ok (.iaload, 1) := by decide +kernel
theorem dX8_gainOfFlip_30 : dec mX8_gainOfFlip 30 = .ok (.iconst 1, 1) := by decide +kernel
theorem dX8_gainOfFlip_31 : dec mX8_gainOfFlip 31 = .ok (.if_icmp .ne 7, 3) := by decide +kernel
theorem dX8_gainOfFlip_34 : dec mX8_gainOfFlip 34 = .ok (.iconst 1, 1) := by decide +kernel
theorem dX8_gainOfFlip_35 : dec mX8_gainOfFlip 35 = .ok (.goto 4, 3) := by decide +kernel
theorem dX8_gainOfFlip_38 : dec mX8_gainOfFlip 38 = .ok (.iconst 0, 1) := by decide +kernel
theorem dX8_gainOfFlip_39 : dec mX8_gainOfFlip 39 = .ok (.istore 5, 2) := by decide +kernel
theorem dX8_gainOfFlip_41 : dec mX8_gainOfFlip 41 = .ok (.iload 5, 2) := by decide +kernel
theorem dX8_gainOfFlip_43 : dec mX8_gainOfFlip 43 = .ok (.ifCond .eq 9, 3) := by decide +kernel
theorem dX8_gainOfFlip_46 : dec mX8_gainOfFlip 46 = .ok (.iload_n 1, 1) := by decide +kernel
theorem dX8_gainOfFlip_47 : dec mX8_gainOfFlip 47 = .ok (.iload_n 2, 1) := by decide +kernel
theorem dX8_gainOfFlip_48 : dec mX8_gainOfFlip 48 = .ok (.iadd, 1) := by decide +kernel
theorem dX8_gainOfFlip_49 : dec mX8_gainOfFlip 49 = .ok (.goto 6, 3) := by decide +kernel
theorem dX8_gainOfFlip_52 : dec mX8_gainOfFlip 52 = .ok (.iload_n 1, 1) := by decide +kernel
theorem dX8_gainOfFlip_53 : dec mX8_gainOfFlip 53 = .ok (.iconst 1, 1) := by decide +kernel
theorem dX8_gainOfFlip_54 : dec mX8_gainOfFlip 54 = .ok (.iadd, 1) := by decide +kernel
theorem dX8_gainOfFlip_55 : dec mX8_gainOfFlip 55 = .ok (.istore 6, 2) := by decide +kernel
theorem dX8_gainOfFlip_57 : dec mX8_gainOfFlip 57 = .ok (.iload 5, 2) := by decide +kernel
theorem dX8_gainOfFlip_59 : dec mX8_gainOfFlip 59 = .ok (.ifCond .eq 9, 3) := by decide +kernel
theorem dX8_gainOfFlip_62 : dec mX8_gainOfFlip 62 = .ok (.iload_n 1, 1) := by decide +kernel
theorem dX8_gainOfFlip_63 : dec mX8_gainOfFlip 63 = .ok (.iconst 1, 1) := by decide +kernel
theorem dX8_gainOfFlip_64 : dec mX8_gainOfFlip 64 = .ok (.iadd, 1) := by decide +kernel
theorem dX8_gainOfFlip_65 : dec mX8_gainOfFlip 65 = .ok (.goto 6, 3) := by decide +kernel
theorem dX8_gainOfFlip_68 : dec mX8_gainOfFlip 68 = .ok (.iload_n 1, 1) := by decide +kernel
theorem dX8_gainOfFlip_69 : dec mX8_gainOfFlip 69 = .ok (.iload_n 2, 1) := by decide +kernel
theorem dX8_gainOfFlip_70 : dec mX8_gainOfFlip 70 = .ok (.iadd, 1) := by decide +kernel
theorem dX8_gainOfFlip_71 : dec mX8_gainOfFlip 71 = .ok (.istore 7, 2) := by decide +kernel
theorem dX8_gainOfFlip_73 : dec mX8_gainOfFlip 73 = .ok (.iload 4, 2) := by decide +kernel
theorem dX8_gainOfFlip_75 : dec mX8_gainOfFlip 75 = .ok (.aload_n 0, 1) := by decide +kernel
theorem dX8_gainOfFlip_76 : dec mX8_gainOfFlip 76 = .ok (.iload_n 1, 1) := by decide +kernel
theorem dX8_gainOfFlip_77 : dec mX8_gainOfFlip 77 = .ok (.iload 6, 2) := by decide +kernel
theorem dX8_gainOfFlip_79 : dec mX8_gainOfFlip 79 = .ok (.aload_n 0, 1) := by decide +kernel
theorem dX8_gainOfFlip_80 : dec mX8_gainOfFlip 80 = .ok (.sipush 227, 3) := by decide +kernel
theorem dX8_gainOfFlip_83 : dec mX8_gainOfFlip 83 = .ok (.iload_n 1, 1) := by decide +kernel
theorem dX8_gainOfFlip_84 : dec mX8_gainOfFlip 84 = .ok (.iadd, 1) := by decide +kernel
theorem dX8_gainOfFlip_85 : dec mX8_gainOfFlip 85 = .ok (.iaload, 1) := by decide +kernel
theorem dX8_gainOfFlip_86 : dec mX8_gainOfFlip 86 = .ok (.invokestatic 88, 3) := by decide +kernel
theorem dX8_gainOfFlip_89 : dec mX8_gainOfFlip 89 = .ok (.isub, 1) := by decide +kernel
theorem dX8_gainOfFlip_90 : dec mX8_gainOfFlip 90 = .ok (.aload_n 0, 1) := by decide +kernel
theorem dX8_gainOfFlip_91 : dec mX8_gainOfFlip 91 = .ok (.iload 7, 2) := by decide +kernel
theorem dX8_gainOfFlip_93 : dec mX8_gainOfFlip 93 = .ok (.iload_n 1, 1) := by decide +kernel
theorem dX8_gainOfFlip_94 : dec mX8_gainOfFlip 94 = .ok (.iload_n 2, 1) := by decide +kernel
theorem dX8_gainOfFlip_95 : dec mX8_gainOfFlip 95 = .ok (.iadd, 1) := by decide +kernel
theorem dX8_gainOfFlip_96 : dec mX8_gainOfFlip 96 = .ok (.iconst 1, 1) := by decide +kernel
theorem dX8_gainOfFlip_97 : dec mX8_gainOfFlip 97 = .ok (.iadd, 1) := by decide +kernel
theorem dX8_gainOfFlip_98 : dec mX8_gainOfFlip 98 = .ok (.aload_n 0, 1) := by decide +kernel
theorem dX8_gainOfFlip_99 : dec mX8_gainOfFlip 99 = .ok (.sipush 227, 3) := by decide +kernel
theorem dX8_gainOfFlip_102 : dec mX8_gainOfFlip 102 = .ok (.iload_n 3, 1) := by decide +kernel
theorem dX8_gainOfFlip_103 : dec mX8_gainOfFlip 103 = .ok (.iadd, 1) := by decide +kernel
theorem dX8_gainOfFlip_104 : dec mX8_gainOfFlip 104 = .ok (.iaload, 1) := by decide +kernel
theorem dX8_gainOfFlip_105 : dec mX8_gainOfFlip 105 = .ok (.invokestatic 88, 3) := by decide +kernel
theorem dX8_gainOfFlip_108 : dec mX8_gainOfFlip 108 = .ok (.isub, 1) := by decide +kernel
theorem dX8_gainOfFlip_109 : dec mX8_gainOfFlip 109 = .ok (.ireturn, 1) := by decide +kernel
theorem dX8_turnOn_0 : dec mX8_turnOn 0 = .ok (.aload_n 0, 1) := by decide +kernel
theorem dX8_turnOn_1 : dec mX8_turnOn 1 = .ok (.iload_n 1, 1) := by decide +kernel
theorem dX8_turnOn_2 : dec mX8_turnOn 2 = .ok (.invokestatic 94, 3) := by decide +kernel
theorem dX8_turnOn_5 : dec mX8_turnOn 5 = .ok (.istore_n 2, 1) := by decide +kernel
theorem dX8_turnOn_6 : dec mX8_turnOn 6 = .ok (.aload_n 0, 1) := by decide +kernel
theorem dX8_turnOn_7 : dec mX8_turnOn 7 = .ok (.sipush 339, 3) := by decide +kernel
theorem dX8_turnOn_10 : dec mX8_turnOn 10 = .ok (.iload_n 1, 1) := by decide +kernel
theorem dX8_turnOn_11 : dec mX8_turnOn 11 = .ok (.iadd, 1) := by decide +kernel
theorem dX8_turnOn_12 : dec mX8_turnOn 12 = .ok (.iconst 1, 1) := by decide +kernel
theorem dX8_turnOn_13 : dec mX8_turnOn 13 = .ok (.aload_n 0, 1) := by decide +kernel
theorem dX8_turnOn_14 : dec mX8_turnOn 14 = .ok (.sipush 339, 3) := by decide +kernel
theorem dX8_turnOn_17 : dec mX8_turnOn 17 = .ok (.iload_n 1, 1) := by decide +kernel
theorem dX8_turnOn_18 : dec mX8_turnOn 18 = .ok (.iadd, 1) := by decide +kernel
theorem dX8_turnOn_19 : dec mX8_turnOn 19 = .ok (.iaload, 1) := by decide +kernel
theorem dX8_turnOn_20 : dec mX8_turnOn 20 = .ok (.isub, 1) := by decide +kernel
theorem dX8_turnOn_21 : dec mX8_turnOn 21 = .ok (.iastore, 1) := by decide +kernel
theorem dX8_turnOn_22 : dec mX8_turnOn 22 = .ok (.aload_n 0, 1) := by decide +kernel
theorem dX8_turnOn_23 : dec mX8_turnOn 23 = .ok (.iconst 2, 1) := by decide +kernel
theorem dX8_turnOn_24 : dec mX8_turnOn 24 = .ok (.dup2, 1) := by decide +kernel
theorem dX8_turnOn_25 : dec mX8_turnOn 25 = .ok (.iaload, 1) := by decide +kernel
theorem dX8_turnOn_26 : dec mX8_turnOn 26 = .ok (.iconst 1, 1) := by decide +kernel
theorem dX8_turnOn_27 : dec mX8_turnOn 27 = .ok (.iadd, 1) := by decide +kernel
theorem dX8_turnOn_28 : dec mX8_turnOn 28 = .ok (.iastore, 1) := by decide +kernel
theorem dX8_turnOn_29 : dec mX8_turnOn 29 = .ok (.iload_n 2, 1) := by decide +kernel
theorem dX8_turnOn_30 : dec mX8_turnOn 30 = .ok (.ireturn, 1) := by decide +kernel
theorem dX8_layTile_0 : dec mX8_layTile 0 = .ok (.aload_n 0, 1) := by decide +kernel
theorem dX8_layTile_1 : dec mX8_layTile 1 = .ok (.sipush 227, 3) := by decide +kernel
theorem dX8_layTile_4 : dec mX8_layTile 4 = .ok (.iload_n 1, 1) := by decide +kernel
theorem dX8_layTile_5 : dec mX8_layTile 5 = .ok (.iadd, 1) := by decide +kernel
theorem dX8_layTile_6 : dec mX8_layTile 6 = .ok (.iload_n 2, 1) := by decide +kernel
theorem dX8_layTile_7 : dec mX8_layTile 7 = .ok (.iastore, 1) := by decide +kernel
theorem dX8_layTile_8 : dec mX8_layTile 8 = .ok (.aload_n 0, 1) := by decide +kernel
theorem dX8_layTile_9 : dec mX8_layTile 9 = .ok (.sipush 339, 3) := by decide +kernel
theorem dX8_layTile_12 : dec mX8_layTile 12 = .ok (.iload_n 1, 1) := by decide +kernel
theorem dX8_layTile_13 : dec mX8_layTile 13 = .ok (.iadd, 1) := by decide +kernel
theorem dX8_layTile_14 : dec mX8_layTile 14 = .ok (.aload_n 0, 1) := by decide +kernel
theorem dX8_layTile_15 : dec mX8_layTile 15 = .ok (.iload_n 1, 1) := by decide +kernel
theorem dX8_layTile_16 : dec mX8_layTile 16 = .ok (.aload_n 0, 1) := by decide +kernel
theorem dX8_layTile_17 : dec mX8_layTile 17 = .ok (.iload_n 1, 1) := by decide +kernel
theorem dX8_layTile_18 : dec mX8_layTile 18 = .ok (.invokestatic 82, 3) := by decide +kernel
theorem dX8_layTile_21 : dec mX8_layTile 21 = .ok (.iload_n 2, 1) := by decide +kernel
theorem dX8_layTile_22 : dec mX8_layTile 22 = .ok (.invokestatic 75, 3) := by decide +kernel
theorem dX8_layTile_25 : dec mX8_layTile 25 = .ok (.iastore, 1) := by decide +kernel
theorem dX8_layTile_26 : dec mX8_layTile 26 = .ok (.return_, 1) := by decide +kernel
theorem dX8_swapOn_0 : dec mX8_swapOn 0 = .ok (.aload_n 0, 1) := by decide +kernel
theorem dX8_swapOn_1 : dec mX8_swapOn 1 = .ok (.iload_n 1, 1) := by decide +kernel
theorem dX8_swapOn_2 : dec mX8_swapOn 2 = .ok (.iload_n 2, 1) := by decide +kernel
theorem dX8_swapOn_3 : dec mX8_swapOn 3 = .ok (.invokestatic 97, 3) := by decide +kernel
theorem dX8_swapOn_6 : dec mX8_swapOn 6 = .ok (.istore_n 3, 1) := by decide +kernel
theorem dX8_swapOn_7 : dec mX8_swapOn 7 = .ok (.aload_n 0, 1) := by decide +kernel
theorem dX8_swapOn_8 : dec mX8_swapOn 8 = .ok (.sipush 227, 3) := by decide +kernel
theorem dX8_swapOn_11 : dec mX8_swapOn 11 = .ok (.iload_n 1, 1) := by decide +kernel
theorem dX8_swapOn_12 : dec mX8_swapOn 12 = .ok (.iadd, 1) := by decide +kernel
theorem dX8_swapOn_13 : dec mX8_swapOn 13 = .ok (.iaload, 1) := by decide +kernel
theorem dX8_swapOn_14 : dec mX8_swapOn 14 = .ok (.istore 4, 2) := by decide +kernel
theorem dX8_swapOn_16 : dec mX8_swapOn 16 = .ok (.aload_n 0, 1) := by decide +kernel
theorem dX8_swapOn_17 : dec mX8_swapOn 17 = .ok (.iload_n 1, 1) := by decide +kernel
theorem dX8_swapOn_18 : dec mX8_swapOn 18 = .ok (.aload_n 0, 1) := by decide +kernel
theorem dX8_swapOn_19 : dec mX8_swapOn 19 = .ok (.sipush 227, 3) := by decide +kernel
theorem dX8_swapOn_22 : dec mX8_swapOn 22 = .ok (.iload_n 2, 1) := by decide +kernel
theorem dX8_swapOn_23 : dec mX8_swapOn 23 = .ok (.iadd, 1) := by decide +kernel
theorem dX8_swapOn_24 : dec mX8_swapOn 24 = .ok (.iaload, 1) := by decide +kernel
theorem dX8_swapOn_25 : dec mX8_swapOn 25 = .ok (.invokestatic 100, 3) := by decide +kernel
theorem dX8_swapOn_28 : dec mX8_swapOn 28 = .ok (.aload_n 0, 1) := by decide +kernel
theorem dX8_swapOn_29 : dec mX8_swapOn 29 = .ok (.iload_n 2, 1) := by decide +kernel
theorem dX8_swapOn_30 : dec mX8_swapOn 30 = .ok (.iload 4, 2) := by decide +kernel
theorem dX8_swapOn_32 : dec mX8_swapOn 32 = .ok (.invokestatic 100, 3) := by decide +kernel
theorem dX8_swapOn_35 : dec mX8_swapOn 35 = .ok (.aload_n 0, 1) := by decide +kernel
theorem dX8_swapOn_36 : dec mX8_swapOn 36 = .ok (.iconst 2, 1) := by decide +kernel
theorem dX8_swapOn_37 : dec mX8_swapOn 37 = .ok (.dup2, 1) := by decide +kernel
theorem dX8_swapOn_38 : dec mX8_swapOn 38 = .ok (.iaload, 1) := by decide +kernel
theorem dX8_swapOn_39 : dec mX8_swapOn 39 = .ok (.iconst 1, 1) := by decide +kernel
theorem dX8_swapOn_40 : dec mX8_swapOn 40 = .ok (.iadd, 1) := by decide +kernel
theorem dX8_swapOn_41 : dec mX8_swapOn 41 = .ok (.iastore, 1) := by decide +kernel
theorem dX8_swapOn_42 : dec mX8_swapOn 42 = .ok (.iload_n 3, 1) := by decide +kernel
theorem dX8_swapOn_43 : dec mX8_swapOn 43 = .ok (.ireturn, 1) := by decide +kernel
theorem dX8_flipOn_0 : dec mX8_flipOn 0 = .ok (.aload_n 0, 1) := by decide +kernel
theorem dX8_flipOn_1 : dec mX8_flipOn 1 = .ok (.iload_n 1, 1) := by decide +kernel
theorem dX8_flipOn_2 : dec mX8_flipOn 2 = .ok (.invokestatic 103, 3) := by decide +kernel
theorem dX8_flipOn_5 : dec mX8_flipOn 5 = .ok (.istore_n 2, 1) := by decide +kernel
theorem dX8_flipOn_6 : dec mX8_flipOn 6 = .ok (.aload_n 0, 1) := by decide +kernel
theorem dX8_flipOn_7 : dec mX8_flipOn 7 = .ok (.invokestatic 40, 3) := by decide +kernel
theorem dX8_flipOn_10 : dec mX8_flipOn 10 = .ok (.istore_n 3, 1) := by decide +kernel
theorem dX8_flipOn_11 : dec mX8_flipOn 11 = .ok (.aload_n 0, 1) := by decide +kernel
theorem dX8_flipOn_12 : dec mX8_flipOn 12 = .ok (.iload_n 1, 1) := by decide +kernel
theorem dX8_flipOn_13 : dec mX8_flipOn 13 = .ok (.invokestatic 91, 3) := by decide +kernel
theorem dX8_flipOn_16 : dec mX8_flipOn 16 = .ok (.istore 4, 2) := by decide +kernel
theorem dX8_flipOn_18 : dec mX8_flipOn 18 = .ok (.aload_n 0, 1) := by decide +kernel
theorem dX8_flipOn_19 : dec mX8_flipOn 19 = .ok (.bipush 115, 2) := by decide +kernel
theorem dX8_flipOn_21 : dec mX8_flipOn 21 = .ok (.iload_n 1, 1) := by decide +kernel
theorem dX8_flipOn_22 : dec mX8_flipOn 22 = .ok (.iadd, 1) := by decide +kernel
theorem dX8_flipOn_23 : dec mX8_flipOn 23 = .ok (.iaload, 1) := by decide +kernel
theorem dX8_flipOn_24 : dec mX8_flipOn 24 = .ok (.iconst 1, 1) := by decide +kernel
theorem dX8_flipOn_25 : dec mX8_flipOn 25 = .ok (.if_icmp .ne 9, 3) := by decide +kernel
theorem dX8_flipOn_28 : dec mX8_flipOn 28 = .ok (.iload_n 1, 1) := by decide +kernel
theorem dX8_flipOn_29 : dec mX8_flipOn 29 = .ok (.iconst 1, 1) := by decide +kernel
theorem dX8_flipOn_30 : dec mX8_flipOn 30 = .ok (.iadd, 1) := by decide +kernel
theorem dX8_flipOn_31 : dec mX8_flipOn 31 = .ok (.goto 6, 3) := by decide +kernel
theorem dX8_flipOn_34 : dec mX8_flipOn 34 = .ok (.iload_n 1, 1) := by decide +kernel
theorem dX8_flipOn_35 : dec mX8_flipOn 35 = .ok (.iload_n 3, 1) := by decide +kernel
theorem dX8_flipOn_36 : dec mX8_flipOn 36 = .ok (.iadd, 1) := by decide +kernel
theorem dX8_flipOn_37 : dec mX8_flipOn 37 = .ok (.istore 5, 2) := by decide +kernel
theorem dX8_flipOn_39 : dec mX8_flipOn 39 = .ok (.iconst 3, 1) := by decide +kernel
theorem dX8_flipOn_40 : dec mX8_flipOn 40 = .ok (.aload_n 0, 1) := by decide +kernel
theorem dX8_flipOn_41 : dec mX8_flipOn 41 = .ok (.bipush 115, 2) := by decide +kernel
theorem dX8_flipOn_43 : dec mX8_flipOn 43 = .ok (.iload_n 1, 1) := by decide +kernel
theorem dX8_flipOn_44 : dec mX8_flipOn 44 = .ok (.iadd, 1) := by decide +kernel
theorem dX8_flipOn_45 : dec mX8_flipOn 45 = .ok (.iaload, 1) := by decide +kernel
theorem dX8_flipOn_46 : dec mX8_flipOn 46 = .ok (.isub, 1) := by decide +kernel
theorem dX8_flipOn_47 : dec mX8_flipOn 47 = .ok (.istore 6, 2) := by decide +kernel
theorem dX8_flipOn_49 : dec mX8_flipOn 49 = .ok (.aload_n 0, 1) := by decide +kernel
theorem dX8_flipOn_50 : dec mX8_flipOn 50 = .ok (.sipush 227, 3) := by decide +kernel
theorem dX8_flipOn_53 : dec mX8_flipOn 53 = .ok (.iload 4, 2) := by decide +kernel
theorem dX8_flipOn_55 : dec mX8_flipOn 55 = .ok (.iadd, 1) := by decide +kernel
theorem dX8_flipOn_56 : dec mX8_flipOn 56 = .ok (.iaload, 1) := by decide +kernel
theorem dX8_flipOn_57 : dec mX8_flipOn 57 = .ok (.istore 7, 2) := by decide +kernel
theorem dX8_flipOn_59 : dec mX8_flipOn 59 = .ok (.aload_n 0, 1) := by decide +kernel
theorem dX8_flipOn_60 : dec mX8_flipOn 60 = .ok (.sipush 451, 3) := by decide +kernel
theorem dX8_flipOn_63 : dec mX8_flipOn 63 = .ok (.iload 4, 2) := by decide +kernel
theorem dX8_flipOn_65 : dec mX8_flipOn 65 = .ok (.iadd, 1) := by decide +kernel
theorem dX8_flipOn_66 : dec mX8_flipOn 66 = .ok (.iaload, 1) := by decide +kernel
theorem dX8_flipOn_67 : dec mX8_flipOn 67 = .ok (.istore 8, 2) := by decide +kernel
theorem dX8_flipOn_69 : dec mX8_flipOn 69 = .ok (.aload_n 0, 1) := by decide +kernel
theorem dX8_flipOn_70 : dec mX8_flipOn 70 = .ok (.bipush 115, 2) := by decide +kernel
theorem dX8_flipOn_72 : dec mX8_flipOn 72 = .ok (.iload 4, 2) := by decide +kernel
theorem dX8_flipOn_74 : dec mX8_flipOn 74 = .ok (.iadd, 1) := by decide +kernel
theorem dX8_flipOn_75 : dec mX8_flipOn 75 = .ok (.iconst 0, 1) := by decide +kernel
theorem dX8_flipOn_76 : dec mX8_flipOn 76 = .ok (.iastore, 1) := by decide +kernel
theorem dX8_flipOn_77 : dec mX8_flipOn 77 = .ok (.aload_n 0, 1) := by decide +kernel
theorem dX8_flipOn_78 : dec mX8_flipOn 78 = .ok (.sipush 227, 3) := by decide +kernel
theorem dX8_flipOn_81 : dec mX8_flipOn 81 = .ok (.iload 4, 2) := by decide +kernel
theorem dX8_flipOn_83 : dec mX8_flipOn 83 = .ok (.iadd, 1) := by decide +kernel
theorem dX8_flipOn_84 : dec mX8_flipOn 84 = .ok (.iconst 0, 1) := by decide +kernel
theorem dX8_flipOn_85 : dec mX8_flipOn 85 = .ok (.iastore, 1) := by decide +kernel
theorem dX8_flipOn_86 : dec mX8_flipOn 86 = .ok (.aload_n 0, 1) := by decide +kernel
theorem dX8_flipOn_87 : dec mX8_flipOn 87 = .ok (.sipush 339, 3) := by decide +kernel
theorem dX8_flipOn_90 : dec mX8_flipOn 90 = .ok (.iload 4, 2) := by decide +kernel
theorem dX8_flipOn_92 : dec mX8_flipOn 92 = .ok (.iadd, 1) := by decide +kernel
theorem dX8_flipOn_93 : dec mX8_flipOn 93 = .ok (.iconst 0, 1) := by decide +kernel
theorem dX8_flipOn_94 : dec mX8_flipOn 94 = .ok (.iastore, 1) := by decide +kernel
theorem dX8_flipOn_95 : dec mX8_flipOn 95 = .ok (.aload_n 0, 1) := by decide +kernel
theorem dX8_flipOn_96 : dec mX8_flipOn 96 = .ok (.sipush 451, 3) := by decide +kernel
theorem dX8_flipOn_99 : dec mX8_flipOn 99 = .ok (.iload 4, 2) := by decide +kernel
theorem dX8_flipOn_101 : dec mX8_flipOn 101 = .ok (.iadd, 1) := by decide +kernel
theorem dX8_flipOn_102 : dec mX8_flipOn 102 = .ok (.iconst 0, 1) := by decide +kernel
theorem dX8_flipOn_103 : dec mX8_flipOn 103 = .ok (.iastore, 1) := by decide +kernel
theorem dX8_flipOn_104 : dec mX8_flipOn 104 = .ok (.aload_n 0, 1) := by decide +kernel
theorem dX8_flipOn_105 : dec mX8_flipOn 105 = .ok (.bipush 115, 2) := by decide +kernel
theorem dX8_flipOn_107 : dec mX8_flipOn 107 = .ok (.iload_n 1, 1) := by decide +kernel
theorem dX8_flipOn_108 : dec mX8_flipOn 108 = .ok (.iadd, 1) := by decide +kernel
theorem dX8_flipOn_109 : dec mX8_flipOn 109 = .ok (.iload 6, 2) := by decide +kernel
theorem dX8_flipOn_111 : dec mX8_flipOn 111 = .ok (.iastore, 1) := by decide +kernel
theorem dX8_flipOn_112 : dec mX8_flipOn 112 = .ok (.aload_n 0, 1) := by decide +kernel
theorem dX8_flipOn_113 : dec mX8_flipOn 113 = .ok (.bipush 115, 2) := by decide +kernel
theorem dX8_flipOn_115 : dec mX8_flipOn 115 = .ok (.iload 5, 2) := by decide +kernel
theorem dX8_flipOn_117 : dec mX8_flipOn 117 = .ok (.iadd, 1) := by decide +kernel
theorem dX8_flipOn_118 : dec mX8_flipOn 118 = .ok (.iload 6, 2) := by decide +kernel
theorem dX8_flipOn_120 : dec mX8_flipOn 120 = .ok (.iastore, 1) := by decide +kernel
theorem dX8_flipOn_121 : dec mX8_flipOn 121 = .ok (.aload_n 0, 1) := by decide +kernel
theorem dX8_flipOn_122 : dec mX8_flipOn 122 = .ok (.sipush 451, 3) := by decide +kernel
theorem dX8_flipOn_125 : dec mX8_flipOn 125 = .ok (.iload 5, 2) := by decide +kernel
theorem dX8_flipOn_127 : dec mX8_flipOn 127 = .ok (.iadd, 1) := by decide +kernel
theorem dX8_flipOn_128 : dec mX8_flipOn 128 = .ok (.iload 8, 2) := by decide +kernel
theorem dX8_flipOn_130 : dec mX8_flipOn 130 = .ok (.iastore, 1) := by decide +kernel
theorem dX8_flipOn_131 : dec mX8_flipOn 131 = .ok (.aload_n 0, 1) := by decide +kernel
theorem dX8_flipOn_132 : dec mX8_flipOn 132 = .ok (.iload_n 1, 1) := by decide +kernel
theorem dX8_flipOn_133 : dec mX8_flipOn 133 = .ok (.aload_n 0, 1) := by decide +kernel
theorem dX8_flipOn_134 : dec mX8_flipOn 134 = .ok (.sipush 227, 3) := by decide +kernel
theorem dX8_flipOn_137 : dec mX8_flipOn 137 = .ok (.iload_n 1, 1) := by decide +kernel
theorem dX8_flipOn_138 : dec mX8_flipOn 138 = .ok (.iadd, 1) := by decide +kernel
theorem dX8_flipOn_139 : dec mX8_flipOn 139 = .ok (.iaload, 1) := by decide +kernel
theorem dX8_flipOn_140 : dec mX8_flipOn 140 = .ok (.invokestatic 100, 3) := by decide +kernel
theorem dX8_flipOn_143 : dec mX8_flipOn 143 = .ok (.aload_n 0, 1) := by decide +kernel
theorem dX8_flipOn_144 : dec mX8_flipOn 144 = .ok (.iload 5, 2) := by decide +kernel
theorem dX8_flipOn_146 : dec mX8_flipOn 146 = .ok (.iload 7, 2) := by decide +kernel
theorem dX8_flipOn_148 : dec mX8_flipOn 148 = .ok (.invokestatic 100, 3) := by decide +kernel
theorem dX8_flipOn_151 : dec mX8_flipOn 151 = .ok (.aload_n 0, 1) := by decide +kernel
theorem dX8_flipOn_152 : dec mX8_flipOn 152 = .ok (.iconst 2, 1) := by decide +kernel
theorem dX8_flipOn_153 : dec mX8_flipOn 153 = .ok (.dup2, 1) := by decide +kernel
theorem dX8_flipOn_154 : dec mX8_flipOn 154 = .ok (.iaload, 1) := by decide +kernel
theorem dX8_flipOn_155 : dec mX8_flipOn 155 = .ok (.iconst 1, 1) := by decide +kernel
theorem dX8_flipOn_156 : dec mX8_flipOn 156 = .ok (.iadd, 1) := by decide +kernel
theorem dX8_flipOn_157 : dec mX8_flipOn 157 = .ok (.iastore, 1) := by decide +kernel
theorem dX8_flipOn_158 : dec mX8_flipOn 158 = .ok (.iload_n 2, 1) := by decide +kernel
theorem dX8_flipOn_159 : dec mX8_flipOn 159 = .ok (.ireturn, 1) := by decide +kernel
theorem dX8_isFlip_0 : dec mX8_isFlip 0 = .ok (.aload_n 0, 1) := by decide +kernel
theorem dX8_isFlip_1 : dec mX8_isFlip 1 = .ok (.iload_n 1, 1) := by decide +kernel
theorem dX8_isFlip_2 : dec mX8_isFlip 2 = .ok (.invokestatic 91, 3) := by decide +kernel
theorem dX8_isFlip_5 : dec mX8_isFlip 5 = .ok (.iconst (-1), 1) := by decide +kernel
theorem dX8_isFlip_6 : dec mX8_isFlip 6 = .ok (.if_icmp .eq 29, 3) := by decide +kernel
theorem dX8_isFlip_9 : dec mX8_isFlip 9 = .ok (.aload_n 0, 1) := by decide +kernel
theorem dX8_isFlip_10 : dec mX8_isFlip 10 = .ok (.sipush 451, 3) := by decide +kernel
theorem dX8_isFlip_13 : dec mX8_isFlip 13 = .ok (.iload_n 1, 1) := by decide +kernel
theorem dX8_isFlip_14 : dec mX8_isFlip 14 = .ok (.iadd, 1) := by decide +kernel
theorem dX8_isFlip_15 : dec mX8_isFlip 15 = .ok (.iaload, 1) := by decide +kernel
theorem dX8_isFlip_16 : dec mX8_isFlip 16 = .ok (.aload_n 0, 1) := by decide +kernel
theorem dX8_isFlip_17 : dec mX8_isFlip 17 = .ok (.sipush 451, 3) := by decide +kernel
theorem dX8_isFlip_20 : dec mX8_isFlip 20 = .ok (.aload_n 0, 1) := by decide +kernel
theorem dX8_isFlip_21 : dec mX8_isFlip 21 = .ok (.iload_n 1, 1) := by decide +kernel
theorem dX8_isFlip_22 : dec mX8_isFlip 22 = .ok (.invokestatic 91, 3) := by decide +kernel
theorem dX8_isFlip_25 : dec mX8_isFlip 25 = .ok (.iadd, 1) := by decide +kernel
theorem dX8_isFlip_26 : dec mX8_isFlip 26 = .ok (.iaload, 1) := by decide +kernel
theorem dX8_isFlip_27 : dec mX8_isFlip 27 = .ok (.iadd, 1) := by decide +kernel
theorem dX8_isFlip_28 : dec mX8_isFlip 28 = .ok (.ifCond .ne 7, 3) := by decide +kernel
theorem dX8_isFlip_31 : dec mX8_isFlip 31 = .ok (.iconst 1, 1) := by decide +kernel
theorem dX8_isFlip_32 : dec mX8_isFlip 32 = .ok (.goto 4, 3) := by decide +kernel
theorem dX8_isFlip_35 : dec mX8_isFlip 35 = .ok (.iconst 0, 1) := by decide +kernel
theorem dX8_isFlip_36 : dec mX8_isFlip 36 = .ok (.ireturn, 1) := by decide +kernel
theorem dX8_offer_0 : dec mX8_offer 0 = .ok (.aload_n 0, 1) := by decide +kernel
theorem dX8_offer_1 : dec mX8_offer 1 = .ok (.getfield 106, 3) := by decide +kernel
theorem dX8_offer_4 : dec mX8_offer 4 = .ok (.iconst (-1), 1) := by decide +kernel
theorem dX8_offer_5 : dec mX8_offer 5 = .ok (.if_icmp .eq 11, 3) := by decide +kernel
theorem dX8_offer_8 : dec mX8_offer 8 = .ok (.iload_n 2, 1) := by decide +kernel
theorem dX8_offer_9 : dec mX8_offer 9 = .ok (.aload_n 0, 1) := by decide +kernel
theorem dX8_offer_10 : dec mX8_offer 10 = .ok (.getfield 109, 3) := by decide +kernel
theorem dX8_offer_13 : dec mX8_offer 13 = .ok (.if_icmp .le 13, 3) := by decide +kernel
theorem dX8_offer_16 : dec mX8_offer 16 = .ok (.aload_n 0, 1) := by decide +kernel
theorem dX8_offer_17 : dec mX8_offer 17 = .ok (.iload_n 1, 1) := by decide +kernel
theorem dX8_offer_18 : dec mX8_offer 18 = .ok (.putfield 106, 3) := by decide +kernel
theorem dX8_offer_21 : dec mX8_offer 21 = .ok (.aload_n 0, 1) := by decide +kernel
theorem dX8_offer_22 : dec mX8_offer 22 = .ok (.iload_n 2, 1) := by decide +kernel
theorem dX8_offer_23 : dec mX8_offer 23 = .ok (.putfield 109, 3) := by decide +kernel
theorem dX8_offer_26 : dec mX8_offer 26 = .ok (.return_, 1) := by decide +kernel
theorem dX8_find_0 : dec mX8_find 0 = .ok (.aload_n 0, 1) := by decide +kernel
theorem dX8_find_1 : dec mX8_find 1 = .ok (.iconst (-1), 1) := by decide +kernel
theorem dX8_find_2 : dec mX8_find 2 = .ok (.putfield 106, 3) := by decide +kernel
theorem dX8_find_5 : dec mX8_find 5 = .ok (.aload_n 0, 1) := by decide +kernel
theorem dX8_find_6 : dec mX8_find 6 = .ok (.iconst 0, 1) := by decide +kernel
theorem dX8_find_7 : dec mX8_find 7 = .ok (.putfield 109, 3) := by decide +kernel
theorem dX8_find_10 : dec mX8_find 10 = .ok (.iconst 0, 1) := by decide +kernel
theorem dX8_find_11 : dec mX8_find 11 = .ok (.istore_n 2, 1) := by decide +kernel
theorem dX8_find_12 : dec mX8_find 12 = .ok (.iconst 0, 1) := by decide +kernel
theorem dX8_find_13 : dec mX8_find 13 = .ok (.istore_n 3, 1) := by decide +kernel
theorem dX8_find_14 : dec mX8_find 14 = .ok (.iload_n 3, 1) := by decide +kernel
theorem dX8_find_15 : dec mX8_find 15 = .ok (.aload_n 1, 1) := by decide +kernel
theorem dX8_find_16 : dec mX8_find 16 = .ok (.invokestatic 47, 3) := by decide +kernel
theorem dX8_find_19 : dec mX8_find 19 = .ok (.if_icmp .ge 41, 3) := by decide +kernel
theorem dX8_find_22 : dec mX8_find 22 = .ok (.aload_n 1, 1) := by decide +kernel
theorem dX8_find_23 : dec mX8_find 23 = .ok (.bipush 115, 2) := by decide +kernel
theorem dX8_find_25 : dec mX8_find 25 = .ok (.iload_n 3, 1) := by decide +kernel
theorem dX8_find_26 : dec mX8_find 26 = .ok (.iadd, 1) := by decide +kernel
theorem dX8_find_27 : dec mX8_find 27 = .ok (.iaload, 1) := by decide +kernel
theorem dX8_find_28 : dec mX8_find 28 = .ok (.ifCond .le 26, 3) := by decide +kernel
theorem dX8_find_31 : dec mX8_find 31 = .ok (.aload_n 1, 1) := by decide +kernel
theorem dX8_find_32 : dec mX8_find 32 = .ok (.sipush 451, 3) := by decide +kernel
theorem dX8_find_35 : dec mX8_find 35 = .ok (.iload_n 3, 1) := by decide +kernel
theorem dX8_find_36 : dec mX8_find 36 = .ok (.iadd, 1) := by decide +kernel
theorem dX8_find_37 : dec mX8_find 37 = .ok (.iaload, 1) := by decide +kernel
theorem dX8_find_38 : dec mX8_find 38 = .ok (.ifCond .ne 13, 3) := by decide +kernel
theorem dX8_find_41 : dec mX8_find 41 = .ok (.aload_n 0, 1) := by decide +kernel
theorem dX8_find_42 : dec mX8_find 42 = .ok (.iload_n 2, 1) := by decide +kernel
theorem dX8_find_43 : dec mX8_find 43 = .ok (.aload_n 1, 1) := by decide +kernel
theorem dX8_find_44 : dec mX8_find 44 = .ok (.iload_n 3, 1) := by decide +kernel
theorem dX8_find_45 : dec mX8_find 45 = .ok (.invokestatic 94, 3) := by decide +kernel
theorem dX8_find_48 : dec mX8_find 48 = .ok (.invokevirtual 112, 3) := by decide +kernel
theorem dX8_find_51 : dec mX8_find 51 = .ok (.iinc 2 1, 3) := by decide +kernel
theorem dX8_find_54 : dec mX8_find 54 = .ok (.iinc 3 1, 3) := by decide +kernel
theorem dX8_find_57 : dec mX8_find 57 = .ok (.goto (-43), 3) := by decide +kernel
theorem dX8_find_60 : dec mX8_find 60 = .ok (.iconst 0, 1) := by decide +kernel
theorem dX8_find_61 : dec mX8_find 61 = .ok (.istore_n 2, 1) := by decide +kernel
theorem dX8_find_62 : dec mX8_find 62 = .ok (.iconst 0, 1) := by decide +kernel
theorem dX8_find_63 : dec mX8_find 63 = .ok (.istore_n 3, 1) := by decide +kernel
theorem dX8_find_64 : dec mX8_find 64 = .ok (.iload_n 3, 1) := by decide +kernel
theorem dX8_find_65 : dec mX8_find 65 = .ok (.aload_n 1, 1) := by decide +kernel
theorem dX8_find_66 : dec mX8_find 66 = .ok (.invokestatic 47, 3) := by decide +kernel
theorem dX8_find_69 : dec mX8_find 69 = .ok (.if_icmp .ge 28, 3) := by decide +kernel
theorem dX8_find_72 : dec mX8_find 72 = .ok (.aload_n 1, 1) := by decide +kernel
theorem dX8_find_73 : dec mX8_find 73 = .ok (.bipush 115, 2) := by decide +kernel
theorem dX8_find_75 : dec mX8_find 75 = .ok (.iload_n 3, 1) := by decide +kernel
theorem dX8_find_76 : dec mX8_find 76 = .ok (.iadd, 1) := by decide +kernel
theorem dX8_find_77 : dec mX8_find 77 = .ok (.iaload, 1) := by decide +kernel
theorem dX8_find_78 : dec mX8_find 78 = .ok (.ifCond .le 13, 3) := by decide +kernel
theorem dX8_find_81 : dec mX8_find 81 = .ok (.aload_n 0, 1) := by decide +kernel
theorem dX8_find_82 : dec mX8_find 82 = .ok (.aload_n 1, 1) := by decide +kernel
theorem dX8_find_83 : dec mX8_find 83 = .ok (.iload_n 3, 1) := by decide +kernel
theorem dX8_find_84 : dec mX8_find 84 = .ok (.iload_n 2, 1) := by decide +kernel
theorem dX8_find_85 : dec mX8_find 85 = .ok (.invokevirtual 116, 3) := by decide +kernel
theorem dX8_find_88 : dec mX8_find 88 = .ok (.iinc 2 1, 3) := by decide +kernel
theorem dX8_find_91 : dec mX8_find 91 = .ok (.iinc 3 1, 3) := by decide +kernel
theorem dX8_find_94 : dec mX8_find 94 = .ok (.goto (-30), 3) := by decide +kernel
theorem dX8_find_97 : dec mX8_find 97 = .ok (.iconst 0, 1) := by decide +kernel
theorem dX8_find_98 : dec mX8_find 98 = .ok (.istore_n 3, 1) := by decide +kernel
theorem dX8_find_99 : dec mX8_find 99 = .ok (.iload_n 3, 1) := by decide +kernel
theorem dX8_find_100 : dec mX8_find 100 = .ok (.aload_n 1, 1) := by decide +kernel
theorem dX8_find_101 : dec mX8_find 101 = .ok (.invokestatic 47, 3) := by decide +kernel
theorem dX8_find_104 : dec mX8_find 104 = .ok (.if_icmp .ge 31, 3) := by decide +kernel
theorem dX8_find_107 : dec mX8_find 107 = .ok (.aload_n 1, 1) := by decide +kernel
theorem dX8_find_108 : dec mX8_find 108 = .ok (.iload_n 3, 1) := by decide +kernel
theorem dX8_find_109 : dec mX8_find 109 = .ok (.invokestatic 119, 3) := by decide +kernel
theorem dX8_find_112 : dec mX8_find 112 = .ok (.ifCond .eq 17, 3) := by decide +kernel
theorem dX8_find_115 : dec mX8_find 115 = .ok (.aload_n 0, 1) := by decide +kernel
theorem dX8_find_116 : dec mX8_find 116 = .ok (.sipush 20000, 3) := by decide +kernel
theorem dX8_find_119 : dec mX8_find 119 = .ok (.iload_n 3, 1) := by decide +kernel
theorem dX8_find_120 : dec mX8_find 120 = .ok (.iadd, 1) := by decide +kernel
theorem dX8_find_121 : dec mX8_find 121 = .ok (.aload_n 1, 1) := by decide +kernel
theorem dX8_find_122 : dec mX8_find 122 = .ok (.iload_n 3, 1) := by decide +kernel
theorem dX8_find_123 : dec mX8_find 123 = .ok (.invokestatic 103, 3) := by decide +kernel
theorem dX8_find_126 : dec mX8_find 126 = .ok (.invokevirtual 112, 3) := by decide +kernel
theorem dX8_find_129 : dec mX8_find 129 = .ok (.iinc 3 1, 3) := by decide +kernel
theorem dX8_find_132 : dec mX8_find 132 = .ok (.goto (-33), 3) := by decide +kernel
theorem dX8_find_135 : dec mX8_find 135 = .ok (.return_, 1) := by decide +kernel
theorem dX8_findSwaps_0 : dec mX8_findSwaps 0 = .ok (.iload_n 3, 1) := by decide +kernel
theorem dX8_findSwaps_1 : dec mX8_findSwaps 1 = .ok (.istore 4, 2) := by decide +kernel
theorem dX8_findSwaps_3 : dec mX8_findSwaps 3 = .ok (.iload_n 2, 1) := by decide +kernel
theorem dX8_findSwaps_4 : dec mX8_findSwaps 4 = .ok (.iconst 1, 1) := by decide +kernel
theorem dX8_findSwaps_5 : dec mX8_findSwaps 5 = .ok (.iadd, 1) := by decide +kernel
theorem dX8_findSwaps_6 : dec mX8_findSwaps 6 = .ok (.istore 5, 2) := by decide +kernel
theorem dX8_findSwaps_8 : dec mX8_findSwaps 8 = .ok (.iload 5, 2) := by decide +kernel
theorem dX8_findSwaps_10 : dec mX8_findSwaps 10 = .ok (.aload_n 1, 1) := by decide +kernel
theorem dX8_findSwaps_11 : dec mX8_findSwaps 11 = .ok (.invokestatic 47, 3) := by decide +kernel
theorem dX8_findSwaps_14 : dec mX8_findSwaps 14 = .ok (.if_icmp .ge 65, 3) := by decide +kernel
theorem dX8_findSwaps_17 : dec mX8_findSwaps 17 = .ok (.aload_n 1, 1) := by decide +kernel
theorem dX8_findSwaps_18 : dec mX8_findSwaps 18 = .ok (.sipush 451, 3) := by decide +kernel
theorem dX8_findSwaps_21 : dec mX8_findSwaps 21 = .ok (.iload_n 2, 1) := by decide +kernel
theorem dX8_findSwaps_22 : dec mX8_findSwaps 22 = .ok (.iadd, 1) := by decide +kernel
theorem dX8_findSwaps_23 : dec mX8_findSwaps 23 = .ok (.iaload, 1) := by decide +kernel
theorem dX8_findSwaps_24 : dec mX8_findSwaps 24 = .ok (.ifCond .ne 55, 3) := by decide +kernel
theorem dX8_findSwaps_27 : dec mX8_findSwaps 27 = .ok (.aload_n 1, 1) := by decide +kernel
theorem dX8_findSwaps_28 : dec mX8_findSwaps 28 = .ok (.bipush 115, 2) := by decide +kernel
theorem dX8_findSwaps_30 : dec mX8_findSwaps 30 = .ok (.iload 5, 2) := by decide +kernel
theorem dX8_findSwaps_32 : dec mX8_findSwaps 32 = .ok (.iadd, 1) := by decide +kernel
theorem dX8_findSwaps_33 : dec mX8_findSwaps 33 = .ok (.iaload, 1) := by decide +kernel
theorem dX8_findSwaps_34 : dec mX8_findSwaps 34 = .ok (.ifCond .le 39, 3) := by decide +kernel
theorem dX8_findSwaps_37 : dec mX8_findSwaps 37 = .ok (.iinc 4 1, 3) := by decide +kernel
theorem dX8_findSwaps_40 : dec mX8_findSwaps 40 = .ok (.aload_n 1, 1) := by decide +kernel
theorem dX8_findSwaps_41 : dec mX8_findSwaps 41 = .ok (.sipush 451, 3) := by decide +kernel
theorem dX8_findSwaps_44 : dec mX8_findSwaps 44 = .ok (.iload 5, 2) := by decide +kernel
theorem dX8_findSwaps_46 : dec mX8_findSwaps 46 = .ok (.iadd, 1) := by decide +kernel
theorem dX8_findSwaps_47 : dec mX8_findSwaps 47 = .ok (.iaload, 1) := by decide +kernel
theorem dX8_findSwaps_48 : dec mX8_findSwaps 48 = .ok (.ifCond .ne 25, 3) := by decide +kernel
theorem dX8_findSwaps_51 : dec mX8_findSwaps 51 = .ok (.aload_n 0, 1) := by decide +kernel
theorem dX8_findSwaps_52 : dec mX8_findSwaps 52 = .ok (.sipush 10000, 3) := by decide +kernel
theorem dX8_findSwaps_55 : dec mX8_findSwaps 55 = .ok (.bipush 100, 2) := by decide +kernel
theorem dX8_findSwaps_57 : dec mX8_findSwaps 57 = .ok (.iload_n 3, 1) := by decide +kernel
theorem dX8_findSwaps_58 : dec mX8_findSwaps 58 = .ok (.imul, 1) := by decide +kernel
theorem dX8_findSwaps_59 : dec mX8_findSwaps 59 = .ok (.iadd, 1) := by decide +kernel
theorem dX8_findSwaps_60 : dec mX8_findSwaps 60 = .ok (.iload 4, 2) := by decide +kernel
theorem dX8_findSwaps_62 : dec mX8_findSwaps 62 = .ok (.iadd, 1) := by decide +kernel
theorem dX8_findSwaps_63 : dec mX8_findSwaps 63 = .ok (.aload_n 1, 1) := by decide +kernel
theorem dX8_findSwaps_64 : dec mX8_findSwaps 64 = .ok (.iload_n 2, 1) := by decide +kernel
theorem dX8_findSwaps_65 : dec mX8_findSwaps 65 = .ok (.iload 5, 2) := by decide +kernel
theorem dX8_findSwaps_67 : dec mX8_findSwaps 67 = .ok (.invokestatic 97, 3) := by decide +kernel
theorem dX8_findSwaps_70 : dec mX8_findSwaps 70 = .ok (.invokevirtual 112, 3) := by decide +kernel
theorem dX8_findSwaps_73 : dec mX8_findSwaps 73 = .ok (.iinc 5 1, 3) := by decide +kernel
theorem dX8_findSwaps_76 : dec mX8_findSwaps 76 = .ok (.goto (-68), 3) := by decide +kernel
theorem dX8_findSwaps_79 : dec mX8_findSwaps 79 = .ok (.return_, 1) := by decide +kernel
theorem dX8_change_0 : dec mX8_change 0 = .ok (.iload_n 1, 1) := by decide +kernel
theorem dX8_change_1 : dec mX8_change 1 = .ok (.sipush 10000, 3) := by decide +kernel
theorem dX8_change_4 : dec mX8_change 4 = .ok (.irem, 1) := by decide +kernel
theorem dX8_change_5 : dec mX8_change 5 = .ok (.istore_n 2, 1) := by decide +kernel
theorem dX8_change_6 : dec mX8_change 6 = .ok (.iload_n 1, 1) := by decide +kernel
theorem dX8_change_7 : dec mX8_change 7 = .ok (.sipush 10000, 3) := by decide +kernel
theorem dX8_change_10 : dec mX8_change 10 = .ok (.if_icmp .ge 16, 3) := by decide +kernel
theorem dX8_change_13 : dec mX8_change 13 = .ok (.aload_n 0, 1) := by decide +kernel
theorem dX8_change_14 : dec mX8_change 14 = .ok (.aload_n 0, 1) := by decide +kernel
theorem dX8_change_15 : dec mX8_change 15 = .ok (.iload_n 2, 1) := by decide +kernel
theorem dX8_change_16 : dec mX8_change 16 = .ok (.invokestatic 123, 3) := by decide +kernel
theorem dX8_change_19 : dec mX8_change 19 = .ok (.invokestatic 126, 3) := by decide +kernel
theorem dX8_change_22 : dec mX8_change 22 = .ok (.pop, 1) := by decide +kernel
theorem dX8_change_23 : dec mX8_change 23 = .ok (.goto 40, 3) := by decide +kernel
theorem dX8_change_26 : dec mX8_change 26 = .ok (.iload_n 1, 1) := by decide +kernel
theorem dX8_change_27 : dec mX8_change 27 = .ok (.sipush 20000, 3) := by decide +kernel
theorem dX8_change_30 : dec mX8_change 30 = .ok (.if_icmp .ge 27, 3) := by decide +kernel
theorem dX8_change_33 : dec mX8_change 33 = .ok (.aload_n 0, 1) := by decide +kernel
theorem dX8_change_34 : dec mX8_change 34 = .ok (.aload_n 0, 1) := by decide +kernel
theorem dX8_change_35 : dec mX8_change 35 = .ok (.iload_n 2, 1) := by decide +kernel
theorem dX8_change_36 : dec mX8_change 36 = .ok (.bipush 100, 2) := by decide +kernel
theorem dX8_change_38 : dec mX8_change 38 = .ok (.idiv, 1) := by decide +kernel
theorem dX8_change_39 : dec mX8_change 39 = .ok (.invokestatic 123, 3) := by decide +kernel
theorem dX8_change_42 : dec mX8_change 42 = .ok (.aload_n 0, 1) := by decide +kernel
theorem dX8_change_43 : dec mX8_change 43 = .ok (.iload_n 2, 1) := by decide +kernel
theorem dX8_change_44 : dec mX8_change 44 = .ok (.bipush 100, 2) := by decide +kernel
theorem dX8_change_46 : dec mX8_change 46 = .ok (.irem, 1) := by decide +kernel
theorem dX8_change_47 : dec mX8_change 47 = .ok (.invokestatic 123, 3) := by decide +kernel
theorem dX8_change_50 : dec mX8_change 50 = .ok (.invokestatic 129, 3) := by decide +kernel
theorem dX8_change_53 : dec mX8_change 53 = .ok (.pop, 1) := by decide +kernel
theorem dX8_change_54 : dec mX8_change 54 = .ok (.goto 9, 3) := by decide +kernel
theorem dX8_change_57 : dec mX8_change 57 = .ok (.aload_n 0, 1) := by decide +kernel
theorem dX8_change_58 : dec mX8_change 58 = .ok (.iload_n 2, 1) := by decide +kernel
theorem dX8_change_59 : dec mX8_change 59 = .ok (.invokestatic 132, 3) := by decide +kernel
theorem dX8_change_62 : dec mX8_change 62 = .ok (.pop, 1) := by decide +kernel
theorem dX8_change_63 : dec mX8_change 63 = .ok (.return_, 1) := by decide +kernel
theorem dX8_improveOn_0 : dec mX8_improveOn 0 = .ok (.iconst 0, 1) := by decide +kernel
theorem dX8_improveOn_1 : dec mX8_improveOn 1 = .ok (.istore_n 3, 1) := by decide +kernel
theorem dX8_improveOn_2 : dec mX8_improveOn 2 = .ok (.aload_n 0, 1) := by decide +kernel
theorem dX8_improveOn_3 : dec mX8_improveOn 3 = .ok (.iconst 0, 1) := by decide +kernel
theorem dX8_improveOn_4 : dec mX8_improveOn 4 = .ok (.putfield 135, 3) := by decide +kernel
theorem dX8_improveOn_7 : dec mX8_improveOn 7 = .ok (.aload_n 0, 1) := by decide +kernel
theorem dX8_improveOn_8 : dec mX8_improveOn 8 = .ok (.aload_n 1, 1) := by decide +kernel
theorem dX8_improveOn_9 : dec mX8_improveOn 9 = .ok (.invokevirtual 138, 3) := by decide +kernel
theorem dX8_improveOn_12 : dec mX8_improveOn 12 = .ok (.aload_n 0, 1) := by decide +kernel
theorem dX8_improveOn_13 : dec mX8_improveOn 13 = .ok (.getfield 135, 3) := by decide +kernel
theorem dX8_improveOn_16 : dec mX8_improveOn 16 = .ok (.iload_n 2, 1) := by decide +kernel
theorem dX8_improveOn_17 : dec mX8_improveOn 17 = .ok (.if_icmp .ge 51, 3) := by decide +kernel
theorem dX8_improveOn_20 : dec mX8_improveOn 20 = .ok (.aload_n 0, 1) := by decide +kernel
theorem dX8_improveOn_21 : dec mX8_improveOn 21 = .ok (.getfield 106, 3) := by decide +kernel
theorem dX8_improveOn_24 : dec mX8_improveOn 24 = .ok (.iconst (-1), 1) := by decide +kernel
theorem dX8_improveOn_25 : dec mX8_improveOn 25 = .ok (.if_icmp .eq 43, 3) := by decide +kernel
theorem dX8_improveOn_28 : dec mX8_improveOn 28 = .ok (.aload_n 0, 1) := by decide +kernel
theorem dX8_improveOn_29 : dec mX8_improveOn 29 = .ok (.getfield 109, 3) := by decide +kernel
theorem dX8_improveOn_32 : dec mX8_improveOn 32 = .ok (.ifCond .le 36, 3) := by decide +kernel
theorem dX8_improveOn_35 : dec mX8_improveOn 35 = .ok (.iload_n 3, 1) := by decide +kernel
theorem dX8_improveOn_36 : dec mX8_improveOn 36 = .ok (.aload_n 0, 1) := by decide +kernel
theorem dX8_improveOn_37 : dec mX8_improveOn 37 = .ok (.getfield 109, 3) := by decide +kernel
theorem dX8_improveOn_40 : dec mX8_improveOn 40 = .ok (.iadd, 1) := by decide +kernel
theorem dX8_improveOn_41 : dec mX8_improveOn 41 = .ok (.istore_n 3, 1) := by decide +kernel
theorem dX8_improveOn_42 : dec mX8_improveOn 42 = .ok (.aload_n 1, 1) := by decide +kernel
theorem dX8_improveOn_43 : dec mX8_improveOn 43 = .ok (.aload_n 0, 1) := by decide +kernel
theorem dX8_improveOn_44 : dec mX8_improveOn 44 = .ok (.getfield 106, 3) := by decide +kernel
theorem dX8_improveOn_47 : dec mX8_improveOn 47 = .ok (.invokestatic 142, 3) := by decide +kernel
theorem dX8_improveOn_50 : dec mX8_improveOn 50 = .ok (.aload_n 0, 1) := by decide +kernel
theorem dX8_improveOn_51 : dec mX8_improveOn 51 = .ok (.dup, 1) := by decide +kernel
theorem dX8_improveOn_52 : dec mX8_improveOn 52 = .ok (.getfield 135, 3) := by decide +kernel
theorem dX8_improveOn_55 : dec mX8_improveOn 55 = .ok (.iconst 1, 1) := by decide +kernel
theorem dX8_improveOn_56 : dec mX8_improveOn 56 = .ok (.iadd, 1) := by decide +kernel
theorem dX8_improveOn_57 : dec mX8_improveOn 57 = .ok (.putfield 135, 3) := by decide +kernel
theorem dX8_improveOn_60 : dec mX8_improveOn 60 = .ok (.aload_n 0, 1) := by decide +kernel
theorem dX8_improveOn_61 : dec mX8_improveOn 61 = .ok (.aload_n 1, 1) := by decide +kernel
theorem dX8_improveOn_62 : dec mX8_improveOn 62 = .ok (.invokevirtual 138, 3) := by decide +kernel
theorem dX8_improveOn_65 : dec mX8_improveOn 65 = .ok (.goto (-53), 3) := by decide +kernel
theorem dX8_improveOn_68 : dec mX8_improveOn 68 = .ok (.iload_n 3, 1) := by decide +kernel
theorem dX8_improveOn_69 : dec mX8_improveOn 69 = .ok (.ireturn, 1) := by decide +kernel
theorem dX8_layAll_0 : dec mX8_layAll 0 = .ok (.aload_n 1, 1) := by decide +kernel
theorem dX8_layAll_1 : dec mX8_layAll 1 = .ok (.invokestatic 146, 3) := by decide +kernel
theorem dX8_layAll_4 : dec mX8_layAll 4 = .ok (.istore_n 2, 1) := by decide +kernel
theorem dX8_layAll_5 : dec mX8_layAll 5 = .ok (.iconst 0, 1) := by decide +kernel
theorem dX8_layAll_6 : dec mX8_layAll 6 = .ok (.istore_n 3, 1) := by decide +kernel
theorem dX8_layAll_7 : dec mX8_layAll 7 = .ok (.iload_n 3, 1) := by decide +kernel
theorem dX8_layAll_8 : dec mX8_layAll 8 = .ok (.aload_n 1, 1) := by decide +kernel
theorem dX8_layAll_9 : dec mX8_layAll 9 = .ok (.invokestatic 54, 3) := by decide +kernel
theorem dX8_layAll_12 : dec mX8_layAll 12 = .ok (.if_icmp .ge 16, 3) := by decide +kernel
theorem dX8_layAll_15 : dec mX8_layAll 15 = .ok (.aload_n 0, 1) := by decide +kernel
theorem dX8_layAll_16 : dec mX8_layAll 16 = .ok (.getfield 29, 3) := by decide +kernel
theorem dX8_layAll_19 : dec mX8_layAll 19 = .ok (.iload_n 3, 1) := by decide +kernel
theorem dX8_layAll_20 : dec mX8_layAll 20 = .ok (.iconst 0, 1) := by decide +kernel
theorem dX8_layAll_21 : dec mX8_layAll 21 = .ok (.bastore, 1) := by decide +kernel
theorem dX8_layAll_22 : dec mX8_layAll 22 = .ok (.iinc 3 1, 3) := by decide +kernel
theorem dX8_layAll_25 : dec mX8_layAll 25 = .ok (.goto (-18), 3) := by decide +kernel
theorem dX8_layAll_28 : dec mX8_layAll 28 = .ok (.iconst 0, 1) := by decide +kernel
theorem dX8_layAll_29 : dec mX8_layAll 29 = .ok (.istore_n 3, 1) := by decide +kernel
theorem dX8_layAll_30 : dec mX8_layAll 30 = .ok (.iload_n 3, 1) := by decide +kernel
theorem dX8_layAll_31 : dec mX8_layAll 31 = .ok (.aload_n 1, 1) := by decide +kernel
theorem dX8_layAll_32 : dec mX8_layAll 32 = .ok (.invokestatic 47, 3) := by decide +kernel
theorem dX8_layAll_35 : dec mX8_layAll 35 = .ok (.if_icmp .ge 41, 3) := by decide +kernel
theorem dX8_layAll_38 : dec mX8_layAll 38 = .ok (.aload_n 1, 1) := by decide +kernel
theorem dX8_layAll_39 : dec mX8_layAll 39 = .ok (.bipush 115, 2) := by decide +kernel
theorem dX8_layAll_41 : dec mX8_layAll 41 = .ok (.iload_n 3, 1) := by decide +kernel
theorem dX8_layAll_42 : dec mX8_layAll 42 = .ok (.iadd, 1) := by decide +kernel
theorem dX8_layAll_43 : dec mX8_layAll 43 = .ok (.iaload, 1) := by decide +kernel
theorem dX8_layAll_44 : dec mX8_layAll 44 = .ok (.ifCond .le 26, 3) := by decide +kernel
theorem dX8_layAll_47 : dec mX8_layAll 47 = .ok (.aload_n 1, 1) := by decide +kernel
theorem dX8_layAll_48 : dec mX8_layAll 48 = .ok (.sipush 451, 3) := by decide +kernel
theorem dX8_layAll_51 : dec mX8_layAll 51 = .ok (.iload_n 3, 1) := by decide +kernel
theorem dX8_layAll_52 : dec mX8_layAll 52 = .ok (.iadd, 1) := by decide +kernel
theorem dX8_layAll_53 : dec mX8_layAll 53 = .ok (.iaload, 1) := by decide +kernel
theorem dX8_layAll_54 : dec mX8_layAll 54 = .ok (.ifCond .ne 16, 3) := by decide +kernel
theorem dX8_layAll_57 : dec mX8_layAll 57 = .ok (.aload_n 0, 1) := by decide +kernel
theorem dX8_layAll_58 : dec mX8_layAll 58 = .ok (.getfield 29, 3) := by decide +kernel
theorem dX8_layAll_61 : dec mX8_layAll 61 = .ok (.aload_n 1, 1) := by decide +kernel
theorem dX8_layAll_62 : dec mX8_layAll 62 = .ok (.sipush 227, 3) := by decide +kernel
theorem dX8_layAll_65 : dec mX8_layAll 65 = .ok (.iload_n 3, 1) := by decide +kernel
theorem dX8_layAll_66 : dec mX8_layAll 66 = .ok (.iadd, 1) := by decide +kernel
theorem dX8_layAll_67 : dec mX8_layAll 67 = .ok (.iaload, 1) := by decide +kernel
theorem dX8_layAll_68 : dec mX8_layAll 68 = .ok (.iconst 1, 1) := by decide +kernel
theorem dX8_layAll_69 : dec mX8_layAll 69 = .ok (.bastore, 1) := by decide +kernel
theorem dX8_layAll_70 : dec mX8_layAll 70 = .ok (.iinc 3 1, 3) := by decide +kernel
theorem dX8_layAll_73 : dec mX8_layAll 73 = .ok (.goto (-43), 3) := by decide +kernel
theorem dX8_layAll_76 : dec mX8_layAll 76 = .ok (.iconst 0, 1) := by decide +kernel
theorem dX8_layAll_77 : dec mX8_layAll 77 = .ok (.istore_n 3, 1) := by decide +kernel
theorem dX8_layAll_78 : dec mX8_layAll 78 = .ok (.iload_n 3, 1) := by decide +kernel
theorem dX8_layAll_79 : dec mX8_layAll 79 = .ok (.aload_n 1, 1) := by decide +kernel
theorem dX8_layAll_80 : dec mX8_layAll 80 = .ok (.invokestatic 47, 3) := by decide +kernel
theorem dX8_layAll_83 : dec mX8_layAll 83 = .ok (.if_icmp .ge 153, 3) := by decide +kernel
theorem dX8_layAll_86 : dec mX8_layAll 86 = .ok (.aload_n 1, 1) := by decide +kernel
theorem dX8_layAll_87 : dec mX8_layAll 87 = .ok (.bipush 115, 2) := by decide +kernel
theorem dX8_layAll_89 : dec mX8_layAll 89 = .ok (.iload_n 3, 1) := by decide +kernel
theorem dX8_layAll_90 : dec mX8_layAll 90 = .ok (.iadd, 1) := by decide +kernel
theorem dX8_layAll_91 : dec mX8_layAll 91 = .ok (.iaload, 1) := by decide +kernel
theorem dX8_layAll_92 : dec mX8_layAll 92 = .ok (.ifCond .le 138, 3) := by decide +kernel
theorem dX8_layAll_95 : dec mX8_layAll 95 = .ok (.aload_n 1, 1) := by decide +kernel
theorem dX8_layAll_96 : dec mX8_layAll 96 = .ok (.sipush 451, 3) := by decide +kernel
theorem dX8_layAll_99 : dec mX8_layAll 99 = .ok (.iload_n 3, 1) := by decide +kernel
theorem dX8_layAll_100 : dec mX8_layAll 100 = .ok (.iadd, 1) := by decide +kernel
theorem dX8_layAll_101 : dec mX8_layAll 101 = .ok (.iaload, 1) := by decide +kernel
theorem dX8_layAll_102 : dec mX8_layAll 102 = .ok (.ifCond .ne 128, 3) := by decide +kernel
theorem dX8_layAll_105 : dec mX8_layAll 105 = .ok (.iconst (-1), 1) := by decide +kernel
theorem dX8_layAll_106 : dec mX8_layAll 106 = .ok (.istore 4, 2) := by decide +kernel
theorem dX8_layAll_108 : dec mX8_layAll 108 = .ok (.iconst 0, 1) := by decide +kernel
theorem dX8_layAll_109 : dec mX8_layAll 109 = .ok (.istore 5, 2) := by decide +kernel
theorem dX8_layAll_111 : dec mX8_layAll 111 = .ok (.iconst 0, 1) := by decide +kernel
theorem dX8_layAll_112 : dec mX8_layAll 112 = .ok (.istore 6, 2) := by decide +kernel
theorem dX8_layAll_114 : dec mX8_layAll 114 = .ok (.iload 6, 2) := by decide +kernel
theorem dX8_layAll_116 : dec mX8_layAll 116 = .ok (.aload_n 1, 1) := by decide +kernel
theorem dX8_layAll_117 : dec mX8_layAll 117 = .ok (.invokestatic 54, 3) := by decide +kernel
theorem dX8_layAll_120 : dec mX8_layAll 120 = .ok (.if_icmp .ge 95, 3) := by decide +kernel
theorem dX8_layAll_123 : dec mX8_layAll 123 = .ok (.aload_n 0, 1) := by decide +kernel
theorem dX8_layAll_124 : dec mX8_layAll 124 = .ok (.getfield 29, 3) := by decide +kernel
theorem dX8_layAll_127 : dec mX8_layAll 127 = .ok (.iload 6, 2) := by decide +kernel
theorem dX8_layAll_129 : dec mX8_layAll 129 = .ok (.baload, 1) := by decide +kernel
theorem dX8_layAll_130 : dec mX8_layAll 130 = .ok (.ifCond .eq 18, 3) := by decide +kernel
theorem dX8_layAll_133 : dec mX8_layAll 133 = .ok (.aload_n 1, 1) := by decide +kernel
theorem dX8_layAll_134 : dec mX8_layAll 134 = .ok (.iload_n 3, 1) := by decide +kernel
theorem dX8_layAll_135 : dec mX8_layAll 135 = .ok (.aload_n 1, 1) := by decide +kernel
theorem dX8_layAll_136 : dec mX8_layAll 136 = .ok (.iload_n 3, 1) := by decide +kernel
theorem dX8_layAll_137 : dec mX8_layAll 137 = .ok (.invokestatic 82, 3) := by decide +kernel
theorem dX8_layAll_140 : dec mX8_layAll 140 = .ok (.iload 6, 2) := by decide +kernel
theorem dX8_layAll_142 : dec mX8_layAll 142 = .ok (.invokestatic 88, 3) := by decide +kernel
theorem dX8_layAll_145 : dec mX8_layAll 145 = .ok (.goto 4, 3) := by decide +kernel
theorem dX8_layAll_148 : dec mX8_layAll 148 = .ok (.iconst 0, 1) := by decide +kernel
theorem dX8_layAll_149 : dec mX8_layAll 149 = .ok (.istore 7, 2) := by decide +kernel
theorem dX8_layAll_151 : dec mX8_layAll 151 = .ok (.aload_n 0, 1) := by decide +kernel
theorem dX8_layAll_152 : dec mX8_layAll 152 = .ok (.getfield 29, 3) := by decide +kernel
theorem dX8_layAll_155 : dec mX8_layAll 155 = .ok (.iload 6, 2) := by decide +kernel
theorem dX8_layAll_157 : dec mX8_layAll 157 = .ok (.baload, 1) := by decide +kernel
theorem dX8_layAll_158 : dec mX8_layAll 158 = .ok (.ifCond .eq 20, 3) := by decide +kernel
theorem dX8_layAll_161 : dec mX8_layAll 161 = .ok (.iload 4, 2) := by decide +kernel
theorem dX8_layAll_163 : dec mX8_layAll 163 = .ok (.iconst (-1), 1) := by decide +kernel
theorem dX8_layAll_164 : dec mX8_layAll 164 = .ok (.if_icmp .eq 10, 3) := by decide +kernel
theorem dX8_layAll_167 : dec mX8_layAll 167 = .ok (.iload 7, 2) := by decide +kernel
theorem dX8_layAll_169 : dec mX8_layAll 169 = .ok (.iload 5, 2) := by decide +kernel
theorem dX8_layAll_171 : dec mX8_layAll 171 = .ok (.if_icmp .ge 7, 3) := by decide +kernel
theorem dX8_layAll_174 : dec mX8_layAll 174 = .ok (.iconst 1, 1) := by decide +kernel
theorem dX8_layAll_175 : dec mX8_layAll 175 = .ok (.goto 4, 3) := by decide +kernel
theorem dX8_layAll_178 : dec mX8_layAll 178 = .ok (.iconst 0, 1) := by decide +kernel
theorem dX8_layAll_179 : dec mX8_layAll 179 = .ok (.istore 8, 2) := by decide +kernel
theorem dX8_layAll_181 : dec mX8_layAll 181 = .ok (.iload 8, 2) := by decide +kernel
theorem dX8_layAll_183 : dec mX8_layAll 183 = .ok (.ifCond .eq 8, 3) := by decide +kernel
theorem dX8_layAll_186 : dec mX8_layAll 186 = .ok (.iload 6, 2) := by decide +kernel
theorem dX8_layAll_188 : dec mX8_layAll 188 = .ok (.goto 5, 3) := by decide +kernel
theorem dX8_layAll_191 : dec mX8_layAll 191 = .ok (.iload 4, 2) := by decide +kernel
theorem dX8_layAll_193 : dec mX8_layAll 193 = .ok (.istore 4, 2) := by decide +kernel
theorem dX8_layAll_195 : dec mX8_layAll 195 = .ok (.iload 8, 2) := by decide +kernel
theorem dX8_layAll_197 : dec mX8_layAll 197 = .ok (.ifCond .eq 8, 3) := by decide +kernel
theorem dX8_layAll_200 : dec mX8_layAll 200 = .ok (.iload 7, 2) := by decide +kernel
theorem dX8_layAll_202 : dec mX8_layAll 202 = .ok (.goto 5, 3) := by decide +kernel
theorem dX8_layAll_205 : dec mX8_layAll 205 = .ok (.iload 5, 2) := by decide +kernel
theorem dX8_layAll_207 : dec mX8_layAll 207 = .ok (.istore 5, 2) := by decide +kernel
theorem dX8_layAll_209 : dec mX8_layAll 209 = .ok (.iinc 6 1, 3) := by decide +kernel
theorem dX8_layAll_212 : dec mX8_layAll 212 = .ok (.goto (-98), 3) := by decide +kernel
theorem dX8_layAll_215 : dec mX8_layAll 215 = .ok (.aload_n 0, 1) := by decide +kernel
theorem dX8_layAll_216 : dec mX8_layAll 216 = .ok (.getfield 29, 3) := by decide +kernel
theorem dX8_layAll_219 : dec mX8_layAll 219 = .ok (.iload 4, 2) := by decide +kernel
theorem dX8_layAll_221 : dec mX8_layAll 221 = .ok (.iconst 0, 1) := by decide +kernel
theorem dX8_layAll_222 : dec mX8_layAll 222 = .ok (.bastore, 1) := by decide +kernel
theorem dX8_layAll_223 : dec mX8_layAll 223 = .ok (.aload_n 1, 1) := by decide +kernel
theorem dX8_layAll_224 : dec mX8_layAll 224 = .ok (.iload_n 3, 1) := by decide +kernel
theorem dX8_layAll_225 : dec mX8_layAll 225 = .ok (.iload 4, 2) := by decide +kernel
theorem dX8_layAll_227 : dec mX8_layAll 227 = .ok (.invokestatic 100, 3) := by decide +kernel
theorem dX8_layAll_230 : dec mX8_layAll 230 = .ok (.iinc 3 1, 3) := by decide +kernel
theorem dX8_layAll_233 : dec mX8_layAll 233 = .ok (.goto (-155), 3) := by decide +kernel
theorem dX8_layAll_236 : dec mX8_layAll 236 = .ok (.iload_n 2, 1) := by decide +kernel
theorem dX8_layAll_237 : dec mX8_layAll 237 = .ok (.aload_n 1, 1) := by decide +kernel
theorem dX8_layAll_238 : dec mX8_layAll 238 = .ok (.invokestatic 146, 3) := by decide +kernel
theorem dX8_layAll_241 : dec mX8_layAll 241 = .ok (.isub, 1) := by decide +kernel
theorem dX8_layAll_242 : dec mX8_layAll 242 = .ok (.ireturn, 1) := by decide +kernel
theorem dX8_fadeOn_0 : dec mX8_fadeOn 0 = .ok (.aload_n 0, 1) := by decide +kernel
theorem dX8_fadeOn_1 : dec mX8_fadeOn 1 = .ok (.invokestatic 40, 3) := by decide +kernel
theorem dX8_fadeOn_4 : dec mX8_fadeOn 4 = .ok (.aload_n 0, 1) := by decide +kernel
theorem dX8_fadeOn_5 : dec mX8_fadeOn 5 = .ok (.invokestatic 44, 3) := by decide +kernel
theorem dX8_fadeOn_8 : dec mX8_fadeOn 8 = .ok (.iadd, 1) := by decide +kernel
theorem dX8_fadeOn_9 : dec mX8_fadeOn 9 = .ok (.iconst 2, 1) := by decide +kernel
theorem dX8_fadeOn_10 : dec mX8_fadeOn 10 = .ok (.isub, 1) := by decide +kernel
theorem dX8_fadeOn_11 : dec mX8_fadeOn 11 = .ok (.istore_n 3, 1) := by decide +kernel
theorem dX8_fadeOn_12 : dec mX8_fadeOn 12 = .ok (.iconst 0, 1) := by decide +kernel
theorem dX8_fadeOn_13 : dec mX8_fadeOn 13 = .ok (.istore 4, 2) := by decide +kernel
theorem dX8_fadeOn_15 : dec mX8_fadeOn 15 = .ok (.iload 4, 2) := by decide +kernel
theorem dX8_fadeOn_17 : dec mX8_fadeOn 17 = .ok (.aload_n 0, 1) := by decide +kernel
theorem dX8_fadeOn_18 : dec mX8_fadeOn 18 = .ok (.invokestatic 47, 3) := by decide +kernel
theorem dX8_fadeOn_21 : dec mX8_fadeOn 21 = .ok (.if_icmp .ge 45, 3) := by decide +kernel
theorem dX8_fadeOn_24 : dec mX8_fadeOn 24 = .ok (.iload 4, 2) := by decide +kernel
theorem dX8_fadeOn_26 : dec mX8_fadeOn 26 = .ok (.aload_n 0, 1) := by decide +kernel
theorem dX8_fadeOn_27 : dec mX8_fadeOn 27 = .ok (.invokestatic 40, 3) := by decide +kernel
theorem dX8_fadeOn_30 : dec mX8_fadeOn 30 = .ok (.irem, 1) := by decide +kernel
theorem dX8_fadeOn_31 : dec mX8_fadeOn 31 = .ok (.iload 4, 2) := by decide +kernel
theorem dX8_fadeOn_33 : dec mX8_fadeOn 33 = .ok (.aload_n 0, 1) := by decide +kernel
theorem dX8_fadeOn_34 : dec mX8_fadeOn 34 = .ok (.invokestatic 40, 3) := by decide +kernel
theorem dX8_fadeOn_37 : dec mX8_fadeOn 37 = .ok (.idiv, 1) := by decide +kernel
theorem dX8_fadeOn_38 : dec mX8_fadeOn 38 = .ok (.iadd, 1) := by decide +kernel
theorem dX8_fadeOn_39 : dec mX8_fadeOn 39 = .ok (.istore 5, 2) := by decide +kernel
theorem dX8_fadeOn_41 : dec mX8_fadeOn 41 = .ok (.aload_n 0, 1) := by decide +kernel
theorem dX8_fadeOn_42 : dec mX8_fadeOn 42 = .ok (.iconst 3, 1) := by decide +kernel
theorem dX8_fadeOn_43 : dec mX8_fadeOn 43 = .ok (.iload 4, 2) := by decide +kernel
theorem dX8_fadeOn_45 : dec mX8_fadeOn 45 = .ok (.iadd, 1) := by decide +kernel
theorem dX8_fadeOn_46 : dec mX8_fadeOn 46 = .ok (.iload_n 1, 1) := by decide +kernel
theorem dX8_fadeOn_47 : dec mX8_fadeOn 47 = .ok (.iload_n 3, 1) := by decide +kernel
theorem dX8_fadeOn_48 : dec mX8_fadeOn 48 = .ok (.iload 5, 2) := by decide +kernel
theorem dX8_fadeOn_50 : dec mX8_fadeOn 50 = .ok (.isub, 1) := by decide +kernel
theorem dX8_fadeOn_51 : dec mX8_fadeOn 51 = .ok (.imul, 1) := by decide +kernel
theorem dX8_fadeOn_52 : dec mX8_fadeOn 52 = .ok (.iload_n 2, 1) := by decide +kernel
theorem dX8_fadeOn_53 : dec mX8_fadeOn 53 = .ok (.iload 5, 2) := by decide +kernel
theorem dX8_fadeOn_55 : dec mX8_fadeOn 55 = .ok (.imul, 1) := by decide +kernel
theorem dX8_fadeOn_56 : dec mX8_fadeOn 56 = .ok (.iadd, 1) := by decide +kernel
theorem dX8_fadeOn_57 : dec mX8_fadeOn 57 = .ok (.iload_n 3, 1) := by decide +kernel
theorem dX8_fadeOn_58 : dec mX8_fadeOn 58 = .ok (.idiv, 1) := by decide +kernel
theorem dX8_fadeOn_59 : dec mX8_fadeOn 59 = .ok (.iastore, 1) := by decide +kernel
theorem dX8_fadeOn_60 : dec mX8_fadeOn 60 = .ok (.iinc 4 1, 3) := by decide +kernel
theorem dX8_fadeOn_63 : dec mX8_fadeOn 63 = .ok (.goto (-48), 3) := by decide +kernel
theorem dX8_fadeOn_66 : dec mX8_fadeOn 66 = .ok (.return_, 1) := by decide +kernel
theorem dX8_greyOn_0 : dec mX8_greyOn 0 = .ok (.iconst 3, 1) := by decide +kernel
theorem dX8_greyOn_1 : dec mX8_greyOn 1 = .ok (.aload_n 0, 1) := by decide +kernel
theorem dX8_greyOn_2 : dec mX8_greyOn 2 = .ok (.invokestatic 40, 3) := by decide +kernel
theorem dX8_greyOn_5 : dec mX8_greyOn 5 = .ok (.iload_n 2, 1) := by decide +kernel
theorem dX8_greyOn_6 : dec mX8_greyOn 6 = .ok (.imul, 1) := by decide +kernel
theorem dX8_greyOn_7 : dec mX8_greyOn 7 = .ok (.iadd, 1) := by decide +kernel
theorem dX8_greyOn_8 : dec mX8_greyOn 8 = .ok (.iload_n 1, 1) := by decide +kernel
theorem dX8_greyOn_9 : dec mX8_greyOn 9 = .ok (.iadd, 1) := by decide +kernel
theorem dX8_greyOn_10 : dec mX8_greyOn 10 = .ok (.istore 4, 2) := by decide +kernel
theorem dX8_greyOn_12 : dec mX8_greyOn 12 = .ok (.aload_n 0, 1) := by decide +kernel
theorem dX8_greyOn_13 : dec mX8_greyOn 13 = .ok (.iload 4, 2) := by decide +kernel
theorem dX8_greyOn_15 : dec mX8_greyOn 15 = .ok (.iaload, 1) := by decide +kernel
theorem dX8_greyOn_16 : dec mX8_greyOn 16 = .ok (.istore 5, 2) := by decide +kernel
theorem dX8_greyOn_18 : dec mX8_greyOn 18 = .ok (.aload_n 0, 1) := by decide +kernel
theorem dX8_greyOn_19 : dec mX8_greyOn 19 = .ok (.iload 4, 2) := by decide +kernel
theorem dX8_greyOn_21 : dec mX8_greyOn 21 = .ok (.iload_n 3, 1) := by decide +kernel
theorem dX8_greyOn_22 : dec mX8_greyOn 22 = .ok (.iastore, 1) := by decide +kernel
theorem dX8_greyOn_23 : dec mX8_greyOn 23 = .ok (.iload 5, 2) := by decide +kernel
theorem dX8_greyOn_25 : dec mX8_greyOn 25 = .ok (.ireturn, 1) := by decide +kernel
theorem dX8_heldMany_0 : dec mX8_heldMany 0 = .ok (.iconst 0, 1) := by decide +kernel
theorem dX8_heldMany_1 : dec mX8_heldMany 1 = .ok (.istore_n 1, 1) := by decide +kernel
theorem dX8_heldMany_2 : dec mX8_heldMany 2 = .ok (.iconst 0, 1) := by decide +kernel
theorem dX8_heldMany_3 : dec mX8_heldMany 3 = .ok (.istore_n 2, 1) := by decide +kernel
theorem dX8_heldMany_4 : dec mX8_heldMany 4 = .ok (.iload_n 2, 1) := by decide +kernel
theorem dX8_heldMany_5 : dec mX8_heldMany 5 = .ok (.aload_n 0, 1) := by decide +kernel
theorem dX8_heldMany_6 : dec mX8_heldMany 6 = .ok (.invokestatic 47, 3) := by decide +kernel
theorem dX8_heldMany_9 : dec mX8_heldMany 9 = .ok (.if_icmp .ge 32, 3) := by decide +kernel
theorem dX8_heldMany_12 : dec mX8_heldMany 12 = .ok (.iload_n 1, 1) := by decide +kernel
theorem dX8_heldMany_13 : dec mX8_heldMany 13 = .ok (.aload_n 0, 1) := by decide +kernel
theorem dX8_heldMany_14 : dec mX8_heldMany 14 = .ok (.bipush 115, 2) := by decide +kernel
theorem dX8_heldMany_16 : dec mX8_heldMany 16 = .ok (.iload_n 2, 1) := by decide +kernel
theorem dX8_heldMany_17 : dec mX8_heldMany 17 = .ok (.iadd, 1) := by decide +kernel
theorem dX8_heldMany_18 : dec mX8_heldMany 18 = .ok (.iaload, 1) := by decide +kernel
theorem dX8_heldMany_19 : dec mX8_heldMany 19 = .ok (.ifCond .le 13, 3) := by decide +kernel
theorem dX8_heldMany_22 : dec mX8_heldMany 22 = .ok (.aload_n 0, 1) := by decide +kernel
theorem dX8_heldMany_23 : dec mX8_heldMany 23 = .ok (.sipush 451, 3) := by decide +kernel
theorem dX8_heldMany_26 : dec mX8_heldMany 26 = .ok (.iload_n 2, 1) := by decide +kernel
theorem dX8_heldMany_27 : dec mX8_heldMany 27 = .ok (.iadd, 1) := by decide +kernel
theorem dX8_heldMany_28 : dec mX8_heldMany 28 = .ok (.iaload, 1) := by decide +kernel
theorem dX8_heldMany_29 : dec mX8_heldMany 29 = .ok (.goto 4, 3) := by decide +kernel
theorem dX8_heldMany_32 : dec mX8_heldMany 32 = .ok (.iconst 0, 1) := by decide +kernel
theorem dX8_heldMany_33 : dec mX8_heldMany 33 = .ok (.iadd, 1) := by decide +kernel
theorem dX8_heldMany_34 : dec mX8_heldMany 34 = .ok (.istore_n 1, 1) := by decide +kernel
theorem dX8_heldMany_35 : dec mX8_heldMany 35 = .ok (.iinc 2 1, 3) := by decide +kernel
theorem dX8_heldMany_38 : dec mX8_heldMany 38 = .ok (.goto (-34), 3) := by decide +kernel
theorem dX8_heldMany_41 : dec mX8_heldMany 41 = .ok (.iload_n 1, 1) := by decide +kernel
theorem dX8_heldMany_42 : dec mX8_heldMany 42 = .ok (.ireturn, 1) := by decide +kernel
theorem dX8_holdOn_0 : dec mX8_holdOn 0 = .ok (.aload_n 0, 1) := by decide +kernel
theorem dX8_holdOn_1 : dec mX8_holdOn 1 = .ok (.sipush 451, 3) := by decide +kernel
theorem dX8_holdOn_4 : dec mX8_holdOn 4 = .ok (.aload_n 0, 1) := by decide +kernel
theorem dX8_holdOn_5 : dec mX8_holdOn 5 = .ok (.iload_n 1, 1) := by decide +kernel
theorem dX8_holdOn_6 : dec mX8_holdOn 6 = .ok (.invokestatic 123, 3) := by decide +kernel
theorem dX8_holdOn_9 : dec mX8_holdOn 9 = .ok (.iadd, 1) := by decide +kernel
theorem dX8_holdOn_10 : dec mX8_holdOn 10 = .ok (.iload_n 2, 1) := by decide +kernel
theorem dX8_holdOn_11 : dec mX8_holdOn 11 = .ok (.ifCond .eq 7, 3) := by decide +kernel
theorem dX8_holdOn_14 : dec mX8_holdOn 14 = .ok (.iconst 1, 1) := by decide +kernel
theorem dX8_holdOn_15 : dec mX8_holdOn 15 = .ok (.goto 4, 3) := by decide +kernel
theorem dX8_holdOn_18 : dec mX8_holdOn 18 = .ok (.iconst 0, 1) := by decide +kernel
theorem dX8_holdOn_19 : dec mX8_holdOn 19 = .ok (.iastore, 1) := by decide +kernel
theorem dX8_holdOn_20 : dec mX8_holdOn 20 = .ok (.aload_n 0, 1) := by decide +kernel
theorem dX8_holdOn_21 : dec mX8_holdOn 21 = .ok (.invokestatic 149, 3) := by decide +kernel
theorem dX8_holdOn_24 : dec mX8_holdOn 24 = .ok (.ireturn, 1) := by decide +kernel
theorem dX8_canTurn_0 : dec mX8_canTurn 0 = .ok (.aload_n 0, 1) := by decide +kernel
theorem dX8_canTurn_1 : dec mX8_canTurn 1 = .ok (.iload_n 1, 1) := by decide +kernel
theorem dX8_canTurn_2 : dec mX8_canTurn 2 = .ok (.invokestatic 152, 3) := by decide +kernel
theorem dX8_canTurn_5 : dec mX8_canTurn 5 = .ok (.ifCond .eq 21, 3) := by decide +kernel
theorem dX8_canTurn_8 : dec mX8_canTurn 8 = .ok (.aload_n 0, 1) := by decide +kernel
theorem dX8_canTurn_9 : dec mX8_canTurn 9 = .ok (.sipush 451, 3) := by decide +kernel
theorem dX8_canTurn_12 : dec mX8_canTurn 12 = .ok (.aload_n 0, 1) := by decide +kernel
theorem dX8_canTurn_13 : dec mX8_canTurn 13 = .ok (.iload_n 1, 1) := by decide +kernel
theorem dX8_canTurn_14 : dec mX8_canTurn 14 = .ok (.invokestatic 123, 3) := by decide +kernel
theorem dX8_canTurn_17 : dec mX8_canTurn 17 = .ok (.iadd, 1) := by decide +kernel
theorem dX8_canTurn_18 : dec mX8_canTurn 18 = .ok (.iaload, 1) := by decide +kernel
theorem dX8_canTurn_19 : dec mX8_canTurn 19 = .ok (.ifCond .ne 7, 3) := by decide +kernel
theorem dX8_canTurn_22 : dec mX8_canTurn 22 = .ok (.iconst 1, 1) := by decide +kernel
theorem dX8_canTurn_23 : dec mX8_canTurn 23 = .ok (.goto 4, 3) := by decide +kernel
theorem dX8_canTurn_26 : dec mX8_canTurn 26 = .ok (.iconst 0, 1) := by decide +kernel
theorem dX8_canTurn_27 : dec mX8_canTurn 27 = .ok (.ireturn, 1) := by decide +kernel
theorem dX8_canSwap_0 : dec mX8_canSwap 0 = .ok (.iload_n 1, 1) := by decide +kernel
theorem dX8_canSwap_1 : dec mX8_canSwap 1 = .ok (.iload_n 2, 1) := by decide +kernel
theorem dX8_canSwap_2 : dec mX8_canSwap 2 = .ok (.if_icmp .eq 23, 3) := by decide +kernel
theorem dX8_canSwap_5 : dec mX8_canSwap 5 = .ok (.aload_n 0, 1) := by decide +kernel
theorem dX8_canSwap_6 : dec mX8_canSwap 6 = .ok (.iload_n 1, 1) := by decide +kernel
theorem dX8_canSwap_7 : dec mX8_canSwap 7 = .ok (.invokestatic 155, 3) := by decide +kernel
theorem dX8_canSwap_10 : dec mX8_canSwap 10 = .ok (.ifCond .eq 15, 3) := by decide +kernel
theorem dX8_canSwap_13 : dec mX8_canSwap 13 = .ok (.aload_n 0, 1) := by decide +kernel
theorem dX8_canSwap_14 : dec mX8_canSwap 14 = .ok (.iload_n 2, 1) := by decide +kernel
theorem dX8_canSwap_15 : dec mX8_canSwap 15 = .ok (.invokestatic 155, 3) := by decide +kernel
theorem dX8_canSwap_18 : dec mX8_canSwap 18 = .ok (.ifCond .eq 7, 3) := by decide +kernel
theorem dX8_canSwap_21 : dec mX8_canSwap 21 = .ok (.iconst 1, 1) := by decide +kernel
theorem dX8_canSwap_22 : dec mX8_canSwap 22 = .ok (.goto 4, 3) := by decide +kernel
theorem dX8_canSwap_25 : dec mX8_canSwap 25 = .ok (.iconst 0, 1) := by decide +kernel
theorem dX8_canSwap_26 : dec mX8_canSwap 26 = .ok (.ireturn, 1) := by decide +kernel
theorem dX8_canFlip_0 : dec mX8_canFlip 0 = .ok (.aload_n 0, 1) := by decide +kernel
theorem dX8_canFlip_1 : dec mX8_canFlip 1 = .ok (.iload_n 1, 1) := by decide +kernel
theorem dX8_canFlip_2 : dec mX8_canFlip 2 = .ok (.iload_n 2, 1) := by decide +kernel
theorem dX8_canFlip_3 : dec mX8_canFlip 3 = .ok (.invokestatic 158, 3) := by decide +kernel
theorem dX8_canFlip_6 : dec mX8_canFlip 6 = .ok (.ifCond .eq 22, 3) := by decide +kernel
theorem dX8_canFlip_9 : dec mX8_canFlip 9 = .ok (.aload_n 0, 1) := by decide +kernel
theorem dX8_canFlip_10 : dec mX8_canFlip 10 = .ok (.aload_n 0, 1) := by decide +kernel
theorem dX8_canFlip_11 : dec mX8_canFlip 11 = .ok (.invokestatic 40, 3) := by decide +kernel
theorem dX8_canFlip_14 : dec mX8_canFlip 14 = .ok (.iload_n 2, 1) := by decide +kernel
theorem dX8_canFlip_15 : dec mX8_canFlip 15 = .ok (.imul, 1) := by decide +kernel
theorem dX8_canFlip_16 : dec mX8_canFlip 16 = .ok (.iload_n 1, 1) := by decide +kernel
theorem dX8_canFlip_17 : dec mX8_canFlip 17 = .ok (.iadd, 1) := by decide +kernel
theorem dX8_canFlip_18 : dec mX8_canFlip 18 = .ok (.invokestatic 119, 3) := by decide +kernel
theorem dX8_canFlip_21 : dec mX8_canFlip 21 = .ok (.ifCond .eq 7, 3) := by decide +kernel
theorem dX8_canFlip_24 : dec mX8_canFlip 24 = .ok (.iconst 1, 1) := by decide +kernel
theorem dX8_canFlip_25 : dec mX8_canFlip 25 = .ok (.goto 4, 3) := by decide +kernel
theorem dX8_canFlip_28 : dec mX8_canFlip 28 = .ok (.iconst 0, 1) := by decide +kernel
theorem dX8_canFlip_29 : dec mX8_canFlip 29 = .ok (.ireturn, 1) := by decide +kernel
theorem dX8_append_0 : dec mX8_append 0 = .ok (.aload_n 0, 1) := by decide +kernel
theorem dX8_append_1 : dec mX8_append 1 = .ok (.iload_n 1, 1) := by decide +kernel
theorem dX8_append_2 : dec mX8_append 2 = .ok (.i2l, 1) := by decide +kernel
theorem dX8_append_3 : dec mX8_append 3 = .ok (.lconst 0, 1) := by decide +kernel
theorem dX8_append_4 : dec mX8_append 4 = .ok (.ldc2_w 162, 3) := by decide +kernel
theorem dX8_append_7 : dec mX8_append 7 = .ok (.invokestatic 50, 3) := by decide +kernel
theorem dX8_append_10 : dec mX8_append 10 = .ok (.ifCond .ne 7, 3) := by decide +kernel
theorem dX8_append_13 : dec mX8_append 13 = .ok (.iconst 1, 1) := by decide +kernel
theorem dX8_append_14 : dec mX8_append 14 = .ok (.goto 17, 3) := by decide +kernel
theorem dX8_append_17 : dec mX8_append 17 = .ok (.aload_n 0, 1) := by decide +kernel
theorem dX8_append_18 : dec mX8_append 18 = .ok (.getfield 164, 3) := by decide +kernel
theorem dX8_append_21 : dec mX8_append 21 = .ok (.bipush 120, 2) := by decide +kernel
theorem dX8_append_23 : dec mX8_append 23 = .ok (.if_icmp .ne 7, 3) := by decide +kernel
theorem dX8_append_26 : dec mX8_append 26 = .ok (.iconst 2, 1) := by decide +kernel
theorem dX8_append_27 : dec mX8_append 27 = .ok (.goto 4, 3) := by decide +kernel
theorem dX8_append_30 : dec mX8_append 30 = .ok (.iconst 0, 1) := by decide +kernel
theorem dX8_append_31 : dec mX8_append 31 = .ok (.invokevirtual 167, 3) := by decide +kernel
theorem dX8_append_34 : dec mX8_append 34 = .ok (.ifCond .eq 5, 3) := by decide +kernel
theorem dX8_append_37 : dec mX8_append 37 = .ok (.iconst 0, 1) := by decide +kernel
theorem dX8_append_38 : dec mX8_append 38 = .ok (.ireturn, 1) := by decide +kernel
theorem dX8_append_39 : dec mX8_append 39 = .ok (.aload_n 0, 1) := by decide +kernel
theorem dX8_append_40 : dec mX8_append 40 = .ok (.getfield 7, 3) := by decide +kernel
theorem dX8_append_43 : dec mX8_append 43 = .ok (.aload_n 0, 1) := by decide +kernel
theorem dX8_append_44 : dec mX8_append 44 = .ok (.getfield 164, 3) := by decide +kernel
theorem dX8_append_47 : dec mX8_append 47 = .ok (.iload_n 1, 1) := by decide +kernel
theorem dX8_append_48 : dec mX8_append 48 = .ok (.iastore, 1) := by decide +kernel
theorem dX8_append_49 : dec mX8_append 49 = .ok (.aload_n 0, 1) := by decide +kernel
theorem dX8_append_50 : dec mX8_append 50 = .ok (.dup, 1) := by decide +kernel
theorem dX8_append_51 : dec mX8_append 51 = .ok (.getfield 164, 3) := by decide +kernel
theorem dX8_append_54 : dec mX8_append 54 = .ok (.iconst 1, 1) := by decide +kernel
theorem dX8_append_55 : dec mX8_append 55 = .ok (.iadd, 1) := by decide +kernel
theorem dX8_append_56 : dec mX8_append 56 = .ok (.putfield 164, 3) := by decide +kernel
theorem dX8_append_59 : dec mX8_append 59 = .ok (.aload_n 0, 1) := by decide +kernel
theorem dX8_append_60 : dec mX8_append 60 = .ok (.getfield 164, 3) := by decide +kernel
theorem dX8_append_63 : dec mX8_append 63 = .ok (.ireturn, 1) := by decide +kernel
theorem dX8_clearText_0 : dec mX8_clearText 0 = .ok (.aload_n 0, 1) := by decide +kernel
theorem dX8_clearText_1 : dec mX8_clearText 1 = .ok (.iconst 0, 1) := by decide +kernel
theorem dX8_clearText_2 : dec mX8_clearText 2 = .ok (.putfield 36, 3) := by decide +kernel
theorem dX8_clearText_5 : dec mX8_clearText 5 = .ok (.aload_n 0, 1) := by decide +kernel
theorem dX8_clearText_6 : dec mX8_clearText 6 = .ok (.getfield 164, 3) := by decide +kernel
theorem dX8_clearText_9 : dec mX8_clearText 9 = .ok (.istore_n 1, 1) := by decide +kernel
theorem dX8_clearText_10 : dec mX8_clearText 10 = .ok (.aload_n 0, 1) := by decide +kernel
theorem dX8_clearText_11 : dec mX8_clearText 11 = .ok (.iconst 0, 1) := by decide +kernel
theorem dX8_clearText_12 : dec mX8_clearText 12 = .ok (.putfield 164, 3) := by decide +kernel
theorem dX8_clearText_15 : dec mX8_clearText 15 = .ok (.iload_n 1, 1) := by decide +kernel
theorem dX8_clearText_16 : dec mX8_clearText 16 = .ok (.ireturn, 1) := by decide +kernel
theorem dX8_figures_0 : dec mX8_figures 0 = .ok (.iconst 0, 1) := by decide +kernel
theorem dX8_figures_1 : dec mX8_figures 1 = .ok (.istore 5, 2) := by decide +kernel
theorem dX8_figures_3 : dec mX8_figures 3 = .ok (.iload_n 2, 1) := by decide +kernel
theorem dX8_figures_4 : dec mX8_figures 4 = .ok (.iconst 2, 1) := by decide +kernel
theorem dX8_figures_5 : dec mX8_figures 5 = .ok (.if_icmp .ne 8, 3) := by decide +kernel
theorem dX8_figures_8 : dec mX8_figures 8 = .ok (.bipush 10, 2) := by decide +kernel
theorem dX8_figures_10 : dec mX8_figures 10 = .ok (.goto 4, 3) := by decide +kernel
theorem dX8_figures_13 : dec mX8_figures 13 = .ok (.iconst 1, 1) := by decide +kernel
theorem dX8_figures_14 : dec mX8_figures 14 = .ok (.istore 6, 2) := by decide +kernel
theorem dX8_figures_16 : dec mX8_figures 16 = .ok (.iload 6, 2) := by decide +kernel
theorem dX8_figures_18 : dec mX8_figures 18 = .ok (.ifCond .le 104, 3) := by decide +kernel
theorem dX8_figures_21 : dec mX8_figures 21 = .ok (.iload_n 1, 1) := by decide +kernel
theorem dX8_figures_22 : dec mX8_figures 22 = .ok (.iconst (-1), 1) := by decide +kernel
theorem dX8_figures_23 : dec mX8_figures 23 = .ok (.if_icmp .eq 99, 3) := by decide +kernel
theorem dX8_figures_26 : dec mX8_figures 26 = .ok (.aload_n 0, 1) := by decide +kernel
theorem dX8_figures_27 : dec mX8_figures 27 = .ok (.getfield 171, 3) := by decide +kernel
theorem dX8_figures_30 : dec mX8_figures 30 = .ok (.aload_n 0, 1) := by decide +kernel
theorem dX8_figures_31 : dec mX8_figures 31 = .ok (.getfield 164, 3) := by decide +kernel
theorem dX8_figures_34 : dec mX8_figures 34 = .ok (.if_icmp .ge 18, 3) := by decide +kernel
theorem dX8_figures_37 : dec mX8_figures 37 = .ok (.aload_n 0, 1) := by decide +kernel
theorem dX8_figures_38 : dec mX8_figures 38 = .ok (.getfield 7, 3) := by decide +kernel
theorem dX8_figures_41 : dec mX8_figures 41 = .ok (.aload_n 0, 1) := by decide +kernel
theorem dX8_figures_42 : dec mX8_figures 42 = .ok (.getfield 171, 3) := by decide +kernel
theorem dX8_figures_45 : dec mX8_figures 45 = .ok (.iaload, 1) := by decide +kernel
theorem dX8_figures_46 : dec mX8_figures 46 = .ok (.bipush 48, 2) := by decide +kernel
theorem dX8_figures_48 : dec mX8_figures 48 = .ok (.isub, 1) := by decide +kernel
theorem dX8_figures_49 : dec mX8_figures 49 = .ok (.goto 4, 3) := by decide +kernel
theorem dX8_figures_52 : dec mX8_figures 52 = .ok (.iconst (-1), 1) := by decide +kernel
theorem dX8_figures_53 : dec mX8_figures 53 = .ok (.istore 7, 2) := by decide +kernel
theorem dX8_figures_55 : dec mX8_figures 55 = .ok (.iload 5, 2) := by decide +kernel
theorem dX8_figures_57 : dec mX8_figures 57 = .ok (.iload 7, 2) := by decide +kernel
theorem dX8_figures_59 : dec mX8_figures 59 = .ok (.iload 6, 2) := by decide +kernel
theorem dX8_figures_61 : dec mX8_figures 61 = .ok (.imul, 1) := by decide +kernel
theorem dX8_figures_62 : dec mX8_figures 62 = .ok (.iadd, 1) := by decide +kernel
theorem dX8_figures_63 : dec mX8_figures 63 = .ok (.istore 8, 2) := by decide +kernel
theorem dX8_figures_65 : dec mX8_figures 65 = .ok (.iload 7, 2) := by decide +kernel
theorem dX8_figures_67 : dec mX8_figures 67 = .ok (.i2l, 1) := by decide +kernel
theorem dX8_figures_68 : dec mX8_figures 68 = .ok (.lconst 0, 1) := by decide +kernel
theorem dX8_figures_69 : dec mX8_figures 69 = .ok (.ldc2_w 174, 3) := by decide +kernel
theorem dX8_figures_72 : dec mX8_figures 72 = .ok (.invokestatic 50, 3) := by decide +kernel
theorem dX8_figures_75 : dec mX8_figures 75 = .ok (.ifCond .eq 21, 3) := by decide +kernel
theorem dX8_figures_78 : dec mX8_figures 78 = .ok (.iload 8, 2) := by decide +kernel
theorem dX8_figures_80 : dec mX8_figures 80 = .ok (.iload 4, 2) := by decide +kernel
theorem dX8_figures_82 : dec mX8_figures 82 = .ok (.if_icmp .gt 14, 3) := by decide +kernel
theorem dX8_figures_85 : dec mX8_figures 85 = .ok (.iload 8, 2) := by decide +kernel
theorem dX8_figures_87 : dec mX8_figures 87 = .ok (.iload 6, 2) := by decide +kernel
theorem dX8_figures_89 : dec mX8_figures 89 = .ok (.iadd, 1) := by decide +kernel
theorem dX8_figures_90 : dec mX8_figures 90 = .ok (.iconst 1, 1) := by decide +kernel
theorem dX8_figures_91 : dec mX8_figures 91 = .ok (.isub, 1) := by decide +kernel
theorem dX8_figures_92 : dec mX8_figures 92 = .ok (.iload_n 3, 1) := by decide +kernel
theorem dX8_figures_93 : dec mX8_figures 93 = .ok (.if_icmp .ge 5, 3) := by decide +kernel
theorem dX8_figures_96 : dec mX8_figures 96 = .ok (.iconst (-1), 1) := by decide +kernel
theorem dX8_figures_97 : dec mX8_figures 97 = .ok (.ireturn, 1) := by decide +kernel
theorem dX8_figures_98 : dec mX8_figures 98 = .ok (.iload 8, 2) := by decide +kernel
theorem dX8_figures_100 : dec mX8_figures 100 = .ok (.istore 5, 2) := by decide +kernel
theorem dX8_figures_102 : dec mX8_figures 102 = .ok (.aload_n 0, 1) := by decide +kernel
theorem dX8_figures_103 : dec mX8_figures 103 = .ok (.dup, 1) := by decide +kernel
theorem dX8_figures_104 : dec mX8_figures 104 = .ok (.getfield 171, 3) := by decide +kernel
theorem dX8_figures_107 : dec mX8_figures 107 = .ok (.iconst 1, 1) := by decide +kernel
theorem dX8_figures_108 : dec mX8_figures 108 = .ok (.iadd, 1) := by decide +kernel
theorem dX8_figures_109 : dec mX8_figures 109 = .ok (.putfield 171, 3) := by decide +kernel
theorem dX8_figures_112 : dec mX8_figures 112 = .ok (.iload 6, 2) := by decide +kernel
theorem dX8_figures_114 : dec mX8_figures 114 = .ok (.bipush 10, 2) := by decide +kernel
theorem dX8_figures_116 : dec mX8_figures 116 = .ok (.idiv, 1) := by decide +kernel
theorem dX8_figures_117 : dec mX8_figures 117 = .ok (.istore 6, 2) := by decide +kernel
theorem dX8_figures_119 : dec mX8_figures 119 = .ok (.goto (-103), 3) := by decide +kernel
theorem dX8_figures_122 : dec mX8_figures 122 = .ok (.iload_n 1, 1) := by decide +kernel
theorem dX8_figures_123 : dec mX8_figures 123 = .ok (.iconst (-1), 1) := by decide +kernel
theorem dX8_figures_124 : dec mX8_figures 124 = .ok (.if_icmp .ne 7, 3) := by decide +kernel
theorem dX8_figures_127 : dec mX8_figures 127 = .ok (.iconst (-1), 1) := by decide +kernel
theorem dX8_figures_128 : dec mX8_figures 128 = .ok (.goto 5, 3) := by decide +kernel
theorem dX8_figures_131 : dec mX8_figures 131 = .ok (.iload 5, 2) := by decide +kernel
theorem dX8_figures_133 : dec mX8_figures 133 = .ok (.ireturn, 1) := by decide +kernel
theorem dX8_done_0 : dec mX8_done 0 = .ok (.aload_n 0, 1) := by decide +kernel
theorem dX8_done_1 : dec mX8_done 1 = .ok (.dup, 1) := by decide +kernel
theorem dX8_done_2 : dec mX8_done 2 = .ok (.getfield 176, 3) := by decide +kernel
theorem dX8_done_5 : dec mX8_done 5 = .ok (.iload_n 1, 1) := by decide +kernel
theorem dX8_done_6 : dec mX8_done 6 = .ok (.ifCond .eq 7, 3) := by decide +kernel
theorem dX8_done_9 : dec mX8_done 9 = .ok (.iconst 0, 1) := by decide +kernel
theorem dX8_done_10 : dec mX8_done 10 = .ok (.goto 4, 3) := by decide +kernel
theorem dX8_done_13 : dec mX8_done 13 = .ok (.iconst 1, 1) := by decide +kernel
theorem dX8_done_14 : dec mX8_done 14 = .ok (.iadd, 1) := by decide +kernel
theorem dX8_done_15 : dec mX8_done 15 = .ok (.putfield 176, 3) := by decide +kernel
theorem dX8_done_18 : dec mX8_done 18 = .ok (.iconst 1, 1) := by decide +kernel
theorem dX8_done_19 : dec mX8_done 19 = .ok (.ireturn, 1) := by decide +kernel
theorem dX8_faded_0 : dec mX8_faded 0 = .ok (.aload_n 1, 1) := by decide +kernel
theorem dX8_faded_1 : dec mX8_faded 1 = .ok (.iload_n 2, 1) := by decide +kernel
theorem dX8_faded_2 : dec mX8_faded 2 = .ok (.iload_n 3, 1) := by decide +kernel
theorem dX8_faded_3 : dec mX8_faded 3 = .ok (.invokestatic 179, 3) := by decide +kernel
theorem dX8_faded_6 : dec mX8_faded 6 = .ok (.iconst 1, 1) := by decide +kernel
theorem dX8_faded_7 : dec mX8_faded 7 = .ok (.ireturn, 1) := by decide +kernel
theorem dX8_turnedOne_0 : dec mX8_turnedOne 0 = .ok (.aload_n 1, 1) := by decide +kernel
theorem dX8_turnedOne_1 : dec mX8_turnedOne 1 = .ok (.iload_n 2, 1) := by decide +kernel
theorem dX8_turnedOne_2 : dec mX8_turnedOne 2 = .ok (.invokestatic 155, 3) := by decide +kernel
theorem dX8_turnedOne_5 : dec mX8_turnedOne 5 = .ok (.istore_n 3, 1) := by decide +kernel
theorem dX8_turnedOne_6 : dec mX8_turnedOne 6 = .ok (.iload_n 3, 1) := by decide +kernel
theorem dX8_turnedOne_7 : dec mX8_turnedOne 7 = .ok (.ifCond .eq 13, 3) := by decide +kernel
theorem dX8_turnedOne_10 : dec mX8_turnedOne 10 = .ok (.aload_n 1, 1) := by decide +kernel
theorem dX8_turnedOne_11 : dec mX8_turnedOne 11 = .ok (.aload_n 1, 1) := by decide +kernel
theorem dX8_turnedOne_12 : dec mX8_turnedOne 12 = .ok (.iload_n 2, 1) := by decide +kernel
theorem dX8_turnedOne_13 : dec mX8_turnedOne 13 = .ok (.invokestatic 123, 3) := by decide +kernel
theorem dX8_turnedOne_16 : dec mX8_turnedOne 16 = .ok (.invokestatic 126, 3) := by decide +kernel
theorem dX8_turnedOne_19 : dec mX8_turnedOne 19 = .ok (.pop, 1) := by decide +kernel
theorem dX8_turnedOne_20 : dec mX8_turnedOne 20 = .ok (.iload_n 3, 1) := by decide +kernel
theorem dX8_turnedOne_21 : dec mX8_turnedOne 21 = .ok (.ireturn, 1) := by decide +kernel
theorem dX8_swapped_0 : dec mX8_swapped 0 = .ok (.aload_n 1, 1) := by decide +kernel
theorem dX8_swapped_1 : dec mX8_swapped 1 = .ok (.iload_n 2, 1) := by decide +kernel
theorem dX8_swapped_2 : dec mX8_swapped 2 = .ok (.iload_n 3, 1) := by decide +kernel
theorem dX8_swapped_3 : dec mX8_swapped 3 = .ok (.invokestatic 182, 3) := by decide +kernel
theorem dX8_swapped_6 : dec mX8_swapped 6 = .ok (.istore 4, 2) := by decide +kernel
theorem dX8_swapped_8 : dec mX8_swapped 8 = .ok (.iload 4, 2) := by decide +kernel
theorem dX8_swapped_10 : dec mX8_swapped 10 = .ok (.ifCond .eq 18, 3) := by decide +kernel
theorem dX8_swapped_13 : dec mX8_swapped 13 = .ok (.aload_n 1, 1) := by decide +kernel
theorem dX8_swapped_14 : dec mX8_swapped 14 = .ok (.aload_n 1, 1) := by decide +kernel
theorem dX8_swapped_15 : dec mX8_swapped 15 = .ok (.iload_n 2, 1) := by decide +kernel
theorem dX8_swapped_16 : dec mX8_swapped 16 = .ok (.invokestatic 123, 3) := by decide +kernel
theorem dX8_swapped_19 : dec mX8_swapped 19 = .ok (.aload_n 1, 1) := by decide +kernel
theorem dX8_swapped_20 : dec mX8_swapped 20 = .ok (.iload_n 3, 1) := by decide +kernel
theorem dX8_swapped_21 : dec mX8_swapped 21 = .ok (.invokestatic 123, 3) := by decide +kernel
theorem dX8_swapped_24 : dec mX8_swapped 24 = .ok (.invokestatic 129, 3) := by decide +kernel
theorem dX8_swapped_27 : dec mX8_swapped 27 = .ok (.pop, 1) := by decide +kernel
theorem dX8_swapped_28 : dec mX8_swapped 28 = .ok (.iload 4, 2) := by decide +kernel
theorem dX8_swapped_30 : dec mX8_swapped 30 = .ok (.ireturn, 1) := by decide +kernel
theorem dX8_flipped_0 : dec mX8_flipped 0 = .ok (.aload_n 1, 1) := by decide +kernel
theorem dX8_flipped_1 : dec mX8_flipped 1 = .ok (.iload_n 2, 1) := by decide +kernel
theorem dX8_flipped_2 : dec mX8_flipped 2 = .ok (.iload_n 3, 1) := by decide +kernel
theorem dX8_flipped_3 : dec mX8_flipped 3 = .ok (.invokestatic 185, 3) := by decide +kernel
theorem dX8_flipped_6 : dec mX8_flipped 6 = .ok (.istore 4, 2) := by decide +kernel
theorem dX8_flipped_8 : dec mX8_flipped 8 = .ok (.iload 4, 2) := by decide +kernel
theorem dX8_flipped_10 : dec mX8_flipped 10 = .ok (.ifCond .eq 16, 3) := by decide +kernel
theorem dX8_flipped_13 : dec mX8_flipped 13 = .ok (.aload_n 1, 1) := by decide +kernel
theorem dX8_flipped_14 : dec mX8_flipped 14 = .ok (.aload_n 1, 1) := by decide +kernel
theorem dX8_flipped_15 : dec mX8_flipped 15 = .ok (.invokestatic 40, 3) := by decide +kernel
theorem dX8_flipped_18 : dec mX8_flipped 18 = .ok (.iload_n 3, 1) := by decide +kernel
theorem dX8_flipped_19 : dec mX8_flipped 19 = .ok (.imul, 1) := by decide +kernel
theorem dX8_flipped_20 : dec mX8_flipped 20 = .ok (.iload_n 2, 1) := by decide +kernel
theorem dX8_flipped_21 : dec mX8_flipped 21 = .ok (.iadd, 1) := by decide +kernel
theorem dX8_flipped_22 : dec mX8_flipped 22 = .ok (.invokestatic 132, 3) := by decide +kernel
theorem dX8_flipped_25 : dec mX8_flipped 25 = .ok (.pop, 1) := by decide +kernel
theorem dX8_flipped_26 : dec mX8_flipped 26 = .ok (.iload 4, 2) := by decide +kernel
theorem dX8_flipped_28 : dec mX8_flipped 28 = .ok (.ireturn, 1) := by decide +kernel
theorem dX8_laidAnew_0 : dec mX8_laidAnew 0 = .ok (.aload_n 0, 1) := by decide +kernel
theorem dX8_laidAnew_1 : dec mX8_laidAnew 1 = .ok (.aload_n 1, 1) := by decide +kernel
theorem dX8_laidAnew_2 : dec mX8_laidAnew 2 = .ok (.invokevirtual 188, 3) := by decide +kernel
theorem dX8_laidAnew_5 : dec mX8_laidAnew 5 = .ok (.pop, 1) := by decide +kernel
theorem dX8_laidAnew_6 : dec mX8_laidAnew 6 = .ok (.iconst 1, 1) := by decide +kernel
theorem dX8_laidAnew_7 : dec mX8_laidAnew 7 = .ok (.ireturn, 1) := by decide +kernel
theorem dX8_readGrey_0 : dec mX8_readGrey 0 = .ok (.aload_n 0, 1) := by decide +kernel
theorem dX8_readGrey_1 : dec mX8_readGrey 1 = .ok (.iconst 0, 1) := by decide +kernel
theorem dX8_readGrey_2 : dec mX8_readGrey 2 = .ok (.iconst 1, 1) := by decide +kernel
theorem dX8_readGrey_3 : dec mX8_readGrey 3 = .ok (.iconst 0, 1) := by decide +kernel
theorem dX8_readGrey_4 : dec mX8_readGrey 4 = .ok (.bipush 7, 2) := by decide +kernel
theorem dX8_readGrey_6 : dec mX8_readGrey 6 = .ok (.invokevirtual 191, 3) := by decide +kernel
theorem dX8_readGrey_9 : dec mX8_readGrey 9 = .ok (.istore_n 2, 1) := by decide +kernel
theorem dX8_readGrey_10 : dec mX8_readGrey 10 = .ok (.aload_n 0, 1) := by decide +kernel
theorem dX8_readGrey_11 : dec mX8_readGrey 11 = .ok (.iload_n 2, 1) := by decide +kernel
theorem dX8_readGrey_12 : dec mX8_readGrey 12 = .ok (.iconst 2, 1) := by decide +kernel
theorem dX8_readGrey_13 : dec mX8_readGrey 13 = .ok (.iconst 0, 1) := by decide +kernel
theorem dX8_readGrey_14 : dec mX8_readGrey 14 = .ok (.bipush 13, 2) := by decide +kernel
theorem dX8_readGrey_16 : dec mX8_readGrey 16 = .ok (.invokevirtual 191, 3) := by decide +kernel
theorem dX8_readGrey_19 : dec mX8_readGrey 19 = .ok (.istore_n 3, 1) := by decide +kernel
theorem dX8_readGrey_20 : dec mX8_readGrey 20 = .ok (.aload_n 0, 1) := by decide +kernel
theorem dX8_readGrey_21 : dec mX8_readGrey 21 = .ok (.iload_n 3, 1) := by decide +kernel
theorem dX8_readGrey_22 : dec mX8_readGrey 22 = .ok (.iconst 2, 1) := by decide +kernel
theorem dX8_readGrey_23 : dec mX8_readGrey 23 = .ok (.iconst 0, 1) := by decide +kernel
theorem dX8_readGrey_24 : dec mX8_readGrey 24 = .ok (.bipush 99, 2) := by decide +kernel
theorem dX8_readGrey_26 : dec mX8_readGrey 26 = .ok (.invokevirtual 191, 3) := by decide +kernel
theorem dX8_readGrey_29 : dec mX8_readGrey 29 = .ok (.istore 4, 2) := by decide +kernel
theorem dX8_readGrey_31 : dec mX8_readGrey 31 = .ok (.iload 4, 2) := by decide +kernel
theorem dX8_readGrey_33 : dec mX8_readGrey 33 = .ok (.iconst (-1), 1) := by decide +kernel
theorem dX8_readGrey_34 : dec mX8_readGrey 34 = .ok (.if_icmp .eq 39, 3) := by decide +kernel
theorem dX8_readGrey_37 : dec mX8_readGrey 37 = .ok (.aload_n 0, 1) := by decide +kernel
theorem dX8_readGrey_38 : dec mX8_readGrey 38 = .ok (.aload_n 1, 1) := by decide +kernel
theorem dX8_readGrey_39 : dec mX8_readGrey 39 = .ok (.iload_n 2, 1) := by decide +kernel
theorem dX8_readGrey_40 : dec mX8_readGrey 40 = .ok (.iload_n 3, 1) := by decide +kernel
theorem dX8_readGrey_41 : dec mX8_readGrey 41 = .ok (.invokestatic 158, 3) := by decide +kernel
theorem dX8_readGrey_44 : dec mX8_readGrey 44 = .ok (.ifCond .eq 18, 3) := by decide +kernel
theorem dX8_readGrey_47 : dec mX8_readGrey 47 = .ok (.aload_n 1, 1) := by decide +kernel
theorem dX8_readGrey_48 : dec mX8_readGrey 48 = .ok (.iload_n 2, 1) := by decide +kernel
theorem dX8_readGrey_49 : dec mX8_readGrey 49 = .ok (.iload_n 3, 1) := by decide +kernel
theorem dX8_readGrey_50 : dec mX8_readGrey 50 = .ok (.iload 4, 2) := by decide +kernel
theorem dX8_readGrey_52 : dec mX8_readGrey 52 = .ok (.invokestatic 195, 3) := by decide +kernel
theorem dX8_readGrey_55 : dec mX8_readGrey 55 = .ok (.ifCond .lt 7, 3) := by decide +kernel
theorem dX8_readGrey_58 : dec mX8_readGrey 58 = .ok (.iconst 1, 1) := by decide +kernel
theorem dX8_readGrey_59 : dec mX8_readGrey 59 = .ok (.goto 4, 3) := by decide +kernel
theorem dX8_readGrey_62 : dec mX8_readGrey 62 = .ok (.iconst 0, 1) := by decide +kernel
theorem dX8_readGrey_63 : dec mX8_readGrey 63 = .ok (.invokevirtual 198, 3) := by decide +kernel
theorem dX8_readGrey_66 : dec mX8_readGrey 66 = .ok (.ifCond .eq 7, 3) := by decide +kernel
theorem dX8_readGrey_69 : dec mX8_readGrey 69 = .ok (.iconst 1, 1) := by decide +kernel
theorem dX8_readGrey_70 : dec mX8_readGrey 70 = .ok (.goto 4, 3) := by decide +kernel
theorem dX8_readGrey_73 : dec mX8_readGrey 73 = .ok (.iconst 0, 1) := by decide +kernel
theorem dX8_readGrey_74 : dec mX8_readGrey 74 = .ok (.ireturn, 1) := by decide +kernel
theorem dX8_readCommand_0 : dec mX8_readCommand 0 = .ok (.aload_n 0, 1) := by decide +kernel
theorem dX8_readCommand_1 : dec mX8_readCommand 1 = .ok (.getfield 7, 3) := by decide +kernel
theorem dX8_readCommand_4 : dec mX8_readCommand 4 = .ok (.aload_n 0, 1) := by decide +kernel
theorem dX8_readCommand_5 : dec mX8_readCommand 5 = .ok (.getfield 171, 3) := by decide +kernel
theorem dX8_readCommand_8 : dec mX8_readCommand 8 = .ok (.iaload, 1) := by decide +kernel
theorem dX8_readCommand_9 : dec mX8_readCommand 9 = .ok (.istore_n 2, 1) := by decide +kernel
theorem dX8_readCommand_10 : dec mX8_readCommand 10 = .ok (.aload_n 0, 1) := by decide +kernel
theorem dX8_readCommand_11 : dec mX8_readCommand 11 = .ok (.dup, 1) := by decide +kernel
theorem dX8_readCommand_12 : dec mX8_readCommand 12 = .ok (.getfield 171, 3) := by decide +kernel
theorem dX8_readCommand_15 : dec mX8_readCommand 15 = .ok (.iconst 1, 1) := by decide +kernel
theorem dX8_readCommand_16 : dec mX8_readCommand 16 = .ok (.iadd, 1) := by decide +kernel
theorem dX8_readCommand_17 : dec mX8_readCommand 17 = .ok (.putfield 171, 3) := by decide +kernel
theorem dX8_readCommand_20 : dec mX8_readCommand 20 = .ok (.iload_n 2, 1) := by decide +kernel
theorem dX8_readCommand_21 : dec mX8_readCommand 21 = .ok (.tableswitch 377 98 116 #[227, 377, 377, 377, 97, 377, 275, 335, 377, 377, 325, 377, 377, 377, 91, 377, 377, 179, 145], 91) := by decide +kernel
theorem dX8_readCommand_112 : dec mX8_readCommand 112 = .ok (.aload_n 0, 1) := by decide +kernel
theorem dX8_readCommand_113 : dec mX8_readCommand 113 = .ok (.aload_n 1, 1) := by decide +kernel
theorem dX8_readCommand_114 : dec mX8_readCommand 114 = .ok (.invokevirtual 202, 3) := by decide +kernel
theorem dX8_readCommand_117 : dec mX8_readCommand 117 = .ok (.ireturn, 1) := by decide +kernel
theorem dX8_readCommand_118 : dec mX8_readCommand 118 = .ok (.aload_n 0, 1) := by decide +kernel
theorem dX8_readCommand_119 : dec mX8_readCommand 119 = .ok (.iconst 0, 1) := by decide +kernel
theorem dX8_readCommand_120 : dec mX8_readCommand 120 = .ok (.iconst 2, 1) := by decide +kernel
theorem dX8_readCommand_121 : dec mX8_readCommand 121 = .ok (.iconst 0, 1) := by decide +kernel
theorem dX8_readCommand_122 : dec mX8_readCommand 122 = .ok (.bipush 99, 2) := by decide +kernel
theorem dX8_readCommand_124 : dec mX8_readCommand 124 = .ok (.invokevirtual 191, 3) := by decide +kernel
theorem dX8_readCommand_127 : dec mX8_readCommand 127 = .ok (.istore_n 3, 1) := by decide +kernel
theorem dX8_readCommand_128 : dec mX8_readCommand 128 = .ok (.aload_n 0, 1) := by decide +kernel
theorem dX8_readCommand_129 : dec mX8_readCommand 129 = .ok (.iload_n 3, 1) := by decide +kernel
theorem dX8_readCommand_130 : dec mX8_readCommand 130 = .ok (.iconst 2, 1) := by decide +kernel
theorem dX8_readCommand_131 : dec mX8_readCommand 131 = .ok (.iconst 0, 1) := by decide +kernel
theorem dX8_readCommand_132 : dec mX8_readCommand 132 = .ok (.bipush 99, 2) := by decide +kernel
theorem dX8_readCommand_134 : dec mX8_readCommand 134 = .ok (.invokevirtual 191, 3) := by decide +kernel
theorem dX8_readCommand_137 : dec mX8_readCommand 137 = .ok (.istore 4, 2) := by decide +kernel
theorem dX8_readCommand_139 : dec mX8_readCommand 139 = .ok (.iload 4, 2) := by decide +kernel
theorem dX8_readCommand_141 : dec mX8_readCommand 141 = .ok (.iconst (-1), 1) := by decide +kernel
theorem dX8_readCommand_142 : dec mX8_readCommand 142 = .ok (.if_icmp .eq 22, 3) := by decide +kernel
theorem dX8_readCommand_145 : dec mX8_readCommand 145 = .ok (.aload_n 0, 1) := by decide +kernel
theorem dX8_readCommand_146 : dec mX8_readCommand 146 = .ok (.aload_n 0, 1) := by decide +kernel
theorem dX8_readCommand_147 : dec mX8_readCommand 147 = .ok (.aload_n 1, 1) := by decide +kernel
theorem dX8_readCommand_148 : dec mX8_readCommand 148 = .ok (.iload_n 3, 1) := by decide +kernel
theorem dX8_readCommand_149 : dec mX8_readCommand 149 = .ok (.iload 4, 2) := by decide +kernel
theorem dX8_readCommand_151 : dec mX8_readCommand 151 = .ok (.invokevirtual 206, 3) := by decide +kernel
theorem dX8_readCommand_154 : dec mX8_readCommand 154 = .ok (.invokevirtual 198, 3) := by decide +kernel
theorem dX8_readCommand_157 : dec mX8_readCommand 157 = .ok (.ifCond .eq 7, 3) := by decide +kernel
theorem dX8_readCommand_160 : dec mX8_readCommand 160 = .ok (.iconst 1, 1) := by decide +kernel
theorem dX8_readCommand_161 : dec mX8_readCommand 161 = .ok (.goto 4, 3) := by decide +kernel
theorem dX8_readCommand_164 : dec mX8_readCommand 164 = .ok (.iconst 0, 1) := by decide +kernel
theorem dX8_readCommand_165 : dec mX8_readCommand 165 = .ok (.ireturn, 1) := by decide +kernel
theorem dX8_readCommand_166 : dec mX8_readCommand 166 = .ok (.aload_n 0, 1) := by decide +kernel
theorem dX8_readCommand_167 : dec mX8_readCommand 167 = .ok (.iconst 0, 1) := by decide +kernel
theorem dX8_readCommand_168 : dec mX8_readCommand 168 = .ok (.iconst 2, 1) := by decide +kernel
theorem dX8_readCommand_169 : dec mX8_readCommand 169 = .ok (.iconst 0, 1) := by decide +kernel
theorem dX8_readCommand_170 : dec mX8_readCommand 170 = .ok (.bipush 55, 2) := by decide +kernel
theorem dX8_readCommand_172 : dec mX8_readCommand 172 = .ok (.invokevirtual 191, 3) := by decide +kernel
theorem dX8_readCommand_175 : dec mX8_readCommand 175 = .ok (.istore_n 3, 1) := by decide +kernel
theorem dX8_readCommand_176 : dec mX8_readCommand 176 = .ok (.iload_n 3, 1) := by decide +kernel
theorem dX8_readCommand_177 : dec mX8_readCommand 177 = .ok (.iconst (-1), 1) := by decide +kernel
theorem dX8_readCommand_178 : dec mX8_readCommand 178 = .ok (.if_icmp .eq 20, 3) := by decide +kernel
theorem dX8_readCommand_181 : dec mX8_readCommand 181 = .ok (.aload_n 0, 1) := by decide +kernel
theorem dX8_readCommand_182 : dec mX8_readCommand 182 = .ok (.aload_n 0, 1) := by decide +kernel
theorem dX8_readCommand_183 : dec mX8_readCommand 183 = .ok (.aload_n 1, 1) := by decide +kernel
theorem dX8_readCommand_184 : dec mX8_readCommand 184 = .ok (.iload_n 3, 1) := by decide +kernel
theorem dX8_readCommand_185 : dec mX8_readCommand 185 = .ok (.invokevirtual 209, 3) := by decide +kernel
theorem dX8_readCommand_188 : dec mX8_readCommand 188 = .ok (.invokevirtual 198, 3) := by decide +kernel
theorem dX8_readCommand_191 : dec mX8_readCommand 191 = .ok (.ifCond .eq 7, 3) := by decide +kernel
theorem dX8_readCommand_194 : dec mX8_readCommand 194 = .ok (.iconst 1, 1) := by decide +kernel
theorem dX8_readCommand_195 : dec mX8_readCommand 195 = .ok (.goto 4, 3) := by decide +kernel
theorem dX8_readCommand_198 : dec mX8_readCommand 198 = .ok (.iconst 0, 1) := by decide +kernel
theorem dX8_readCommand_199 : dec mX8_readCommand 199 = .ok (.ireturn, 1) := by decide +kernel
theorem dX8_readCommand_200 : dec mX8_readCommand 200 = .ok (.aload_n 0, 1) := by decide +kernel
theorem dX8_readCommand_201 : dec mX8_readCommand 201 = .ok (.iconst 0, 1) := by decide +kernel
theorem dX8_readCommand_202 : dec mX8_readCommand 202 = .ok (.iconst 2, 1) := by decide +kernel
theorem dX8_readCommand_203 : dec mX8_readCommand 203 = .ok (.iconst 0, 1) := by decide +kernel
theorem dX8_readCommand_204 : dec mX8_readCommand 204 = .ok (.bipush 55, 2) := by decide +kernel
theorem dX8_readCommand_206 : dec mX8_readCommand 206 = .ok (.invokevirtual 191, 3) := by decide +kernel
theorem dX8_readCommand_209 : dec mX8_readCommand 209 = .ok (.istore_n 3, 1) := by decide +kernel
theorem dX8_readCommand_210 : dec mX8_readCommand 210 = .ok (.aload_n 0, 1) := by decide +kernel
theorem dX8_readCommand_211 : dec mX8_readCommand 211 = .ok (.iload_n 3, 1) := by decide +kernel
theorem dX8_readCommand_212 : dec mX8_readCommand 212 = .ok (.iconst 2, 1) := by decide +kernel
theorem dX8_readCommand_213 : dec mX8_readCommand 213 = .ok (.iconst 0, 1) := by decide +kernel
theorem dX8_readCommand_214 : dec mX8_readCommand 214 = .ok (.bipush 55, 2) := by decide +kernel
theorem dX8_readCommand_216 : dec mX8_readCommand 216 = .ok (.invokevirtual 191, 3) := by decide +kernel
theorem dX8_readCommand_219 : dec mX8_readCommand 219 = .ok (.istore 4, 2) := by decide +kernel
theorem dX8_readCommand_221 : dec mX8_readCommand 221 = .ok (.iload 4, 2) := by decide +kernel
theorem dX8_readCommand_223 : dec mX8_readCommand 223 = .ok (.iconst (-1), 1) := by decide +kernel
theorem dX8_readCommand_224 : dec mX8_readCommand 224 = .ok (.if_icmp .eq 22, 3) := by decide +kernel
theorem dX8_readCommand_227 : dec mX8_readCommand 227 = .ok (.aload_n 0, 1) := by decide +kernel
theorem dX8_readCommand_228 : dec mX8_readCommand 228 = .ok (.aload_n 0, 1) := by decide +kernel
theorem dX8_readCommand_229 : dec mX8_readCommand 229 = .ok (.aload_n 1, 1) := by decide +kernel
theorem dX8_readCommand_230 : dec mX8_readCommand 230 = .ok (.iload_n 3, 1) := by decide +kernel
theorem dX8_readCommand_231 : dec mX8_readCommand 231 = .ok (.iload 4, 2) := by decide +kernel
theorem dX8_readCommand_233 : dec mX8_readCommand 233 = .ok (.invokevirtual 212, 3) := by decide +kernel
theorem dX8_readCommand_236 : dec mX8_readCommand 236 = .ok (.invokevirtual 198, 3) := by decide +kernel
theorem dX8_readCommand_239 : dec mX8_readCommand 239 = .ok (.ifCond .eq 7, 3) := by decide +kernel
theorem dX8_readCommand_242 : dec mX8_readCommand 242 = .ok (.iconst 1, 1) := by decide +kernel
theorem dX8_readCommand_243 : dec mX8_readCommand 243 = .ok (.goto 4, 3) := by decide +kernel
theorem dX8_readCommand_246 : dec mX8_readCommand 246 = .ok (.iconst 0, 1) := by decide +kernel
theorem dX8_readCommand_247 : dec mX8_readCommand 247 = .ok (.ireturn, 1) := by decide +kernel
theorem dX8_readCommand_248 : dec mX8_readCommand 248 = .ok (.aload_n 0, 1) := by decide +kernel
theorem dX8_readCommand_249 : dec mX8_readCommand 249 = .ok (.iconst 0, 1) := by decide +kernel
theorem dX8_readCommand_250 : dec mX8_readCommand 250 = .ok (.iconst 1, 1) := by decide +kernel
theorem dX8_readCommand_251 : dec mX8_readCommand 251 = .ok (.iconst 0, 1) := by decide +kernel
theorem dX8_readCommand_252 : dec mX8_readCommand 252 = .ok (.bipush 7, 2) := by decide +kernel
theorem dX8_readCommand_254 : dec mX8_readCommand 254 = .ok (.invokevirtual 191, 3) := by decide +kernel
theorem dX8_readCommand_257 : dec mX8_readCommand 257 = .ok (.istore_n 3, 1) := by decide +kernel
theorem dX8_readCommand_258 : dec mX8_readCommand 258 = .ok (.aload_n 0, 1) := by decide +kernel
theorem dX8_readCommand_259 : dec mX8_readCommand 259 = .ok (.iload_n 3, 1) := by decide +kernel
theorem dX8_readCommand_260 : dec mX8_readCommand 260 = .ok (.iconst 2, 1) := by decide +kernel
theorem dX8_readCommand_261 : dec mX8_readCommand 261 = .ok (.iconst 0, 1) := by decide +kernel
theorem dX8_readCommand_262 : dec mX8_readCommand 262 = .ok (.bipush 13, 2) := by decide +kernel
theorem dX8_readCommand_264 : dec mX8_readCommand 264 = .ok (.invokevirtual 191, 3) := by decide +kernel
theorem dX8_readCommand_267 : dec mX8_readCommand 267 = .ok (.istore 4, 2) := by decide +kernel
theorem dX8_readCommand_269 : dec mX8_readCommand 269 = .ok (.iload 4, 2) := by decide +kernel
theorem dX8_readCommand_271 : dec mX8_readCommand 271 = .ok (.iconst (-1), 1) := by decide +kernel
theorem dX8_readCommand_272 : dec mX8_readCommand 272 = .ok (.if_icmp .eq 22, 3) := by decide +kernel
theorem dX8_readCommand_275 : dec mX8_readCommand 275 = .ok (.aload_n 0, 1) := by decide +kernel
theorem dX8_readCommand_276 : dec mX8_readCommand 276 = .ok (.aload_n 0, 1) := by decide +kernel
theorem dX8_readCommand_277 : dec mX8_readCommand 277 = .ok (.aload_n 1, 1) := by decide +kernel
theorem dX8_readCommand_278 : dec mX8_readCommand 278 = .ok (.iload_n 3, 1) := by decide +kernel
theorem dX8_readCommand_279 : dec mX8_readCommand 279 = .ok (.iload 4, 2) := by decide +kernel
theorem dX8_readCommand_281 : dec mX8_readCommand 281 = .ok (.invokevirtual 215, 3) := by decide +kernel
theorem dX8_readCommand_284 : dec mX8_readCommand 284 = .ok (.invokevirtual 198, 3) := by decide +kernel
theorem dX8_readCommand_287 : dec mX8_readCommand 287 = .ok (.ifCond .eq 7, 3) := by decide +kernel
theorem dX8_readCommand_290 : dec mX8_readCommand 290 = .ok (.iconst 1, 1) := by decide +kernel
theorem dX8_readCommand_291 : dec mX8_readCommand 291 = .ok (.goto 4, 3) := by decide +kernel
theorem dX8_readCommand_294 : dec mX8_readCommand 294 = .ok (.iconst 0, 1) := by decide +kernel
theorem dX8_readCommand_295 : dec mX8_readCommand 295 = .ok (.ireturn, 1) := by decide +kernel
theorem dX8_readCommand_296 : dec mX8_readCommand 296 = .ok (.aload_n 0, 1) := by decide +kernel
theorem dX8_readCommand_297 : dec mX8_readCommand 297 = .ok (.iconst 0, 1) := by decide +kernel
theorem dX8_readCommand_298 : dec mX8_readCommand 298 = .ok (.iconst 2, 1) := by decide +kernel
theorem dX8_readCommand_299 : dec mX8_readCommand 299 = .ok (.iconst 0, 1) := by decide +kernel
theorem dX8_readCommand_300 : dec mX8_readCommand 300 = .ok (.bipush 55, 2) := by decide +kernel
theorem dX8_readCommand_302 : dec mX8_readCommand 302 = .ok (.invokevirtual 191, 3) := by decide +kernel
theorem dX8_readCommand_305 : dec mX8_readCommand 305 = .ok (.istore_n 3, 1) := by decide +kernel
theorem dX8_readCommand_306 : dec mX8_readCommand 306 = .ok (.iload_n 3, 1) := by decide +kernel
theorem dX8_readCommand_307 : dec mX8_readCommand 307 = .ok (.iconst (-1), 1) := by decide +kernel
theorem dX8_readCommand_308 : dec mX8_readCommand 308 = .ok (.if_icmp .eq 36, 3) := by decide +kernel
theorem dX8_readCommand_311 : dec mX8_readCommand 311 = .ok (.aload_n 0, 1) := by decide +kernel
theorem dX8_readCommand_312 : dec mX8_readCommand 312 = .ok (.aload_n 1, 1) := by decide +kernel
theorem dX8_readCommand_313 : dec mX8_readCommand 313 = .ok (.iload_n 3, 1) := by decide +kernel
theorem dX8_readCommand_314 : dec mX8_readCommand 314 = .ok (.invokestatic 152, 3) := by decide +kernel
theorem dX8_readCommand_317 : dec mX8_readCommand 317 = .ok (.ifCond .eq 16, 3) := by decide +kernel
theorem dX8_readCommand_320 : dec mX8_readCommand 320 = .ok (.aload_n 1, 1) := by decide +kernel
theorem dX8_readCommand_321 : dec mX8_readCommand 321 = .ok (.iload_n 3, 1) := by decide +kernel
theorem dX8_readCommand_322 : dec mX8_readCommand 322 = .ok (.iconst 1, 1) := by decide +kernel
theorem dX8_readCommand_323 : dec mX8_readCommand 323 = .ok (.invokestatic 218, 3) := by decide +kernel
theorem dX8_readCommand_326 : dec mX8_readCommand 326 = .ok (.ifCond .le 7, 3) := by decide +kernel
theorem dX8_readCommand_329 : dec mX8_readCommand 329 = .ok (.iconst 1, 1) := by decide +kernel
theorem dX8_readCommand_330 : dec mX8_readCommand 330 = .ok (.goto 4, 3) := by decide +kernel
theorem dX8_readCommand_333 : dec mX8_readCommand 333 = .ok (.iconst 0, 1) := by decide +kernel
theorem dX8_readCommand_334 : dec mX8_readCommand 334 = .ok (.invokevirtual 198, 3) := by decide +kernel
theorem dX8_readCommand_337 : dec mX8_readCommand 337 = .ok (.ifCond .eq 7, 3) := by decide +kernel
theorem dX8_readCommand_340 : dec mX8_readCommand 340 = .ok (.iconst 1, 1) := by decide +kernel
theorem dX8_readCommand_341 : dec mX8_readCommand 341 = .ok (.goto 4, 3) := by decide +kernel
theorem dX8_readCommand_344 : dec mX8_readCommand 344 = .ok (.iconst 0, 1) := by decide +kernel
theorem dX8_readCommand_345 : dec mX8_readCommand 345 = .ok (.ireturn, 1) := by decide +kernel
theorem dX8_readCommand_346 : dec mX8_readCommand 346 = .ok (.aload_n 0, 1) := by decide +kernel
theorem dX8_readCommand_347 : dec mX8_readCommand 347 = .ok (.aload_n 0, 1) := by decide +kernel
theorem dX8_readCommand_348 : dec mX8_readCommand 348 = .ok (.aload_n 1, 1) := by decide +kernel
theorem dX8_readCommand_349 : dec mX8_readCommand 349 = .ok (.invokevirtual 222, 3) := by decide +kernel
theorem dX8_readCommand_352 : dec mX8_readCommand 352 = .ok (.invokevirtual 198, 3) := by decide +kernel
theorem dX8_readCommand_355 : dec mX8_readCommand 355 = .ok (.ireturn, 1) := by decide +kernel
theorem dX8_readCommand_356 : dec mX8_readCommand 356 = .ok (.aload_n 0, 1) := by decide +kernel
theorem dX8_readCommand_357 : dec mX8_readCommand 357 = .ok (.iconst 0, 1) := by decide +kernel
theorem dX8_readCommand_358 : dec mX8_readCommand 358 = .ok (.iconst 2, 1) := by decide +kernel
theorem dX8_readCommand_359 : dec mX8_readCommand 359 = .ok (.iconst 1, 1) := by decide +kernel
theorem dX8_readCommand_360 : dec mX8_readCommand 360 = .ok (.bipush 20, 2) := by decide +kernel
theorem dX8_readCommand_362 : dec mX8_readCommand 362 = .ok (.invokevirtual 191, 3) := by decide +kernel
theorem dX8_readCommand_365 : dec mX8_readCommand 365 = .ok (.istore_n 3, 1) := by decide +kernel
theorem dX8_readCommand_366 : dec mX8_readCommand 366 = .ok (.iload_n 3, 1) := by decide +kernel
theorem dX8_readCommand_367 : dec mX8_readCommand 367 = .ok (.iconst (-1), 1) := by decide +kernel
theorem dX8_readCommand_368 : dec mX8_readCommand 368 = .ok (.if_icmp .eq 28, 3) := by decide +kernel
theorem dX8_readCommand_371 : dec mX8_readCommand 371 = .ok (.aload_n 0, 1) := by decide +kernel
theorem dX8_readCommand_372 : dec mX8_readCommand 372 = .ok (.aload_n 0, 1) := by decide +kernel
theorem dX8_readCommand_373 : dec mX8_readCommand 373 = .ok (.aload_n 1, 1) := by decide +kernel
theorem dX8_readCommand_374 : dec mX8_readCommand 374 = .ok (.iload_n 3, 1) := by decide +kernel
theorem dX8_readCommand_375 : dec mX8_readCommand 375 = .ok (.invokevirtual 225, 3) := by decide +kernel
theorem dX8_readCommand_378 : dec mX8_readCommand 378 = .ok (.ifCond .lt 7, 3) := by decide +kernel
theorem dX8_readCommand_381 : dec mX8_readCommand 381 = .ok (.iconst 1, 1) := by decide +kernel
theorem dX8_readCommand_382 : dec mX8_readCommand 382 = .ok (.goto 4, 3) := by decide +kernel
theorem dX8_readCommand_385 : dec mX8_readCommand 385 = .ok (.iconst 0, 1) := by decide +kernel
theorem dX8_readCommand_386 : dec mX8_readCommand 386 = .ok (.invokevirtual 198, 3) := by decide +kernel
theorem dX8_readCommand_389 : dec mX8_readCommand 389 = .ok (.ifCond .eq 7, 3) := by decide +kernel
theorem dX8_readCommand_392 : dec mX8_readCommand 392 = .ok (.iconst 1, 1) := by decide +kernel
theorem dX8_readCommand_393 : dec mX8_readCommand 393 = .ok (.goto 4, 3) := by decide +kernel
theorem dX8_readCommand_396 : dec mX8_readCommand 396 = .ok (.iconst 0, 1) := by decide +kernel
theorem dX8_readCommand_397 : dec mX8_readCommand 397 = .ok (.ireturn, 1) := by decide +kernel
theorem dX8_readCommand_398 : dec mX8_readCommand 398 = .ok (.aload_n 0, 1) := by decide +kernel
theorem dX8_readCommand_399 : dec mX8_readCommand 399 = .ok (.dup, 1) := by decide +kernel
theorem dX8_readCommand_400 : dec mX8_readCommand 400 = .ok (.getfield 171, 3) := by decide +kernel
theorem dX8_readCommand_403 : dec mX8_readCommand 403 = .ok (.iconst 1, 1) := by decide +kernel
theorem dX8_readCommand_404 : dec mX8_readCommand 404 = .ok (.isub, 1) := by decide +kernel
theorem dX8_readCommand_405 : dec mX8_readCommand 405 = .ok (.putfield 171, 3) := by decide +kernel
theorem dX8_readCommand_408 : dec mX8_readCommand 408 = .ok (.iconst 0, 1) := by decide +kernel
theorem dX8_readCommand_409 : dec mX8_readCommand 409 = .ok (.ireturn, 1) := by decide +kernel
theorem dX8_readText_0 : dec mX8_readText 0 = .ok (.aload_n 0, 1) := by decide +kernel
theorem dX8_readText_1 : dec mX8_readText 1 = .ok (.iconst 0, 1) := by decide +kernel
theorem dX8_readText_2 : dec mX8_readText 2 = .ok (.putfield 176, 3) := by decide +kernel
theorem dX8_readText_5 : dec mX8_readText 5 = .ok (.aload_n 0, 1) := by decide +kernel
theorem dX8_readText_6 : dec mX8_readText 6 = .ok (.iconst 0, 1) := by decide +kernel
theorem dX8_readText_7 : dec mX8_readText 7 = .ok (.putfield 171, 3) := by decide +kernel
theorem dX8_readText_10 : dec mX8_readText 10 = .ok (.aload_n 0, 1) := by decide +kernel
theorem dX8_readText_11 : dec mX8_readText 11 = .ok (.getfield 164, 3) := by decide +kernel
theorem dX8_readText_14 : dec mX8_readText 14 = .ok (.ifCond .eq 14, 3) := by decide +kernel
theorem dX8_readText_17 : dec mX8_readText 17 = .ok (.aload_n 0, 1) := by decide +kernel
theorem dX8_readText_18 : dec mX8_readText 18 = .ok (.getfield 7, 3) := by decide +kernel
theorem dX8_readText_21 : dec mX8_readText 21 = .ok (.iconst 0, 1) := by decide +kernel
theorem dX8_readText_22 : dec mX8_readText 22 = .ok (.iaload, 1) := by decide +kernel
theorem dX8_readText_23 : dec mX8_readText 23 = .ok (.bipush 68, 2) := by decide +kernel
theorem dX8_readText_25 : dec mX8_readText 25 = .ok (.if_icmp .eq 5, 3) := by decide +kernel
theorem dX8_readText_28 : dec mX8_readText 28 = .ok (.iconst 0, 1) := by decide +kernel
theorem dX8_readText_29 : dec mX8_readText 29 = .ok (.ireturn, 1) := by decide +kernel
theorem dX8_readText_30 : dec mX8_readText 30 = .ok (.aload_n 0, 1) := by decide +kernel
theorem dX8_readText_31 : dec mX8_readText 31 = .ok (.iconst 1, 1) := by decide +kernel
theorem dX8_readText_32 : dec mX8_readText 32 = .ok (.putfield 171, 3) := by decide +kernel
theorem dX8_readText_35 : dec mX8_readText 35 = .ok (.aload_n 0, 1) := by decide +kernel
theorem dX8_readText_36 : dec mX8_readText 36 = .ok (.iconst 0, 1) := by decide +kernel
theorem dX8_readText_37 : dec mX8_readText 37 = .ok (.iconst 1, 1) := by decide +kernel
theorem dX8_readText_38 : dec mX8_readText 38 = .ok (.iconst 2, 1) := by decide +kernel
theorem dX8_readText_39 : dec mX8_readText 39 = .ok (.bipush 6, 2) := by decide +kernel
theorem dX8_readText_41 : dec mX8_readText 41 = .ok (.invokevirtual 191, 3) := by decide +kernel
theorem dX8_readText_44 : dec mX8_readText 44 = .ok (.istore_n 2, 1) := by decide +kernel
theorem dX8_readText_45 : dec mX8_readText 45 = .ok (.aload_n 0, 1) := by decide +kernel
theorem dX8_readText_46 : dec mX8_readText 46 = .ok (.iload_n 2, 1) := by decide +kernel
theorem dX8_readText_47 : dec mX8_readText 47 = .ok (.iconst 1, 1) := by decide +kernel
theorem dX8_readText_48 : dec mX8_readText 48 = .ok (.iconst 1, 1) := by decide +kernel
theorem dX8_readText_49 : dec mX8_readText 49 = .ok (.iconst 2, 1) := by decide +kernel
theorem dX8_readText_50 : dec mX8_readText 50 = .ok (.invokevirtual 191, 3) := by decide +kernel
theorem dX8_readText_53 : dec mX8_readText 53 = .ok (.istore_n 3, 1) := by decide +kernel
theorem dX8_readText_54 : dec mX8_readText 54 = .ok (.iload_n 3, 1) := by decide +kernel
theorem dX8_readText_55 : dec mX8_readText 55 = .ok (.iconst (-1), 1) := by decide +kernel
theorem dX8_readText_56 : dec mX8_readText 56 = .ok (.if_icmp .ne 8, 3) := by decide +kernel
theorem dX8_readText_59 : dec mX8_readText 59 = .ok (.aload_n 0, 1) := by decide +kernel
theorem dX8_readText_60 : dec mX8_readText 60 = .ok (.getfield 171, 3) := by decide +kernel
theorem dX8_readText_63 : dec mX8_readText 63 = .ok (.ireturn, 1) := by decide +kernel
theorem dX8_readText_64 : dec mX8_readText 64 = .ok (.aload_n 1, 1) := by decide +kernel
theorem dX8_readText_65 : dec mX8_readText 65 = .ok (.iload_n 2, 1) := by decide +kernel
theorem dX8_readText_66 : dec mX8_readText 66 = .ok (.iload_n 3, 1) := by decide +kernel
theorem dX8_readText_67 : dec mX8_readText 67 = .ok (.invokestatic 32, 3) := by decide +kernel
theorem dX8_readText_70 : dec mX8_readText 70 = .ok (.aload_n 0, 1) := by decide +kernel
theorem dX8_readText_71 : dec mX8_readText 71 = .ok (.getfield 171, 3) := by decide +kernel
theorem dX8_readText_74 : dec mX8_readText 74 = .ok (.aload_n 0, 1) := by decide +kernel
theorem dX8_readText_75 : dec mX8_readText 75 = .ok (.getfield 164, 3) := by decide +kernel
theorem dX8_readText_78 : dec mX8_readText 78 = .ok (.if_icmp .ge 16, 3) := by decide +kernel
theorem dX8_readText_81 : dec mX8_readText 81 = .ok (.aload_n 0, 1) := by decide +kernel
theorem dX8_readText_82 : dec mX8_readText 82 = .ok (.aload_n 1, 1) := by decide +kernel
theorem dX8_readText_83 : dec mX8_readText 83 = .ok (.invokevirtual 228, 3) := by decide +kernel
theorem dX8_readText_86 : dec mX8_readText 86 = .ok (.ifCond .ne (-16), 3) := by decide +kernel
theorem dX8_readText_89 : dec mX8_readText 89 = .ok (.aload_n 0, 1) := by decide +kernel
theorem dX8_readText_90 : dec mX8_readText 90 = .ok (.getfield 171, 3) := by decide +kernel
theorem dX8_readText_93 : dec mX8_readText 93 = .ok (.ireturn, 1) := by decide +kernel
theorem dX8_readText_94 : dec mX8_readText 94 = .ok (.iconst (-1), 1) := by decide +kernel
theorem dX8_readText_95 : dec mX8_readText 95 = .ok (.ireturn, 1) := by decide +kernel
theorem dX8_errorPosition_0 : dec mX8_errorPosition 0 = .ok (.aload_n 0, 1) := by decide +kernel
theorem dX8_errorPosition_1 : dec mX8_errorPosition 1 = .ok (.iconst 0, 1) := by decide +kernel
theorem dX8_errorPosition_2 : dec mX8_errorPosition 2 = .ok (.putfield 36, 3) := by decide +kernel
theorem dX8_errorPosition_5 : dec mX8_errorPosition 5 = .ok (.aload_n 0, 1) := by decide +kernel
theorem dX8_errorPosition_6 : dec mX8_errorPosition 6 = .ok (.aload_n 0, 1) := by decide +kernel
theorem dX8_errorPosition_7 : dec mX8_errorPosition 7 = .ok (.getfield 16, 3) := by decide +kernel
theorem dX8_errorPosition_10 : dec mX8_errorPosition 10 = .ok (.invokevirtual 231, 3) := by decide +kernel
theorem dX8_errorPosition_13 : dec mX8_errorPosition 13 = .ok (.ireturn, 1) := by decide +kernel
theorem dX8_load_0 : dec mX8_load 0 = .ok (.aload_n 0, 1) := by decide +kernel
theorem dX8_load_1 : dec mX8_load 1 = .ok (.aload_n 0, 1) := by decide +kernel
theorem dX8_load_2 : dec mX8_load 2 = .ok (.aload_n 0, 1) := by decide +kernel
theorem dX8_load_3 : dec mX8_load 3 = .ok (.getfield 16, 3) := by decide +kernel
theorem dX8_load_6 : dec mX8_load 6 = .ok (.invokevirtual 231, 3) := by decide +kernel
theorem dX8_load_9 : dec mX8_load 9 = .ok (.iconst (-1), 1) := by decide +kernel
theorem dX8_load_10 : dec mX8_load 10 = .ok (.if_icmp .ne 7, 3) := by decide +kernel
theorem dX8_load_13 : dec mX8_load 13 = .ok (.iconst 0, 1) := by decide +kernel
theorem dX8_load_14 : dec mX8_load 14 = .ok (.goto 4, 3) := by decide +kernel
theorem dX8_load_17 : dec mX8_load 17 = .ok (.iconst 1, 1) := by decide +kernel
theorem dX8_load_18 : dec mX8_load 18 = .ok (.invokevirtual 167, 3) := by decide +kernel
theorem dX8_load_21 : dec mX8_load 21 = .ok (.ifCond .eq 5, 3) := by decide +kernel
theorem dX8_load_24 : dec mX8_load 24 = .ok (.iconst 0, 1) := by decide +kernel
theorem dX8_load_25 : dec mX8_load 25 = .ok (.ireturn, 1) := by decide +kernel
theorem dX8_load_26 : dec mX8_load 26 = .ok (.aload_n 0, 1) := by decide +kernel
theorem dX8_load_27 : dec mX8_load 27 = .ok (.getfield 16, 3) := by decide +kernel
theorem dX8_load_30 : dec mX8_load 30 = .ok (.iconst 0, 1) := by decide +kernel
theorem dX8_load_31 : dec mX8_load 31 = .ok (.aload_n 0, 1) := by decide +kernel
theorem dX8_load_32 : dec mX8_load 32 = .ok (.getfield 13, 3) := by decide +kernel
theorem dX8_load_35 : dec mX8_load 35 = .ok (.iconst 0, 1) := by decide +kernel
theorem dX8_load_36 : dec mX8_load 36 = .ok (.invokestatic 234, 3) := by decide +kernel
theorem dX8_load_39 : dec mX8_load 39 = .ok (.aload_n 0, 1) := by decide +kernel
theorem dX8_load_40 : dec mX8_load 40 = .ok (.iconst 0, 1) := by decide +kernel
theorem dX8_load_41 : dec mX8_load 41 = .ok (.putfield 238, 3) := by decide +kernel
theorem dX8_load_44 : dec mX8_load 44 = .ok (.aload_n 0, 1) := by decide +kernel
theorem dX8_load_45 : dec mX8_load 45 = .ok (.getfield 25, 3) := by decide +kernel
theorem dX8_load_48 : dec mX8_load 48 = .ok (.iconst 0, 1) := by decide +kernel
theorem dX8_load_49 : dec mX8_load 49 = .ok (.iconst 0, 1) := by decide +kernel
theorem dX8_load_50 : dec mX8_load 50 = .ok (.bastore, 1) := by decide +kernel
theorem dX8_load_51 : dec mX8_load 51 = .ok (.aload_n 0, 1) := by decide +kernel
theorem dX8_load_52 : dec mX8_load 52 = .ok (.getfield 25, 3) := by decide +kernel
theorem dX8_load_55 : dec mX8_load 55 = .ok (.iconst 1, 1) := by decide +kernel
theorem dX8_load_56 : dec mX8_load 56 = .ok (.iconst 0, 1) := by decide +kernel
theorem dX8_load_57 : dec mX8_load 57 = .ok (.bastore, 1) := by decide +kernel
theorem dX8_load_58 : dec mX8_load 58 = .ok (.aload_n 0, 1) := by decide +kernel
theorem dX8_load_59 : dec mX8_load 59 = .ok (.getfield 176, 3) := by decide +kernel
theorem dX8_load_62 : dec mX8_load 62 = .ok (.ireturn, 1) := by decide +kernel
theorem dX8_about_0 : dec mX8_about 0 = .ok (.aload_n 0, 1) := by decide +kernel
theorem dX8_about_1 : dec mX8_about 1 = .ok (.iload_n 1, 1) := by decide +kernel
theorem dX8_about_2 : dec mX8_about 2 = .ok (.i2l, 1) := by decide +kernel
theorem dX8_about_3 : dec mX8_about 3 = .ok (.lconst 0, 1) := by decide +kernel
theorem dX8_about_4 : dec mX8_about 4 = .ok (.ldc2_w 241, 3) := by decide +kernel
theorem dX8_about_7 : dec mX8_about 7 = .ok (.invokestatic 50, 3) := by decide +kernel
theorem dX8_about_10 : dec mX8_about 10 = .ok (.ifCond .eq 7, 3) := by decide +kernel
theorem dX8_about_13 : dec mX8_about 13 = .ok (.iconst 0, 1) := by decide +kernel
theorem dX8_about_14 : dec mX8_about 14 = .ok (.goto 4, 3) := by decide +kernel
theorem dX8_about_17 : dec mX8_about 17 = .ok (.iconst 1, 1) := by decide +kernel
theorem dX8_about_18 : dec mX8_about 18 = .ok (.invokevirtual 167, 3) := by decide +kernel
theorem dX8_about_21 : dec mX8_about 21 = .ok (.ifCond .eq 5, 3) := by decide +kernel
theorem dX8_about_24 : dec mX8_about 24 = .ok (.iconst 0, 1) := by decide +kernel
theorem dX8_about_25 : dec mX8_about 25 = .ok (.ireturn, 1) := by decide +kernel
theorem dX8_about_26 : dec mX8_about 26 = .ok (.iconst 0, 1) := by decide +kernel
theorem dX8_about_27 : dec mX8_about 27 = .ok (.istore_n 2, 1) := by decide +kernel
theorem dX8_about_28 : dec mX8_about 28 = .ok (.iload_n 1, 1) := by decide +kernel
theorem dX8_about_29 : dec mX8_about 29 = .ok (.tableswitch 235 0 9 #[55, 55, 62, 70, 78, 86, 94, 136, 186, 194], 55) := by decide +kernel
theorem dX8_about_84 : dec mX8_about 84 = .ok (.aload_n 0, 1) := by decide +kernel
theorem dX8_about_85 : dec mX8_about 85 = .ok (.getfield 13, 3) := by decide +kernel
theorem dX8_about_88 : dec mX8_about 88 = .ok (.iload_n 1, 1) := by decide +kernel
theorem dX8_about_89 : dec mX8_about 89 = .ok (.iaload, 1) := by decide +kernel
theorem dX8_about_90 : dec mX8_about 90 = .ok (.ireturn, 1) := by decide +kernel
theorem dX8_about_91 : dec mX8_about 91 = .ok (.aload_n 0, 1) := by decide +kernel
theorem dX8_about_92 : dec mX8_about 92 = .ok (.getfield 13, 3) := by decide +kernel
theorem dX8_about_95 : dec mX8_about 95 = .ok (.invokestatic 40, 3) := by decide +kernel
theorem dX8_about_98 : dec mX8_about 98 = .ok (.ireturn, 1) := by decide +kernel
theorem dX8_about_99 : dec mX8_about 99 = .ok (.aload_n 0, 1) := by decide +kernel
theorem dX8_about_100 : dec mX8_about 100 = .ok (.getfield 13, 3) := by decide +kernel
theorem dX8_about_103 : dec mX8_about 103 = .ok (.invokestatic 44, 3) := by decide +kernel
theorem dX8_about_106 : dec mX8_about 106 = .ok (.ireturn, 1) := by decide +kernel
theorem dX8_about_107 : dec mX8_about 107 = .ok (.aload_n 0, 1) := by decide +kernel
theorem dX8_about_108 : dec mX8_about 108 = .ok (.getfield 13, 3) := by decide +kernel
theorem dX8_about_111 : dec mX8_about 111 = .ok (.invokestatic 54, 3) := by decide +kernel
theorem dX8_about_114 : dec mX8_about 114 = .ok (.ireturn, 1) := by decide +kernel
theorem dX8_about_115 : dec mX8_about 115 = .ok (.aload_n 0, 1) := by decide +kernel
theorem dX8_about_116 : dec mX8_about 116 = .ok (.getfield 13, 3) := by decide +kernel
theorem dX8_about_119 : dec mX8_about 119 = .ok (.invokestatic 146, 3) := by decide +kernel
theorem dX8_about_122 : dec mX8_about 122 = .ok (.ireturn, 1) := by decide +kernel
theorem dX8_about_123 : dec mX8_about 123 = .ok (.iconst 0, 1) := by decide +kernel
theorem dX8_about_124 : dec mX8_about 124 = .ok (.istore_n 3, 1) := by decide +kernel
theorem dX8_about_125 : dec mX8_about 125 = .ok (.iload_n 3, 1) := by decide +kernel
theorem dX8_about_126 : dec mX8_about 126 = .ok (.aload_n 0, 1) := by decide +kernel
theorem dX8_about_127 : dec mX8_about 127 = .ok (.getfield 13, 3) := by decide +kernel
theorem dX8_about_130 : dec mX8_about 130 = .ok (.invokestatic 47, 3) := by decide +kernel
theorem dX8_about_133 : dec mX8_about 133 = .ok (.if_icmp .ge 30, 3) := by decide +kernel
theorem dX8_about_136 : dec mX8_about 136 = .ok (.iload_n 2, 1) := by decide +kernel
theorem dX8_about_137 : dec mX8_about 137 = .ok (.aload_n 0, 1) := by decide +kernel
theorem dX8_about_138 : dec mX8_about 138 = .ok (.getfield 13, 3) := by decide +kernel
theorem dX8_about_141 : dec mX8_about 141 = .ok (.bipush 115, 2) := by decide +kernel
theorem dX8_about_143 : dec mX8_about 143 = .ok (.iload_n 3, 1) := by decide +kernel
theorem dX8_about_144 : dec mX8_about 144 = .ok (.iadd, 1) := by decide +kernel
theorem dX8_about_145 : dec mX8_about 145 = .ok (.iaload, 1) := by decide +kernel
theorem dX8_about_146 : dec mX8_about 146 = .ok (.iconst 1, 1) := by decide +kernel
theorem dX8_about_147 : dec mX8_about 147 = .ok (.if_icmp .ne 7, 3) := by decide +kernel
theorem dX8_about_150 : dec mX8_about 150 = .ok (.iconst 1, 1) := by decide +kernel
theorem dX8_about_151 : dec mX8_about 151 = .ok (.goto 4, 3) := by decide +kernel
theorem dX8_about_154 : dec mX8_about 154 = .ok (.iconst 0, 1) := by decide +kernel
theorem dX8_about_155 : dec mX8_about 155 = .ok (.iadd, 1) := by decide +kernel
theorem dX8_about_156 : dec mX8_about 156 = .ok (.istore_n 2, 1) := by decide +kernel
theorem dX8_about_157 : dec mX8_about 157 = .ok (.iinc 3 1, 3) := by decide +kernel
theorem dX8_about_160 : dec mX8_about 160 = .ok (.goto (-35), 3) := by decide +kernel
theorem dX8_about_163 : dec mX8_about 163 = .ok (.iload_n 2, 1) := by decide +kernel
theorem dX8_about_164 : dec mX8_about 164 = .ok (.ireturn, 1) := by decide +kernel
theorem dX8_about_165 : dec mX8_about 165 = .ok (.iconst 0, 1) := by decide +kernel
theorem dX8_about_166 : dec mX8_about 166 = .ok (.istore_n 3, 1) := by decide +kernel
theorem dX8_about_167 : dec mX8_about 167 = .ok (.iload_n 3, 1) := by decide +kernel
theorem dX8_about_168 : dec mX8_about 168 = .ok (.aload_n 0, 1) := by decide +kernel
theorem dX8_about_169 : dec mX8_about 169 = .ok (.getfield 13, 3) := by decide +kernel
theorem dX8_about_172 : dec mX8_about 172 = .ok (.invokestatic 47, 3) := by decide +kernel
theorem dX8_about_175 : dec mX8_about 175 = .ok (.if_icmp .ge 38, 3) := by decide +kernel
theorem dX8_about_178 : dec mX8_about 178 = .ok (.iload_n 2, 1) := by decide +kernel
theorem dX8_about_179 : dec mX8_about 179 = .ok (.aload_n 0, 1) := by decide +kernel
theorem dX8_about_180 : dec mX8_about 180 = .ok (.getfield 13, 3) := by decide +kernel
theorem dX8_about_183 : dec mX8_about 183 = .ok (.bipush 115, 2) := by decide +kernel
theorem dX8_about_185 : dec mX8_about 185 = .ok (.iload_n 3, 1) := by decide +kernel
theorem dX8_about_186 : dec mX8_about 186 = .ok (.iadd, 1) := by decide +kernel
theorem dX8_about_187 : dec mX8_about 187 = .ok (.iaload, 1) := by decide +kernel
theorem dX8_about_188 : dec mX8_about 188 = .ok (.ifCond .le 16, 3) := by decide +kernel
theorem dX8_about_191 : dec mX8_about 191 = .ok (.aload_n 0, 1) := by decide +kernel
theorem dX8_about_192 : dec mX8_about 192 = .ok (.getfield 13, 3) := by decide +kernel
theorem dX8_about_195 : dec mX8_about 195 = .ok (.sipush 339, 3) := by decide +kernel
theorem dX8_about_198 : dec mX8_about 198 = .ok (.iload_n 3, 1) := by decide +kernel
theorem dX8_about_199 : dec mX8_about 199 = .ok (.iadd, 1) := by decide +kernel
theorem dX8_about_200 : dec mX8_about 200 = .ok (.iaload, 1) := by decide +kernel
theorem dX8_about_201 : dec mX8_about 201 = .ok (.goto 4, 3) := by decide +kernel
theorem dX8_about_204 : dec mX8_about 204 = .ok (.iconst 0, 1) := by decide +kernel
theorem dX8_about_205 : dec mX8_about 205 = .ok (.iadd, 1) := by decide +kernel
theorem dX8_about_206 : dec mX8_about 206 = .ok (.istore_n 2, 1) := by decide +kernel
theorem dX8_about_207 : dec mX8_about 207 = .ok (.iinc 3 1, 3) := by decide +kernel
theorem dX8_about_210 : dec mX8_about 210 = .ok (.goto (-43), 3) := by decide +kernel
theorem dX8_about_213 : dec mX8_about 213 = .ok (.iload_n 2, 1) := by decide +kernel
theorem dX8_about_214 : dec mX8_about 214 = .ok (.ireturn, 1) := by decide +kernel
theorem dX8_about_215 : dec mX8_about 215 = .ok (.aload_n 0, 1) := by decide +kernel
theorem dX8_about_216 : dec mX8_about 216 = .ok (.getfield 13, 3) := by decide +kernel
theorem dX8_about_219 : dec mX8_about 219 = .ok (.invokestatic 149, 3) := by decide +kernel
theorem dX8_about_222 : dec mX8_about 222 = .ok (.ireturn, 1) := by decide +kernel
theorem dX8_about_223 : dec mX8_about 223 = .ok (.iconst 0, 1) := by decide +kernel
theorem dX8_about_224 : dec mX8_about 224 = .ok (.istore_n 3, 1) := by decide +kernel
theorem dX8_about_225 : dec mX8_about 225 = .ok (.iload_n 3, 1) := by decide +kernel
theorem dX8_about_226 : dec mX8_about 226 = .ok (.aload_n 0, 1) := by decide +kernel
theorem dX8_about_227 : dec mX8_about 227 = .ok (.getfield 13, 3) := by decide +kernel
theorem dX8_about_230 : dec mX8_about 230 = .ok (.invokestatic 47, 3) := by decide +kernel
theorem dX8_about_233 : dec mX8_about 233 = .ok (.if_icmp .ge 29, 3) := by decide +kernel
theorem dX8_about_236 : dec mX8_about 236 = .ok (.iload_n 2, 1) := by decide +kernel
theorem dX8_about_237 : dec mX8_about 237 = .ok (.aload_n 0, 1) := by decide +kernel
theorem dX8_about_238 : dec mX8_about 238 = .ok (.getfield 13, 3) := by decide +kernel
theorem dX8_about_241 : dec mX8_about 241 = .ok (.iload_n 3, 1) := by decide +kernel
theorem dX8_about_242 : dec mX8_about 242 = .ok (.invokestatic 91, 3) := by decide +kernel
theorem dX8_about_245 : dec mX8_about 245 = .ok (.iconst (-1), 1) := by decide +kernel
theorem dX8_about_246 : dec mX8_about 246 = .ok (.if_icmp .eq 7, 3) := by decide +kernel
theorem dX8_about_249 : dec mX8_about 249 = .ok (.iconst 1, 1) := by decide +kernel
theorem dX8_about_250 : dec mX8_about 250 = .ok (.goto 4, 3) := by decide +kernel
theorem dX8_about_253 : dec mX8_about 253 = .ok (.iconst 0, 1) := by decide +kernel
theorem dX8_about_254 : dec mX8_about 254 = .ok (.iadd, 1) := by decide +kernel
theorem dX8_about_255 : dec mX8_about 255 = .ok (.istore_n 2, 1) := by decide +kernel
theorem dX8_about_256 : dec mX8_about 256 = .ok (.iinc 3 1, 3) := by decide +kernel
theorem dX8_about_259 : dec mX8_about 259 = .ok (.goto (-34), 3) := by decide +kernel
theorem dX8_about_262 : dec mX8_about 262 = .ok (.iload_n 2, 1) := by decide +kernel
theorem dX8_about_263 : dec mX8_about 263 = .ok (.ireturn, 1) := by decide +kernel
theorem dX8_about_264 : dec mX8_about 264 = .ok (.aload_n 0, 1) := by decide +kernel
theorem dX8_about_265 : dec mX8_about 265 = .ok (.getfield 13, 3) := by decide +kernel
theorem dX8_about_268 : dec mX8_about 268 = .ok (.iconst 2, 1) := by decide +kernel
theorem dX8_about_269 : dec mX8_about 269 = .ok (.iaload, 1) := by decide +kernel
theorem dX8_about_270 : dec mX8_about 270 = .ok (.ireturn, 1) := by decide +kernel
theorem dX8_square_0 : dec mX8_square 0 = .ok (.aload_n 0, 1) := by decide +kernel
theorem dX8_square_1 : dec mX8_square 1 = .ok (.aload_n 0, 1) := by decide +kernel
theorem dX8_square_2 : dec mX8_square 2 = .ok (.getfield 13, 3) := by decide +kernel
theorem dX8_square_5 : dec mX8_square 5 = .ok (.iload_n 1, 1) := by decide +kernel
theorem dX8_square_6 : dec mX8_square 6 = .ok (.iload_n 2, 1) := by decide +kernel
theorem dX8_square_7 : dec mX8_square 7 = .ok (.invokestatic 158, 3) := by decide +kernel
theorem dX8_square_10 : dec mX8_square 10 = .ok (.ifCond .ne 7, 3) := by decide +kernel
theorem dX8_square_13 : dec mX8_square 13 = .ok (.iconst 1, 1) := by decide +kernel
theorem dX8_square_14 : dec mX8_square 14 = .ok (.goto 20, 3) := by decide +kernel
theorem dX8_square_17 : dec mX8_square 17 = .ok (.iload_n 3, 1) := by decide +kernel
theorem dX8_square_18 : dec mX8_square 18 = .ok (.i2l, 1) := by decide +kernel
theorem dX8_square_19 : dec mX8_square 19 = .ok (.lconst 0, 1) := by decide +kernel
theorem dX8_square_20 : dec mX8_square 20 = .ok (.ldc2_w 243, 3) := by decide +kernel
theorem dX8_square_23 : dec mX8_square 23 = .ok (.invokestatic 50, 3) := by decide +kernel
theorem dX8_square_26 : dec mX8_square 26 = .ok (.ifCond .eq 7, 3) := by decide +kernel
theorem dX8_square_29 : dec mX8_square 29 = .ok (.iconst 0, 1) := by decide +kernel
theorem dX8_square_30 : dec mX8_square 30 = .ok (.goto 4, 3) := by decide +kernel
theorem dX8_square_33 : dec mX8_square 33 = .ok (.iconst 2, 1) := by decide +kernel
theorem dX8_square_34 : dec mX8_square 34 = .ok (.invokevirtual 167, 3) := by decide +kernel
theorem dX8_square_37 : dec mX8_square 37 = .ok (.ifCond .eq 5, 3) := by decide +kernel
theorem dX8_square_40 : dec mX8_square 40 = .ok (.iconst 0, 1) := by decide +kernel
theorem dX8_square_41 : dec mX8_square 41 = .ok (.ireturn, 1) := by decide +kernel
theorem dX8_square_42 : dec mX8_square 42 = .ok (.aload_n 0, 1) := by decide +kernel
theorem dX8_square_43 : dec mX8_square 43 = .ok (.getfield 13, 3) := by decide +kernel
theorem dX8_square_46 : dec mX8_square 46 = .ok (.invokestatic 40, 3) := by decide +kernel
theorem dX8_square_49 : dec mX8_square 49 = .ok (.iload_n 2, 1) := by decide +kernel
theorem dX8_square_50 : dec mX8_square 50 = .ok (.imul, 1) := by decide +kernel
theorem dX8_square_51 : dec mX8_square 51 = .ok (.iload_n 1, 1) := by decide +kernel
theorem dX8_square_52 : dec mX8_square 52 = .ok (.iadd, 1) := by decide +kernel
theorem dX8_square_53 : dec mX8_square 53 = .ok (.istore 4, 2) := by decide +kernel
theorem dX8_square_55 : dec mX8_square 55 = .ok (.aload_n 0, 1) := by decide +kernel
theorem dX8_square_56 : dec mX8_square 56 = .ok (.getfield 13, 3) := by decide +kernel
theorem dX8_square_59 : dec mX8_square 59 = .ok (.iload 4, 2) := by decide +kernel
theorem dX8_square_61 : dec mX8_square 61 = .ok (.invokestatic 245, 3) := by decide +kernel
theorem dX8_square_64 : dec mX8_square 64 = .ok (.istore 5, 2) := by decide +kernel
theorem dX8_square_66 : dec mX8_square 66 = .ok (.iload_n 3, 1) := by decide +kernel
theorem dX8_square_67 : dec mX8_square 67 = .ok (.ifCond .ne 15, 3) := by decide +kernel
theorem dX8_square_70 : dec mX8_square 70 = .ok (.aload_n 0, 1) := by decide +kernel
theorem dX8_square_71 : dec mX8_square 71 = .ok (.getfield 13, 3) := by decide +kernel
theorem dX8_square_74 : dec mX8_square 74 = .ok (.iconst 3, 1) := by decide +kernel
theorem dX8_square_75 : dec mX8_square 75 = .ok (.iload 4, 2) := by decide +kernel
theorem dX8_square_77 : dec mX8_square 77 = .ok (.iadd, 1) := by decide +kernel
theorem dX8_square_78 : dec mX8_square 78 = .ok (.iaload, 1) := by decide +kernel
theorem dX8_square_79 : dec mX8_square 79 = .ok (.goto 58, 3) := by decide +kernel
theorem dX8_square_82 : dec mX8_square 82 = .ok (.iload_n 3, 1) := by decide +kernel
theorem dX8_square_83 : dec mX8_square 83 = .ok (.iconst 1, 1) := by decide +kernel
theorem dX8_square_84 : dec mX8_square 84 = .ok (.if_icmp .ne 15, 3) := by decide +kernel
theorem dX8_square_87 : dec mX8_square 87 = .ok (.aload_n 0, 1) := by decide +kernel
theorem dX8_square_88 : dec mX8_square 88 = .ok (.getfield 13, 3) := by decide +kernel
theorem dX8_square_91 : dec mX8_square 91 = .ok (.iload 5, 2) := by decide +kernel
theorem dX8_square_93 : dec mX8_square 93 = .ok (.invokestatic 57, 3) := by decide +kernel
theorem dX8_square_96 : dec mX8_square 96 = .ok (.goto 41, 3) := by decide +kernel
theorem dX8_square_99 : dec mX8_square 99 = .ok (.iload_n 3, 1) := by decide +kernel
theorem dX8_square_100 : dec mX8_square 100 = .ok (.iconst 2, 1) := by decide +kernel
theorem dX8_square_101 : dec mX8_square 101 = .ok (.if_icmp .ne 17, 3) := by decide +kernel
theorem dX8_square_104 : dec mX8_square 104 = .ok (.aload_n 0, 1) := by decide +kernel
theorem dX8_square_105 : dec mX8_square 105 = .ok (.getfield 13, 3) := by decide +kernel
theorem dX8_square_108 : dec mX8_square 108 = .ok (.iload 4, 2) := by decide +kernel
theorem dX8_square_110 : dec mX8_square 110 = .ok (.iload 5, 2) := by decide +kernel
theorem dX8_square_112 : dec mX8_square 112 = .ok (.invokestatic 67, 3) := by decide +kernel
theorem dX8_square_115 : dec mX8_square 115 = .ok (.goto 22, 3) := by decide +kernel
theorem dX8_square_118 : dec mX8_square 118 = .ok (.iload_n 3, 1) := by decide +kernel
theorem dX8_square_119 : dec mX8_square 119 = .ok (.iconst 3, 1) := by decide +kernel
theorem dX8_square_120 : dec mX8_square 120 = .ok (.if_icmp .ne 15, 3) := by decide +kernel
theorem dX8_square_123 : dec mX8_square 123 = .ok (.aload_n 0, 1) := by decide +kernel
theorem dX8_square_124 : dec mX8_square 124 = .ok (.getfield 13, 3) := by decide +kernel
theorem dX8_square_127 : dec mX8_square 127 = .ok (.iload 4, 2) := by decide +kernel
theorem dX8_square_129 : dec mX8_square 129 = .ok (.invokestatic 248, 3) := by decide +kernel
theorem dX8_square_132 : dec mX8_square 132 = .ok (.goto 5, 3) := by decide +kernel
theorem dX8_square_135 : dec mX8_square 135 = .ok (.iload 5, 2) := by decide +kernel
theorem dX8_square_137 : dec mX8_square 137 = .ok (.ireturn, 1) := by decide +kernel
theorem dX8_place_0 : dec mX8_place 0 = .ok (.aload_n 0, 1) := by decide +kernel
theorem dX8_place_1 : dec mX8_place 1 = .ok (.aload_n 0, 1) := by decide +kernel
theorem dX8_place_2 : dec mX8_place 2 = .ok (.getfield 13, 3) := by decide +kernel
theorem dX8_place_5 : dec mX8_place 5 = .ok (.iload_n 1, 1) := by decide +kernel
theorem dX8_place_6 : dec mX8_place 6 = .ok (.invokestatic 152, 3) := by decide +kernel
theorem dX8_place_9 : dec mX8_place 9 = .ok (.ifCond .ne 7, 3) := by decide +kernel
theorem dX8_place_12 : dec mX8_place 12 = .ok (.iconst 1, 1) := by decide +kernel
theorem dX8_place_13 : dec mX8_place 13 = .ok (.goto 20, 3) := by decide +kernel
theorem dX8_place_16 : dec mX8_place 16 = .ok (.iload_n 2, 1) := by decide +kernel
theorem dX8_place_17 : dec mX8_place 17 = .ok (.i2l, 1) := by decide +kernel
theorem dX8_place_18 : dec mX8_place 18 = .ok (.lconst 0, 1) := by decide +kernel
theorem dX8_place_19 : dec mX8_place 19 = .ok (.ldc2_w 251, 3) := by decide +kernel
theorem dX8_place_22 : dec mX8_place 22 = .ok (.invokestatic 50, 3) := by decide +kernel
theorem dX8_place_25 : dec mX8_place 25 = .ok (.ifCond .eq 7, 3) := by decide +kernel
theorem dX8_place_28 : dec mX8_place 28 = .ok (.iconst 0, 1) := by decide +kernel
theorem dX8_place_29 : dec mX8_place 29 = .ok (.goto 4, 3) := by decide +kernel
theorem dX8_place_32 : dec mX8_place 32 = .ok (.iconst 2, 1) := by decide +kernel
theorem dX8_place_33 : dec mX8_place 33 = .ok (.invokevirtual 167, 3) := by decide +kernel
theorem dX8_place_36 : dec mX8_place 36 = .ok (.ifCond .eq 5, 3) := by decide +kernel
theorem dX8_place_39 : dec mX8_place 39 = .ok (.iconst 0, 1) := by decide +kernel
theorem dX8_place_40 : dec mX8_place 40 = .ok (.ireturn, 1) := by decide +kernel
theorem dX8_place_41 : dec mX8_place 41 = .ok (.aload_n 0, 1) := by decide +kernel
theorem dX8_place_42 : dec mX8_place 42 = .ok (.getfield 13, 3) := by decide +kernel
theorem dX8_place_45 : dec mX8_place 45 = .ok (.iload_n 1, 1) := by decide +kernel
theorem dX8_place_46 : dec mX8_place 46 = .ok (.invokestatic 123, 3) := by decide +kernel
theorem dX8_place_49 : dec mX8_place 49 = .ok (.istore_n 3, 1) := by decide +kernel
theorem dX8_place_50 : dec mX8_place 50 = .ok (.iload_n 2, 1) := by decide +kernel
theorem dX8_place_51 : dec mX8_place 51 = .ok (.tableswitch 90 0 5 #[37, 39, 48, 59, 70, 79], 37) := by decide +kernel
theorem dX8_place_88 : dec mX8_place 88 = .ok (.iload_n 3, 1) := by decide +kernel
theorem dX8_place_89 : dec mX8_place 89 = .ok (.ireturn, 1) := by decide +kernel
theorem dX8_place_90 : dec mX8_place 90 = .ok (.aload_n 0, 1) := by decide +kernel
theorem dX8_place_91 : dec mX8_place 91 = .ok (.getfield 13, 3) := by decide +kernel
theorem dX8_place_94 : dec mX8_place 94 = .ok (.iload_n 3, 1) := by decide +kernel
theorem dX8_place_95 : dec mX8_place 95 = .ok (.invokestatic 82, 3) := by decide +kernel
theorem dX8_place_98 : dec mX8_place 98 = .ok (.ireturn, 1) := by decide +kernel
theorem dX8_place_99 : dec mX8_place 99 = .ok (.aload_n 0, 1) := by decide +kernel
theorem dX8_place_100 : dec mX8_place 100 = .ok (.getfield 13, 3) := by decide +kernel
theorem dX8_place_103 : dec mX8_place 103 = .ok (.sipush 227, 3) := by decide +kernel
theorem dX8_place_106 : dec mX8_place 106 = .ok (.iload_n 3, 1) := by decide +kernel
theorem dX8_place_107 : dec mX8_place 107 = .ok (.iadd, 1) := by decide +kernel
theorem dX8_place_108 : dec mX8_place 108 = .ok (.iaload, 1) := by decide +kernel
theorem dX8_place_109 : dec mX8_place 109 = .ok (.ireturn, 1) := by decide +kernel
theorem dX8_place_110 : dec mX8_place 110 = .ok (.aload_n 0, 1) := by decide +kernel
theorem dX8_place_111 : dec mX8_place 111 = .ok (.getfield 13, 3) := by decide +kernel
theorem dX8_place_114 : dec mX8_place 114 = .ok (.sipush 339, 3) := by decide +kernel
theorem dX8_place_117 : dec mX8_place 117 = .ok (.iload_n 3, 1) := by decide +kernel
theorem dX8_place_118 : dec mX8_place 118 = .ok (.iadd, 1) := by decide +kernel
theorem dX8_place_119 : dec mX8_place 119 = .ok (.iaload, 1) := by decide +kernel
theorem dX8_place_120 : dec mX8_place 120 = .ok (.ireturn, 1) := by decide +kernel
theorem dX8_place_121 : dec mX8_place 121 = .ok (.aload_n 0, 1) := by decide +kernel
theorem dX8_place_122 : dec mX8_place 122 = .ok (.getfield 13, 3) := by decide +kernel
theorem dX8_place_125 : dec mX8_place 125 = .ok (.iload_n 3, 1) := by decide +kernel
theorem dX8_place_126 : dec mX8_place 126 = .ok (.invokestatic 85, 3) := by decide +kernel
theorem dX8_place_129 : dec mX8_place 129 = .ok (.ireturn, 1) := by decide +kernel
theorem dX8_place_130 : dec mX8_place 130 = .ok (.aload_n 0, 1) := by decide +kernel
theorem dX8_place_131 : dec mX8_place 131 = .ok (.getfield 13, 3) := by decide +kernel
theorem dX8_place_134 : dec mX8_place 134 = .ok (.sipush 451, 3) := by decide +kernel
theorem dX8_place_137 : dec mX8_place 137 = .ok (.iload_n 3, 1) := by decide +kernel
theorem dX8_place_138 : dec mX8_place 138 = .ok (.iadd, 1) := by decide +kernel
theorem dX8_place_139 : dec mX8_place 139 = .ok (.iaload, 1) := by decide +kernel
theorem dX8_place_140 : dec mX8_place 140 = .ok (.ireturn, 1) := by decide +kernel
theorem dX8_place_141 : dec mX8_place 141 = .ok (.aload_n 0, 1) := by decide +kernel
theorem dX8_place_142 : dec mX8_place 142 = .ok (.getfield 13, 3) := by decide +kernel
theorem dX8_place_145 : dec mX8_place 145 = .ok (.bipush 115, 2) := by decide +kernel
theorem dX8_place_147 : dec mX8_place 147 = .ok (.iload_n 3, 1) := by decide +kernel
theorem dX8_place_148 : dec mX8_place 148 = .ok (.iadd, 1) := by decide +kernel
theorem dX8_place_149 : dec mX8_place 149 = .ok (.iaload, 1) := by decide +kernel
theorem dX8_place_150 : dec mX8_place 150 = .ok (.iconst 1, 1) := by decide +kernel
theorem dX8_place_151 : dec mX8_place 151 = .ok (.if_icmp .ne 7, 3) := by decide +kernel
theorem dX8_place_154 : dec mX8_place 154 = .ok (.iconst 1, 1) := by decide +kernel
theorem dX8_place_155 : dec mX8_place 155 = .ok (.goto 4, 3) := by decide +kernel
theorem dX8_place_158 : dec mX8_place 158 = .ok (.iconst 0, 1) := by decide +kernel
theorem dX8_place_159 : dec mX8_place 159 = .ok (.ireturn, 1) := by decide +kernel
theorem dX8_whereLies_0 : dec mX8_whereLies 0 = .ok (.iconst 0, 1) := by decide +kernel
theorem dX8_whereLies_1 : dec mX8_whereLies 1 = .ok (.istore_n 2, 1) := by decide +kernel
theorem dX8_whereLies_2 : dec mX8_whereLies 2 = .ok (.iconst 0, 1) := by decide +kernel
theorem dX8_whereLies_3 : dec mX8_whereLies 3 = .ok (.istore_n 3, 1) := by decide +kernel
theorem dX8_whereLies_4 : dec mX8_whereLies 4 = .ok (.iload_n 3, 1) := by decide +kernel
theorem dX8_whereLies_5 : dec mX8_whereLies 5 = .ok (.aload_n 0, 1) := by decide +kernel
theorem dX8_whereLies_6 : dec mX8_whereLies 6 = .ok (.invokestatic 47, 3) := by decide +kernel
theorem dX8_whereLies_9 : dec mX8_whereLies 9 = .ok (.if_icmp .ge 34, 3) := by decide +kernel
theorem dX8_whereLies_12 : dec mX8_whereLies 12 = .ok (.aload_n 0, 1) := by decide +kernel
theorem dX8_whereLies_13 : dec mX8_whereLies 13 = .ok (.bipush 115, 2) := by decide +kernel
theorem dX8_whereLies_15 : dec mX8_whereLies 15 = .ok (.iload_n 3, 1) := by decide +kernel
theorem dX8_whereLies_16 : dec mX8_whereLies 16 = .ok (.iadd, 1) := by decide +kernel
theorem dX8_whereLies_17 : dec mX8_whereLies 17 = .ok (.iaload, 1) := by decide +kernel
theorem dX8_whereLies_18 : dec mX8_whereLies 18 = .ok (.ifCond .le 19, 3) := by decide +kernel
theorem dX8_whereLies_21 : dec mX8_whereLies 21 = .ok (.aload_n 0, 1) := by decide +kernel
theorem dX8_whereLies_22 : dec mX8_whereLies 22 = .ok (.sipush 227, 3) := by decide +kernel
theorem dX8_whereLies_25 : dec mX8_whereLies 25 = .ok (.iload_n 3, 1) := by decide +kernel
theorem dX8_whereLies_26 : dec mX8_whereLies 26 = .ok (.iadd, 1) := by decide +kernel
theorem dX8_whereLies_27 : dec mX8_whereLies 27 = .ok (.iaload, 1) := by decide +kernel
theorem dX8_whereLies_28 : dec mX8_whereLies 28 = .ok (.iload_n 1, 1) := by decide +kernel
theorem dX8_whereLies_29 : dec mX8_whereLies 29 = .ok (.if_icmp .ne 5, 3) := by decide +kernel
theorem dX8_whereLies_32 : dec mX8_whereLies 32 = .ok (.iload_n 2, 1) := by decide +kernel
theorem dX8_whereLies_33 : dec mX8_whereLies 33 = .ok (.ireturn, 1) := by decide +kernel
theorem dX8_whereLies_34 : dec mX8_whereLies 34 = .ok (.iinc 2 1, 3) := by decide +kernel
theorem dX8_whereLies_37 : dec mX8_whereLies 37 = .ok (.iinc 3 1, 3) := by decide +kernel
theorem dX8_whereLies_40 : dec mX8_whereLies 40 = .ok (.goto (-36), 3) := by decide +kernel
theorem dX8_whereLies_43 : dec mX8_whereLies 43 = .ok (.iconst (-1), 1) := by decide +kernel
theorem dX8_whereLies_44 : dec mX8_whereLies 44 = .ok (.ireturn, 1) := by decide +kernel
theorem dX8_tile_0 : dec mX8_tile 0 = .ok (.aload_n 0, 1) := by decide +kernel
theorem dX8_tile_1 : dec mX8_tile 1 = .ok (.aload_n 0, 1) := by decide +kernel
theorem dX8_tile_2 : dec mX8_tile 2 = .ok (.getfield 13, 3) := by decide +kernel
theorem dX8_tile_5 : dec mX8_tile 5 = .ok (.iload_n 1, 1) := by decide +kernel
theorem dX8_tile_6 : dec mX8_tile 6 = .ok (.invokestatic 152, 3) := by decide +kernel
theorem dX8_tile_9 : dec mX8_tile 9 = .ok (.ifCond .ne 7, 3) := by decide +kernel
theorem dX8_tile_12 : dec mX8_tile 12 = .ok (.iconst 1, 1) := by decide +kernel
theorem dX8_tile_13 : dec mX8_tile 13 = .ok (.goto 20, 3) := by decide +kernel
theorem dX8_tile_16 : dec mX8_tile 16 = .ok (.iload_n 2, 1) := by decide +kernel
theorem dX8_tile_17 : dec mX8_tile 17 = .ok (.i2l, 1) := by decide +kernel
theorem dX8_tile_18 : dec mX8_tile 18 = .ok (.lconst 0, 1) := by decide +kernel
theorem dX8_tile_19 : dec mX8_tile 19 = .ok (.ldc2_w 253, 3) := by decide +kernel
theorem dX8_tile_22 : dec mX8_tile 22 = .ok (.invokestatic 50, 3) := by decide +kernel
theorem dX8_tile_25 : dec mX8_tile 25 = .ok (.ifCond .eq 7, 3) := by decide +kernel
theorem dX8_tile_28 : dec mX8_tile 28 = .ok (.iconst 0, 1) := by decide +kernel
theorem dX8_tile_29 : dec mX8_tile 29 = .ok (.goto 4, 3) := by decide +kernel
theorem dX8_tile_32 : dec mX8_tile 32 = .ok (.iconst 2, 1) := by decide +kernel
theorem dX8_tile_33 : dec mX8_tile 33 = .ok (.invokevirtual 167, 3) := by decide +kernel
theorem dX8_tile_36 : dec mX8_tile 36 = .ok (.ifCond .eq 5, 3) := by decide +kernel
theorem dX8_tile_39 : dec mX8_tile 39 = .ok (.iconst 0, 1) := by decide +kernel
theorem dX8_tile_40 : dec mX8_tile 40 = .ok (.ireturn, 1) := by decide +kernel
theorem dX8_tile_41 : dec mX8_tile 41 = .ok (.iload_n 2, 1) := by decide +kernel
theorem dX8_tile_42 : dec mX8_tile 42 = .ok (.ifCond .ne 14, 3) := by decide +kernel
theorem dX8_tile_45 : dec mX8_tile 45 = .ok (.aload_n 0, 1) := by decide +kernel
theorem dX8_tile_46 : dec mX8_tile 46 = .ok (.getfield 13, 3) := by decide +kernel
theorem dX8_tile_49 : dec mX8_tile 49 = .ok (.iload_n 1, 1) := by decide +kernel
theorem dX8_tile_50 : dec mX8_tile 50 = .ok (.invokestatic 64, 3) := by decide +kernel
theorem dX8_tile_53 : dec mX8_tile 53 = .ok (.goto 27, 3) := by decide +kernel
theorem dX8_tile_56 : dec mX8_tile 56 = .ok (.iload_n 2, 1) := by decide +kernel
theorem dX8_tile_57 : dec mX8_tile 57 = .ok (.iconst 1, 1) := by decide +kernel
theorem dX8_tile_58 : dec mX8_tile 58 = .ok (.if_icmp .ne 14, 3) := by decide +kernel
theorem dX8_tile_61 : dec mX8_tile 61 = .ok (.aload_n 0, 1) := by decide +kernel
theorem dX8_tile_62 : dec mX8_tile 62 = .ok (.getfield 13, 3) := by decide +kernel
theorem dX8_tile_65 : dec mX8_tile 65 = .ok (.iload_n 1, 1) := by decide +kernel
theorem dX8_tile_66 : dec mX8_tile 66 = .ok (.invokestatic 61, 3) := by decide +kernel
theorem dX8_tile_69 : dec mX8_tile 69 = .ok (.goto 11, 3) := by decide +kernel
theorem dX8_tile_72 : dec mX8_tile 72 = .ok (.aload_n 0, 1) := by decide +kernel
theorem dX8_tile_73 : dec mX8_tile 73 = .ok (.getfield 13, 3) := by decide +kernel
theorem dX8_tile_76 : dec mX8_tile 76 = .ok (.iload_n 1, 1) := by decide +kernel
theorem dX8_tile_77 : dec mX8_tile 77 = .ok (.invokestatic 255, 3) := by decide +kernel
theorem dX8_tile_80 : dec mX8_tile 80 = .ok (.ireturn, 1) := by decide +kernel
theorem dX8_remember_0 : dec mX8_remember 0 = .ok (.aload_n 0, 1) := by decide +kernel
theorem dX8_remember_1 : dec mX8_remember 1 = .ok (.getfield 238, 3) := by decide +kernel
theorem dX8_remember_4 : dec mX8_remember 4 = .ok (.bipush 14, 2) := by decide +kernel
theorem dX8_remember_6 : dec mX8_remember 6 = .ok (.if_icmp .ne 44, 3) := by decide +kernel
theorem dX8_remember_9 : dec mX8_remember 9 = .ok (.iconst 0, 1) := by decide +kernel
theorem dX8_remember_10 : dec mX8_remember 10 = .ok (.istore_n 1, 1) := by decide +kernel
theorem dX8_remember_11 : dec mX8_remember 11 = .ok (.iload_n 1, 1) := by decide +kernel
theorem dX8_remember_12 : dec mX8_remember 12 = .ok (.sipush 7319, 3) := by decide +kernel
theorem dX8_remember_15 : dec mX8_remember 15 = .ok (.if_icmp .ge 25, 3) := by decide +kernel
theorem dX8_remember_18 : dec mX8_remember 18 = .ok (.aload_n 0, 1) := by decide +kernel
theorem dX8_remember_19 : dec mX8_remember 19 = .ok (.getfield 19, 3) := by decide +kernel
theorem dX8_remember_22 : dec mX8_remember 22 = .ok (.iload_n 1, 1) := by decide +kernel
theorem dX8_remember_23 : dec mX8_remember 23 = .ok (.aload_n 0, 1) := by decide +kernel
theorem dX8_remember_24 : dec mX8_remember 24 = .ok (.getfield 19, 3) := by decide +kernel
theorem dX8_remember_27 : dec mX8_remember 27 = .ok (.iload_n 1, 1) := by decide +kernel
theorem dX8_remember_28 : dec mX8_remember 28 = .ok (.sipush 563, 3) := by decide +kernel
theorem dX8_remember_31 : dec mX8_remember 31 = .ok (.iadd, 1) := by decide +kernel
theorem dX8_remember_32 : dec mX8_remember 32 = .ok (.iaload, 1) := by decide +kernel
theorem dX8_remember_33 : dec mX8_remember 33 = .ok (.iastore, 1) := by decide +kernel
theorem dX8_remember_34 : dec mX8_remember 34 = .ok (.iinc 1 1, 3) := by decide +kernel
theorem dX8_remember_37 : dec mX8_remember 37 = .ok (.goto (-26), 3) := by decide +kernel
theorem dX8_remember_40 : dec mX8_remember 40 = .ok (.aload_n 0, 1) := by decide +kernel
theorem dX8_remember_41 : dec mX8_remember 41 = .ok (.dup, 1) := by decide +kernel
theorem dX8_remember_42 : dec mX8_remember 42 = .ok (.getfield 238, 3) := by decide +kernel
theorem dX8_remember_45 : dec mX8_remember 45 = .ok (.iconst 1, 1) := by decide +kernel
theorem dX8_remember_46 : dec mX8_remember 46 = .ok (.isub, 1) := by decide +kernel
theorem dX8_remember_47 : dec mX8_remember 47 = .ok (.putfield 238, 3) := by decide +kernel
theorem dX8_remember_50 : dec mX8_remember 50 = .ok (.aload_n 0, 1) := by decide +kernel
theorem dX8_remember_51 : dec mX8_remember 51 = .ok (.getfield 13, 3) := by decide +kernel
theorem dX8_remember_54 : dec mX8_remember 54 = .ok (.iconst 0, 1) := by decide +kernel
theorem dX8_remember_55 : dec mX8_remember 55 = .ok (.aload_n 0, 1) := by decide +kernel
theorem dX8_remember_56 : dec mX8_remember 56 = .ok (.getfield 19, 3) := by decide +kernel
theorem dX8_remember_59 : dec mX8_remember 59 = .ok (.sipush 563, 3) := by decide +kernel
theorem dX8_remember_62 : dec mX8_remember 62 = .ok (.aload_n 0, 1) := by decide +kernel
theorem dX8_remember_63 : dec mX8_remember 63 = .ok (.getfield 238, 3) := by decide +kernel
theorem dX8_remember_66 : dec mX8_remember 66 = .ok (.imul, 1) := by decide +kernel
theorem dX8_remember_67 : dec mX8_remember 67 = .ok (.invokestatic 234, 3) := by decide +kernel
theorem dX8_remember_70 : dec mX8_remember 70 = .ok (.aload_n 0, 1) := by decide +kernel
theorem dX8_remember_71 : dec mX8_remember 71 = .ok (.dup, 1) := by decide +kernel
theorem dX8_remember_72 : dec mX8_remember 72 = .ok (.getfield 238, 3) := by decide +kernel
theorem dX8_remember_75 : dec mX8_remember 75 = .ok (.iconst 1, 1) := by decide +kernel
theorem dX8_remember_76 : dec mX8_remember 76 = .ok (.iadd, 1) := by decide +kernel
theorem dX8_remember_77 : dec mX8_remember 77 = .ok (.putfield 238, 3) := by decide +kernel
theorem dX8_remember_80 : dec mX8_remember 80 = .ok (.return_, 1) := by decide +kernel
theorem dX8_begin_0 : dec mX8_begin 0 = .ok (.aload_n 0, 1) := by decide +kernel
theorem dX8_begin_1 : dec mX8_begin 1 = .ok (.iload_n 1, 1) := by decide +kernel
theorem dX8_begin_2 : dec mX8_begin 2 = .ok (.i2l, 1) := by decide +kernel
theorem dX8_begin_3 : dec mX8_begin 3 = .ok (.ldc2_w 253, 3) := by decide +kernel
theorem dX8_begin_6 : dec mX8_begin 6 = .ok (.ldc2_w 251, 3) := by decide +kernel
theorem dX8_begin_9 : dec mX8_begin 9 = .ok (.invokestatic 50, 3) := by decide +kernel
theorem dX8_begin_12 : dec mX8_begin 12 = .ok (.ifCond .eq 19, 3) := by decide +kernel
theorem dX8_begin_15 : dec mX8_begin 15 = .ok (.iload_n 2, 1) := by decide +kernel
theorem dX8_begin_16 : dec mX8_begin 16 = .ok (.i2l, 1) := by decide +kernel
theorem dX8_begin_17 : dec mX8_begin 17 = .ok (.lconst 1, 1) := by decide +kernel
theorem dX8_begin_18 : dec mX8_begin 18 = .ok (.ldc2_w 253, 3) := by decide +kernel
theorem dX8_begin_21 : dec mX8_begin 21 = .ok (.invokestatic 50, 3) := by decide +kernel
theorem dX8_begin_24 : dec mX8_begin 24 = .ok (.ifCond .eq 7, 3) := by decide +kernel
theorem dX8_begin_27 : dec mX8_begin 27 = .ok (.iconst 0, 1) := by decide +kernel
theorem dX8_begin_28 : dec mX8_begin 28 = .ok (.goto 4, 3) := by decide +kernel
theorem dX8_begin_31 : dec mX8_begin 31 = .ok (.iconst 1, 1) := by decide +kernel
theorem dX8_begin_32 : dec mX8_begin 32 = .ok (.invokevirtual 167, 3) := by decide +kernel
theorem dX8_begin_35 : dec mX8_begin 35 = .ok (.ifCond .eq 5, 3) := by decide +kernel
theorem dX8_begin_38 : dec mX8_begin 38 = .ok (.iconst 0, 1) := by decide +kernel
theorem dX8_begin_39 : dec mX8_begin 39 = .ok (.ireturn, 1) := by decide +kernel
theorem dX8_begin_40 : dec mX8_begin 40 = .ok (.aload_n 0, 1) := by decide +kernel
theorem dX8_begin_41 : dec mX8_begin 41 = .ok (.invokevirtual 258, 3) := by decide +kernel
theorem dX8_begin_44 : dec mX8_begin 44 = .ok (.aload_n 0, 1) := by decide +kernel
theorem dX8_begin_45 : dec mX8_begin 45 = .ok (.getfield 13, 3) := by decide +kernel
theorem dX8_begin_48 : dec mX8_begin 48 = .ok (.iload_n 1, 1) := by decide +kernel
theorem dX8_begin_49 : dec mX8_begin 49 = .ok (.iload_n 2, 1) := by decide +kernel
theorem dX8_begin_50 : dec mX8_begin 50 = .ok (.invokestatic 32, 3) := by decide +kernel
theorem dX8_begin_53 : dec mX8_begin 53 = .ok (.aload_n 0, 1) := by decide +kernel
theorem dX8_begin_54 : dec mX8_begin 54 = .ok (.getfield 13, 3) := by decide +kernel
theorem dX8_begin_57 : dec mX8_begin 57 = .ok (.invokestatic 54, 3) := by decide +kernel
theorem dX8_begin_60 : dec mX8_begin 60 = .ok (.ireturn, 1) := by decide +kernel
theorem dX8_grey_0 : dec mX8_grey 0 = .ok (.aload_n 0, 1) := by decide +kernel
theorem dX8_grey_1 : dec mX8_grey 1 = .ok (.aload_n 0, 1) := by decide +kernel
theorem dX8_grey_2 : dec mX8_grey 2 = .ok (.getfield 13, 3) := by decide +kernel
theorem dX8_grey_5 : dec mX8_grey 5 = .ok (.iload_n 1, 1) := by decide +kernel
theorem dX8_grey_6 : dec mX8_grey 6 = .ok (.iload_n 2, 1) := by decide +kernel
theorem dX8_grey_7 : dec mX8_grey 7 = .ok (.invokestatic 158, 3) := by decide +kernel
theorem dX8_grey_10 : dec mX8_grey 10 = .ok (.ifCond .ne 7, 3) := by decide +kernel
theorem dX8_grey_13 : dec mX8_grey 13 = .ok (.iconst 1, 1) := by decide +kernel
theorem dX8_grey_14 : dec mX8_grey 14 = .ok (.goto 20, 3) := by decide +kernel
theorem dX8_grey_17 : dec mX8_grey 17 = .ok (.iload_n 3, 1) := by decide +kernel
theorem dX8_grey_18 : dec mX8_grey 18 = .ok (.i2l, 1) := by decide +kernel
theorem dX8_grey_19 : dec mX8_grey 19 = .ok (.lconst 0, 1) := by decide +kernel
theorem dX8_grey_20 : dec mX8_grey 20 = .ok (.ldc2_w 261, 3) := by decide +kernel
theorem dX8_grey_23 : dec mX8_grey 23 = .ok (.invokestatic 50, 3) := by decide +kernel
theorem dX8_grey_26 : dec mX8_grey 26 = .ok (.ifCond .eq 7, 3) := by decide +kernel
theorem dX8_grey_29 : dec mX8_grey 29 = .ok (.iconst 0, 1) := by decide +kernel
theorem dX8_grey_30 : dec mX8_grey 30 = .ok (.goto 4, 3) := by decide +kernel
theorem dX8_grey_33 : dec mX8_grey 33 = .ok (.iconst 2, 1) := by decide +kernel
theorem dX8_grey_34 : dec mX8_grey 34 = .ok (.invokevirtual 167, 3) := by decide +kernel
theorem dX8_grey_37 : dec mX8_grey 37 = .ok (.ifCond .eq 5, 3) := by decide +kernel
theorem dX8_grey_40 : dec mX8_grey 40 = .ok (.iconst 0, 1) := by decide +kernel
theorem dX8_grey_41 : dec mX8_grey 41 = .ok (.ireturn, 1) := by decide +kernel
theorem dX8_grey_42 : dec mX8_grey 42 = .ok (.aload_n 0, 1) := by decide +kernel
theorem dX8_grey_43 : dec mX8_grey 43 = .ok (.invokevirtual 258, 3) := by decide +kernel
theorem dX8_grey_46 : dec mX8_grey 46 = .ok (.aload_n 0, 1) := by decide +kernel
theorem dX8_grey_47 : dec mX8_grey 47 = .ok (.getfield 13, 3) := by decide +kernel
theorem dX8_grey_50 : dec mX8_grey 50 = .ok (.iload_n 1, 1) := by decide +kernel
theorem dX8_grey_51 : dec mX8_grey 51 = .ok (.iload_n 2, 1) := by decide +kernel
theorem dX8_grey_52 : dec mX8_grey 52 = .ok (.iload_n 3, 1) := by decide +kernel
theorem dX8_grey_53 : dec mX8_grey 53 = .ok (.invokestatic 195, 3) := by decide +kernel
theorem dX8_grey_56 : dec mX8_grey 56 = .ok (.ireturn, 1) := by decide +kernel
theorem dX8_fade_0 : dec mX8_fade 0 = .ok (.aload_n 0, 1) := by decide +kernel
theorem dX8_fade_1 : dec mX8_fade 1 = .ok (.iload_n 1, 1) := by decide +kernel
theorem dX8_fade_2 : dec mX8_fade 2 = .ok (.i2l, 1) := by decide +kernel
theorem dX8_fade_3 : dec mX8_fade 3 = .ok (.lconst 0, 1) := by decide +kernel
theorem dX8_fade_4 : dec mX8_fade 4 = .ok (.ldc2_w 261, 3) := by decide +kernel
theorem dX8_fade_7 : dec mX8_fade 7 = .ok (.invokestatic 50, 3) := by decide +kernel
theorem dX8_fade_10 : dec mX8_fade 10 = .ok (.ifCond .eq 19, 3) := by decide +kernel
theorem dX8_fade_13 : dec mX8_fade 13 = .ok (.iload_n 2, 1) := by decide +kernel
theorem dX8_fade_14 : dec mX8_fade 14 = .ok (.i2l, 1) := by decide +kernel
theorem dX8_fade_15 : dec mX8_fade 15 = .ok (.lconst 0, 1) := by decide +kernel
theorem dX8_fade_16 : dec mX8_fade 16 = .ok (.ldc2_w 261, 3) := by decide +kernel
theorem dX8_fade_19 : dec mX8_fade 19 = .ok (.invokestatic 50, 3) := by decide +kernel
theorem dX8_fade_22 : dec mX8_fade 22 = .ok (.ifCond .eq 7, 3) := by decide +kernel
theorem dX8_fade_25 : dec mX8_fade 25 = .ok (.iconst 0, 1) := by decide +kernel
theorem dX8_fade_26 : dec mX8_fade 26 = .ok (.goto 4, 3) := by decide +kernel
theorem dX8_fade_29 : dec mX8_fade 29 = .ok (.iconst 1, 1) := by decide +kernel
theorem dX8_fade_30 : dec mX8_fade 30 = .ok (.invokevirtual 167, 3) := by decide +kernel
theorem dX8_fade_33 : dec mX8_fade 33 = .ok (.ifCond .eq 5, 3) := by decide +kernel
theorem dX8_fade_36 : dec mX8_fade 36 = .ok (.iconst 0, 1) := by decide +kernel
theorem dX8_fade_37 : dec mX8_fade 37 = .ok (.ireturn, 1) := by decide +kernel
theorem dX8_fade_38 : dec mX8_fade 38 = .ok (.aload_n 0, 1) := by decide +kernel
theorem dX8_fade_39 : dec mX8_fade 39 = .ok (.invokevirtual 258, 3) := by decide +kernel
theorem dX8_fade_42 : dec mX8_fade 42 = .ok (.aload_n 0, 1) := by decide +kernel
theorem dX8_fade_43 : dec mX8_fade 43 = .ok (.getfield 13, 3) := by decide +kernel
theorem dX8_fade_46 : dec mX8_fade 46 = .ok (.iload_n 1, 1) := by decide +kernel
theorem dX8_fade_47 : dec mX8_fade 47 = .ok (.iload_n 2, 1) := by decide +kernel
theorem dX8_fade_48 : dec mX8_fade 48 = .ok (.invokestatic 179, 3) := by decide +kernel
theorem dX8_fade_51 : dec mX8_fade 51 = .ok (.aload_n 0, 1) := by decide +kernel
theorem dX8_fade_52 : dec mX8_fade 52 = .ok (.getfield 13, 3) := by decide +kernel
theorem dX8_fade_55 : dec mX8_fade 55 = .ok (.invokestatic 146, 3) := by decide +kernel
theorem dX8_fade_58 : dec mX8_fade 58 = .ok (.ireturn, 1) := by decide +kernel
theorem dX8_turn_0 : dec mX8_turn 0 = .ok (.aload_n 0, 1) := by decide +kernel
theorem dX8_turn_1 : dec mX8_turn 1 = .ok (.aload_n 0, 1) := by decide +kernel
theorem dX8_turn_2 : dec mX8_turn 2 = .ok (.getfield 13, 3) := by decide +kernel
theorem dX8_turn_5 : dec mX8_turn 5 = .ok (.iload_n 1, 1) := by decide +kernel
theorem dX8_turn_6 : dec mX8_turn 6 = .ok (.invokestatic 152, 3) := by decide +kernel
theorem dX8_turn_9 : dec mX8_turn 9 = .ok (.ifCond .ne 7, 3) := by decide +kernel
theorem dX8_turn_12 : dec mX8_turn 12 = .ok (.iconst 1, 1) := by decide +kernel
theorem dX8_turn_13 : dec mX8_turn 13 = .ok (.goto 19, 3) := by decide +kernel
theorem dX8_turn_16 : dec mX8_turn 16 = .ok (.aload_n 0, 1) := by decide +kernel
theorem dX8_turn_17 : dec mX8_turn 17 = .ok (.getfield 13, 3) := by decide +kernel
theorem dX8_turn_20 : dec mX8_turn 20 = .ok (.iload_n 1, 1) := by decide +kernel
theorem dX8_turn_21 : dec mX8_turn 21 = .ok (.invokestatic 155, 3) := by decide +kernel
theorem dX8_turn_24 : dec mX8_turn 24 = .ok (.ifCond .eq 7, 3) := by decide +kernel
theorem dX8_turn_27 : dec mX8_turn 27 = .ok (.iconst 0, 1) := by decide +kernel
theorem dX8_turn_28 : dec mX8_turn 28 = .ok (.goto 4, 3) := by decide +kernel
theorem dX8_turn_31 : dec mX8_turn 31 = .ok (.iconst 2, 1) := by decide +kernel
theorem dX8_turn_32 : dec mX8_turn 32 = .ok (.invokevirtual 167, 3) := by decide +kernel
theorem dX8_turn_35 : dec mX8_turn 35 = .ok (.ifCond .eq 5, 3) := by decide +kernel
theorem dX8_turn_38 : dec mX8_turn 38 = .ok (.iconst 0, 1) := by decide +kernel
theorem dX8_turn_39 : dec mX8_turn 39 = .ok (.ireturn, 1) := by decide +kernel
theorem dX8_turn_40 : dec mX8_turn 40 = .ok (.aload_n 0, 1) := by decide +kernel
theorem dX8_turn_41 : dec mX8_turn 41 = .ok (.invokevirtual 258, 3) := by decide +kernel
theorem dX8_turn_44 : dec mX8_turn 44 = .ok (.aload_n 0, 1) := by decide +kernel
theorem dX8_turn_45 : dec mX8_turn 45 = .ok (.getfield 13, 3) := by decide +kernel
theorem dX8_turn_48 : dec mX8_turn 48 = .ok (.aload_n 0, 1) := by decide +kernel
theorem dX8_turn_49 : dec mX8_turn 49 = .ok (.getfield 13, 3) := by decide +kernel
theorem dX8_turn_52 : dec mX8_turn 52 = .ok (.iload_n 1, 1) := by decide +kernel
theorem dX8_turn_53 : dec mX8_turn 53 = .ok (.invokestatic 123, 3) := by decide +kernel
theorem dX8_turn_56 : dec mX8_turn 56 = .ok (.invokestatic 126, 3) := by decide +kernel
theorem dX8_turn_59 : dec mX8_turn 59 = .ok (.ireturn, 1) := by decide +kernel
theorem dX8_swap_0 : dec mX8_swap 0 = .ok (.aload_n 0, 1) := by decide +kernel
theorem dX8_swap_1 : dec mX8_swap 1 = .ok (.aload_n 0, 1) := by decide +kernel
theorem dX8_swap_2 : dec mX8_swap 2 = .ok (.getfield 13, 3) := by decide +kernel
theorem dX8_swap_5 : dec mX8_swap 5 = .ok (.iload_n 1, 1) := by decide +kernel
theorem dX8_swap_6 : dec mX8_swap 6 = .ok (.invokestatic 152, 3) := by decide +kernel
theorem dX8_swap_9 : dec mX8_swap 9 = .ok (.ifCond .eq 14, 3) := by decide +kernel
theorem dX8_swap_12 : dec mX8_swap 12 = .ok (.aload_n 0, 1) := by decide +kernel
theorem dX8_swap_13 : dec mX8_swap 13 = .ok (.getfield 13, 3) := by decide +kernel
theorem dX8_swap_16 : dec mX8_swap 16 = .ok (.iload_n 2, 1) := by decide +kernel
theorem dX8_swap_17 : dec mX8_swap 17 = .ok (.invokestatic 152, 3) := by decide +kernel
theorem dX8_swap_20 : dec mX8_swap 20 = .ok (.ifCond .ne 7, 3) := by decide +kernel
theorem dX8_swap_23 : dec mX8_swap 23 = .ok (.iconst 1, 1) := by decide +kernel
theorem dX8_swap_24 : dec mX8_swap 24 = .ok (.goto 29, 3) := by decide +kernel
theorem dX8_swap_27 : dec mX8_swap 27 = .ok (.iload_n 1, 1) := by decide +kernel
theorem dX8_swap_28 : dec mX8_swap 28 = .ok (.iload_n 2, 1) := by decide +kernel
theorem dX8_swap_29 : dec mX8_swap 29 = .ok (.if_icmp .ne 7, 3) := by decide +kernel
theorem dX8_swap_32 : dec mX8_swap 32 = .ok (.iconst 2, 1) := by decide +kernel
theorem dX8_swap_33 : dec mX8_swap 33 = .ok (.goto 20, 3) := by decide +kernel
theorem dX8_swap_36 : dec mX8_swap 36 = .ok (.aload_n 0, 1) := by decide +kernel
theorem dX8_swap_37 : dec mX8_swap 37 = .ok (.getfield 13, 3) := by decide +kernel
theorem dX8_swap_40 : dec mX8_swap 40 = .ok (.iload_n 1, 1) := by decide +kernel
theorem dX8_swap_41 : dec mX8_swap 41 = .ok (.iload_n 2, 1) := by decide +kernel
theorem dX8_swap_42 : dec mX8_swap 42 = .ok (.invokestatic 182, 3) := by decide +kernel
theorem dX8_swap_45 : dec mX8_swap 45 = .ok (.ifCond .eq 7, 3) := by decide +kernel
theorem dX8_swap_48 : dec mX8_swap 48 = .ok (.iconst 0, 1) := by decide +kernel
theorem dX8_swap_49 : dec mX8_swap 49 = .ok (.goto 4, 3) := by decide +kernel
theorem dX8_swap_52 : dec mX8_swap 52 = .ok (.iconst 3, 1) := by decide +kernel
theorem dX8_swap_53 : dec mX8_swap 53 = .ok (.invokevirtual 167, 3) := by decide +kernel
theorem dX8_swap_56 : dec mX8_swap 56 = .ok (.ifCond .eq 5, 3) := by decide +kernel
theorem dX8_swap_59 : dec mX8_swap 59 = .ok (.iconst 0, 1) := by decide +kernel
theorem dX8_swap_60 : dec mX8_swap 60 = .ok (.ireturn, 1) := by decide +kernel
theorem dX8_swap_61 : dec mX8_swap 61 = .ok (.aload_n 0, 1) := by decide +kernel
theorem dX8_swap_62 : dec mX8_swap 62 = .ok (.invokevirtual 258, 3) := by decide +kernel
theorem dX8_swap_65 : dec mX8_swap 65 = .ok (.aload_n 0, 1) := by decide +kernel
theorem dX8_swap_66 : dec mX8_swap 66 = .ok (.getfield 13, 3) := by decide +kernel
theorem dX8_swap_69 : dec mX8_swap 69 = .ok (.aload_n 0, 1) := by decide +kernel
theorem dX8_swap_70 : dec mX8_swap 70 = .ok (.getfield 13, 3) := by decide +kernel
theorem dX8_swap_73 : dec mX8_swap 73 = .ok (.iload_n 1, 1) := by decide +kernel
theorem dX8_swap_74 : dec mX8_swap 74 = .ok (.invokestatic 123, 3) := by decide +kernel
theorem dX8_swap_77 : dec mX8_swap 77 = .ok (.aload_n 0, 1) := by decide +kernel
theorem dX8_swap_78 : dec mX8_swap 78 = .ok (.getfield 13, 3) := by decide +kernel
theorem dX8_swap_81 : dec mX8_swap 81 = .ok (.iload_n 2, 1) := by decide +kernel
theorem dX8_swap_82 : dec mX8_swap 82 = .ok (.invokestatic 123, 3) := by decide +kernel
theorem dX8_swap_85 : dec mX8_swap 85 = .ok (.invokestatic 129, 3) := by decide +kernel
theorem dX8_swap_88 : dec mX8_swap 88 = .ok (.ireturn, 1) := by decide +kernel
theorem dX8_flip_0 : dec mX8_flip 0 = .ok (.aload_n 0, 1) := by decide +kernel
theorem dX8_flip_1 : dec mX8_flip 1 = .ok (.aload_n 0, 1) := by decide +kernel
theorem dX8_flip_2 : dec mX8_flip 2 = .ok (.getfield 13, 3) := by decide +kernel
theorem dX8_flip_5 : dec mX8_flip 5 = .ok (.iload_n 1, 1) := by decide +kernel
theorem dX8_flip_6 : dec mX8_flip 6 = .ok (.iload_n 2, 1) := by decide +kernel
theorem dX8_flip_7 : dec mX8_flip 7 = .ok (.invokestatic 158, 3) := by decide +kernel
theorem dX8_flip_10 : dec mX8_flip 10 = .ok (.ifCond .ne 7, 3) := by decide +kernel
theorem dX8_flip_13 : dec mX8_flip 13 = .ok (.iconst 1, 1) := by decide +kernel
theorem dX8_flip_14 : dec mX8_flip 14 = .ok (.goto 20, 3) := by decide +kernel
theorem dX8_flip_17 : dec mX8_flip 17 = .ok (.aload_n 0, 1) := by decide +kernel
theorem dX8_flip_18 : dec mX8_flip 18 = .ok (.getfield 13, 3) := by decide +kernel
theorem dX8_flip_21 : dec mX8_flip 21 = .ok (.iload_n 1, 1) := by decide +kernel
theorem dX8_flip_22 : dec mX8_flip 22 = .ok (.iload_n 2, 1) := by decide +kernel
theorem dX8_flip_23 : dec mX8_flip 23 = .ok (.invokestatic 185, 3) := by decide +kernel
theorem dX8_flip_26 : dec mX8_flip 26 = .ok (.ifCond .eq 7, 3) := by decide +kernel
theorem dX8_flip_29 : dec mX8_flip 29 = .ok (.iconst 0, 1) := by decide +kernel
theorem dX8_flip_30 : dec mX8_flip 30 = .ok (.goto 4, 3) := by decide +kernel
theorem dX8_flip_33 : dec mX8_flip 33 = .ok (.iconst 2, 1) := by decide +kernel
theorem dX8_flip_34 : dec mX8_flip 34 = .ok (.invokevirtual 167, 3) := by decide +kernel
theorem dX8_flip_37 : dec mX8_flip 37 = .ok (.ifCond .eq 5, 3) := by decide +kernel
theorem dX8_flip_40 : dec mX8_flip 40 = .ok (.iconst 0, 1) := by decide +kernel
theorem dX8_flip_41 : dec mX8_flip 41 = .ok (.ireturn, 1) := by decide +kernel
theorem dX8_flip_42 : dec mX8_flip 42 = .ok (.aload_n 0, 1) := by decide +kernel
theorem dX8_flip_43 : dec mX8_flip 43 = .ok (.invokevirtual 258, 3) := by decide +kernel
theorem dX8_flip_46 : dec mX8_flip 46 = .ok (.aload_n 0, 1) := by decide +kernel
theorem dX8_flip_47 : dec mX8_flip 47 = .ok (.getfield 13, 3) := by decide +kernel
theorem dX8_flip_50 : dec mX8_flip 50 = .ok (.aload_n 0, 1) := by decide +kernel
theorem dX8_flip_51 : dec mX8_flip 51 = .ok (.getfield 13, 3) := by decide +kernel
theorem dX8_flip_54 : dec mX8_flip 54 = .ok (.invokestatic 40, 3) := by decide +kernel
theorem dX8_flip_57 : dec mX8_flip 57 = .ok (.iload_n 2, 1) := by decide +kernel
theorem dX8_flip_58 : dec mX8_flip 58 = .ok (.imul, 1) := by decide +kernel
theorem dX8_flip_59 : dec mX8_flip 59 = .ok (.iload_n 1, 1) := by decide +kernel
theorem dX8_flip_60 : dec mX8_flip 60 = .ok (.iadd, 1) := by decide +kernel
theorem dX8_flip_61 : dec mX8_flip 61 = .ok (.invokestatic 132, 3) := by decide +kernel
theorem dX8_flip_64 : dec mX8_flip 64 = .ok (.ireturn, 1) := by decide +kernel
theorem dX8_hold_0 : dec mX8_hold 0 = .ok (.aload_n 0, 1) := by decide +kernel
theorem dX8_hold_1 : dec mX8_hold 1 = .ok (.aload_n 0, 1) := by decide +kernel
theorem dX8_hold_2 : dec mX8_hold 2 = .ok (.getfield 13, 3) := by decide +kernel
theorem dX8_hold_5 : dec mX8_hold 5 = .ok (.iload_n 1, 1) := by decide +kernel
theorem dX8_hold_6 : dec mX8_hold 6 = .ok (.invokestatic 152, 3) := by decide +kernel
theorem dX8_hold_9 : dec mX8_hold 9 = .ok (.ifCond .eq 7, 3) := by decide +kernel
theorem dX8_hold_12 : dec mX8_hold 12 = .ok (.iconst 0, 1) := by decide +kernel
theorem dX8_hold_13 : dec mX8_hold 13 = .ok (.goto 4, 3) := by decide +kernel
theorem dX8_hold_16 : dec mX8_hold 16 = .ok (.iconst 1, 1) := by decide +kernel
theorem dX8_hold_17 : dec mX8_hold 17 = .ok (.invokevirtual 167, 3) := by decide +kernel
theorem dX8_hold_20 : dec mX8_hold 20 = .ok (.ifCond .eq 5, 3) := by decide +kernel
theorem dX8_hold_23 : dec mX8_hold 23 = .ok (.iconst 0, 1) := by decide +kernel
theorem dX8_hold_24 : dec mX8_hold 24 = .ok (.ireturn, 1) := by decide +kernel
theorem dX8_hold_25 : dec mX8_hold 25 = .ok (.aload_n 0, 1) := by decide +kernel
theorem dX8_hold_26 : dec mX8_hold 26 = .ok (.invokevirtual 258, 3) := by decide +kernel
theorem dX8_hold_29 : dec mX8_hold 29 = .ok (.aload_n 0, 1) := by decide +kernel
theorem dX8_hold_30 : dec mX8_hold 30 = .ok (.getfield 13, 3) := by decide +kernel
theorem dX8_hold_33 : dec mX8_hold 33 = .ok (.iload_n 1, 1) := by decide +kernel
theorem dX8_hold_34 : dec mX8_hold 34 = .ok (.iload_n 2, 1) := by decide +kernel
theorem dX8_hold_35 : dec mX8_hold 35 = .ok (.invokestatic 218, 3) := by decide +kernel
theorem dX8_hold_38 : dec mX8_hold 38 = .ok (.ireturn, 1) := by decide +kernel
theorem dX8_lay_0 : dec mX8_lay 0 = .ok (.aload_n 0, 1) := by decide +kernel
theorem dX8_lay_1 : dec mX8_lay 1 = .ok (.iconst 0, 1) := by decide +kernel
theorem dX8_lay_2 : dec mX8_lay 2 = .ok (.putfield 36, 3) := by decide +kernel
theorem dX8_lay_5 : dec mX8_lay 5 = .ok (.aload_n 0, 1) := by decide +kernel
theorem dX8_lay_6 : dec mX8_lay 6 = .ok (.invokevirtual 258, 3) := by decide +kernel
theorem dX8_lay_9 : dec mX8_lay 9 = .ok (.aload_n 0, 1) := by decide +kernel
theorem dX8_lay_10 : dec mX8_lay 10 = .ok (.aload_n 0, 1) := by decide +kernel
theorem dX8_lay_11 : dec mX8_lay 11 = .ok (.getfield 13, 3) := by decide +kernel
theorem dX8_lay_14 : dec mX8_lay 14 = .ok (.invokevirtual 188, 3) := by decide +kernel
theorem dX8_lay_17 : dec mX8_lay 17 = .ok (.ireturn, 1) := by decide +kernel
theorem dX8_improve_0 : dec mX8_improve 0 = .ok (.aload_n 0, 1) := by decide +kernel
theorem dX8_improve_1 : dec mX8_improve 1 = .ok (.iload_n 1, 1) := by decide +kernel
theorem dX8_improve_2 : dec mX8_improve 2 = .ok (.i2l, 1) := by decide +kernel
theorem dX8_improve_3 : dec mX8_improve 3 = .ok (.lconst 1, 1) := by decide +kernel
theorem dX8_improve_4 : dec mX8_improve 4 = .ok (.ldc2_w 263, 3) := by decide +kernel
theorem dX8_improve_7 : dec mX8_improve 7 = .ok (.invokestatic 50, 3) := by decide +kernel
theorem dX8_improve_10 : dec mX8_improve 10 = .ok (.ifCond .eq 7, 3) := by decide +kernel
theorem dX8_improve_13 : dec mX8_improve 13 = .ok (.iconst 0, 1) := by decide +kernel
theorem dX8_improve_14 : dec mX8_improve 14 = .ok (.goto 4, 3) := by decide +kernel
theorem dX8_improve_17 : dec mX8_improve 17 = .ok (.iconst 1, 1) := by decide +kernel
theorem dX8_improve_18 : dec mX8_improve 18 = .ok (.invokevirtual 167, 3) := by decide +kernel
theorem dX8_improve_21 : dec mX8_improve 21 = .ok (.ifCond .eq 5, 3) := by decide +kernel
theorem dX8_improve_24 : dec mX8_improve 24 = .ok (.iconst 0, 1) := by decide +kernel
theorem dX8_improve_25 : dec mX8_improve 25 = .ok (.ireturn, 1) := by decide +kernel
theorem dX8_improve_26 : dec mX8_improve 26 = .ok (.aload_n 0, 1) := by decide +kernel
theorem dX8_improve_27 : dec mX8_improve 27 = .ok (.invokevirtual 258, 3) := by decide +kernel
theorem dX8_improve_30 : dec mX8_improve 30 = .ok (.aload_n 0, 1) := by decide +kernel
theorem dX8_improve_31 : dec mX8_improve 31 = .ok (.aload_n 0, 1) := by decide +kernel
theorem dX8_improve_32 : dec mX8_improve 32 = .ok (.getfield 13, 3) := by decide +kernel
theorem dX8_improve_35 : dec mX8_improve 35 = .ok (.iload_n 1, 1) := by decide +kernel
theorem dX8_improve_36 : dec mX8_improve 36 = .ok (.invokevirtual 225, 3) := by decide +kernel
theorem dX8_improve_39 : dec mX8_improve 39 = .ok (.ireturn, 1) := by decide +kernel
theorem dX8_undo_0 : dec mX8_undo 0 = .ok (.aload_n 0, 1) := by decide +kernel
theorem dX8_undo_1 : dec mX8_undo 1 = .ok (.aload_n 0, 1) := by decide +kernel
theorem dX8_undo_2 : dec mX8_undo 2 = .ok (.getfield 238, 3) := by decide +kernel
theorem dX8_undo_5 : dec mX8_undo 5 = .ok (.ifCond .ne 7, 3) := by decide +kernel
theorem dX8_undo_8 : dec mX8_undo 8 = .ok (.iconst 1, 1) := by decide +kernel
theorem dX8_undo_9 : dec mX8_undo 9 = .ok (.goto 4, 3) := by decide +kernel
theorem dX8_undo_12 : dec mX8_undo 12 = .ok (.iconst 0, 1) := by decide +kernel
theorem dX8_undo_13 : dec mX8_undo 13 = .ok (.invokevirtual 167, 3) := by decide +kernel
theorem dX8_undo_16 : dec mX8_undo 16 = .ok (.ifCond .eq 5, 3) := by decide +kernel
theorem dX8_undo_19 : dec mX8_undo 19 = .ok (.iconst 0, 1) := by decide +kernel
theorem dX8_undo_20 : dec mX8_undo 20 = .ok (.ireturn, 1) := by decide +kernel
theorem dX8_undo_21 : dec mX8_undo 21 = .ok (.aload_n 0, 1) := by decide +kernel
theorem dX8_undo_22 : dec mX8_undo 22 = .ok (.dup, 1) := by decide +kernel
theorem dX8_undo_23 : dec mX8_undo 23 = .ok (.getfield 238, 3) := by decide +kernel
theorem dX8_undo_26 : dec mX8_undo 26 = .ok (.iconst 1, 1) := by decide +kernel
theorem dX8_undo_27 : dec mX8_undo 27 = .ok (.isub, 1) := by decide +kernel
theorem dX8_undo_28 : dec mX8_undo 28 = .ok (.putfield 238, 3) := by decide +kernel
theorem dX8_undo_31 : dec mX8_undo 31 = .ok (.aload_n 0, 1) := by decide +kernel
theorem dX8_undo_32 : dec mX8_undo 32 = .ok (.getfield 19, 3) := by decide +kernel
theorem dX8_undo_35 : dec mX8_undo 35 = .ok (.sipush 563, 3) := by decide +kernel
theorem dX8_undo_38 : dec mX8_undo 38 = .ok (.aload_n 0, 1) := by decide +kernel
theorem dX8_undo_39 : dec mX8_undo 39 = .ok (.getfield 238, 3) := by decide +kernel
theorem dX8_undo_42 : dec mX8_undo 42 = .ok (.imul, 1) := by decide +kernel
theorem dX8_undo_43 : dec mX8_undo 43 = .ok (.aload_n 0, 1) := by decide +kernel
theorem dX8_undo_44 : dec mX8_undo 44 = .ok (.getfield 13, 3) := by decide +kernel
theorem dX8_undo_47 : dec mX8_undo 47 = .ok (.iconst 0, 1) := by decide +kernel
theorem dX8_undo_48 : dec mX8_undo 48 = .ok (.invokestatic 234, 3) := by decide +kernel
theorem dX8_undo_51 : dec mX8_undo 51 = .ok (.aload_n 0, 1) := by decide +kernel
theorem dX8_undo_52 : dec mX8_undo 52 = .ok (.getfield 238, 3) := by decide +kernel
theorem dX8_undo_55 : dec mX8_undo 55 = .ok (.ireturn, 1) := by decide +kernel
theorem dX8_isChange_0 : dec mX8_isChange 0 = .ok (.iload_n 1, 1) := by decide +kernel
theorem dX8_isChange_1 : dec mX8_isChange 1 = .ok (.sipush 10000, 3) := by decide +kernel
theorem dX8_isChange_4 : dec mX8_isChange 4 = .ok (.irem, 1) := by decide +kernel
theorem dX8_isChange_5 : dec mX8_isChange 5 = .ok (.istore_n 2, 1) := by decide +kernel
theorem dX8_isChange_6 : dec mX8_isChange 6 = .ok (.iload_n 1, 1) := by decide +kernel
theorem dX8_isChange_7 : dec mX8_isChange 7 = .ok (.i2l, 1) := by decide +kernel
theorem dX8_isChange_8 : dec mX8_isChange 8 = .ok (.lconst 0, 1) := by decide +kernel
theorem dX8_isChange_9 : dec mX8_isChange 9 = .ok (.ldc2_w 265, 3) := by decide +kernel
theorem dX8_isChange_12 : dec mX8_isChange 12 = .ok (.invokestatic 50, 3) := by decide +kernel
theorem dX8_isChange_15 : dec mX8_isChange 15 = .ok (.ifCond .ne 5, 3) := by decide +kernel
theorem dX8_isChange_18 : dec mX8_isChange 18 = .ok (.iconst 0, 1) := by decide +kernel
theorem dX8_isChange_19 : dec mX8_isChange 19 = .ok (.ireturn, 1) := by decide +kernel
theorem dX8_isChange_20 : dec mX8_isChange 20 = .ok (.iload_n 1, 1) := by decide +kernel
theorem dX8_isChange_21 : dec mX8_isChange 21 = .ok (.sipush 10000, 3) := by decide +kernel
theorem dX8_isChange_24 : dec mX8_isChange 24 = .ok (.if_icmp .ge 11, 3) := by decide +kernel
theorem dX8_isChange_27 : dec mX8_isChange 27 = .ok (.aload_n 0, 1) := by decide +kernel
theorem dX8_isChange_28 : dec mX8_isChange 28 = .ok (.iload_n 2, 1) := by decide +kernel
theorem dX8_isChange_29 : dec mX8_isChange 29 = .ok (.invokestatic 152, 3) := by decide +kernel
theorem dX8_isChange_32 : dec mX8_isChange 32 = .ok (.goto 62, 3) := by decide +kernel
theorem dX8_isChange_35 : dec mX8_isChange 35 = .ok (.iload_n 1, 1) := by decide +kernel
theorem dX8_isChange_36 : dec mX8_isChange 36 = .ok (.sipush 20000, 3) := by decide +kernel
theorem dX8_isChange_39 : dec mX8_isChange 39 = .ok (.if_icmp .ge 33, 3) := by decide +kernel
theorem dX8_isChange_42 : dec mX8_isChange 42 = .ok (.iload_n 2, 1) := by decide +kernel
theorem dX8_isChange_43 : dec mX8_isChange 43 = .ok (.bipush 100, 2) := by decide +kernel
theorem dX8_isChange_45 : dec mX8_isChange 45 = .ok (.idiv, 1) := by decide +kernel
theorem dX8_isChange_46 : dec mX8_isChange 46 = .ok (.iload_n 2, 1) := by decide +kernel
theorem dX8_isChange_47 : dec mX8_isChange 47 = .ok (.bipush 100, 2) := by decide +kernel
theorem dX8_isChange_49 : dec mX8_isChange 49 = .ok (.irem, 1) := by decide +kernel
theorem dX8_isChange_50 : dec mX8_isChange 50 = .ok (.if_icmp .ge 18, 3) := by decide +kernel
theorem dX8_isChange_53 : dec mX8_isChange 53 = .ok (.aload_n 0, 1) := by decide +kernel
theorem dX8_isChange_54 : dec mX8_isChange 54 = .ok (.iload_n 2, 1) := by decide +kernel
theorem dX8_isChange_55 : dec mX8_isChange 55 = .ok (.bipush 100, 2) := by decide +kernel
theorem dX8_isChange_57 : dec mX8_isChange 57 = .ok (.irem, 1) := by decide +kernel
theorem dX8_isChange_58 : dec mX8_isChange 58 = .ok (.invokestatic 152, 3) := by decide +kernel
theorem dX8_isChange_61 : dec mX8_isChange 61 = .ok (.ifCond .eq 7, 3) := by decide +kernel
theorem dX8_isChange_64 : dec mX8_isChange 64 = .ok (.iconst 1, 1) := by decide +kernel
theorem dX8_isChange_65 : dec mX8_isChange 65 = .ok (.goto 29, 3) := by decide +kernel
theorem dX8_isChange_68 : dec mX8_isChange 68 = .ok (.iconst 0, 1) := by decide +kernel
theorem dX8_isChange_69 : dec mX8_isChange 69 = .ok (.goto 25, 3) := by decide +kernel
theorem dX8_isChange_72 : dec mX8_isChange 72 = .ok (.iload_n 2, 1) := by decide +kernel
theorem dX8_isChange_73 : dec mX8_isChange 73 = .ok (.aload_n 0, 1) := by decide +kernel
theorem dX8_isChange_74 : dec mX8_isChange 74 = .ok (.invokestatic 47, 3) := by decide +kernel
theorem dX8_isChange_77 : dec mX8_isChange 77 = .ok (.if_icmp .ge 16, 3) := by decide +kernel
theorem dX8_isChange_80 : dec mX8_isChange 80 = .ok (.aload_n 0, 1) := by decide +kernel
theorem dX8_isChange_81 : dec mX8_isChange 81 = .ok (.iload_n 2, 1) := by decide +kernel
theorem dX8_isChange_82 : dec mX8_isChange 82 = .ok (.invokestatic 91, 3) := by decide +kernel
theorem dX8_isChange_85 : dec mX8_isChange 85 = .ok (.iconst (-1), 1) := by decide +kernel
theorem dX8_isChange_86 : dec mX8_isChange 86 = .ok (.if_icmp .eq 7, 3) := by decide +kernel
theorem dX8_isChange_89 : dec mX8_isChange 89 = .ok (.iconst 1, 1) := by decide +kernel
theorem dX8_isChange_90 : dec mX8_isChange 90 = .ok (.goto 4, 3) := by decide +kernel
theorem dX8_isChange_93 : dec mX8_isChange 93 = .ok (.iconst 0, 1) := by decide +kernel
theorem dX8_isChange_94 : dec mX8_isChange 94 = .ok (.ireturn, 1) := by decide +kernel
theorem dX8_gain_0 : dec mX8_gain 0 = .ok (.aload_n 0, 1) := by decide +kernel
theorem dX8_gain_1 : dec mX8_gain 1 = .ok (.aload_n 0, 1) := by decide +kernel
theorem dX8_gain_2 : dec mX8_gain 2 = .ok (.getfield 13, 3) := by decide +kernel
theorem dX8_gain_5 : dec mX8_gain 5 = .ok (.iload_n 1, 1) := by decide +kernel
theorem dX8_gain_6 : dec mX8_gain 6 = .ok (.invokestatic 267, 3) := by decide +kernel
theorem dX8_gain_9 : dec mX8_gain 9 = .ok (.ifCond .eq 7, 3) := by decide +kernel
theorem dX8_gain_12 : dec mX8_gain 12 = .ok (.iconst 0, 1) := by decide +kernel
theorem dX8_gain_13 : dec mX8_gain 13 = .ok (.goto 4, 3) := by decide +kernel
theorem dX8_gain_16 : dec mX8_gain 16 = .ok (.iconst 1, 1) := by decide +kernel
theorem dX8_gain_17 : dec mX8_gain 17 = .ok (.invokevirtual 167, 3) := by decide +kernel
theorem dX8_gain_20 : dec mX8_gain 20 = .ok (.ifCond .eq 5, 3) := by decide +kernel
theorem dX8_gain_23 : dec mX8_gain 23 = .ok (.iconst 0, 1) := by decide +kernel
theorem dX8_gain_24 : dec mX8_gain 24 = .ok (.ireturn, 1) := by decide +kernel
theorem dX8_gain_25 : dec mX8_gain 25 = .ok (.iload_n 1, 1) := by decide +kernel
theorem dX8_gain_26 : dec mX8_gain 26 = .ok (.sipush 10000, 3) := by decide +kernel
theorem dX8_gain_29 : dec mX8_gain 29 = .ok (.irem, 1) := by decide +kernel
theorem dX8_gain_30 : dec mX8_gain 30 = .ok (.istore_n 2, 1) := by decide +kernel
theorem dX8_gain_31 : dec mX8_gain 31 = .ok (.iload_n 1, 1) := by decide +kernel
theorem dX8_gain_32 : dec mX8_gain 32 = .ok (.sipush 10000, 3) := by decide +kernel
theorem dX8_gain_35 : dec mX8_gain 35 = .ok (.if_icmp .ge 21, 3) := by decide +kernel
theorem dX8_gain_38 : dec mX8_gain 38 = .ok (.aload_n 0, 1) := by decide +kernel
theorem dX8_gain_39 : dec mX8_gain 39 = .ok (.getfield 13, 3) := by decide +kernel
theorem dX8_gain_42 : dec mX8_gain 42 = .ok (.aload_n 0, 1) := by decide +kernel
theorem dX8_gain_43 : dec mX8_gain 43 = .ok (.getfield 13, 3) := by decide +kernel
theorem dX8_gain_46 : dec mX8_gain 46 = .ok (.iload_n 2, 1) := by decide +kernel
theorem dX8_gain_47 : dec mX8_gain 47 = .ok (.invokestatic 123, 3) := by decide +kernel
theorem dX8_gain_50 : dec mX8_gain 50 = .ok (.invokestatic 94, 3) := by decide +kernel
theorem dX8_gain_53 : dec mX8_gain 53 = .ok (.goto 50, 3) := by decide +kernel
theorem dX8_gain_56 : dec mX8_gain 56 = .ok (.iload_n 1, 1) := by decide +kernel
theorem dX8_gain_57 : dec mX8_gain 57 = .ok (.sipush 20000, 3) := by decide +kernel
theorem dX8_gain_60 : dec mX8_gain 60 = .ok (.if_icmp .ge 35, 3) := by decide +kernel
theorem dX8_gain_63 : dec mX8_gain 63 = .ok (.aload_n 0, 1) := by decide +kernel
theorem dX8_gain_64 : dec mX8_gain 64 = .ok (.getfield 13, 3) := by decide +kernel
theorem dX8_gain_67 : dec mX8_gain 67 = .ok (.aload_n 0, 1) := by decide +kernel
theorem dX8_gain_68 : dec mX8_gain 68 = .ok (.getfield 13, 3) := by decide +kernel
theorem dX8_gain_71 : dec mX8_gain 71 = .ok (.iload_n 2, 1) := by decide +kernel
theorem dX8_gain_72 : dec mX8_gain 72 = .ok (.bipush 100, 2) := by decide +kernel
theorem dX8_gain_74 : dec mX8_gain 74 = .ok (.idiv, 1) := by decide +kernel
theorem dX8_gain_75 : dec mX8_gain 75 = .ok (.invokestatic 123, 3) := by decide +kernel
theorem dX8_gain_78 : dec mX8_gain 78 = .ok (.aload_n 0, 1) := by decide +kernel
theorem dX8_gain_79 : dec mX8_gain 79 = .ok (.getfield 13, 3) := by decide +kernel
theorem dX8_gain_82 : dec mX8_gain 82 = .ok (.iload_n 2, 1) := by decide +kernel
theorem dX8_gain_83 : dec mX8_gain 83 = .ok (.bipush 100, 2) := by decide +kernel
theorem dX8_gain_85 : dec mX8_gain 85 = .ok (.irem, 1) := by decide +kernel
theorem dX8_gain_86 : dec mX8_gain 86 = .ok (.invokestatic 123, 3) := by decide +kernel
theorem dX8_gain_89 : dec mX8_gain 89 = .ok (.invokestatic 97, 3) := by decide +kernel
theorem dX8_gain_92 : dec mX8_gain 92 = .ok (.goto 11, 3) := by decide +kernel
theorem dX8_gain_95 : dec mX8_gain 95 = .ok (.aload_n 0, 1) := by decide +kernel
theorem dX8_gain_96 : dec mX8_gain 96 = .ok (.getfield 13, 3) := by decide +kernel
theorem dX8_gain_99 : dec mX8_gain 99 = .ok (.iload_n 2, 1) := by decide +kernel
theorem dX8_gain_100 : dec mX8_gain 100 = .ok (.invokestatic 103, 3) := by decide +kernel
theorem dX8_gain_103 : dec mX8_gain 103 = .ok (.ireturn, 1) := by decide +kernel
theorem dX8_best_0 : dec mX8_best 0 = .ok (.aload_n 0, 1) := by decide +kernel
theorem dX8_best_1 : dec mX8_best 1 = .ok (.iload_n 1, 1) := by decide +kernel
theorem dX8_best_2 : dec mX8_best 2 = .ok (.i2l, 1) := by decide +kernel
theorem dX8_best_3 : dec mX8_best 3 = .ok (.lconst 0, 1) := by decide +kernel
theorem dX8_best_4 : dec mX8_best 4 = .ok (.lconst 1, 1) := by decide +kernel
theorem dX8_best_5 : dec mX8_best 5 = .ok (.invokestatic 50, 3) := by decide +kernel
theorem dX8_best_8 : dec mX8_best 8 = .ok (.ifCond .eq 7, 3) := by decide +kernel
theorem dX8_best_11 : dec mX8_best 11 = .ok (.iconst 0, 1) := by decide +kernel
theorem dX8_best_12 : dec mX8_best 12 = .ok (.goto 4, 3) := by decide +kernel
theorem dX8_best_15 : dec mX8_best 15 = .ok (.iconst 1, 1) := by decide +kernel
theorem dX8_best_16 : dec mX8_best 16 = .ok (.invokevirtual 167, 3) := by decide +kernel
theorem dX8_best_19 : dec mX8_best 19 = .ok (.ifCond .eq 5, 3) := by decide +kernel
theorem dX8_best_22 : dec mX8_best 22 = .ok (.iconst 0, 1) := by decide +kernel
theorem dX8_best_23 : dec mX8_best 23 = .ok (.ireturn, 1) := by decide +kernel
theorem dX8_best_24 : dec mX8_best 24 = .ok (.aload_n 0, 1) := by decide +kernel
theorem dX8_best_25 : dec mX8_best 25 = .ok (.aload_n 0, 1) := by decide +kernel
theorem dX8_best_26 : dec mX8_best 26 = .ok (.getfield 13, 3) := by decide +kernel
theorem dX8_best_29 : dec mX8_best 29 = .ok (.invokevirtual 138, 3) := by decide +kernel
theorem dX8_best_32 : dec mX8_best 32 = .ok (.iload_n 1, 1) := by decide +kernel
theorem dX8_best_33 : dec mX8_best 33 = .ok (.ifCond .ne 10, 3) := by decide +kernel
theorem dX8_best_36 : dec mX8_best 36 = .ok (.aload_n 0, 1) := by decide +kernel
theorem dX8_best_37 : dec mX8_best 37 = .ok (.getfield 106, 3) := by decide +kernel
theorem dX8_best_40 : dec mX8_best 40 = .ok (.goto 7, 3) := by decide +kernel
theorem dX8_best_43 : dec mX8_best 43 = .ok (.aload_n 0, 1) := by decide +kernel
theorem dX8_best_44 : dec mX8_best 44 = .ok (.getfield 109, 3) := by decide +kernel
theorem dX8_best_47 : dec mX8_best 47 = .ok (.ireturn, 1) := by decide +kernel
theorem dX8_ifImproved_0 : dec mX8_ifImproved 0 = .ok (.aload_n 0, 1) := by decide +kernel
theorem dX8_ifImproved_1 : dec mX8_ifImproved 1 = .ok (.iload_n 1, 1) := by decide +kernel
theorem dX8_ifImproved_2 : dec mX8_ifImproved 2 = .ok (.i2l, 1) := by decide +kernel
theorem dX8_ifImproved_3 : dec mX8_ifImproved 3 = .ok (.lconst 1, 1) := by decide +kernel
theorem dX8_ifImproved_4 : dec mX8_ifImproved 4 = .ok (.ldc2_w 263, 3) := by decide +kernel
theorem dX8_ifImproved_7 : dec mX8_ifImproved 7 = .ok (.invokestatic 50, 3) := by decide +kernel
theorem dX8_ifImproved_10 : dec mX8_ifImproved 10 = .ok (.ifCond .eq 17, 3) := by decide +kernel
theorem dX8_ifImproved_13 : dec mX8_ifImproved 13 = .ok (.iload_n 2, 1) := by decide +kernel
theorem dX8_ifImproved_14 : dec mX8_ifImproved 14 = .ok (.i2l, 1) := by decide +kernel
theorem dX8_ifImproved_15 : dec mX8_ifImproved 15 = .ok (.lconst 0, 1) := by decide +kernel
theorem dX8_ifImproved_16 : dec mX8_ifImproved 16 = .ok (.lconst 1, 1) := by decide +kernel
theorem dX8_ifImproved_17 : dec mX8_ifImproved 17 = .ok (.invokestatic 50, 3) := by decide +kernel
theorem dX8_ifImproved_20 : dec mX8_ifImproved 20 = .ok (.ifCond .eq 7, 3) := by decide +kernel
theorem dX8_ifImproved_23 : dec mX8_ifImproved 23 = .ok (.iconst 0, 1) := by decide +kernel
theorem dX8_ifImproved_24 : dec mX8_ifImproved 24 = .ok (.goto 4, 3) := by decide +kernel
theorem dX8_ifImproved_27 : dec mX8_ifImproved 27 = .ok (.iconst 1, 1) := by decide +kernel
theorem dX8_ifImproved_28 : dec mX8_ifImproved 28 = .ok (.invokevirtual 167, 3) := by decide +kernel
theorem dX8_ifImproved_31 : dec mX8_ifImproved 31 = .ok (.ifCond .eq 5, 3) := by decide +kernel
theorem dX8_ifImproved_34 : dec mX8_ifImproved 34 = .ok (.iconst 0, 1) := by decide +kernel
theorem dX8_ifImproved_35 : dec mX8_ifImproved 35 = .ok (.ireturn, 1) := by decide +kernel
theorem dX8_ifImproved_36 : dec mX8_ifImproved 36 = .ok (.aload_n 0, 1) := by decide +kernel
theorem dX8_ifImproved_37 : dec mX8_ifImproved 37 = .ok (.getfield 13, 3) := by decide +kernel
theorem dX8_ifImproved_40 : dec mX8_ifImproved 40 = .ok (.iconst 0, 1) := by decide +kernel
theorem dX8_ifImproved_41 : dec mX8_ifImproved 41 = .ok (.aload_n 0, 1) := by decide +kernel
theorem dX8_ifImproved_42 : dec mX8_ifImproved 42 = .ok (.getfield 16, 3) := by decide +kernel
theorem dX8_ifImproved_45 : dec mX8_ifImproved 45 = .ok (.iconst 0, 1) := by decide +kernel
theorem dX8_ifImproved_46 : dec mX8_ifImproved 46 = .ok (.invokestatic 234, 3) := by decide +kernel
theorem dX8_ifImproved_49 : dec mX8_ifImproved 49 = .ok (.aload_n 0, 1) := by decide +kernel
theorem dX8_ifImproved_50 : dec mX8_ifImproved 50 = .ok (.aload_n 0, 1) := by decide +kernel
theorem dX8_ifImproved_51 : dec mX8_ifImproved 51 = .ok (.getfield 16, 3) := by decide +kernel
theorem dX8_ifImproved_54 : dec mX8_ifImproved 54 = .ok (.iload_n 1, 1) := by decide +kernel
theorem dX8_ifImproved_55 : dec mX8_ifImproved 55 = .ok (.invokevirtual 225, 3) := by decide +kernel
theorem dX8_ifImproved_58 : dec mX8_ifImproved 58 = .ok (.istore_n 3, 1) := by decide +kernel
theorem dX8_ifImproved_59 : dec mX8_ifImproved 59 = .ok (.iload_n 2, 1) := by decide +kernel
theorem dX8_ifImproved_60 : dec mX8_ifImproved 60 = .ok (.ifCond .ne 7, 3) := by decide +kernel
theorem dX8_ifImproved_63 : dec mX8_ifImproved 63 = .ok (.iload_n 3, 1) := by decide +kernel
theorem dX8_ifImproved_64 : dec mX8_ifImproved 64 = .ok (.goto 7, 3) := by decide +kernel
theorem dX8_ifImproved_67 : dec mX8_ifImproved 67 = .ok (.aload_n 0, 1) := by decide +kernel
theorem dX8_ifImproved_68 : dec mX8_ifImproved 68 = .ok (.getfield 135, 3) := by decide +kernel
theorem dX8_ifImproved_71 : dec mX8_ifImproved 71 = .ok (.ireturn, 1) := by decide +kernel
theorem dX8_least_0 : dec mX8_least 0 = .ok (.aload_n 0, 1) := by decide +kernel
theorem dX8_least_1 : dec mX8_least 1 = .ok (.iconst 0, 1) := by decide +kernel
theorem dX8_least_2 : dec mX8_least 2 = .ok (.putfield 36, 3) := by decide +kernel
theorem dX8_least_5 : dec mX8_least 5 = .ok (.iconst 0, 1) := by decide +kernel
theorem dX8_least_6 : dec mX8_least 6 = .ok (.istore_n 1, 1) := by decide +kernel
theorem dX8_least_7 : dec mX8_least 7 = .ok (.iconst 0, 1) := by decide +kernel
theorem dX8_least_8 : dec mX8_least 8 = .ok (.istore_n 2, 1) := by decide +kernel
theorem dX8_least_9 : dec mX8_least 9 = .ok (.iload_n 2, 1) := by decide +kernel
theorem dX8_least_10 : dec mX8_least 10 = .ok (.aload_n 0, 1) := by decide +kernel
theorem dX8_least_11 : dec mX8_least 11 = .ok (.getfield 13, 3) := by decide +kernel
theorem dX8_least_14 : dec mX8_least 14 = .ok (.invokestatic 47, 3) := by decide +kernel
theorem dX8_least_17 : dec mX8_least 17 = .ok (.if_icmp .ge 72, 3) := by decide +kernel
theorem dX8_least_20 : dec mX8_least 20 = .ok (.aload_n 0, 1) := by decide +kernel
theorem dX8_least_21 : dec mX8_least 21 = .ok (.getfield 13, 3) := by decide +kernel
theorem dX8_least_24 : dec mX8_least 24 = .ok (.iload_n 2, 1) := by decide +kernel
theorem dX8_least_25 : dec mX8_least 25 = .ok (.iconst 0, 1) := by decide +kernel
theorem dX8_least_26 : dec mX8_least 26 = .ok (.invokestatic 67, 3) := by decide +kernel
theorem dX8_least_29 : dec mX8_least 29 = .ok (.istore_n 3, 1) := by decide +kernel
theorem dX8_least_30 : dec mX8_least 30 = .ok (.iconst 1, 1) := by decide +kernel
theorem dX8_least_31 : dec mX8_least 31 = .ok (.istore 4, 2) := by decide +kernel
theorem dX8_least_33 : dec mX8_least 33 = .ok (.iload 4, 2) := by decide +kernel
theorem dX8_least_35 : dec mX8_least 35 = .ok (.aload_n 0, 1) := by decide +kernel
theorem dX8_least_36 : dec mX8_least 36 = .ok (.getfield 13, 3) := by decide +kernel
theorem dX8_least_39 : dec mX8_least 39 = .ok (.iconst 0, 1) := by decide +kernel
theorem dX8_least_40 : dec mX8_least 40 = .ok (.iaload, 1) := by decide +kernel
theorem dX8_least_41 : dec mX8_least 41 = .ok (.if_icmp .gt 38, 3) := by decide +kernel
theorem dX8_least_44 : dec mX8_least 44 = .ok (.aload_n 0, 1) := by decide +kernel
theorem dX8_least_45 : dec mX8_least 45 = .ok (.getfield 13, 3) := by decide +kernel
theorem dX8_least_48 : dec mX8_least 48 = .ok (.iload_n 2, 1) := by decide +kernel
theorem dX8_least_49 : dec mX8_least 49 = .ok (.iload 4, 2) := by decide +kernel
theorem dX8_least_51 : dec mX8_least 51 = .ok (.invokestatic 67, 3) := by decide +kernel
theorem dX8_least_54 : dec mX8_least 54 = .ok (.iload_n 3, 1) := by decide +kernel
theorem dX8_least_55 : dec mX8_least 55 = .ok (.if_icmp .ge 16, 3) := by decide +kernel
theorem dX8_least_58 : dec mX8_least 58 = .ok (.aload_n 0, 1) := by decide +kernel
theorem dX8_least_59 : dec mX8_least 59 = .ok (.getfield 13, 3) := by decide +kernel
theorem dX8_least_62 : dec mX8_least 62 = .ok (.iload_n 2, 1) := by decide +kernel
theorem dX8_least_63 : dec mX8_least 63 = .ok (.iload 4, 2) := by decide +kernel
theorem dX8_least_65 : dec mX8_least 65 = .ok (.invokestatic 67, 3) := by decide +kernel
theorem dX8_least_68 : dec mX8_least 68 = .ok (.goto 4, 3) := by decide +kernel
theorem dX8_least_71 : dec mX8_least 71 = .ok (.iload_n 3, 1) := by decide +kernel
theorem dX8_least_72 : dec mX8_least 72 = .ok (.istore_n 3, 1) := by decide +kernel
theorem dX8_least_73 : dec mX8_least 73 = .ok (.iinc 4 1, 3) := by decide +kernel
theorem dX8_least_76 : dec mX8_least 76 = .ok (.goto (-43), 3) := by decide +kernel
theorem dX8_least_79 : dec mX8_least 79 = .ok (.iload_n 1, 1) := by decide +kernel
theorem dX8_least_80 : dec mX8_least 80 = .ok (.iload_n 3, 1) := by decide +kernel
theorem dX8_least_81 : dec mX8_least 81 = .ok (.iadd, 1) := by decide +kernel
theorem dX8_least_82 : dec mX8_least 82 = .ok (.istore_n 1, 1) := by decide +kernel
theorem dX8_least_83 : dec mX8_least 83 = .ok (.iinc 2 1, 3) := by decide +kernel
theorem dX8_least_86 : dec mX8_least 86 = .ok (.goto (-77), 3) := by decide +kernel
theorem dX8_least_89 : dec mX8_least 89 = .ok (.iload_n 1, 1) := by decide +kernel
theorem dX8_least_90 : dec mX8_least 90 = .ok (.ireturn, 1) := by decide +kernel
theorem dX8_worst_0 : dec mX8_worst 0 = .ok (.aload_n 0, 1) := by decide +kernel
theorem dX8_worst_1 : dec mX8_worst 1 = .ok (.aload_n 0, 1) := by decide +kernel
theorem dX8_worst_2 : dec mX8_worst 2 = .ok (.getfield 13, 3) := by decide +kernel
theorem dX8_worst_5 : dec mX8_worst 5 = .ok (.iload_n 1, 1) := by decide +kernel
theorem dX8_worst_6 : dec mX8_worst 6 = .ok (.invokestatic 152, 3) := by decide +kernel
theorem dX8_worst_9 : dec mX8_worst 9 = .ok (.ifCond .eq 7, 3) := by decide +kernel
theorem dX8_worst_12 : dec mX8_worst 12 = .ok (.iconst 0, 1) := by decide +kernel
theorem dX8_worst_13 : dec mX8_worst 13 = .ok (.goto 4, 3) := by decide +kernel
theorem dX8_worst_16 : dec mX8_worst 16 = .ok (.iconst 1, 1) := by decide +kernel
theorem dX8_worst_17 : dec mX8_worst 17 = .ok (.invokevirtual 167, 3) := by decide +kernel
theorem dX8_worst_20 : dec mX8_worst 20 = .ok (.ifCond .eq 5, 3) := by decide +kernel
theorem dX8_worst_23 : dec mX8_worst 23 = .ok (.iconst 0, 1) := by decide +kernel
theorem dX8_worst_24 : dec mX8_worst 24 = .ok (.ireturn, 1) := by decide +kernel
theorem dX8_worst_25 : dec mX8_worst 25 = .ok (.iconst 0, 1) := by decide +kernel
theorem dX8_worst_26 : dec mX8_worst 26 = .ok (.istore_n 2, 1) := by decide +kernel
theorem dX8_worst_27 : dec mX8_worst 27 = .ok (.iload_n 2, 1) := by decide +kernel
theorem dX8_worst_28 : dec mX8_worst 28 = .ok (.aload_n 0, 1) := by decide +kernel
theorem dX8_worst_29 : dec mX8_worst 29 = .ok (.getfield 13, 3) := by decide +kernel
theorem dX8_worst_32 : dec mX8_worst 32 = .ok (.invokestatic 54, 3) := by decide +kernel
theorem dX8_worst_35 : dec mX8_worst 35 = .ok (.if_icmp .ge 103, 3) := by decide +kernel
theorem dX8_worst_38 : dec mX8_worst 38 = .ok (.aload_n 0, 1) := by decide +kernel
theorem dX8_worst_39 : dec mX8_worst 39 = .ok (.getfield 13, 3) := by decide +kernel
theorem dX8_worst_42 : dec mX8_worst 42 = .ok (.aload_n 0, 1) := by decide +kernel
theorem dX8_worst_43 : dec mX8_worst 43 = .ok (.getfield 13, 3) := by decide +kernel
theorem dX8_worst_46 : dec mX8_worst 46 = .ok (.iload_n 2, 1) := by decide +kernel
theorem dX8_worst_47 : dec mX8_worst 47 = .ok (.invokestatic 123, 3) := by decide +kernel
theorem dX8_worst_50 : dec mX8_worst 50 = .ok (.invokestatic 85, 3) := by decide +kernel
theorem dX8_worst_53 : dec mX8_worst 53 = .ok (.istore_n 3, 1) := by decide +kernel
theorem dX8_worst_54 : dec mX8_worst 54 = .ok (.iconst 0, 1) := by decide +kernel
theorem dX8_worst_55 : dec mX8_worst 55 = .ok (.istore 4, 2) := by decide +kernel
theorem dX8_worst_57 : dec mX8_worst 57 = .ok (.iconst 0, 1) := by decide +kernel
theorem dX8_worst_58 : dec mX8_worst 58 = .ok (.istore 5, 2) := by decide +kernel
theorem dX8_worst_60 : dec mX8_worst 60 = .ok (.iload 5, 2) := by decide +kernel
theorem dX8_worst_62 : dec mX8_worst 62 = .ok (.aload_n 0, 1) := by decide +kernel
theorem dX8_worst_63 : dec mX8_worst 63 = .ok (.getfield 13, 3) := by decide +kernel
theorem dX8_worst_66 : dec mX8_worst 66 = .ok (.invokestatic 54, 3) := by decide +kernel
theorem dX8_worst_69 : dec mX8_worst 69 = .ok (.if_icmp .ge 55, 3) := by decide +kernel
theorem dX8_worst_72 : dec mX8_worst 72 = .ok (.aload_n 0, 1) := by decide +kernel
theorem dX8_worst_73 : dec mX8_worst 73 = .ok (.getfield 13, 3) := by decide +kernel
theorem dX8_worst_76 : dec mX8_worst 76 = .ok (.aload_n 0, 1) := by decide +kernel
theorem dX8_worst_77 : dec mX8_worst 77 = .ok (.getfield 13, 3) := by decide +kernel
theorem dX8_worst_80 : dec mX8_worst 80 = .ok (.iload 5, 2) := by decide +kernel
theorem dX8_worst_82 : dec mX8_worst 82 = .ok (.invokestatic 123, 3) := by decide +kernel
theorem dX8_worst_85 : dec mX8_worst 85 = .ok (.invokestatic 85, 3) := by decide +kernel
theorem dX8_worst_88 : dec mX8_worst 88 = .ok (.istore 6, 2) := by decide +kernel
theorem dX8_worst_90 : dec mX8_worst 90 = .ok (.iload 4, 2) := by decide +kernel
theorem dX8_worst_92 : dec mX8_worst 92 = .ok (.iload 6, 2) := by decide +kernel
theorem dX8_worst_94 : dec mX8_worst 94 = .ok (.iload_n 3, 1) := by decide +kernel
theorem dX8_worst_95 : dec mX8_worst 95 = .ok (.if_icmp .gt 15, 3) := by decide +kernel
theorem dX8_worst_98 : dec mX8_worst 98 = .ok (.iload 6, 2) := by decide +kernel
theorem dX8_worst_100 : dec mX8_worst 100 = .ok (.iload_n 3, 1) := by decide +kernel
theorem dX8_worst_101 : dec mX8_worst 101 = .ok (.if_icmp .ne 13, 3) := by decide +kernel
theorem dX8_worst_104 : dec mX8_worst 104 = .ok (.iload 5, 2) := by decide +kernel
theorem dX8_worst_106 : dec mX8_worst 106 = .ok (.iload_n 2, 1) := by decide +kernel
theorem dX8_worst_107 : dec mX8_worst 107 = .ok (.if_icmp .ge 7, 3) := by decide +kernel
theorem dX8_worst_110 : dec mX8_worst 110 = .ok (.iconst 1, 1) := by decide +kernel
theorem dX8_worst_111 : dec mX8_worst 111 = .ok (.goto 4, 3) := by decide +kernel
theorem dX8_worst_114 : dec mX8_worst 114 = .ok (.iconst 0, 1) := by decide +kernel
theorem dX8_worst_115 : dec mX8_worst 115 = .ok (.iadd, 1) := by decide +kernel
theorem dX8_worst_116 : dec mX8_worst 116 = .ok (.istore 4, 2) := by decide +kernel
theorem dX8_worst_118 : dec mX8_worst 118 = .ok (.iinc 5 1, 3) := by decide +kernel
theorem dX8_worst_121 : dec mX8_worst 121 = .ok (.goto (-61), 3) := by decide +kernel
theorem dX8_worst_124 : dec mX8_worst 124 = .ok (.iload 4, 2) := by decide +kernel
theorem dX8_worst_126 : dec mX8_worst 126 = .ok (.iload_n 1, 1) := by decide +kernel
theorem dX8_worst_127 : dec mX8_worst 127 = .ok (.if_icmp .ne 5, 3) := by decide +kernel
theorem dX8_worst_130 : dec mX8_worst 130 = .ok (.iload_n 2, 1) := by decide +kernel
theorem dX8_worst_131 : dec mX8_worst 131 = .ok (.ireturn, 1) := by decide +kernel
theorem dX8_worst_132 : dec mX8_worst 132 = .ok (.iinc 2 1, 3) := by decide +kernel
theorem dX8_worst_135 : dec mX8_worst 135 = .ok (.goto (-108), 3) := by decide +kernel
theorem dX8_worst_138 : dec mX8_worst 138 = .ok (.iconst (-1), 1) := by decide +kernel
theorem dX8_worst_139 : dec mX8_worst 139 = .ok (.ireturn, 1) := by decide +kernel
theorem dX8_fits_0 : dec mX8_fits 0 = .ok (.aload_n 0, 1) := by decide +kernel
theorem dX8_fits_1 : dec mX8_fits 1 = .ok (.aload_n 0, 1) := by decide +kernel
theorem dX8_fits_2 : dec mX8_fits 2 = .ok (.getfield 13, 3) := by decide +kernel
theorem dX8_fits_5 : dec mX8_fits 5 = .ok (.iload_n 1, 1) := by decide +kernel
theorem dX8_fits_6 : dec mX8_fits 6 = .ok (.invokestatic 152, 3) := by decide +kernel
theorem dX8_fits_9 : dec mX8_fits 9 = .ok (.ifCond .eq 7, 3) := by decide +kernel
theorem dX8_fits_12 : dec mX8_fits 12 = .ok (.iconst 0, 1) := by decide +kernel
theorem dX8_fits_13 : dec mX8_fits 13 = .ok (.goto 4, 3) := by decide +kernel
theorem dX8_fits_16 : dec mX8_fits 16 = .ok (.iconst 1, 1) := by decide +kernel
theorem dX8_fits_17 : dec mX8_fits 17 = .ok (.invokevirtual 167, 3) := by decide +kernel
theorem dX8_fits_20 : dec mX8_fits 20 = .ok (.ifCond .eq 5, 3) := by decide +kernel
theorem dX8_fits_23 : dec mX8_fits 23 = .ok (.iconst 0, 1) := by decide +kernel
theorem dX8_fits_24 : dec mX8_fits 24 = .ok (.ireturn, 1) := by decide +kernel
theorem dX8_fits_25 : dec mX8_fits 25 = .ok (.iconst (-1), 1) := by decide +kernel
theorem dX8_fits_26 : dec mX8_fits 26 = .ok (.istore_n 2, 1) := by decide +kernel
theorem dX8_fits_27 : dec mX8_fits 27 = .ok (.iconst 0, 1) := by decide +kernel
theorem dX8_fits_28 : dec mX8_fits 28 = .ok (.istore_n 3, 1) := by decide +kernel
theorem dX8_fits_29 : dec mX8_fits 29 = .ok (.iconst 0, 1) := by decide +kernel
theorem dX8_fits_30 : dec mX8_fits 30 = .ok (.istore 4, 2) := by decide +kernel
theorem dX8_fits_32 : dec mX8_fits 32 = .ok (.iload 4, 2) := by decide +kernel
theorem dX8_fits_34 : dec mX8_fits 34 = .ok (.aload_n 0, 1) := by decide +kernel
theorem dX8_fits_35 : dec mX8_fits 35 = .ok (.getfield 13, 3) := by decide +kernel
theorem dX8_fits_38 : dec mX8_fits 38 = .ok (.invokestatic 54, 3) := by decide +kernel
theorem dX8_fits_41 : dec mX8_fits 41 = .ok (.if_icmp .ge 83, 3) := by decide +kernel
theorem dX8_fits_44 : dec mX8_fits 44 = .ok (.aload_n 0, 1) := by decide +kernel
theorem dX8_fits_45 : dec mX8_fits 45 = .ok (.getfield 13, 3) := by decide +kernel
theorem dX8_fits_48 : dec mX8_fits 48 = .ok (.iload 4, 2) := by decide +kernel
theorem dX8_fits_50 : dec mX8_fits 50 = .ok (.invokestatic 123, 3) := by decide +kernel
theorem dX8_fits_53 : dec mX8_fits 53 = .ok (.istore 5, 2) := by decide +kernel
theorem dX8_fits_55 : dec mX8_fits 55 = .ok (.aload_n 0, 1) := by decide +kernel
theorem dX8_fits_56 : dec mX8_fits 56 = .ok (.getfield 13, 3) := by decide +kernel
theorem dX8_fits_59 : dec mX8_fits 59 = .ok (.iload 5, 2) := by decide +kernel
theorem dX8_fits_61 : dec mX8_fits 61 = .ok (.aload_n 0, 1) := by decide +kernel
theorem dX8_fits_62 : dec mX8_fits 62 = .ok (.getfield 13, 3) := by decide +kernel
theorem dX8_fits_65 : dec mX8_fits 65 = .ok (.iload 5, 2) := by decide +kernel
theorem dX8_fits_67 : dec mX8_fits 67 = .ok (.invokestatic 82, 3) := by decide +kernel
theorem dX8_fits_70 : dec mX8_fits 70 = .ok (.iload_n 1, 1) := by decide +kernel
theorem dX8_fits_71 : dec mX8_fits 71 = .ok (.invokestatic 88, 3) := by decide +kernel
theorem dX8_fits_74 : dec mX8_fits 74 = .ok (.istore 6, 2) := by decide +kernel
theorem dX8_fits_76 : dec mX8_fits 76 = .ok (.iload_n 2, 1) := by decide +kernel
theorem dX8_fits_77 : dec mX8_fits 77 = .ok (.iconst (-1), 1) := by decide +kernel
theorem dX8_fits_78 : dec mX8_fits 78 = .ok (.if_icmp .eq 9, 3) := by decide +kernel
theorem dX8_fits_81 : dec mX8_fits 81 = .ok (.iload 6, 2) := by decide +kernel
theorem dX8_fits_83 : dec mX8_fits 83 = .ok (.iload_n 3, 1) := by decide +kernel
theorem dX8_fits_84 : dec mX8_fits 84 = .ok (.if_icmp .ge 7, 3) := by decide +kernel
theorem dX8_fits_87 : dec mX8_fits 87 = .ok (.iconst 1, 1) := by decide +kernel
theorem dX8_fits_88 : dec mX8_fits 88 = .ok (.goto 4, 3) := by decide +kernel
theorem dX8_fits_91 : dec mX8_fits 91 = .ok (.iconst 0, 1) := by decide +kernel
theorem dX8_fits_92 : dec mX8_fits 92 = .ok (.istore 7, 2) := by decide +kernel
theorem dX8_fits_94 : dec mX8_fits 94 = .ok (.iload 7, 2) := by decide +kernel
theorem dX8_fits_96 : dec mX8_fits 96 = .ok (.ifCond .eq 8, 3) := by decide +kernel
theorem dX8_fits_99 : dec mX8_fits 99 = .ok (.iload 4, 2) := by decide +kernel
theorem dX8_fits_101 : dec mX8_fits 101 = .ok (.goto 4, 3) := by decide +kernel
theorem dX8_fits_104 : dec mX8_fits 104 = .ok (.iload_n 2, 1) := by decide +kernel
theorem dX8_fits_105 : dec mX8_fits 105 = .ok (.istore_n 2, 1) := by decide +kernel
theorem dX8_fits_106 : dec mX8_fits 106 = .ok (.iload 7, 2) := by decide +kernel
theorem dX8_fits_108 : dec mX8_fits 108 = .ok (.ifCond .eq 8, 3) := by decide +kernel
theorem dX8_fits_111 : dec mX8_fits 111 = .ok (.iload 6, 2) := by decide +kernel
theorem dX8_fits_113 : dec mX8_fits 113 = .ok (.goto 4, 3) := by decide +kernel
theorem dX8_fits_116 : dec mX8_fits 116 = .ok (.iload_n 3, 1) := by decide +kernel
theorem dX8_fits_117 : dec mX8_fits 117 = .ok (.istore_n 3, 1) := by decide +kernel
theorem dX8_fits_118 : dec mX8_fits 118 = .ok (.iinc 4 1, 3) := by decide +kernel
theorem dX8_fits_121 : dec mX8_fits 121 = .ok (.goto (-89), 3) := by decide +kernel
theorem dX8_fits_124 : dec mX8_fits 124 = .ok (.iload_n 2, 1) := by decide +kernel
theorem dX8_fits_125 : dec mX8_fits 125 = .ok (.ireturn, 1) := by decide +kernel
theorem dX8_command_0 : dec mX8_command 0 = .ok (.iload_n 2, 1) := by decide +kernel
theorem dX8_command_1 : dec mX8_command 1 = .ok (.sipush 10000, 3) := by decide +kernel
theorem dX8_command_4 : dec mX8_command 4 = .ok (.idiv, 1) := by decide +kernel
theorem dX8_command_5 : dec mX8_command 5 = .ok (.istore_n 3, 1) := by decide +kernel
theorem dX8_command_6 : dec mX8_command 6 = .ok (.iload_n 2, 1) := by decide +kernel
theorem dX8_command_7 : dec mX8_command 7 = .ok (.bipush 100, 2) := by decide +kernel
theorem dX8_command_9 : dec mX8_command 9 = .ok (.idiv, 1) := by decide +kernel
theorem dX8_command_10 : dec mX8_command 10 = .ok (.bipush 100, 2) := by decide +kernel
theorem dX8_command_12 : dec mX8_command 12 = .ok (.irem, 1) := by decide +kernel
theorem dX8_command_13 : dec mX8_command 13 = .ok (.istore 4, 2) := by decide +kernel
theorem dX8_command_15 : dec mX8_command 15 = .ok (.iload_n 2, 1) := by decide +kernel
theorem dX8_command_16 : dec mX8_command 16 = .ok (.bipush 100, 2) := by decide +kernel
theorem dX8_command_18 : dec mX8_command 18 = .ok (.irem, 1) := by decide +kernel
theorem dX8_command_19 : dec mX8_command 19 = .ok (.istore 5, 2) := by decide +kernel
theorem dX8_command_21 : dec mX8_command 21 = .ok (.iload_n 2, 1) := by decide +kernel
theorem dX8_command_22 : dec mX8_command 22 = .ok (.sipush 1000, 3) := by decide +kernel
theorem dX8_command_25 : dec mX8_command 25 = .ok (.idiv, 1) := by decide +kernel
theorem dX8_command_26 : dec mX8_command 26 = .ok (.istore 6, 2) := by decide +kernel
theorem dX8_command_28 : dec mX8_command 28 = .ok (.iload_n 2, 1) := by decide +kernel
theorem dX8_command_29 : dec mX8_command 29 = .ok (.bipush 10, 2) := by decide +kernel
theorem dX8_command_31 : dec mX8_command 31 = .ok (.idiv, 1) := by decide +kernel
theorem dX8_command_32 : dec mX8_command 32 = .ok (.bipush 100, 2) := by decide +kernel
theorem dX8_command_34 : dec mX8_command 34 = .ok (.irem, 1) := by decide +kernel
theorem dX8_command_35 : dec mX8_command 35 = .ok (.istore 7, 2) := by decide +kernel
theorem dX8_command_37 : dec mX8_command 37 = .ok (.iload_n 2, 1) := by decide +kernel
theorem dX8_command_38 : dec mX8_command 38 = .ok (.bipush 10, 2) := by decide +kernel
theorem dX8_command_40 : dec mX8_command 40 = .ok (.irem, 1) := by decide +kernel
theorem dX8_command_41 : dec mX8_command 41 = .ok (.istore 8, 2) := by decide +kernel
theorem dX8_command_43 : dec mX8_command 43 = .ok (.iload 5, 2) := by decide +kernel
theorem dX8_command_45 : dec mX8_command 45 = .ok (.bipush 10, 2) := by decide +kernel
theorem dX8_command_47 : dec mX8_command 47 = .ok (.idiv, 1) := by decide +kernel
theorem dX8_command_48 : dec mX8_command 48 = .ok (.istore 9, 2) := by decide +kernel
theorem dX8_command_50 : dec mX8_command 50 = .ok (.iload_n 1, 1) := by decide +kernel
theorem dX8_command_51 : dec mX8_command 51 = .ok (.tableswitch 366 1 9 #[49, 83, 110, 136, 161, 191, 249, 301, 349], 49) := by decide +kernel
theorem dX8_command_100 : dec mX8_command 100 = .ok (.aload_n 0, 1) := by decide +kernel
theorem dX8_command_101 : dec mX8_command 101 = .ok (.getfield 16, 3) := by decide +kernel
theorem dX8_command_104 : dec mX8_command 104 = .ok (.iload_n 3, 1) := by decide +kernel
theorem dX8_command_105 : dec mX8_command 105 = .ok (.iload 4, 2) := by decide +kernel
theorem dX8_command_107 : dec mX8_command 107 = .ok (.invokestatic 158, 3) := by decide +kernel
theorem dX8_command_110 : dec mX8_command 110 = .ok (.ifCond .eq 22, 3) := by decide +kernel
theorem dX8_command_113 : dec mX8_command 113 = .ok (.aload_n 0, 1) := by decide +kernel
theorem dX8_command_114 : dec mX8_command 114 = .ok (.getfield 16, 3) := by decide +kernel
theorem dX8_command_117 : dec mX8_command 117 = .ok (.iload_n 3, 1) := by decide +kernel
theorem dX8_command_118 : dec mX8_command 118 = .ok (.iload 4, 2) := by decide +kernel
theorem dX8_command_120 : dec mX8_command 120 = .ok (.iload 5, 2) := by decide +kernel
theorem dX8_command_122 : dec mX8_command 122 = .ok (.invokestatic 195, 3) := by decide +kernel
theorem dX8_command_125 : dec mX8_command 125 = .ok (.ifCond .lt 7, 3) := by decide +kernel
theorem dX8_command_128 : dec mX8_command 128 = .ok (.iconst 1, 1) := by decide +kernel
theorem dX8_command_129 : dec mX8_command 129 = .ok (.goto 4, 3) := by decide +kernel
theorem dX8_command_132 : dec mX8_command 132 = .ok (.iconst 0, 1) := by decide +kernel
theorem dX8_command_133 : dec mX8_command 133 = .ok (.ireturn, 1) := by decide +kernel
theorem dX8_command_134 : dec mX8_command 134 = .ok (.iload_n 2, 1) := by decide +kernel
theorem dX8_command_135 : dec mX8_command 135 = .ok (.sipush 1000, 3) := by decide +kernel
theorem dX8_command_138 : dec mX8_command 138 = .ok (.irem, 1) := by decide +kernel
theorem dX8_command_139 : dec mX8_command 139 = .ok (.ifCond .ne 20, 3) := by decide +kernel
theorem dX8_command_142 : dec mX8_command 142 = .ok (.aload_n 0, 1) := by decide +kernel
theorem dX8_command_143 : dec mX8_command 143 = .ok (.aload_n 0, 1) := by decide +kernel
theorem dX8_command_144 : dec mX8_command 144 = .ok (.getfield 16, 3) := by decide +kernel
theorem dX8_command_147 : dec mX8_command 147 = .ok (.iload 6, 2) := by decide +kernel
theorem dX8_command_149 : dec mX8_command 149 = .ok (.invokevirtual 209, 3) := by decide +kernel
theorem dX8_command_152 : dec mX8_command 152 = .ok (.ifCond .eq 7, 3) := by decide +kernel
theorem dX8_command_155 : dec mX8_command 155 = .ok (.iconst 1, 1) := by decide +kernel
theorem dX8_command_156 : dec mX8_command 156 = .ok (.goto 4, 3) := by decide +kernel
theorem dX8_command_159 : dec mX8_command 159 = .ok (.iconst 0, 1) := by decide +kernel
theorem dX8_command_160 : dec mX8_command 160 = .ok (.ireturn, 1) := by decide +kernel
theorem dX8_command_161 : dec mX8_command 161 = .ok (.iload 8, 2) := by decide +kernel
theorem dX8_command_163 : dec mX8_command 163 = .ok (.ifCond .ne 22, 3) := by decide +kernel
theorem dX8_command_166 : dec mX8_command 166 = .ok (.aload_n 0, 1) := by decide +kernel
theorem dX8_command_167 : dec mX8_command 167 = .ok (.aload_n 0, 1) := by decide +kernel
theorem dX8_command_168 : dec mX8_command 168 = .ok (.getfield 16, 3) := by decide +kernel
theorem dX8_command_171 : dec mX8_command 171 = .ok (.iload 6, 2) := by decide +kernel
theorem dX8_command_173 : dec mX8_command 173 = .ok (.iload 7, 2) := by decide +kernel
theorem dX8_command_175 : dec mX8_command 175 = .ok (.invokevirtual 212, 3) := by decide +kernel
theorem dX8_command_178 : dec mX8_command 178 = .ok (.ifCond .eq 7, 3) := by decide +kernel
theorem dX8_command_181 : dec mX8_command 181 = .ok (.iconst 1, 1) := by decide +kernel
theorem dX8_command_182 : dec mX8_command 182 = .ok (.goto 4, 3) := by decide +kernel
theorem dX8_command_185 : dec mX8_command 185 = .ok (.iconst 0, 1) := by decide +kernel
theorem dX8_command_186 : dec mX8_command 186 = .ok (.ireturn, 1) := by decide +kernel
theorem dX8_command_187 : dec mX8_command 187 = .ok (.iload 5, 2) := by decide +kernel
theorem dX8_command_189 : dec mX8_command 189 = .ok (.ifCond .ne 21, 3) := by decide +kernel
theorem dX8_command_192 : dec mX8_command 192 = .ok (.aload_n 0, 1) := by decide +kernel
theorem dX8_command_193 : dec mX8_command 193 = .ok (.aload_n 0, 1) := by decide +kernel
theorem dX8_command_194 : dec mX8_command 194 = .ok (.getfield 16, 3) := by decide +kernel
theorem dX8_command_197 : dec mX8_command 197 = .ok (.iload_n 3, 1) := by decide +kernel
theorem dX8_command_198 : dec mX8_command 198 = .ok (.iload 4, 2) := by decide +kernel
theorem dX8_command_200 : dec mX8_command 200 = .ok (.invokevirtual 215, 3) := by decide +kernel
theorem dX8_command_203 : dec mX8_command 203 = .ok (.ifCond .eq 7, 3) := by decide +kernel
theorem dX8_command_206 : dec mX8_command 206 = .ok (.iconst 1, 1) := by decide +kernel
theorem dX8_command_207 : dec mX8_command 207 = .ok (.goto 4, 3) := by decide +kernel
theorem dX8_command_210 : dec mX8_command 210 = .ok (.iconst 0, 1) := by decide +kernel
theorem dX8_command_211 : dec mX8_command 211 = .ok (.ireturn, 1) := by decide +kernel
theorem dX8_command_212 : dec mX8_command 212 = .ok (.iload_n 2, 1) := by decide +kernel
theorem dX8_command_213 : dec mX8_command 213 = .ok (.i2l, 1) := by decide +kernel
theorem dX8_command_214 : dec mX8_command 214 = .ok (.lconst 1, 1) := by decide +kernel
theorem dX8_command_215 : dec mX8_command 215 = .ok (.ldc2_w 263, 3) := by decide +kernel
theorem dX8_command_218 : dec mX8_command 218 = .ok (.invokestatic 50, 3) := by decide +kernel
theorem dX8_command_221 : dec mX8_command 221 = .ok (.ifCond .eq 19, 3) := by decide +kernel
theorem dX8_command_224 : dec mX8_command 224 = .ok (.aload_n 0, 1) := by decide +kernel
theorem dX8_command_225 : dec mX8_command 225 = .ok (.aload_n 0, 1) := by decide +kernel
theorem dX8_command_226 : dec mX8_command 226 = .ok (.getfield 16, 3) := by decide +kernel
theorem dX8_command_229 : dec mX8_command 229 = .ok (.iload_n 2, 1) := by decide +kernel
theorem dX8_command_230 : dec mX8_command 230 = .ok (.invokevirtual 225, 3) := by decide +kernel
theorem dX8_command_233 : dec mX8_command 233 = .ok (.ifCond .lt 7, 3) := by decide +kernel
theorem dX8_command_236 : dec mX8_command 236 = .ok (.iconst 1, 1) := by decide +kernel
theorem dX8_command_237 : dec mX8_command 237 = .ok (.goto 4, 3) := by decide +kernel
theorem dX8_command_240 : dec mX8_command 240 = .ok (.iconst 0, 1) := by decide +kernel
theorem dX8_command_241 : dec mX8_command 241 = .ok (.ireturn, 1) := by decide +kernel
theorem dX8_command_242 : dec mX8_command 242 = .ok (.iload 8, 2) := by decide +kernel
theorem dX8_command_244 : dec mX8_command 244 = .ok (.ifCond .ne 54, 3) := by decide +kernel
theorem dX8_command_247 : dec mX8_command 247 = .ok (.aload_n 0, 1) := by decide +kernel
theorem dX8_command_248 : dec mX8_command 248 = .ok (.getfield 16, 3) := by decide +kernel
theorem dX8_command_251 : dec mX8_command 251 = .ok (.iload 6, 2) := by decide +kernel
theorem dX8_command_253 : dec mX8_command 253 = .ok (.invokestatic 152, 3) := by decide +kernel
theorem dX8_command_256 : dec mX8_command 256 = .ok (.ifCond .eq 42, 3) := by decide +kernel
theorem dX8_command_259 : dec mX8_command 259 = .ok (.aload_n 0, 1) := by decide +kernel
theorem dX8_command_260 : dec mX8_command 260 = .ok (.getfield 16, 3) := by decide +kernel
theorem dX8_command_263 : dec mX8_command 263 = .ok (.iload 7, 2) := by decide +kernel
theorem dX8_command_265 : dec mX8_command 265 = .ok (.invokestatic 152, 3) := by decide +kernel
theorem dX8_command_268 : dec mX8_command 268 = .ok (.ifCond .eq 30, 3) := by decide +kernel
theorem dX8_command_271 : dec mX8_command 271 = .ok (.aload_n 0, 1) := by decide +kernel
theorem dX8_command_272 : dec mX8_command 272 = .ok (.getfield 16, 3) := by decide +kernel
theorem dX8_command_275 : dec mX8_command 275 = .ok (.sipush 227, 3) := by decide +kernel
theorem dX8_command_278 : dec mX8_command 278 = .ok (.aload_n 0, 1) := by decide +kernel
theorem dX8_command_279 : dec mX8_command 279 = .ok (.getfield 16, 3) := by decide +kernel
theorem dX8_command_282 : dec mX8_command 282 = .ok (.iload 6, 2) := by decide +kernel
theorem dX8_command_284 : dec mX8_command 284 = .ok (.invokestatic 123, 3) := by decide +kernel
theorem dX8_command_287 : dec mX8_command 287 = .ok (.iadd, 1) := by decide +kernel
theorem dX8_command_288 : dec mX8_command 288 = .ok (.iaload, 1) := by decide +kernel
theorem dX8_command_289 : dec mX8_command 289 = .ok (.iload 7, 2) := by decide +kernel
theorem dX8_command_291 : dec mX8_command 291 = .ok (.if_icmp .ne 7, 3) := by decide +kernel
theorem dX8_command_294 : dec mX8_command 294 = .ok (.iconst 1, 1) := by decide +kernel
theorem dX8_command_295 : dec mX8_command 295 = .ok (.goto 4, 3) := by decide +kernel
theorem dX8_command_298 : dec mX8_command 298 = .ok (.iconst 0, 1) := by decide +kernel
theorem dX8_command_299 : dec mX8_command 299 = .ok (.ireturn, 1) := by decide +kernel
theorem dX8_command_300 : dec mX8_command 300 = .ok (.iload 7, 2) := by decide +kernel
theorem dX8_command_302 : dec mX8_command 302 = .ok (.ifCond .ne 48, 3) := by decide +kernel
theorem dX8_command_305 : dec mX8_command 305 = .ok (.iload 8, 2) := by decide +kernel
theorem dX8_command_307 : dec mX8_command 307 = .ok (.iconst 2, 1) := by decide +kernel
theorem dX8_command_308 : dec mX8_command 308 = .ok (.if_icmp .ge 42, 3) := by decide +kernel
theorem dX8_command_311 : dec mX8_command 311 = .ok (.aload_n 0, 1) := by decide +kernel
theorem dX8_command_312 : dec mX8_command 312 = .ok (.getfield 16, 3) := by decide +kernel
theorem dX8_command_315 : dec mX8_command 315 = .ok (.iload 6, 2) := by decide +kernel
theorem dX8_command_317 : dec mX8_command 317 = .ok (.invokestatic 152, 3) := by decide +kernel
theorem dX8_command_320 : dec mX8_command 320 = .ok (.ifCond .eq 30, 3) := by decide +kernel
theorem dX8_command_323 : dec mX8_command 323 = .ok (.aload_n 0, 1) := by decide +kernel
theorem dX8_command_324 : dec mX8_command 324 = .ok (.getfield 16, 3) := by decide +kernel
theorem dX8_command_327 : dec mX8_command 327 = .ok (.sipush 339, 3) := by decide +kernel
theorem dX8_command_330 : dec mX8_command 330 = .ok (.aload_n 0, 1) := by decide +kernel
theorem dX8_command_331 : dec mX8_command 331 = .ok (.getfield 16, 3) := by decide +kernel
theorem dX8_command_334 : dec mX8_command 334 = .ok (.iload 6, 2) := by decide +kernel
theorem dX8_command_336 : dec mX8_command 336 = .ok (.invokestatic 123, 3) := by decide +kernel
theorem dX8_command_339 : dec mX8_command 339 = .ok (.iadd, 1) := by decide +kernel
theorem dX8_command_340 : dec mX8_command 340 = .ok (.iaload, 1) := by decide +kernel
theorem dX8_command_341 : dec mX8_command 341 = .ok (.iload 8, 2) := by decide +kernel
theorem dX8_command_343 : dec mX8_command 343 = .ok (.if_icmp .ne 7, 3) := by decide +kernel
theorem dX8_command_346 : dec mX8_command 346 = .ok (.iconst 1, 1) := by decide +kernel
theorem dX8_command_347 : dec mX8_command 347 = .ok (.goto 4, 3) := by decide +kernel
theorem dX8_command_350 : dec mX8_command 350 = .ok (.iconst 0, 1) := by decide +kernel
theorem dX8_command_351 : dec mX8_command 351 = .ok (.ireturn, 1) := by decide +kernel
theorem dX8_command_352 : dec mX8_command 352 = .ok (.iload 8, 2) := by decide +kernel
theorem dX8_command_354 : dec mX8_command 354 = .ok (.ifCond .ne 44, 3) := by decide +kernel
theorem dX8_command_357 : dec mX8_command 357 = .ok (.aload_n 0, 1) := by decide +kernel
theorem dX8_command_358 : dec mX8_command 358 = .ok (.getfield 16, 3) := by decide +kernel
theorem dX8_command_361 : dec mX8_command 361 = .ok (.iload_n 3, 1) := by decide +kernel
theorem dX8_command_362 : dec mX8_command 362 = .ok (.iload 4, 2) := by decide +kernel
theorem dX8_command_364 : dec mX8_command 364 = .ok (.invokestatic 158, 3) := by decide +kernel
theorem dX8_command_367 : dec mX8_command 367 = .ok (.ifCond .eq 31, 3) := by decide +kernel
theorem dX8_command_370 : dec mX8_command 370 = .ok (.aload_n 0, 1) := by decide +kernel
theorem dX8_command_371 : dec mX8_command 371 = .ok (.getfield 16, 3) := by decide +kernel
theorem dX8_command_374 : dec mX8_command 374 = .ok (.aload_n 0, 1) := by decide +kernel
theorem dX8_command_375 : dec mX8_command 375 = .ok (.getfield 16, 3) := by decide +kernel
theorem dX8_command_378 : dec mX8_command 378 = .ok (.invokestatic 40, 3) := by decide +kernel
theorem dX8_command_381 : dec mX8_command 381 = .ok (.iload 4, 2) := by decide +kernel
theorem dX8_command_383 : dec mX8_command 383 = .ok (.imul, 1) := by decide +kernel
theorem dX8_command_384 : dec mX8_command 384 = .ok (.iload_n 3, 1) := by decide +kernel
theorem dX8_command_385 : dec mX8_command 385 = .ok (.iadd, 1) := by decide +kernel
theorem dX8_command_386 : dec mX8_command 386 = .ok (.invokestatic 245, 3) := by decide +kernel
theorem dX8_command_389 : dec mX8_command 389 = .ok (.iload 9, 2) := by decide +kernel
theorem dX8_command_391 : dec mX8_command 391 = .ok (.if_icmp .ne 7, 3) := by decide +kernel
theorem dX8_command_394 : dec mX8_command 394 = .ok (.iconst 1, 1) := by decide +kernel
theorem dX8_command_395 : dec mX8_command 395 = .ok (.goto 4, 3) := by decide +kernel
theorem dX8_command_398 : dec mX8_command 398 = .ok (.iconst 0, 1) := by decide +kernel
theorem dX8_command_399 : dec mX8_command 399 = .ok (.ireturn, 1) := by decide +kernel
theorem dX8_command_400 : dec mX8_command 400 = .ok (.aload_n 0, 1) := by decide +kernel
theorem dX8_command_401 : dec mX8_command 401 = .ok (.getfield 16, 3) := by decide +kernel
theorem dX8_command_404 : dec mX8_command 404 = .ok (.invokestatic 146, 3) := by decide +kernel
theorem dX8_command_407 : dec mX8_command 407 = .ok (.iload_n 2, 1) := by decide +kernel
theorem dX8_command_408 : dec mX8_command 408 = .ok (.if_icmp .gt 7, 3) := by decide +kernel
theorem dX8_command_411 : dec mX8_command 411 = .ok (.iconst 1, 1) := by decide +kernel
theorem dX8_command_412 : dec mX8_command 412 = .ok (.goto 4, 3) := by decide +kernel
theorem dX8_command_415 : dec mX8_command 415 = .ok (.iconst 0, 1) := by decide +kernel
theorem dX8_command_416 : dec mX8_command 416 = .ok (.ireturn, 1) := by decide +kernel
theorem dX8_command_417 : dec mX8_command 417 = .ok (.iconst 0, 1) := by decide +kernel
theorem dX8_command_418 : dec mX8_command 418 = .ok (.ireturn, 1) := by decide +kernel
theorem dX8_runScript_0 : dec mX8_runScript 0 = .ok (.lconst 1, 1) := by decide +kernel
theorem dX8_runScript_1 : dec mX8_runScript 1 = .ok (.lstore 4, 2) := by decide +kernel
theorem dX8_runScript_3 : dec mX8_runScript 3 = .ok (.iconst 0, 1) := by decide +kernel
theorem dX8_runScript_4 : dec mX8_runScript 4 = .ok (.istore 6, 2) := by decide +kernel
theorem dX8_runScript_6 : dec mX8_runScript 6 = .ok (.iload 6, 2) := by decide +kernel
theorem dX8_runScript_8 : dec mX8_runScript 8 = .ok (.iload_n 1, 1) := by decide +kernel
theorem dX8_runScript_9 : dec mX8_runScript 9 = .ok (.if_icmp .ge 23, 3) := by decide +kernel
theorem dX8_runScript_12 : dec mX8_runScript 12 = .ok (.iload 6, 2) := by decide +kernel
theorem dX8_runScript_14 : dec mX8_runScript 14 = .ok (.iconst 3, 1) := by decide +kernel
theorem dX8_runScript_15 : dec mX8_runScript 15 = .ok (.if_icmp .ge 17, 3) := by decide +kernel
theorem dX8_runScript_18 : dec mX8_runScript 18 = .ok (.lload 4, 2) := by decide +kernel
theorem dX8_runScript_20 : dec mX8_runScript 20 = .ok (.ldc2_w 270, 3) := by decide +kernel
theorem dX8_runScript_23 : dec mX8_runScript 23 = .ok (.lmul, 1) := by decide +kernel
theorem dX8_runScript_24 : dec mX8_runScript 24 = .ok (.lstore 4, 2) := by decide +kernel
theorem dX8_runScript_26 : dec mX8_runScript 26 = .ok (.iinc 6 1, 3) := by decide +kernel
theorem dX8_runScript_29 : dec mX8_runScript 29 = .ok (.goto (-23), 3) := by decide +kernel
theorem dX8_runScript_32 : dec mX8_runScript 32 = .ok (.aload_n 0, 1) := by decide +kernel
theorem dX8_runScript_33 : dec mX8_runScript 33 = .ok (.iload_n 1, 1) := by decide +kernel
theorem dX8_runScript_34 : dec mX8_runScript 34 = .ok (.i2l, 1) := by decide +kernel
theorem dX8_runScript_35 : dec mX8_runScript 35 = .ok (.lconst 1, 1) := by decide +kernel
theorem dX8_runScript_36 : dec mX8_runScript 36 = .ok (.ldc2_w 272, 3) := by decide +kernel
theorem dX8_runScript_39 : dec mX8_runScript 39 = .ok (.invokestatic 50, 3) := by decide +kernel
theorem dX8_runScript_42 : dec mX8_runScript 42 = .ok (.ifCond .eq 19, 3) := by decide +kernel
theorem dX8_runScript_45 : dec mX8_runScript 45 = .ok (.lload_n 2, 1) := by decide +kernel
theorem dX8_runScript_46 : dec mX8_runScript 46 = .ok (.lconst 0, 1) := by decide +kernel
theorem dX8_runScript_47 : dec mX8_runScript 47 = .ok (.lload 4, 2) := by decide +kernel
theorem dX8_runScript_49 : dec mX8_runScript 49 = .ok (.lconst 1, 1) := by decide +kernel
theorem dX8_runScript_50 : dec mX8_runScript 50 = .ok (.lsub, 1) := by decide +kernel
theorem dX8_runScript_51 : dec mX8_runScript 51 = .ok (.invokestatic 50, 3) := by decide +kernel
theorem dX8_runScript_54 : dec mX8_runScript 54 = .ok (.ifCond .eq 7, 3) := by decide +kernel
theorem dX8_runScript_57 : dec mX8_runScript 57 = .ok (.iconst 0, 1) := by decide +kernel
theorem dX8_runScript_58 : dec mX8_runScript 58 = .ok (.goto 4, 3) := by decide +kernel
theorem dX8_runScript_61 : dec mX8_runScript 61 = .ok (.iconst 1, 1) := by decide +kernel
theorem dX8_runScript_62 : dec mX8_runScript 62 = .ok (.invokevirtual 167, 3) := by decide +kernel
theorem dX8_runScript_65 : dec mX8_runScript 65 = .ok (.ifCond .eq 5, 3) := by decide +kernel
theorem dX8_runScript_68 : dec mX8_runScript 68 = .ok (.iconst 0, 1) := by decide +kernel
theorem dX8_runScript_69 : dec mX8_runScript 69 = .ok (.ireturn, 1) := by decide +kernel
theorem dX8_runScript_70 : dec mX8_runScript 70 = .ok (.aload_n 0, 1) := by decide +kernel
theorem dX8_runScript_71 : dec mX8_runScript 71 = .ok (.getfield 13, 3) := by decide +kernel
theorem dX8_runScript_74 : dec mX8_runScript 74 = .ok (.iconst 0, 1) := by decide +kernel
theorem dX8_runScript_75 : dec mX8_runScript 75 = .ok (.aload_n 0, 1) := by decide +kernel
theorem dX8_runScript_76 : dec mX8_runScript 76 = .ok (.getfield 16, 3) := by decide +kernel
theorem dX8_runScript_79 : dec mX8_runScript 79 = .ok (.iconst 0, 1) := by decide +kernel
theorem dX8_runScript_80 : dec mX8_runScript 80 = .ok (.invokestatic 234, 3) := by decide +kernel
theorem dX8_runScript_83 : dec mX8_runScript 83 = .ok (.iconst 0, 1) := by decide +kernel
theorem dX8_runScript_84 : dec mX8_runScript 84 = .ok (.istore 6, 2) := by decide +kernel
theorem dX8_runScript_86 : dec mX8_runScript 86 = .ok (.iload 6, 2) := by decide +kernel
theorem dX8_runScript_88 : dec mX8_runScript 88 = .ok (.iload_n 1, 1) := by decide +kernel
theorem dX8_runScript_89 : dec mX8_runScript 89 = .ok (.if_icmp .ge 50, 3) := by decide +kernel
theorem dX8_runScript_92 : dec mX8_runScript 92 = .ok (.lload 4, 2) := by decide +kernel
theorem dX8_runScript_94 : dec mX8_runScript 94 = .ok (.ldc2_w 270, 3) := by decide +kernel
theorem dX8_runScript_97 : dec mX8_runScript 97 = .ok (.ldiv, 1) := by decide +kernel
theorem dX8_runScript_98 : dec mX8_runScript 98 = .ok (.lstore 4, 2) := by decide +kernel
theorem dX8_runScript_100 : dec mX8_runScript 100 = .ok (.lload_n 2, 1) := by decide +kernel
theorem dX8_runScript_101 : dec mX8_runScript 101 = .ok (.lload 4, 2) := by decide +kernel
theorem dX8_runScript_103 : dec mX8_runScript 103 = .ok (.ldiv, 1) := by decide +kernel
theorem dX8_runScript_104 : dec mX8_runScript 104 = .ok (.ldc2_w 270, 3) := by decide +kernel
theorem dX8_runScript_107 : dec mX8_runScript 107 = .ok (.lrem, 1) := by decide +kernel
theorem dX8_runScript_108 : dec mX8_runScript 108 = .ok (.l2i, 1) := by decide +kernel
theorem dX8_runScript_109 : dec mX8_runScript 109 = .ok (.istore 7, 2) := by decide +kernel
theorem dX8_runScript_111 : dec mX8_runScript 111 = .ok (.aload_n 0, 1) := by decide +kernel
theorem dX8_runScript_112 : dec mX8_runScript 112 = .ok (.iload 7, 2) := by decide +kernel
theorem dX8_runScript_114 : dec mX8_runScript 114 = .ok (.ldc_w 274, 3) := by decide +kernel
theorem dX8_runScript_117 : dec mX8_runScript 117 = .ok (.idiv, 1) := by decide +kernel
theorem dX8_runScript_118 : dec mX8_runScript 118 = .ok (.iload 7, 2) := by decide +kernel
theorem dX8_runScript_120 : dec mX8_runScript 120 = .ok (.ldc_w 274, 3) := by decide +kernel
theorem dX8_runScript_123 : dec mX8_runScript 123 = .ok (.irem, 1) := by decide +kernel
theorem dX8_runScript_124 : dec mX8_runScript 124 = .ok (.invokevirtual 275, 3) := by decide +kernel
theorem dX8_runScript_127 : dec mX8_runScript 127 = .ok (.ifCond .ne 6, 3) := by decide +kernel
theorem dX8_runScript_130 : dec mX8_runScript 130 = .ok (.iload 6, 2) := by decide +kernel
theorem dX8_runScript_132 : dec mX8_runScript 132 = .ok (.ireturn, 1) := by decide +kernel
theorem dX8_runScript_133 : dec mX8_runScript 133 = .ok (.iinc 6 1, 3) := by decide +kernel
theorem dX8_runScript_136 : dec mX8_runScript 136 = .ok (.goto (-50), 3) := by decide +kernel
theorem dX8_runScript_139 : dec mX8_runScript 139 = .ok (.iconst (-1), 1) := by decide +kernel
theorem dX8_runScript_140 : dec mX8_runScript 140 = .ok (.ireturn, 1) := by decide +kernel
theorem dX8_turnBy_0 : dec mX8_turnBy 0 = .ok (.iload_n 1, 1) := by decide +kernel
theorem dX8_turnBy_1 : dec mX8_turnBy 1 = .ok (.bipush 8, 2) := by decide +kernel
theorem dX8_turnBy_3 : dec mX8_turnBy 3 = .ok (.idiv, 1) := by decide +kernel
theorem dX8_turnBy_4 : dec mX8_turnBy 4 = .ok (.istore_n 2, 1) := by decide +kernel
theorem dX8_turnBy_5 : dec mX8_turnBy 5 = .ok (.iload_n 1, 1) := by decide +kernel
theorem dX8_turnBy_6 : dec mX8_turnBy 6 = .ok (.bipush 8, 2) := by decide +kernel
theorem dX8_turnBy_8 : dec mX8_turnBy 8 = .ok (.irem, 1) := by decide +kernel
theorem dX8_turnBy_9 : dec mX8_turnBy 9 = .ok (.tableswitch 196 0 6 #[43, 43, 94, 110, 110, 133, 156], 43) := by decide +kernel
theorem dX8_turnBy_52 : dec mX8_turnBy 52 = .ok (.aload_n 0, 1) := by decide +kernel
theorem dX8_turnBy_53 : dec mX8_turnBy 53 = .ok (.getfield 16, 3) := by decide +kernel
theorem dX8_turnBy_56 : dec mX8_turnBy 56 = .ok (.iload_n 2, 1) := by decide +kernel
theorem dX8_turnBy_57 : dec mX8_turnBy 57 = .ok (.bipush 8, 2) := by decide +kernel
theorem dX8_turnBy_59 : dec mX8_turnBy 59 = .ok (.irem, 1) := by decide +kernel
theorem dX8_turnBy_60 : dec mX8_turnBy 60 = .ok (.iload_n 2, 1) := by decide +kernel
theorem dX8_turnBy_61 : dec mX8_turnBy 61 = .ok (.bipush 8, 2) := by decide +kernel
theorem dX8_turnBy_63 : dec mX8_turnBy 63 = .ok (.idiv, 1) := by decide +kernel
theorem dX8_turnBy_64 : dec mX8_turnBy 64 = .ok (.bipush 14, 2) := by decide +kernel
theorem dX8_turnBy_66 : dec mX8_turnBy 66 = .ok (.irem, 1) := by decide +kernel
theorem dX8_turnBy_67 : dec mX8_turnBy 67 = .ok (.invokestatic 158, 3) := by decide +kernel
theorem dX8_turnBy_70 : dec mX8_turnBy 70 = .ok (.ifCond .eq 149, 3) := by decide +kernel
theorem dX8_turnBy_73 : dec mX8_turnBy 73 = .ok (.aload_n 0, 1) := by decide +kernel
theorem dX8_turnBy_74 : dec mX8_turnBy 74 = .ok (.getfield 16, 3) := by decide +kernel
theorem dX8_turnBy_77 : dec mX8_turnBy 77 = .ok (.iload_n 2, 1) := by decide +kernel
theorem dX8_turnBy_78 : dec mX8_turnBy 78 = .ok (.bipush 8, 2) := by decide +kernel
theorem dX8_turnBy_80 : dec mX8_turnBy 80 = .ok (.irem, 1) := by decide +kernel
theorem dX8_turnBy_81 : dec mX8_turnBy 81 = .ok (.iload_n 2, 1) := by decide +kernel
theorem dX8_turnBy_82 : dec mX8_turnBy 82 = .ok (.bipush 8, 2) := by decide +kernel
theorem dX8_turnBy_84 : dec mX8_turnBy 84 = .ok (.idiv, 1) := by decide +kernel
theorem dX8_turnBy_85 : dec mX8_turnBy 85 = .ok (.bipush 14, 2) := by decide +kernel
theorem dX8_turnBy_87 : dec mX8_turnBy 87 = .ok (.irem, 1) := by decide +kernel
theorem dX8_turnBy_88 : dec mX8_turnBy 88 = .ok (.iload_n 2, 1) := by decide +kernel
theorem dX8_turnBy_89 : dec mX8_turnBy 89 = .ok (.sipush 128, 3) := by decide +kernel
theorem dX8_turnBy_92 : dec mX8_turnBy 92 = .ok (.idiv, 1) := by decide +kernel
theorem dX8_turnBy_93 : dec mX8_turnBy 93 = .ok (.bipush 100, 2) := by decide +kernel
theorem dX8_turnBy_95 : dec mX8_turnBy 95 = .ok (.irem, 1) := by decide +kernel
theorem dX8_turnBy_96 : dec mX8_turnBy 96 = .ok (.invokestatic 195, 3) := by decide +kernel
theorem dX8_turnBy_99 : dec mX8_turnBy 99 = .ok (.pop, 1) := by decide +kernel
theorem dX8_turnBy_100 : dec mX8_turnBy 100 = .ok (.goto 119, 3) := by decide +kernel
theorem dX8_turnBy_103 : dec mX8_turnBy 103 = .ok (.aload_n 0, 1) := by decide +kernel
theorem dX8_turnBy_104 : dec mX8_turnBy 104 = .ok (.aload_n 0, 1) := by decide +kernel
theorem dX8_turnBy_105 : dec mX8_turnBy 105 = .ok (.getfield 16, 3) := by decide +kernel
theorem dX8_turnBy_108 : dec mX8_turnBy 108 = .ok (.iload_n 2, 1) := by decide +kernel
theorem dX8_turnBy_109 : dec mX8_turnBy 109 = .ok (.bipush 56, 2) := by decide +kernel
theorem dX8_turnBy_111 : dec mX8_turnBy 111 = .ok (.irem, 1) := by decide +kernel
theorem dX8_turnBy_112 : dec mX8_turnBy 112 = .ok (.invokevirtual 209, 3) := by decide +kernel
theorem dX8_turnBy_115 : dec mX8_turnBy 115 = .ok (.pop, 1) := by decide +kernel
theorem dX8_turnBy_116 : dec mX8_turnBy 116 = .ok (.goto 103, 3) := by decide +kernel
theorem dX8_turnBy_119 : dec mX8_turnBy 119 = .ok (.aload_n 0, 1) := by decide +kernel
theorem dX8_turnBy_120 : dec mX8_turnBy 120 = .ok (.aload_n 0, 1) := by decide +kernel
theorem dX8_turnBy_121 : dec mX8_turnBy 121 = .ok (.getfield 16, 3) := by decide +kernel
theorem dX8_turnBy_124 : dec mX8_turnBy 124 = .ok (.iload_n 2, 1) := by decide +kernel
theorem dX8_turnBy_125 : dec mX8_turnBy 125 = .ok (.bipush 56, 2) := by decide +kernel
theorem dX8_turnBy_127 : dec mX8_turnBy 127 = .ok (.irem, 1) := by decide +kernel
theorem dX8_turnBy_128 : dec mX8_turnBy 128 = .ok (.iload_n 2, 1) := by decide +kernel
theorem dX8_turnBy_129 : dec mX8_turnBy 129 = .ok (.bipush 64, 2) := by decide +kernel
theorem dX8_turnBy_131 : dec mX8_turnBy 131 = .ok (.idiv, 1) := by decide +kernel
theorem dX8_turnBy_132 : dec mX8_turnBy 132 = .ok (.bipush 56, 2) := by decide +kernel
theorem dX8_turnBy_134 : dec mX8_turnBy 134 = .ok (.irem, 1) := by decide +kernel
theorem dX8_turnBy_135 : dec mX8_turnBy 135 = .ok (.invokevirtual 212, 3) := by decide +kernel
theorem dX8_turnBy_138 : dec mX8_turnBy 138 = .ok (.pop, 1) := by decide +kernel
theorem dX8_turnBy_139 : dec mX8_turnBy 139 = .ok (.goto 80, 3) := by decide +kernel
theorem dX8_turnBy_142 : dec mX8_turnBy 142 = .ok (.aload_n 0, 1) := by decide +kernel
theorem dX8_turnBy_143 : dec mX8_turnBy 143 = .ok (.aload_n 0, 1) := by decide +kernel
theorem dX8_turnBy_144 : dec mX8_turnBy 144 = .ok (.getfield 16, 3) := by decide +kernel
theorem dX8_turnBy_147 : dec mX8_turnBy 147 = .ok (.iload_n 2, 1) := by decide +kernel
theorem dX8_turnBy_148 : dec mX8_turnBy 148 = .ok (.bipush 8, 2) := by decide +kernel
theorem dX8_turnBy_150 : dec mX8_turnBy 150 = .ok (.irem, 1) := by decide +kernel
theorem dX8_turnBy_151 : dec mX8_turnBy 151 = .ok (.iload_n 2, 1) := by decide +kernel
theorem dX8_turnBy_152 : dec mX8_turnBy 152 = .ok (.bipush 8, 2) := by decide +kernel
theorem dX8_turnBy_154 : dec mX8_turnBy 154 = .ok (.idiv, 1) := by decide +kernel
theorem dX8_turnBy_155 : dec mX8_turnBy 155 = .ok (.bipush 14, 2) := by decide +kernel
theorem dX8_turnBy_157 : dec mX8_turnBy 157 = .ok (.irem, 1) := by decide +kernel
theorem dX8_turnBy_158 : dec mX8_turnBy 158 = .ok (.invokevirtual 215, 3) := by decide +kernel
theorem dX8_turnBy_161 : dec mX8_turnBy 161 = .ok (.pop, 1) := by decide +kernel
theorem dX8_turnBy_162 : dec mX8_turnBy 162 = .ok (.goto 57, 3) := by decide +kernel
theorem dX8_turnBy_165 : dec mX8_turnBy 165 = .ok (.iload_n 2, 1) := by decide +kernel
theorem dX8_turnBy_166 : dec mX8_turnBy 166 = .ok (.iconst 4, 1) := by decide +kernel
theorem dX8_turnBy_167 : dec mX8_turnBy 167 = .ok (.irem, 1) := by decide +kernel
theorem dX8_turnBy_168 : dec mX8_turnBy 168 = .ok (.ifCond .ne 25, 3) := by decide +kernel
theorem dX8_turnBy_171 : dec mX8_turnBy 171 = .ok (.aload_n 0, 1) := by decide +kernel
theorem dX8_turnBy_172 : dec mX8_turnBy 172 = .ok (.getfield 16, 3) := by decide +kernel
theorem dX8_turnBy_175 : dec mX8_turnBy 175 = .ok (.iload_n 2, 1) := by decide +kernel
theorem dX8_turnBy_176 : dec mX8_turnBy 176 = .ok (.bipush 100, 2) := by decide +kernel
theorem dX8_turnBy_178 : dec mX8_turnBy 178 = .ok (.irem, 1) := by decide +kernel
theorem dX8_turnBy_179 : dec mX8_turnBy 179 = .ok (.iload_n 2, 1) := by decide +kernel
theorem dX8_turnBy_180 : dec mX8_turnBy 180 = .ok (.sipush 128, 3) := by decide +kernel
theorem dX8_turnBy_183 : dec mX8_turnBy 183 = .ok (.idiv, 1) := by decide +kernel
theorem dX8_turnBy_184 : dec mX8_turnBy 184 = .ok (.bipush 100, 2) := by decide +kernel
theorem dX8_turnBy_186 : dec mX8_turnBy 186 = .ok (.irem, 1) := by decide +kernel
theorem dX8_turnBy_187 : dec mX8_turnBy 187 = .ok (.invokestatic 179, 3) := by decide +kernel
theorem dX8_turnBy_190 : dec mX8_turnBy 190 = .ok (.goto 29, 3) := by decide +kernel
theorem dX8_turnBy_193 : dec mX8_turnBy 193 = .ok (.aload_n 0, 1) := by decide +kernel
theorem dX8_turnBy_194 : dec mX8_turnBy 194 = .ok (.aload_n 0, 1) := by decide +kernel
theorem dX8_turnBy_195 : dec mX8_turnBy 195 = .ok (.getfield 16, 3) := by decide +kernel
theorem dX8_turnBy_198 : dec mX8_turnBy 198 = .ok (.invokevirtual 188, 3) := by decide +kernel
theorem dX8_turnBy_201 : dec mX8_turnBy 201 = .ok (.pop, 1) := by decide +kernel
theorem dX8_turnBy_202 : dec mX8_turnBy 202 = .ok (.goto 17, 3) := by decide +kernel
theorem dX8_turnBy_205 : dec mX8_turnBy 205 = .ok (.aload_n 0, 1) := by decide +kernel
theorem dX8_turnBy_206 : dec mX8_turnBy 206 = .ok (.aload_n 0, 1) := by decide +kernel
theorem dX8_turnBy_207 : dec mX8_turnBy 207 = .ok (.getfield 16, 3) := by decide +kernel
theorem dX8_turnBy_210 : dec mX8_turnBy 210 = .ok (.iconst 1, 1) := by decide +kernel
theorem dX8_turnBy_211 : dec mX8_turnBy 211 = .ok (.iload_n 2, 1) := by decide +kernel
theorem dX8_turnBy_212 : dec mX8_turnBy 212 = .ok (.iconst 4, 1) := by decide +kernel
theorem dX8_turnBy_213 : dec mX8_turnBy 213 = .ok (.irem, 1) := by decide +kernel
theorem dX8_turnBy_214 : dec mX8_turnBy 214 = .ok (.iadd, 1) := by decide +kernel
theorem dX8_turnBy_215 : dec mX8_turnBy 215 = .ok (.invokevirtual 225, 3) := by decide +kernel
theorem dX8_turnBy_218 : dec mX8_turnBy 218 = .ok (.pop, 1) := by decide +kernel
theorem dX8_turnBy_219 : dec mX8_turnBy 219 = .ok (.return_, 1) := by decide +kernel
theorem dX8_simulate_0 : dec mX8_simulate 0 = .ok (.aload_n 0, 1) := by decide +kernel
theorem dX8_simulate_1 : dec mX8_simulate 1 = .ok (.iload_n 3, 1) := by decide +kernel
theorem dX8_simulate_2 : dec mX8_simulate 2 = .ok (.i2l, 1) := by decide +kernel
theorem dX8_simulate_3 : dec mX8_simulate 3 = .ok (.lconst 1, 1) := by decide +kernel
theorem dX8_simulate_4 : dec mX8_simulate 4 = .ok (.ldc2_w 279, 3) := by decide +kernel
theorem dX8_simulate_7 : dec mX8_simulate 7 = .ok (.invokestatic 50, 3) := by decide +kernel
theorem dX8_simulate_10 : dec mX8_simulate 10 = .ok (.ifCond .eq 7, 3) := by decide +kernel
theorem dX8_simulate_13 : dec mX8_simulate 13 = .ok (.iconst 0, 1) := by decide +kernel
theorem dX8_simulate_14 : dec mX8_simulate 14 = .ok (.goto 4, 3) := by decide +kernel
theorem dX8_simulate_17 : dec mX8_simulate 17 = .ok (.iconst 1, 1) := by decide +kernel
theorem dX8_simulate_18 : dec mX8_simulate 18 = .ok (.invokevirtual 167, 3) := by decide +kernel
theorem dX8_simulate_21 : dec mX8_simulate 21 = .ok (.ifCond .eq 5, 3) := by decide +kernel
theorem dX8_simulate_24 : dec mX8_simulate 24 = .ok (.iconst 0, 1) := by decide +kernel
theorem dX8_simulate_25 : dec mX8_simulate 25 = .ok (.ireturn, 1) := by decide +kernel
theorem dX8_simulate_26 : dec mX8_simulate 26 = .ok (.aload_n 0, 1) := by decide +kernel
theorem dX8_simulate_27 : dec mX8_simulate 27 = .ok (.getfield 13, 3) := by decide +kernel
theorem dX8_simulate_30 : dec mX8_simulate 30 = .ok (.iconst 0, 1) := by decide +kernel
theorem dX8_simulate_31 : dec mX8_simulate 31 = .ok (.aload_n 0, 1) := by decide +kernel
theorem dX8_simulate_32 : dec mX8_simulate 32 = .ok (.getfield 16, 3) := by decide +kernel
theorem dX8_simulate_35 : dec mX8_simulate 35 = .ok (.iconst 0, 1) := by decide +kernel
theorem dX8_simulate_36 : dec mX8_simulate 36 = .ok (.invokestatic 234, 3) := by decide +kernel
theorem dX8_simulate_39 : dec mX8_simulate 39 = .ok (.lload_n 1, 1) := by decide +kernel
theorem dX8_simulate_40 : dec mX8_simulate 40 = .ok (.lstore 4, 2) := by decide +kernel
theorem dX8_simulate_42 : dec mX8_simulate 42 = .ok (.iconst 0, 1) := by decide +kernel
theorem dX8_simulate_43 : dec mX8_simulate 43 = .ok (.istore 6, 2) := by decide +kernel
theorem dX8_simulate_45 : dec mX8_simulate 45 = .ok (.iload 6, 2) := by decide +kernel
theorem dX8_simulate_47 : dec mX8_simulate 47 = .ok (.iload_n 3, 1) := by decide +kernel
theorem dX8_simulate_48 : dec mX8_simulate 48 = .ok (.if_icmp .ge 31, 3) := by decide +kernel
theorem dX8_simulate_51 : dec mX8_simulate 51 = .ok (.lload 4, 2) := by decide +kernel
theorem dX8_simulate_53 : dec mX8_simulate 53 = .ok (.ldc2_w 281, 3) := by decide +kernel
theorem dX8_simulate_56 : dec mX8_simulate 56 = .ok (.lmul, 1) := by decide +kernel
theorem dX8_simulate_57 : dec mX8_simulate 57 = .ok (.ldc2_w 283, 3) := by decide +kernel
theorem dX8_simulate_60 : dec mX8_simulate 60 = .ok (.ladd, 1) := by decide +kernel
theorem dX8_simulate_61 : dec mX8_simulate 61 = .ok (.lstore 4, 2) := by decide +kernel
theorem dX8_simulate_63 : dec mX8_simulate 63 = .ok (.aload_n 0, 1) := by decide +kernel
theorem dX8_simulate_64 : dec mX8_simulate 64 = .ok (.lload 4, 2) := by decide +kernel
theorem dX8_simulate_66 : dec mX8_simulate 66 = .ok (.bipush 33, 2) := by decide +kernel
theorem dX8_simulate_68 : dec mX8_simulate 68 = .ok (.lushr, 1) := by decide +kernel
theorem dX8_simulate_69 : dec mX8_simulate 69 = .ok (.l2i, 1) := by decide +kernel
theorem dX8_simulate_70 : dec mX8_simulate 70 = .ok (.invokevirtual 285, 3) := by decide +kernel
theorem dX8_simulate_73 : dec mX8_simulate 73 = .ok (.iinc 6 1, 3) := by decide +kernel
theorem dX8_simulate_76 : dec mX8_simulate 76 = .ok (.goto (-31), 3) := by decide +kernel
theorem dX8_simulate_79 : dec mX8_simulate 79 = .ok (.aload_n 0, 1) := by decide +kernel
theorem dX8_simulate_80 : dec mX8_simulate 80 = .ok (.getfield 16, 3) := by decide +kernel
theorem dX8_simulate_83 : dec mX8_simulate 83 = .ok (.invokestatic 146, 3) := by decide +kernel
theorem dX8_simulate_86 : dec mX8_simulate 86 = .ok (.ireturn, 1) := by decide +kernel
theorem dX8_save_0 : dec mX8_save 0 = .ok (.aload_n 0, 1) := by decide +kernel
theorem dX8_save_1 : dec mX8_save 1 = .ok (.iload_n 1, 1) := by decide +kernel
theorem dX8_save_2 : dec mX8_save 2 = .ok (.i2l, 1) := by decide +kernel
theorem dX8_save_3 : dec mX8_save 3 = .ok (.lconst 0, 1) := by decide +kernel
theorem dX8_save_4 : dec mX8_save 4 = .ok (.lconst 1, 1) := by decide +kernel
theorem dX8_save_5 : dec mX8_save 5 = .ok (.invokestatic 50, 3) := by decide +kernel
theorem dX8_save_8 : dec mX8_save 8 = .ok (.ifCond .eq 7, 3) := by decide +kernel
theorem dX8_save_11 : dec mX8_save 11 = .ok (.iconst 0, 1) := by decide +kernel
theorem dX8_save_12 : dec mX8_save 12 = .ok (.goto 4, 3) := by decide +kernel
theorem dX8_save_15 : dec mX8_save 15 = .ok (.iconst 1, 1) := by decide +kernel
theorem dX8_save_16 : dec mX8_save 16 = .ok (.invokevirtual 167, 3) := by decide +kernel
theorem dX8_save_19 : dec mX8_save 19 = .ok (.ifCond .eq 5, 3) := by decide +kernel
theorem dX8_save_22 : dec mX8_save 22 = .ok (.iconst 0, 1) := by decide +kernel
theorem dX8_save_23 : dec mX8_save 23 = .ok (.ireturn, 1) := by decide +kernel
theorem dX8_save_24 : dec mX8_save 24 = .ok (.aload_n 0, 1) := by decide +kernel
theorem dX8_save_25 : dec mX8_save 25 = .ok (.getfield 13, 3) := by decide +kernel
theorem dX8_save_28 : dec mX8_save 28 = .ok (.iconst 0, 1) := by decide +kernel
theorem dX8_save_29 : dec mX8_save 29 = .ok (.aload_n 0, 1) := by decide +kernel
theorem dX8_save_30 : dec mX8_save 30 = .ok (.getfield 22, 3) := by decide +kernel
theorem dX8_save_33 : dec mX8_save 33 = .ok (.sipush 563, 3) := by decide +kernel
theorem dX8_save_36 : dec mX8_save 36 = .ok (.iload_n 1, 1) := by decide +kernel
theorem dX8_save_37 : dec mX8_save 37 = .ok (.imul, 1) := by decide +kernel
theorem dX8_save_38 : dec mX8_save 38 = .ok (.invokestatic 234, 3) := by decide +kernel
theorem dX8_save_41 : dec mX8_save 41 = .ok (.aload_n 0, 1) := by decide +kernel
theorem dX8_save_42 : dec mX8_save 42 = .ok (.getfield 25, 3) := by decide +kernel
theorem dX8_save_45 : dec mX8_save 45 = .ok (.iload_n 1, 1) := by decide +kernel
theorem dX8_save_46 : dec mX8_save 46 = .ok (.iconst 1, 1) := by decide +kernel
theorem dX8_save_47 : dec mX8_save 47 = .ok (.bastore, 1) := by decide +kernel
theorem dX8_save_48 : dec mX8_save 48 = .ok (.aload_n 0, 1) := by decide +kernel
theorem dX8_save_49 : dec mX8_save 49 = .ok (.getfield 13, 3) := by decide +kernel
theorem dX8_save_52 : dec mX8_save 52 = .ok (.invokestatic 146, 3) := by decide +kernel
theorem dX8_save_55 : dec mX8_save 55 = .ok (.ireturn, 1) := by decide +kernel
theorem dX8_restore_0 : dec mX8_restore 0 = .ok (.aload_n 0, 1) := by decide +kernel
theorem dX8_restore_1 : dec mX8_restore 1 = .ok (.iload_n 1, 1) := by decide +kernel
theorem dX8_restore_2 : dec mX8_restore 2 = .ok (.i2l, 1) := by decide +kernel
theorem dX8_restore_3 : dec mX8_restore 3 = .ok (.lconst 0, 1) := by decide +kernel
theorem dX8_restore_4 : dec mX8_restore 4 = .ok (.lconst 1, 1) := by decide +kernel
theorem dX8_restore_5 : dec mX8_restore 5 = .ok (.invokestatic 50, 3) := by decide +kernel
theorem dX8_restore_8 : dec mX8_restore 8 = .ok (.ifCond .ne 7, 3) := by decide +kernel
theorem dX8_restore_11 : dec mX8_restore 11 = .ok (.iconst 1, 1) := by decide +kernel
theorem dX8_restore_12 : dec mX8_restore 12 = .ok (.goto 17, 3) := by decide +kernel
theorem dX8_restore_15 : dec mX8_restore 15 = .ok (.aload_n 0, 1) := by decide +kernel
theorem dX8_restore_16 : dec mX8_restore 16 = .ok (.getfield 25, 3) := by decide +kernel
theorem dX8_restore_19 : dec mX8_restore 19 = .ok (.iload_n 1, 1) := by decide +kernel
theorem dX8_restore_20 : dec mX8_restore 20 = .ok (.baload, 1) := by decide +kernel
theorem dX8_restore_21 : dec mX8_restore 21 = .ok (.ifCond .ne 7, 3) := by decide +kernel
theorem dX8_restore_24 : dec mX8_restore 24 = .ok (.iconst 2, 1) := by decide +kernel
theorem dX8_restore_25 : dec mX8_restore 25 = .ok (.goto 4, 3) := by decide +kernel
theorem dX8_restore_28 : dec mX8_restore 28 = .ok (.iconst 0, 1) := by decide +kernel
theorem dX8_restore_29 : dec mX8_restore 29 = .ok (.invokevirtual 167, 3) := by decide +kernel
theorem dX8_restore_32 : dec mX8_restore 32 = .ok (.ifCond .eq 5, 3) := by decide +kernel
theorem dX8_restore_35 : dec mX8_restore 35 = .ok (.iconst 0, 1) := by decide +kernel
theorem dX8_restore_36 : dec mX8_restore 36 = .ok (.ireturn, 1) := by decide +kernel
theorem dX8_restore_37 : dec mX8_restore 37 = .ok (.aload_n 0, 1) := by decide +kernel
theorem dX8_restore_38 : dec mX8_restore 38 = .ok (.getfield 22, 3) := by decide +kernel
theorem dX8_restore_41 : dec mX8_restore 41 = .ok (.sipush 563, 3) := by decide +kernel
theorem dX8_restore_44 : dec mX8_restore 44 = .ok (.iload_n 1, 1) := by decide +kernel
theorem dX8_restore_45 : dec mX8_restore 45 = .ok (.imul, 1) := by decide +kernel
theorem dX8_restore_46 : dec mX8_restore 46 = .ok (.aload_n 0, 1) := by decide +kernel
theorem dX8_restore_47 : dec mX8_restore 47 = .ok (.getfield 13, 3) := by decide +kernel
theorem dX8_restore_50 : dec mX8_restore 50 = .ok (.iconst 0, 1) := by decide +kernel
theorem dX8_restore_51 : dec mX8_restore 51 = .ok (.invokestatic 234, 3) := by decide +kernel
theorem dX8_restore_54 : dec mX8_restore 54 = .ok (.aload_n 0, 1) := by decide +kernel
theorem dX8_restore_55 : dec mX8_restore 55 = .ok (.iconst 0, 1) := by decide +kernel
theorem dX8_restore_56 : dec mX8_restore 56 = .ok (.putfield 238, 3) := by decide +kernel
theorem dX8_restore_59 : dec mX8_restore 59 = .ok (.aload_n 0, 1) := by decide +kernel
theorem dX8_restore_60 : dec mX8_restore 60 = .ok (.getfield 13, 3) := by decide +kernel
theorem dX8_restore_63 : dec mX8_restore 63 = .ok (.invokestatic 146, 3) := by decide +kernel
theorem dX8_restore_66 : dec mX8_restore 66 = .ok (.ireturn, 1) := by decide +kernel
