theorem dX6_init_0 : dec mX6_init 0 = .ok (.aload_n 0, 1) := by decide +kernel
theorem dX6_init_1 : dec mX6_init 1 = .ok (.invokespecial 3, 3) := by decide +kernel
theorem dX6_init_4 : dec mX6_init 4 = .ok (.aload_n 0, 1) := by decide +kernel
theorem dX6_init_5 : dec mX6_init 5 = .ok (.bipush 120, 2) := by decide +kernel
theorem dX6_init_7 : dec mX6_init 7 = .ok (.newarray .char, 2) := by decide +kernel
theorem dX6_init_9 : dec mX6_init 9 = .ok (.putfield 9, 3) := by decide +kernel
theorem dX6_init_12 : dec mX6_init 12 = .ok (.return_, 1) := by decide +kernel
theorem dX6_isFull_0 : dec mX6_isFull 0 = .ok (.aload_n 0, 1) := by decide +kernel
theorem dX6_isFull_1 : dec mX6_isFull 1 = .ok (.getfield 15, 3) := by decide +kernel
theorem dX6_isFull_4 : dec mX6_isFull 4 = .ok (.bipush 120, 2) := by decide +kernel
theorem dX6_isFull_6 : dec mX6_isFull 6 = .ok (.if_icmp .lt 7, 3) := by decide +kernel
theorem dX6_isFull_9 : dec mX6_isFull 9 = .ok (.iconst 1, 1) := by decide +kernel
theorem dX6_isFull_10 : dec mX6_isFull 10 = .ok (.goto 4, 3) := by decide +kernel
theorem dX6_isFull_13 : dec mX6_isFull 13 = .ok (.iconst 0, 1) := by decide +kernel
theorem dX6_isFull_14 : dec mX6_isFull 14 = .ok (.ireturn, 1) := by decide +kernel
theorem dX6_add_0 : dec mX6_add 0 = .ok (.aload_n 0, 1) := by decide +kernel
theorem dX6_add_1 : dec mX6_add 1 = .ok (.getfield 15, 3) := by decide +kernel
theorem dX6_add_4 : dec mX6_add 4 = .ok (.ifCond .lt 36, 3) := by decide +kernel
theorem dX6_add_7 : dec mX6_add 7 = .ok (.aload_n 0, 1) := by decide +kernel
theorem dX6_add_8 : dec mX6_add 8 = .ok (.getfield 15, 3) := by decide +kernel
theorem dX6_add_11 : dec mX6_add 11 = .ok (.aload_n 0, 1) := by decide +kernel
theorem dX6_add_12 : dec mX6_add 12 = .ok (.getfield 9, 3) := by decide +kernel
theorem dX6_add_15 : dec mX6_add 15 = .ok (.arraylength, 1) := by decide +kernel
theorem dX6_add_16 : dec mX6_add 16 = .ok (.if_icmp .ge 24, 3) := by decide +kernel
theorem dX6_add_19 : dec mX6_add 19 = .ok (.aload_n 0, 1) := by decide +kernel
theorem dX6_add_20 : dec mX6_add 20 = .ok (.getfield 9, 3) := by decide +kernel
theorem dX6_add_23 : dec mX6_add 23 = .ok (.aload_n 0, 1) := by decide +kernel
theorem dX6_add_24 : dec mX6_add 24 = .ok (.getfield 15, 3) := by decide +kernel
theorem dX6_add_27 : dec mX6_add 27 = .ok (.iload_n 1, 1) := by decide +kernel
theorem dX6_add_28 : dec mX6_add 28 = .ok (.i2c, 1) := by decide +kernel
theorem dX6_add_29 : dec mX6_add 29 = .ok (.castore, 1) := by decide +kernel
theorem dX6_add_30 : dec mX6_add 30 = .ok (.aload_n 0, 1) := by decide +kernel
theorem dX6_add_31 : dec mX6_add 31 = .ok (.dup, 1) := by decide +kernel
theorem dX6_add_32 : dec mX6_add 32 = .ok (.getfield 15, 3) := by decide +kernel
theorem dX6_add_35 : dec mX6_add 35 = .ok (.iconst 1, 1) := by decide +kernel
theorem dX6_add_36 : dec mX6_add 36 = .ok (.iadd, 1) := by decide +kernel
theorem dX6_add_37 : dec mX6_add 37 = .ok (.putfield 15, 3) := by decide +kernel
theorem dX6_add_40 : dec mX6_add 40 = .ok (.return_, 1) := by decide +kernel
theorem dX6_signAt_0 : dec mX6_signAt 0 = .ok (.iload_n 1, 1) := by decide +kernel
theorem dX6_signAt_1 : dec mX6_signAt 1 = .ok (.ifCond .lt 29, 3) := by decide +kernel
theorem dX6_signAt_4 : dec mX6_signAt 4 = .ok (.iload_n 1, 1) := by decide +kernel
theorem dX6_signAt_5 : dec mX6_signAt 5 = .ok (.aload_n 0, 1) := by decide +kernel
theorem dX6_signAt_6 : dec mX6_signAt 6 = .ok (.getfield 15, 3) := by decide +kernel
theorem dX6_signAt_9 : dec mX6_signAt 9 = .ok (.if_icmp .ge 21, 3) := by decide +kernel
theorem dX6_signAt_12 : dec mX6_signAt 12 = .ok (.iload_n 1, 1) := by decide +kernel
theorem dX6_signAt_13 : dec mX6_signAt 13 = .ok (.aload_n 0, 1) := by decide +kernel
theorem dX6_signAt_14 : dec mX6_signAt 14 = .ok (.getfield 9, 3) := by decide +kernel
theorem dX6_signAt_17 : dec mX6_signAt 17 = .ok (.arraylength, 1) := by decide +kernel
theorem dX6_signAt_18 : dec mX6_signAt 18 = .ok (.if_icmp .ge 12, 3) := by decide +kernel
theorem dX6_signAt_21 : dec mX6_signAt 21 = .ok (.aload_n 0, 1) := by decide +kernel
theorem dX6_signAt_22 : dec mX6_signAt 22 = .ok (.getfield 9, 3) := by decide +kernel
theorem dX6_signAt_25 : dec mX6_signAt 25 = .ok (.iload_n 1, 1) := by decide +kernel
theorem dX6_signAt_26 : dec mX6_signAt 26 = .ok (.caload, 1) := by decide +kernel
theorem dX6_signAt_27 : dec mX6_signAt 27 = .ok (.goto 4, 3) := by decide +kernel
theorem dX6_signAt_30 : dec mX6_signAt 30 = .ok (.iconst (-1), 1) := by decide +kernel
theorem dX6_signAt_31 : dec mX6_signAt 31 = .ok (.ireturn, 1) := by decide +kernel
theorem dX6_digitAt_0 : dec mX6_digitAt 0 = .ok (.aload_n 0, 1) := by decide +kernel
theorem dX6_digitAt_1 : dec mX6_digitAt 1 = .ok (.iload_n 1, 1) := by decide +kernel
theorem dX6_digitAt_2 : dec mX6_digitAt 2 = .ok (.invokevirtual 19, 3) := by decide +kernel
theorem dX6_digitAt_5 : dec mX6_digitAt 5 = .ok (.bipush 48, 2) := by decide +kernel
theorem dX6_digitAt_7 : dec mX6_digitAt 7 = .ok (.isub, 1) := by decide +kernel
theorem dX6_digitAt_8 : dec mX6_digitAt 8 = .ok (.ireturn, 1) := by decide +kernel
theorem dX6_twoDigitsAt_0 : dec mX6_twoDigitsAt 0 = .ok (.bipush 10, 2) := by decide +kernel
theorem dX6_twoDigitsAt_2 : dec mX6_twoDigitsAt 2 = .ok (.aload_n 0, 1) := by decide +kernel
theorem dX6_twoDigitsAt_3 : dec mX6_twoDigitsAt 3 = .ok (.iload_n 1, 1) := by decide +kernel
theorem dX6_twoDigitsAt_4 : dec mX6_twoDigitsAt 4 = .ok (.invokevirtual 23, 3) := by decide +kernel
theorem dX6_twoDigitsAt_7 : dec mX6_twoDigitsAt 7 = .ok (.imul, 1) := by decide +kernel
theorem dX6_twoDigitsAt_8 : dec mX6_twoDigitsAt 8 = .ok (.aload_n 0, 1) := by decide +kernel
theorem dX6_twoDigitsAt_9 : dec mX6_twoDigitsAt 9 = .ok (.iload_n 1, 1) := by decide +kernel
theorem dX6_twoDigitsAt_10 : dec mX6_twoDigitsAt 10 = .ok (.iconst 1, 1) := by decide +kernel
theorem dX6_twoDigitsAt_11 : dec mX6_twoDigitsAt 11 = .ok (.iadd, 1) := by decide +kernel
theorem dX6_twoDigitsAt_12 : dec mX6_twoDigitsAt 12 = .ok (.invokevirtual 23, 3) := by decide +kernel
theorem dX6_twoDigitsAt_15 : dec mX6_twoDigitsAt 15 = .ok (.iadd, 1) := by decide +kernel
theorem dX6_twoDigitsAt_16 : dec mX6_twoDigitsAt 16 = .ok (.ireturn, 1) := by decide +kernel
theorem dX6_firstError_0 : dec mX6_firstError 0 = .ok (.aload_n 0, 1) := by decide +kernel
theorem dX6_firstError_1 : dec mX6_firstError 1 = .ok (.iconst 0, 1) := by decide +kernel
theorem dX6_firstError_2 : dec mX6_firstError 2 = .ok (.invokevirtual 19, 3) := by decide +kernel
theorem dX6_firstError_5 : dec mX6_firstError 5 = .ok (.bipush 68, 2) := by decide +kernel
theorem dX6_firstError_7 : dec mX6_firstError 7 = .ok (.if_icmp .eq 5, 3) := by decide +kernel
theorem dX6_firstError_10 : dec mX6_firstError 10 = .ok (.iconst 0, 1) := by decide +kernel
theorem dX6_firstError_11 : dec mX6_firstError 11 = .ok (.ireturn, 1) := by decide +kernel
theorem dX6_firstError_12 : dec mX6_firstError 12 = .ok (.aload_n 0, 1) := by decide +kernel
theorem dX6_firstError_13 : dec mX6_firstError 13 = .ok (.ldc 26, 2) := by decide +kernel
theorem dX6_firstError_15 : dec mX6_firstError 15 = .ok (.iconst 0, 1) := by decide +kernel
theorem dX6_firstError_16 : dec mX6_firstError 16 = .ok (.invokevirtual 28, 3) := by decide +kernel
theorem dX6_firstError_19 : dec mX6_firstError 19 = .ok (.istore_n 1, 1) := by decide +kernel
theorem dX6_firstError_20 : dec mX6_firstError 20 = .ok (.iconst 3, 1) := by decide +kernel
theorem dX6_firstError_21 : dec mX6_firstError 21 = .ok (.istore_n 2, 1) := by decide +kernel
theorem dX6_firstError_22 : dec mX6_firstError 22 = .ok (.iconst 0, 1) := by decide +kernel
theorem dX6_firstError_23 : dec mX6_firstError 23 = .ok (.istore_n 3, 1) := by decide +kernel
theorem dX6_firstError_24 : dec mX6_firstError 24 = .ok (.iload_n 3, 1) := by decide +kernel
theorem dX6_firstError_25 : dec mX6_firstError 25 = .ok (.bipush 120, 2) := by decide +kernel
theorem dX6_firstError_27 : dec mX6_firstError 27 = .ok (.if_icmp .ge 60, 3) := by decide +kernel
theorem dX6_firstError_30 : dec mX6_firstError 30 = .ok (.iload_n 1, 1) := by decide +kernel
theorem dX6_firstError_31 : dec mX6_firstError 31 = .ok (.iconst (-1), 1) := by decide +kernel
theorem dX6_firstError_32 : dec mX6_firstError 32 = .ok (.if_icmp .ne 55, 3) := by decide +kernel
theorem dX6_firstError_35 : dec mX6_firstError 35 = .ok (.iload_n 2, 1) := by decide +kernel
theorem dX6_firstError_36 : dec mX6_firstError 36 = .ok (.aload_n 0, 1) := by decide +kernel
theorem dX6_firstError_37 : dec mX6_firstError 37 = .ok (.getfield 15, 3) := by decide +kernel
theorem dX6_firstError_40 : dec mX6_firstError 40 = .ok (.if_icmp .ge 47, 3) := by decide +kernel
theorem dX6_firstError_43 : dec mX6_firstError 43 = .ok (.aload_n 0, 1) := by decide +kernel
theorem dX6_firstError_44 : dec mX6_firstError 44 = .ok (.iload_n 2, 1) := by decide +kernel
theorem dX6_firstError_45 : dec mX6_firstError 45 = .ok (.invokevirtual 19, 3) := by decide +kernel
theorem dX6_firstError_48 : dec mX6_firstError 48 = .ok (.invokestatic 32, 3) := by decide +kernel
theorem dX6_firstError_51 : dec mX6_firstError 51 = .ok (.astore 4, 2) := by decide +kernel
theorem dX6_firstError_53 : dec mX6_firstError 53 = .ok (.aload 4, 2) := by decide +kernel
theorem dX6_firstError_55 : dec mX6_firstError 55 = .ok (.invokevirtual 36, 3) := by decide +kernel
theorem dX6_firstError_58 : dec mX6_firstError 58 = .ok (.ifCond .eq 7, 3) := by decide +kernel
theorem dX6_firstError_61 : dec mX6_firstError 61 = .ok (.iload_n 2, 1) := by decide +kernel
theorem dX6_firstError_62 : dec mX6_firstError 62 = .ok (.goto 10, 3) := by decide +kernel
theorem dX6_firstError_65 : dec mX6_firstError 65 = .ok (.aload_n 0, 1) := by decide +kernel
theorem dX6_firstError_66 : dec mX6_firstError 66 = .ok (.aload 4, 2) := by decide +kernel
theorem dX6_firstError_68 : dec mX6_firstError 68 = .ok (.iload_n 2, 1) := by decide +kernel
theorem dX6_firstError_69 : dec mX6_firstError 69 = .ok (.invokevirtual 28, 3) := by decide +kernel
theorem dX6_firstError_72 : dec mX6_firstError 72 = .ok (.istore_n 1, 1) := by decide +kernel
theorem dX6_firstError_73 : dec mX6_firstError 73 = .ok (.iload_n 2, 1) := by decide +kernel
theorem dX6_firstError_74 : dec mX6_firstError 74 = .ok (.aload 4, 2) := by decide +kernel
theorem dX6_firstError_76 : dec mX6_firstError 76 = .ok (.invokevirtual 42, 3) := by decide +kernel
theorem dX6_firstError_79 : dec mX6_firstError 79 = .ok (.iadd, 1) := by decide +kernel
theorem dX6_firstError_80 : dec mX6_firstError 80 = .ok (.istore_n 2, 1) := by decide +kernel
theorem dX6_firstError_81 : dec mX6_firstError 81 = .ok (.iinc 3 1, 3) := by decide +kernel
theorem dX6_firstError_84 : dec mX6_firstError 84 = .ok (.goto (-60), 3) := by decide +kernel
theorem dX6_firstError_87 : dec mX6_firstError 87 = .ok (.iload_n 1, 1) := by decide +kernel
theorem dX6_firstError_88 : dec mX6_firstError 88 = .ok (.ireturn, 1) := by decide +kernel
theorem dX6_firstWrong_0 : dec mX6_firstWrong 0 = .ok (.iconst 1, 1) := by decide +kernel
theorem dX6_firstWrong_1 : dec mX6_firstWrong 1 = .ok (.istore_n 3, 1) := by decide +kernel
theorem dX6_firstWrong_2 : dec mX6_firstWrong 2 = .ok (.iload_n 3, 1) := by decide +kernel
theorem dX6_firstWrong_3 : dec mX6_firstWrong 3 = .ok (.aload_n 1, 1) := by decide +kernel
theorem dX6_firstWrong_4 : dec mX6_firstWrong 4 = .ok (.invokevirtual 42, 3) := by decide +kernel
theorem dX6_firstWrong_7 : dec mX6_firstWrong 7 = .ok (.if_icmp .ge 40, 3) := by decide +kernel
theorem dX6_firstWrong_10 : dec mX6_firstWrong 10 = .ok (.aload_n 1, 1) := by decide +kernel
theorem dX6_firstWrong_11 : dec mX6_firstWrong 11 = .ok (.iload_n 3, 1) := by decide +kernel
theorem dX6_firstWrong_12 : dec mX6_firstWrong 12 = .ok (.invokevirtual 45, 3) := by decide +kernel
theorem dX6_firstWrong_15 : dec mX6_firstWrong 15 = .ok (.aload_n 0, 1) := by decide +kernel
theorem dX6_firstWrong_16 : dec mX6_firstWrong 16 = .ok (.iload_n 2, 1) := by decide +kernel
theorem dX6_firstWrong_17 : dec mX6_firstWrong 17 = .ok (.iload_n 3, 1) := by decide +kernel
theorem dX6_firstWrong_18 : dec mX6_firstWrong 18 = .ok (.iadd, 1) := by decide +kernel
theorem dX6_firstWrong_19 : dec mX6_firstWrong 19 = .ok (.invokevirtual 23, 3) := by decide +kernel
theorem dX6_firstWrong_22 : dec mX6_firstWrong 22 = .ok (.aload_n 0, 1) := by decide +kernel
theorem dX6_firstWrong_23 : dec mX6_firstWrong 23 = .ok (.iload_n 2, 1) := by decide +kernel
theorem dX6_firstWrong_24 : dec mX6_firstWrong 24 = .ok (.iload_n 3, 1) := by decide +kernel
theorem dX6_firstWrong_25 : dec mX6_firstWrong 25 = .ok (.iadd, 1) := by decide +kernel
theorem dX6_firstWrong_26 : dec mX6_firstWrong 26 = .ok (.iconst 1, 1) := by decide +kernel
theorem dX6_firstWrong_27 : dec mX6_firstWrong 27 = .ok (.isub, 1) := by decide +kernel
theorem dX6_firstWrong_28 : dec mX6_firstWrong 28 = .ok (.invokevirtual 23, 3) := by decide +kernel
theorem dX6_firstWrong_31 : dec mX6_firstWrong 31 = .ok (.invokestatic 49, 3) := by decide +kernel
theorem dX6_firstWrong_34 : dec mX6_firstWrong 34 = .ok (.ifCond .ne 7, 3) := by decide +kernel
theorem dX6_firstWrong_37 : dec mX6_firstWrong 37 = .ok (.iload_n 2, 1) := by decide +kernel
theorem dX6_firstWrong_38 : dec mX6_firstWrong 38 = .ok (.iload_n 3, 1) := by decide +kernel
theorem dX6_firstWrong_39 : dec mX6_firstWrong 39 = .ok (.iadd, 1) := by decide +kernel
theorem dX6_firstWrong_40 : dec mX6_firstWrong 40 = .ok (.ireturn, 1) := by decide +kernel
theorem dX6_firstWrong_41 : dec mX6_firstWrong 41 = .ok (.iinc 3 1, 3) := by decide +kernel
theorem dX6_firstWrong_44 : dec mX6_firstWrong 44 = .ok (.goto (-42), 3) := by decide +kernel
theorem dX6_firstWrong_47 : dec mX6_firstWrong 47 = .ok (.iconst (-1), 1) := by decide +kernel
theorem dX6_firstWrong_48 : dec mX6_firstWrong 48 = .ok (.ireturn, 1) := by decide +kernel
theorem dX6_formOf_0 : dec mX6_formOf 0 = .ok (.iload_n 0, 1) := by decide +kernel
theorem dX6_formOf_1 : dec mX6_formOf 1 = .ok (.tableswitch 115 98 116 #[103, 115, 115, 115, 94, 115, 106, 112, 115, 115, 109, 115, 115, 115, 91, 115, 115, 100, 97], 91) := by decide +kernel
theorem dX6_formOf_92 : dec mX6_formOf 92 = .ok (.ldc 53, 2) := by decide +kernel
theorem dX6_formOf_94 : dec mX6_formOf 94 = .ok (.areturn, 1) := by decide +kernel
theorem dX6_formOf_95 : dec mX6_formOf 95 = .ok (.ldc 55, 2) := by decide +kernel
theorem dX6_formOf_97 : dec mX6_formOf 97 = .ok (.areturn, 1) := by decide +kernel
theorem dX6_formOf_98 : dec mX6_formOf 98 = .ok (.ldc 57, 2) := by decide +kernel
theorem dX6_formOf_100 : dec mX6_formOf 100 = .ok (.areturn, 1) := by decide +kernel
theorem dX6_formOf_101 : dec mX6_formOf 101 = .ok (.ldc 59, 2) := by decide +kernel
theorem dX6_formOf_103 : dec mX6_formOf 103 = .ok (.areturn, 1) := by decide +kernel
theorem dX6_formOf_104 : dec mX6_formOf 104 = .ok (.ldc 61, 2) := by decide +kernel
theorem dX6_formOf_106 : dec mX6_formOf 106 = .ok (.areturn, 1) := by decide +kernel
theorem dX6_formOf_107 : dec mX6_formOf 107 = .ok (.ldc 63, 2) := by decide +kernel
theorem dX6_formOf_109 : dec mX6_formOf 109 = .ok (.areturn, 1) := by decide +kernel
theorem dX6_formOf_110 : dec mX6_formOf 110 = .ok (.ldc 65, 2) := by decide +kernel
theorem dX6_formOf_112 : dec mX6_formOf 112 = .ok (.areturn, 1) := by decide +kernel
theorem dX6_formOf_113 : dec mX6_formOf 113 = .ok (.ldc 67, 2) := by decide +kernel
theorem dX6_formOf_115 : dec mX6_formOf 115 = .ok (.areturn, 1) := by decide +kernel
theorem dX6_formOf_116 : dec mX6_formOf 116 = .ok (.ldc 69, 2) := by decide +kernel
theorem dX6_formOf_118 : dec mX6_formOf 118 = .ok (.areturn, 1) := by decide +kernel
theorem dX6_suits_0 : dec mX6_suits 0 = .ok (.iload_n 1, 1) := by decide +kernel
theorem dX6_suits_1 : dec mX6_suits 1 = .ok (.ifCond .lt 9, 3) := by decide +kernel
theorem dX6_suits_4 : dec mX6_suits 4 = .ok (.iload_n 1, 1) := by decide +kernel
theorem dX6_suits_5 : dec mX6_suits 5 = .ok (.bipush 9, 2) := by decide +kernel
theorem dX6_suits_7 : dec mX6_suits 7 = .ok (.if_icmp .le 5, 3) := by decide +kernel
theorem dX6_suits_10 : dec mX6_suits 10 = .ok (.iconst 0, 1) := by decide +kernel
theorem dX6_suits_11 : dec mX6_suits 11 = .ok (.ireturn, 1) := by decide +kernel
theorem dX6_suits_12 : dec mX6_suits 12 = .ok (.iload_n 0, 1) := by decide +kernel
theorem dX6_suits_13 : dec mX6_suits 13 = .ok (.lookupswitch 225 #[(67, 182), (75, 155), (89, 128), (99, 193), (107, 166), (110, 83), (115, 100), (120, 116), (121, 139)], 83) := by decide +kernel
theorem dX6_suits_96 : dec mX6_suits 96 = .ok (.iload_n 1, 1) := by decide +kernel
theorem dX6_suits_97 : dec mX6_suits 97 = .ok (.iconst 2, 1) := by decide +kernel
theorem dX6_suits_98 : dec mX6_suits 98 = .ok (.if_icmp .lt 13, 3) := by decide +kernel
theorem dX6_suits_101 : dec mX6_suits 101 = .ok (.iload_n 1, 1) := by decide +kernel
theorem dX6_suits_102 : dec mX6_suits 102 = .ok (.bipush 6, 2) := by decide +kernel
theorem dX6_suits_104 : dec mX6_suits 104 = .ok (.if_icmp .gt 7, 3) := by decide +kernel
theorem dX6_suits_107 : dec mX6_suits 107 = .ok (.iconst 1, 1) := by decide +kernel
theorem dX6_suits_108 : dec mX6_suits 108 = .ok (.goto 4, 3) := by decide +kernel
theorem dX6_suits_111 : dec mX6_suits 111 = .ok (.iconst 0, 1) := by decide +kernel
theorem dX6_suits_112 : dec mX6_suits 112 = .ok (.ireturn, 1) := by decide +kernel
theorem dX6_suits_113 : dec mX6_suits 113 = .ok (.iload_n 1, 1) := by decide +kernel
theorem dX6_suits_114 : dec mX6_suits 114 = .ok (.iconst 1, 1) := by decide +kernel
theorem dX6_suits_115 : dec mX6_suits 115 = .ok (.if_icmp .lt 12, 3) := by decide +kernel
theorem dX6_suits_118 : dec mX6_suits 118 = .ok (.iload_n 1, 1) := by decide +kernel
theorem dX6_suits_119 : dec mX6_suits 119 = .ok (.iconst 2, 1) := by decide +kernel
theorem dX6_suits_120 : dec mX6_suits 120 = .ok (.if_icmp .gt 7, 3) := by decide +kernel
theorem dX6_suits_123 : dec mX6_suits 123 = .ok (.iconst 1, 1) := by decide +kernel
theorem dX6_suits_124 : dec mX6_suits 124 = .ok (.goto 4, 3) := by decide +kernel
theorem dX6_suits_127 : dec mX6_suits 127 = .ok (.iconst 0, 1) := by decide +kernel
theorem dX6_suits_128 : dec mX6_suits 128 = .ok (.ireturn, 1) := by decide +kernel
theorem dX6_suits_129 : dec mX6_suits 129 = .ok (.iload_n 1, 1) := by decide +kernel
theorem dX6_suits_130 : dec mX6_suits 130 = .ok (.bipush 7, 2) := by decide +kernel
theorem dX6_suits_132 : dec mX6_suits 132 = .ok (.if_icmp .gt 7, 3) := by decide +kernel
theorem dX6_suits_135 : dec mX6_suits 135 = .ok (.iconst 1, 1) := by decide +kernel
theorem dX6_suits_136 : dec mX6_suits 136 = .ok (.goto 4, 3) := by decide +kernel
theorem dX6_suits_139 : dec mX6_suits 139 = .ok (.iconst 0, 1) := by decide +kernel
theorem dX6_suits_140 : dec mX6_suits 140 = .ok (.ireturn, 1) := by decide +kernel
theorem dX6_suits_141 : dec mX6_suits 141 = .ok (.iload_n 1, 1) := by decide +kernel
theorem dX6_suits_142 : dec mX6_suits 142 = .ok (.iconst 1, 1) := by decide +kernel
theorem dX6_suits_143 : dec mX6_suits 143 = .ok (.if_icmp .gt 7, 3) := by decide +kernel
theorem dX6_suits_146 : dec mX6_suits 146 = .ok (.iconst 1, 1) := by decide +kernel
theorem dX6_suits_147 : dec mX6_suits 147 = .ok (.goto 4, 3) := by decide +kernel
theorem dX6_suits_150 : dec mX6_suits 150 = .ok (.iconst 0, 1) := by decide +kernel
theorem dX6_suits_151 : dec mX6_suits 151 = .ok (.ireturn, 1) := by decide +kernel
theorem dX6_suits_152 : dec mX6_suits 152 = .ok (.iload_n 2, 1) := by decide +kernel
theorem dX6_suits_153 : dec mX6_suits 153 = .ok (.iconst 1, 1) := by decide +kernel
theorem dX6_suits_154 : dec mX6_suits 154 = .ok (.if_icmp .lt 8, 3) := by decide +kernel
theorem dX6_suits_157 : dec mX6_suits 157 = .ok (.iload_n 1, 1) := by decide +kernel
theorem dX6_suits_158 : dec mX6_suits 158 = .ok (.iconst 3, 1) := by decide +kernel
theorem dX6_suits_159 : dec mX6_suits 159 = .ok (.if_icmp .gt 7, 3) := by decide +kernel
theorem dX6_suits_162 : dec mX6_suits 162 = .ok (.iconst 1, 1) := by decide +kernel
theorem dX6_suits_163 : dec mX6_suits 163 = .ok (.goto 4, 3) := by decide +kernel
theorem dX6_suits_166 : dec mX6_suits 166 = .ok (.iconst 0, 1) := by decide +kernel
theorem dX6_suits_167 : dec mX6_suits 167 = .ok (.ireturn, 1) := by decide +kernel
theorem dX6_suits_168 : dec mX6_suits 168 = .ok (.iload_n 1, 1) := by decide +kernel
theorem dX6_suits_169 : dec mX6_suits 169 = .ok (.iconst 5, 1) := by decide +kernel
theorem dX6_suits_170 : dec mX6_suits 170 = .ok (.if_icmp .gt 7, 3) := by decide +kernel
theorem dX6_suits_173 : dec mX6_suits 173 = .ok (.iconst 1, 1) := by decide +kernel
theorem dX6_suits_174 : dec mX6_suits 174 = .ok (.goto 4, 3) := by decide +kernel
theorem dX6_suits_177 : dec mX6_suits 177 = .ok (.iconst 0, 1) := by decide +kernel
theorem dX6_suits_178 : dec mX6_suits 178 = .ok (.ireturn, 1) := by decide +kernel
theorem dX6_suits_179 : dec mX6_suits 179 = .ok (.iload_n 2, 1) := by decide +kernel
theorem dX6_suits_180 : dec mX6_suits 180 = .ok (.iconst 5, 1) := by decide +kernel
theorem dX6_suits_181 : dec mX6_suits 181 = .ok (.if_icmp .lt 8, 3) := by decide +kernel
theorem dX6_suits_184 : dec mX6_suits 184 = .ok (.iload_n 1, 1) := by decide +kernel
theorem dX6_suits_185 : dec mX6_suits 185 = .ok (.iconst 5, 1) := by decide +kernel
theorem dX6_suits_186 : dec mX6_suits 186 = .ok (.if_icmp .gt 7, 3) := by decide +kernel
theorem dX6_suits_189 : dec mX6_suits 189 = .ok (.iconst 1, 1) := by decide +kernel
theorem dX6_suits_190 : dec mX6_suits 190 = .ok (.goto 4, 3) := by decide +kernel
theorem dX6_suits_193 : dec mX6_suits 193 = .ok (.iconst 0, 1) := by decide +kernel
theorem dX6_suits_194 : dec mX6_suits 194 = .ok (.ireturn, 1) := by decide +kernel
theorem dX6_suits_195 : dec mX6_suits 195 = .ok (.iload_n 1, 1) := by decide +kernel
theorem dX6_suits_196 : dec mX6_suits 196 = .ok (.iconst 2, 1) := by decide +kernel
theorem dX6_suits_197 : dec mX6_suits 197 = .ok (.if_icmp .gt 7, 3) := by decide +kernel
theorem dX6_suits_200 : dec mX6_suits 200 = .ok (.iconst 1, 1) := by decide +kernel
theorem dX6_suits_201 : dec mX6_suits 201 = .ok (.goto 4, 3) := by decide +kernel
theorem dX6_suits_204 : dec mX6_suits 204 = .ok (.iconst 0, 1) := by decide +kernel
theorem dX6_suits_205 : dec mX6_suits 205 = .ok (.ireturn, 1) := by decide +kernel
theorem dX6_suits_206 : dec mX6_suits 206 = .ok (.iload_n 2, 1) := by decide +kernel
theorem dX6_suits_207 : dec mX6_suits 207 = .ok (.ifCond .ne 16, 3) := by decide +kernel
theorem dX6_suits_210 : dec mX6_suits 210 = .ok (.iload_n 1, 1) := by decide +kernel
theorem dX6_suits_211 : dec mX6_suits 211 = .ok (.iconst 1, 1) := by decide +kernel
theorem dX6_suits_212 : dec mX6_suits 212 = .ok (.if_icmp .lt 7, 3) := by decide +kernel
theorem dX6_suits_215 : dec mX6_suits 215 = .ok (.iconst 1, 1) := by decide +kernel
theorem dX6_suits_216 : dec mX6_suits 216 = .ok (.goto 21, 3) := by decide +kernel
theorem dX6_suits_219 : dec mX6_suits 219 = .ok (.iconst 0, 1) := by decide +kernel
theorem dX6_suits_220 : dec mX6_suits 220 = .ok (.goto 17, 3) := by decide +kernel
theorem dX6_suits_223 : dec mX6_suits 223 = .ok (.iload_n 2, 1) := by decide +kernel
theorem dX6_suits_224 : dec mX6_suits 224 = .ok (.iconst 1, 1) := by decide +kernel
theorem dX6_suits_225 : dec mX6_suits 225 = .ok (.if_icmp .eq 7, 3) := by decide +kernel
theorem dX6_suits_228 : dec mX6_suits 228 = .ok (.iload_n 1, 1) := by decide +kernel
theorem dX6_suits_229 : dec mX6_suits 229 = .ok (.ifCond .ne 7, 3) := by decide +kernel
theorem dX6_suits_232 : dec mX6_suits 232 = .ok (.iconst 1, 1) := by decide +kernel
theorem dX6_suits_233 : dec mX6_suits 233 = .ok (.goto 4, 3) := by decide +kernel
theorem dX6_suits_236 : dec mX6_suits 236 = .ok (.iconst 0, 1) := by decide +kernel
theorem dX6_suits_237 : dec mX6_suits 237 = .ok (.ireturn, 1) := by decide +kernel
theorem dX6_suits_238 : dec mX6_suits 238 = .ok (.iconst 1, 1) := by decide +kernel
theorem dX6_suits_239 : dec mX6_suits 239 = .ok (.ireturn, 1) := by decide +kernel
theorem dX7_init_0 : dec mX7_init 0 = .ok (.aload_n 0, 1) := by decide +kernel
theorem dX7_init_1 : dec mX7_init 1 = .ok (.invokespecial 1, 3) := by decide +kernel
theorem dX7_init_4 : dec mX7_init 4 = .ok (.aload_n 0, 1) := by decide +kernel
theorem dX7_init_5 : dec mX7_init 5 = .ok (.new 7, 3) := by decide +kernel
theorem dX7_init_8 : dec mX7_init 8 = .ok (.dup, 1) := by decide +kernel
theorem dX7_init_9 : dec mX7_init 9 = .ok (.invokespecial 9, 3) := by decide +kernel
theorem dX7_init_12 : dec mX7_init 12 = .ok (.putfield 10, 3) := by decide +kernel
theorem dX7_init_15 : dec mX7_init 15 = .ok (.aload_n 0, 1) := by decide +kernel
theorem dX7_init_16 : dec mX7_init 16 = .ok (.new 7, 3) := by decide +kernel
theorem dX7_init_19 : dec mX7_init 19 = .ok (.dup, 1) := by decide +kernel
theorem dX7_init_20 : dec mX7_init 20 = .ok (.invokespecial 9, 3) := by decide +kernel
theorem dX7_init_23 : dec mX7_init 23 = .ok (.putfield 16, 3) := by decide +kernel
theorem dX7_init_26 : dec mX7_init 26 = .ok (.aload_n 0, 1) := by decide +kernel
theorem dX7_init_27 : dec mX7_init 27 = .ok (.new 19, 3) := by decide +kernel
theorem dX7_init_30 : dec mX7_init 30 = .ok (.dup, 1) := by decide +kernel
theorem dX7_init_31 : dec mX7_init 31 = .ok (.invokespecial 21, 3) := by decide +kernel
theorem dX7_init_34 : dec mX7_init 34 = .ok (.putfield 22, 3) := by decide +kernel
theorem dX7_init_37 : dec mX7_init 37 = .ok (.aload_n 0, 1) := by decide +kernel
theorem dX7_init_38 : dec mX7_init 38 = .ok (.new 26, 3) := by decide +kernel
theorem dX7_init_41 : dec mX7_init 41 = .ok (.dup, 1) := by decide +kernel
theorem dX7_init_42 : dec mX7_init 42 = .ok (.invokespecial 28, 3) := by decide +kernel
theorem dX7_init_45 : dec mX7_init 45 = .ok (.putfield 29, 3) := by decide +kernel
theorem dX7_init_48 : dec mX7_init 48 = .ok (.aload_n 0, 1) := by decide +kernel
theorem dX7_init_49 : dec mX7_init 49 = .ok (.new 33, 3) := by decide +kernel
theorem dX7_init_52 : dec mX7_init 52 = .ok (.dup, 1) := by decide +kernel
theorem dX7_init_53 : dec mX7_init 53 = .ok (.invokespecial 35, 3) := by decide +kernel
theorem dX7_init_56 : dec mX7_init 56 = .ok (.putfield 36, 3) := by decide +kernel
theorem dX7_init_59 : dec mX7_init 59 = .ok (.aload_n 0, 1) := by decide +kernel
theorem dX7_init_60 : dec mX7_init 60 = .ok (.getfield 10, 3) := by decide +kernel
theorem dX7_init_63 : dec mX7_init 63 = .ok (.iconst 3, 1) := by decide +kernel
theorem dX7_init_64 : dec mX7_init 64 = .ok (.iconst 1, 1) := by decide +kernel
theorem dX7_init_65 : dec mX7_init 65 = .ok (.invokevirtual 40, 3) := by decide +kernel
theorem dX7_init_68 : dec mX7_init 68 = .ok (.return_, 1) := by decide +kernel
theorem dX7_append_0 : dec mX7_append 0 = .ok (.iload_n 1, 1) := by decide +kernel
theorem dX7_append_1 : dec mX7_append 1 = .ok (.ifCond .lt 10, 3) := by decide +kernel
theorem dX7_append_4 : dec mX7_append 4 = .ok (.iload_n 1, 1) := by decide +kernel
theorem dX7_append_5 : dec mX7_append 5 = .ok (.sipush 255, 3) := by decide +kernel
theorem dX7_append_8 : dec mX7_append 8 = .ok (.if_icmp .le 13, 3) := by decide +kernel
theorem dX7_append_11 : dec mX7_append 11 = .ok (.new 44, 3) := by decide +kernel
theorem dX7_append_14 : dec mX7_append 14 = .ok (.dup, 1) := by decide +kernel
theorem dX7_append_15 : dec mX7_append 15 = .ok (.ldc 46, 2) := by decide +kernel
theorem dX7_append_17 : dec mX7_append 17 = .ok (.invokespecial 48, 3) := by decide +kernel
theorem dX7_append_20 : dec mX7_append 20 = .ok (.athrow, 1) := by decide +kernel
theorem dX7_append_21 : dec mX7_append 21 = .ok (.aload_n 0, 1) := by decide +kernel
theorem dX7_append_22 : dec mX7_append 22 = .ok (.getfield 36, 3) := by decide +kernel
theorem dX7_append_25 : dec mX7_append 25 = .ok (.invokevirtual 51, 3) := by decide +kernel
theorem dX7_append_28 : dec mX7_append 28 = .ok (.ifCond .eq 13, 3) := by decide +kernel
theorem dX7_append_31 : dec mX7_append 31 = .ok (.new 55, 3) := by decide +kernel
theorem dX7_append_34 : dec mX7_append 34 = .ok (.dup, 1) := by decide +kernel
theorem dX7_append_35 : dec mX7_append 35 = .ok (.ldc 57, 2) := by decide +kernel
theorem dX7_append_37 : dec mX7_append 37 = .ok (.invokespecial 59, 3) := by decide +kernel
theorem dX7_append_40 : dec mX7_append 40 = .ok (.athrow, 1) := by decide +kernel
theorem dX7_append_41 : dec mX7_append 41 = .ok (.aload_n 0, 1) := by decide +kernel
theorem dX7_append_42 : dec mX7_append 42 = .ok (.getfield 36, 3) := by decide +kernel
theorem dX7_append_45 : dec mX7_append 45 = .ok (.iload_n 1, 1) := by decide +kernel
theorem dX7_append_46 : dec mX7_append 46 = .ok (.invokevirtual 60, 3) := by decide +kernel
theorem dX7_append_49 : dec mX7_append 49 = .ok (.aload_n 0, 1) := by decide +kernel
theorem dX7_append_50 : dec mX7_append 50 = .ok (.getfield 36, 3) := by decide +kernel
theorem dX7_append_53 : dec mX7_append 53 = .ok (.getfield 64, 3) := by decide +kernel
theorem dX7_append_56 : dec mX7_append 56 = .ok (.ireturn, 1) := by decide +kernel
theorem dX7_load_0 : dec mX7_load 0 = .ok (.aload_n 0, 1) := by decide +kernel
theorem dX7_load_1 : dec mX7_load 1 = .ok (.getfield 36, 3) := by decide +kernel
theorem dX7_load_4 : dec mX7_load 4 = .ok (.invokevirtual 68, 3) := by decide +kernel
theorem dX7_load_7 : dec mX7_load 7 = .ok (.iconst (-1), 1) := by decide +kernel
theorem dX7_load_8 : dec mX7_load 8 = .ok (.if_icmp .eq 13, 3) := by decide +kernel
theorem dX7_load_11 : dec mX7_load 11 = .ok (.new 55, 3) := by decide +kernel
theorem dX7_load_14 : dec mX7_load 14 = .ok (.dup, 1) := by decide +kernel
theorem dX7_load_15 : dec mX7_load 15 = .ok (.ldc 72, 2) := by decide +kernel
theorem dX7_load_17 : dec mX7_load 17 = .ok (.invokespecial 59, 3) := by decide +kernel
theorem dX7_load_20 : dec mX7_load 20 = .ok (.athrow, 1) := by decide +kernel
theorem dX7_load_21 : dec mX7_load 21 = .ok (.aload_n 0, 1) := by decide +kernel
theorem dX7_load_22 : dec mX7_load 22 = .ok (.getfield 22, 3) := by decide +kernel
theorem dX7_load_25 : dec mX7_load 25 = .ok (.invokevirtual 74, 3) := by decide +kernel
theorem dX7_load_28 : dec mX7_load 28 = .ok (.aload_n 0, 1) := by decide +kernel
theorem dX7_load_29 : dec mX7_load 29 = .ok (.getfield 29, 3) := by decide +kernel
theorem dX7_load_32 : dec mX7_load 32 = .ok (.invokevirtual 77, 3) := by decide +kernel
theorem dX7_load_35 : dec mX7_load 35 = .ok (.aload_n 0, 1) := by decide +kernel
theorem dX7_load_36 : dec mX7_load 36 = .ok (.getfield 10, 3) := by decide +kernel
theorem dX7_load_39 : dec mX7_load 39 = .ok (.aload_n 0, 1) := by decide +kernel
theorem dX7_load_40 : dec mX7_load 40 = .ok (.getfield 36, 3) := by decide +kernel
theorem dX7_load_43 : dec mX7_load 43 = .ok (.iconst 1, 1) := by decide +kernel
theorem dX7_load_44 : dec mX7_load 44 = .ok (.invokevirtual 80, 3) := by decide +kernel
theorem dX7_load_47 : dec mX7_load 47 = .ok (.aload_n 0, 1) := by decide +kernel
theorem dX7_load_48 : dec mX7_load 48 = .ok (.getfield 36, 3) := by decide +kernel
theorem dX7_load_51 : dec mX7_load 51 = .ok (.iconst 2, 1) := by decide +kernel
theorem dX7_load_52 : dec mX7_load 52 = .ok (.invokevirtual 80, 3) := by decide +kernel
theorem dX7_load_55 : dec mX7_load 55 = .ok (.invokevirtual 40, 3) := by decide +kernel
theorem dX7_load_58 : dec mX7_load 58 = .ok (.iconst 0, 1) := by decide +kernel
theorem dX7_load_59 : dec mX7_load 59 = .ok (.istore_n 1, 1) := by decide +kernel
theorem dX7_load_60 : dec mX7_load 60 = .ok (.iconst 3, 1) := by decide +kernel
theorem dX7_load_61 : dec mX7_load 61 = .ok (.istore_n 2, 1) := by decide +kernel
theorem dX7_load_62 : dec mX7_load 62 = .ok (.iconst 0, 1) := by decide +kernel
theorem dX7_load_63 : dec mX7_load 63 = .ok (.istore_n 3, 1) := by decide +kernel
theorem dX7_load_64 : dec mX7_load 64 = .ok (.iload_n 3, 1) := by decide +kernel
theorem dX7_load_65 : dec mX7_load 65 = .ok (.bipush 120, 2) := by decide +kernel
theorem dX7_load_67 : dec mX7_load 67 = .ok (.if_icmp .ge 60, 3) := by decide +kernel
theorem dX7_load_70 : dec mX7_load 70 = .ok (.iload_n 2, 1) := by decide +kernel
theorem dX7_load_71 : dec mX7_load 71 = .ok (.aload_n 0, 1) := by decide +kernel
theorem dX7_load_72 : dec mX7_load 72 = .ok (.getfield 36, 3) := by decide +kernel
theorem dX7_load_75 : dec mX7_load 75 = .ok (.getfield 64, 3) := by decide +kernel
theorem dX7_load_78 : dec mX7_load 78 = .ok (.if_icmp .ge 49, 3) := by decide +kernel
theorem dX7_load_81 : dec mX7_load 81 = .ok (.iload_n 1, 1) := by decide +kernel
theorem dX7_load_82 : dec mX7_load 82 = .ok (.aload_n 0, 1) := by decide +kernel
theorem dX7_load_83 : dec mX7_load 83 = .ok (.getfield 10, 3) := by decide +kernel
theorem dX7_load_86 : dec mX7_load 86 = .ok (.aload_n 0, 1) := by decide +kernel
theorem dX7_load_87 : dec mX7_load 87 = .ok (.getfield 36, 3) := by decide +kernel
theorem dX7_load_90 : dec mX7_load 90 = .ok (.iload_n 2, 1) := by decide +kernel
theorem dX7_load_91 : dec mX7_load 91 = .ok (.invokestatic 84, 3) := by decide +kernel
theorem dX7_load_94 : dec mX7_load 94 = .ok (.ifCond .eq 7, 3) := by decide +kernel
theorem dX7_load_97 : dec mX7_load 97 = .ok (.iconst 0, 1) := by decide +kernel
theorem dX7_load_98 : dec mX7_load 98 = .ok (.goto 4, 3) := by decide +kernel
theorem dX7_load_101 : dec mX7_load 101 = .ok (.iconst 1, 1) := by decide +kernel
theorem dX7_load_102 : dec mX7_load 102 = .ok (.iadd, 1) := by decide +kernel
theorem dX7_load_103 : dec mX7_load 103 = .ok (.istore_n 1, 1) := by decide +kernel
theorem dX7_load_104 : dec mX7_load 104 = .ok (.iload_n 2, 1) := by decide +kernel
theorem dX7_load_105 : dec mX7_load 105 = .ok (.aload_n 0, 1) := by decide +kernel
theorem dX7_load_106 : dec mX7_load 106 = .ok (.getfield 36, 3) := by decide +kernel
theorem dX7_load_109 : dec mX7_load 109 = .ok (.iload_n 2, 1) := by decide +kernel
theorem dX7_load_110 : dec mX7_load 110 = .ok (.invokevirtual 90, 3) := by decide +kernel
theorem dX7_load_113 : dec mX7_load 113 = .ok (.invokestatic 93, 3) := by decide +kernel
theorem dX7_load_116 : dec mX7_load 116 = .ok (.invokevirtual 97, 3) := by decide +kernel
theorem dX7_load_119 : dec mX7_load 119 = .ok (.iadd, 1) := by decide +kernel
theorem dX7_load_120 : dec mX7_load 120 = .ok (.istore_n 2, 1) := by decide +kernel
theorem dX7_load_121 : dec mX7_load 121 = .ok (.iinc 3 1, 3) := by decide +kernel
theorem dX7_load_124 : dec mX7_load 124 = .ok (.goto (-60), 3) := by decide +kernel
theorem dX7_load_127 : dec mX7_load 127 = .ok (.iload_n 1, 1) := by decide +kernel
theorem dX7_load_128 : dec mX7_load 128 = .ok (.ireturn, 1) := by decide +kernel
theorem dX7_about_0 : dec mX7_about 0 = .ok (.iload_n 1, 1) := by decide +kernel
theorem dX7_about_1 : dec mX7_about 1 = .ok (.tableswitch 176 0 10 #[59, 70, 81, 89, 97, 105, 113, 121, 139, 157, 165], 59) := by decide +kernel
theorem dX7_about_60 : dec mX7_about 60 = .ok (.aload_n 0, 1) := by decide +kernel
theorem dX7_about_61 : dec mX7_about 61 = .ok (.getfield 10, 3) := by decide +kernel
theorem dX7_about_64 : dec mX7_about 64 = .ok (.getfield 101, 3) := by decide +kernel
theorem dX7_about_67 : dec mX7_about 67 = .ok (.getfield 105, 3) := by decide +kernel
theorem dX7_about_70 : dec mX7_about 70 = .ok (.ireturn, 1) := by decide +kernel
theorem dX7_about_71 : dec mX7_about 71 = .ok (.aload_n 0, 1) := by decide +kernel
theorem dX7_about_72 : dec mX7_about 72 = .ok (.getfield 10, 3) := by decide +kernel
theorem dX7_about_75 : dec mX7_about 75 = .ok (.getfield 101, 3) := by decide +kernel
theorem dX7_about_78 : dec mX7_about 78 = .ok (.getfield 110, 3) := by decide +kernel
theorem dX7_about_81 : dec mX7_about 81 = .ok (.ireturn, 1) := by decide +kernel
theorem dX7_about_82 : dec mX7_about 82 = .ok (.aload_n 0, 1) := by decide +kernel
theorem dX7_about_83 : dec mX7_about 83 = .ok (.getfield 10, 3) := by decide +kernel
theorem dX7_about_86 : dec mX7_about 86 = .ok (.getfield 113, 3) := by decide +kernel
theorem dX7_about_89 : dec mX7_about 89 = .ok (.ireturn, 1) := by decide +kernel
theorem dX7_about_90 : dec mX7_about 90 = .ok (.aload_n 0, 1) := by decide +kernel
theorem dX7_about_91 : dec mX7_about 91 = .ok (.getfield 10, 3) := by decide +kernel
theorem dX7_about_94 : dec mX7_about 94 = .ok (.getfield 116, 3) := by decide +kernel
theorem dX7_about_97 : dec mX7_about 97 = .ok (.ireturn, 1) := by decide +kernel
theorem dX7_about_98 : dec mX7_about 98 = .ok (.aload_n 0, 1) := by decide +kernel
theorem dX7_about_99 : dec mX7_about 99 = .ok (.getfield 10, 3) := by decide +kernel
theorem dX7_about_102 : dec mX7_about 102 = .ok (.getfield 119, 3) := by decide +kernel
theorem dX7_about_105 : dec mX7_about 105 = .ok (.ireturn, 1) := by decide +kernel
theorem dX7_about_106 : dec mX7_about 106 = .ok (.aload_n 0, 1) := by decide +kernel
theorem dX7_about_107 : dec mX7_about 107 = .ok (.getfield 10, 3) := by decide +kernel
theorem dX7_about_110 : dec mX7_about 110 = .ok (.invokevirtual 122, 3) := by decide +kernel
theorem dX7_about_113 : dec mX7_about 113 = .ok (.ireturn, 1) := by decide +kernel
theorem dX7_about_114 : dec mX7_about 114 = .ok (.aload_n 0, 1) := by decide +kernel
theorem dX7_about_115 : dec mX7_about 115 = .ok (.getfield 10, 3) := by decide +kernel
theorem dX7_about_118 : dec mX7_about 118 = .ok (.invokevirtual 125, 3) := by decide +kernel
theorem dX7_about_121 : dec mX7_about 121 = .ok (.ireturn, 1) := by decide +kernel
theorem dX7_about_122 : dec mX7_about 122 = .ok (.aload_n 0, 1) := by decide +kernel
theorem dX7_about_123 : dec mX7_about 123 = .ok (.getfield 10, 3) := by decide +kernel
theorem dX7_about_126 : dec mX7_about 126 = .ok (.aload_n 0, 1) := by decide +kernel
theorem dX7_about_127 : dec mX7_about 127 = .ok (.getfield 10, 3) := by decide +kernel
theorem dX7_about_130 : dec mX7_about 130 = .ok (.getfield 101, 3) := by decide +kernel
theorem dX7_about_133 : dec mX7_about 133 = .ok (.getfield 128, 3) := by decide +kernel
theorem dX7_about_136 : dec mX7_about 136 = .ok (.invokevirtual 132, 3) := by decide +kernel
theorem dX7_about_139 : dec mX7_about 139 = .ok (.ireturn, 1) := by decide +kernel
theorem dX7_about_140 : dec mX7_about 140 = .ok (.aload_n 0, 1) := by decide +kernel
theorem dX7_about_141 : dec mX7_about 141 = .ok (.getfield 10, 3) := by decide +kernel
theorem dX7_about_144 : dec mX7_about 144 = .ok (.aload_n 0, 1) := by decide +kernel
theorem dX7_about_145 : dec mX7_about 145 = .ok (.getfield 10, 3) := by decide +kernel
theorem dX7_about_148 : dec mX7_about 148 = .ok (.getfield 101, 3) := by decide +kernel
theorem dX7_about_151 : dec mX7_about 151 = .ok (.getfield 136, 3) := by decide +kernel
theorem dX7_about_154 : dec mX7_about 154 = .ok (.invokevirtual 132, 3) := by decide +kernel
theorem dX7_about_157 : dec mX7_about 157 = .ok (.ireturn, 1) := by decide +kernel
theorem dX7_about_158 : dec mX7_about 158 = .ok (.aload_n 0, 1) := by decide +kernel
theorem dX7_about_159 : dec mX7_about 159 = .ok (.getfield 10, 3) := by decide +kernel
theorem dX7_about_162 : dec mX7_about 162 = .ok (.invokevirtual 139, 3) := by decide +kernel
theorem dX7_about_165 : dec mX7_about 165 = .ok (.ireturn, 1) := by decide +kernel
theorem dX7_about_166 : dec mX7_about 166 = .ok (.aload_n 0, 1) := by decide +kernel
theorem dX7_about_167 : dec mX7_about 167 = .ok (.getfield 10, 3) := by decide +kernel
theorem dX7_about_170 : dec mX7_about 170 = .ok (.getfield 101, 3) := by decide +kernel
theorem dX7_about_173 : dec mX7_about 173 = .ok (.getfield 142, 3) := by decide +kernel
theorem dX7_about_176 : dec mX7_about 176 = .ok (.ireturn, 1) := by decide +kernel
theorem dX7_about_177 : dec mX7_about 177 = .ok (.new 44, 3) := by decide +kernel
theorem dX7_about_180 : dec mX7_about 180 = .ok (.dup, 1) := by decide +kernel
theorem dX7_about_181 : dec mX7_about 181 = .ok (.ldc 145, 2) := by decide +kernel
theorem dX7_about_183 : dec mX7_about 183 = .ok (.invokespecial 48, 3) := by decide +kernel
theorem dX7_about_186 : dec mX7_about 186 = .ok (.athrow, 1) := by decide +kernel
theorem dX7_square_0 : dec mX7_square 0 = .ok (.aload_n 0, 1) := by decide +kernel
theorem dX7_square_1 : dec mX7_square 1 = .ok (.getfield 10, 3) := by decide +kernel
theorem dX7_square_4 : dec mX7_square 4 = .ok (.iload_n 1, 1) := by decide +kernel
theorem dX7_square_5 : dec mX7_square 5 = .ok (.iload_n 2, 1) := by decide +kernel
theorem dX7_square_6 : dec mX7_square 6 = .ok (.invokevirtual 147, 3) := by decide +kernel
theorem dX7_square_9 : dec mX7_square 9 = .ok (.ifCond .ne 13, 3) := by decide +kernel
theorem dX7_square_12 : dec mX7_square 12 = .ok (.new 151, 3) := by decide +kernel
theorem dX7_square_15 : dec mX7_square 15 = .ok (.dup, 1) := by decide +kernel
theorem dX7_square_16 : dec mX7_square 16 = .ok (.ldc 153, 2) := by decide +kernel
theorem dX7_square_18 : dec mX7_square 18 = .ok (.invokespecial 155, 3) := by decide +kernel
theorem dX7_square_21 : dec mX7_square 21 = .ok (.athrow, 1) := by decide +kernel
theorem dX7_square_22 : dec mX7_square 22 = .ok (.aload_n 0, 1) := by decide +kernel
theorem dX7_square_23 : dec mX7_square 23 = .ok (.getfield 10, 3) := by decide +kernel
theorem dX7_square_26 : dec mX7_square 26 = .ok (.iload_n 1, 1) := by decide +kernel
theorem dX7_square_27 : dec mX7_square 27 = .ok (.iload_n 2, 1) := by decide +kernel
theorem dX7_square_28 : dec mX7_square 28 = .ok (.invokevirtual 156, 3) := by decide +kernel
theorem dX7_square_31 : dec mX7_square 31 = .ok (.istore 4, 2) := by decide +kernel
theorem dX7_square_33 : dec mX7_square 33 = .ok (.iload_n 3, 1) := by decide +kernel
theorem dX7_square_34 : dec mX7_square 34 = .ok (.tableswitch 125 0 4 #[34, 50, 67, 102, 115], 34) := by decide +kernel
theorem dX7_square_68 : dec mX7_square 68 = .ok (.aload_n 0, 1) := by decide +kernel
theorem dX7_square_69 : dec mX7_square 69 = .ok (.getfield 10, 3) := by decide +kernel
theorem dX7_square_72 : dec mX7_square 72 = .ok (.getfield 101, 3) := by decide +kernel
theorem dX7_square_75 : dec mX7_square 75 = .ok (.getfield 160, 3) := by decide +kernel
theorem dX7_square_78 : dec mX7_square 78 = .ok (.iload 4, 2) := by decide +kernel
theorem dX7_square_80 : dec mX7_square 80 = .ok (.invokestatic 163, 3) := by decide +kernel
theorem dX7_square_83 : dec mX7_square 83 = .ok (.ireturn, 1) := by decide +kernel
theorem dX7_square_84 : dec mX7_square 84 = .ok (.aload_n 0, 1) := by decide +kernel
theorem dX7_square_85 : dec mX7_square 85 = .ok (.getfield 10, 3) := by decide +kernel
theorem dX7_square_88 : dec mX7_square 88 = .ok (.aload_n 0, 1) := by decide +kernel
theorem dX7_square_89 : dec mX7_square 89 = .ok (.getfield 10, 3) := by decide +kernel
theorem dX7_square_92 : dec mX7_square 92 = .ok (.iload 4, 2) := by decide +kernel
theorem dX7_square_94 : dec mX7_square 94 = .ok (.invokevirtual 167, 3) := by decide +kernel
theorem dX7_square_97 : dec mX7_square 97 = .ok (.invokevirtual 170, 3) := by decide +kernel
theorem dX7_square_100 : dec mX7_square 100 = .ok (.ireturn, 1) := by decide +kernel
theorem dX7_square_101 : dec mX7_square 101 = .ok (.aload_n 0, 1) := by decide +kernel
theorem dX7_square_102 : dec mX7_square 102 = .ok (.getfield 10, 3) := by decide +kernel
theorem dX7_square_105 : dec mX7_square 105 = .ok (.getfield 101, 3) := by decide +kernel
theorem dX7_square_108 : dec mX7_square 108 = .ok (.getfield 160, 3) := by decide +kernel
theorem dX7_square_111 : dec mX7_square 111 = .ok (.iload 4, 2) := by decide +kernel
theorem dX7_square_113 : dec mX7_square 113 = .ok (.invokestatic 163, 3) := by decide +kernel
theorem dX7_square_116 : dec mX7_square 116 = .ok (.aload_n 0, 1) := by decide +kernel
theorem dX7_square_117 : dec mX7_square 117 = .ok (.getfield 10, 3) := by decide +kernel
theorem dX7_square_120 : dec mX7_square 120 = .ok (.aload_n 0, 1) := by decide +kernel
theorem dX7_square_121 : dec mX7_square 121 = .ok (.getfield 10, 3) := by decide +kernel
theorem dX7_square_124 : dec mX7_square 124 = .ok (.iload 4, 2) := by decide +kernel
theorem dX7_square_126 : dec mX7_square 126 = .ok (.invokevirtual 167, 3) := by decide +kernel
theorem dX7_square_129 : dec mX7_square 129 = .ok (.invokevirtual 170, 3) := by decide +kernel
theorem dX7_square_132 : dec mX7_square 132 = .ok (.invokestatic 173, 3) := by decide +kernel
theorem dX7_square_135 : dec mX7_square 135 = .ok (.ireturn, 1) := by decide +kernel
theorem dX7_square_136 : dec mX7_square 136 = .ok (.aload_n 0, 1) := by decide +kernel
theorem dX7_square_137 : dec mX7_square 137 = .ok (.getfield 10, 3) := by decide +kernel
theorem dX7_square_140 : dec mX7_square 140 = .ok (.getfield 176, 3) := by decide +kernel
theorem dX7_square_143 : dec mX7_square 143 = .ok (.iload 4, 2) := by decide +kernel
theorem dX7_square_145 : dec mX7_square 145 = .ok (.invokestatic 163, 3) := by decide +kernel
theorem dX7_square_148 : dec mX7_square 148 = .ok (.ireturn, 1) := by decide +kernel
theorem dX7_square_149 : dec mX7_square 149 = .ok (.aload_n 0, 1) := by decide +kernel
theorem dX7_square_150 : dec mX7_square 150 = .ok (.getfield 10, 3) := by decide +kernel
theorem dX7_square_153 : dec mX7_square 153 = .ok (.iload 4, 2) := by decide +kernel
theorem dX7_square_155 : dec mX7_square 155 = .ok (.invokevirtual 167, 3) := by decide +kernel
theorem dX7_square_158 : dec mX7_square 158 = .ok (.ireturn, 1) := by decide +kernel
theorem dX7_square_159 : dec mX7_square 159 = .ok (.new 44, 3) := by decide +kernel
theorem dX7_square_162 : dec mX7_square 162 = .ok (.dup, 1) := by decide +kernel
theorem dX7_square_163 : dec mX7_square 163 = .ok (.ldc 179, 2) := by decide +kernel
theorem dX7_square_165 : dec mX7_square 165 = .ok (.invokespecial 48, 3) := by decide +kernel
theorem dX7_square_168 : dec mX7_square 168 = .ok (.athrow, 1) := by decide +kernel
theorem dX7_place_0 : dec mX7_place 0 = .ok (.aload_n 0, 1) := by decide +kernel
theorem dX7_place_1 : dec mX7_place 1 = .ok (.getfield 10, 3) := by decide +kernel
theorem dX7_place_4 : dec mX7_place 4 = .ok (.iload_n 1, 1) := by decide +kernel
theorem dX7_place_5 : dec mX7_place 5 = .ok (.invokevirtual 181, 3) := by decide +kernel
theorem dX7_place_8 : dec mX7_place 8 = .ok (.ifCond .ne 13, 3) := by decide +kernel
theorem dX7_place_11 : dec mX7_place 11 = .ok (.new 151, 3) := by decide +kernel
theorem dX7_place_14 : dec mX7_place 14 = .ok (.dup, 1) := by decide +kernel
theorem dX7_place_15 : dec mX7_place 15 = .ok (.ldc 185, 2) := by decide +kernel
theorem dX7_place_17 : dec mX7_place 17 = .ok (.invokespecial 155, 3) := by decide +kernel
theorem dX7_place_20 : dec mX7_place 20 = .ok (.athrow, 1) := by decide +kernel
theorem dX7_place_21 : dec mX7_place 21 = .ok (.iload_n 2, 1) := by decide +kernel
theorem dX7_place_22 : dec mX7_place 22 = .ok (.tableswitch 143 0 6 #[42, 57, 72, 87, 102, 111, 126], 42) := by decide +kernel
theorem dX7_place_64 : dec mX7_place 64 = .ok (.aload_n 0, 1) := by decide +kernel
theorem dX7_place_65 : dec mX7_place 65 = .ok (.getfield 10, 3) := by decide +kernel
theorem dX7_place_68 : dec mX7_place 68 = .ok (.getfield 101, 3) := by decide +kernel
theorem dX7_place_71 : dec mX7_place 71 = .ok (.getfield 187, 3) := by decide +kernel
theorem dX7_place_74 : dec mX7_place 74 = .ok (.iload_n 1, 1) := by decide +kernel
theorem dX7_place_75 : dec mX7_place 75 = .ok (.invokestatic 163, 3) := by decide +kernel
theorem dX7_place_78 : dec mX7_place 78 = .ok (.ireturn, 1) := by decide +kernel
theorem dX7_place_79 : dec mX7_place 79 = .ok (.aload_n 0, 1) := by decide +kernel
theorem dX7_place_80 : dec mX7_place 80 = .ok (.getfield 10, 3) := by decide +kernel
theorem dX7_place_83 : dec mX7_place 83 = .ok (.getfield 101, 3) := by decide +kernel
theorem dX7_place_86 : dec mX7_place 86 = .ok (.getfield 190, 3) := by decide +kernel
theorem dX7_place_89 : dec mX7_place 89 = .ok (.iload_n 1, 1) := by decide +kernel
theorem dX7_place_90 : dec mX7_place 90 = .ok (.invokestatic 163, 3) := by decide +kernel
theorem dX7_place_93 : dec mX7_place 93 = .ok (.ireturn, 1) := by decide +kernel
theorem dX7_place_94 : dec mX7_place 94 = .ok (.aload_n 0, 1) := by decide +kernel
theorem dX7_place_95 : dec mX7_place 95 = .ok (.getfield 10, 3) := by decide +kernel
theorem dX7_place_98 : dec mX7_place 98 = .ok (.getfield 101, 3) := by decide +kernel
theorem dX7_place_101 : dec mX7_place 101 = .ok (.getfield 193, 3) := by decide +kernel
theorem dX7_place_104 : dec mX7_place 104 = .ok (.iload_n 1, 1) := by decide +kernel
theorem dX7_place_105 : dec mX7_place 105 = .ok (.invokestatic 163, 3) := by decide +kernel
theorem dX7_place_108 : dec mX7_place 108 = .ok (.ireturn, 1) := by decide +kernel
theorem dX7_place_109 : dec mX7_place 109 = .ok (.aload_n 0, 1) := by decide +kernel
theorem dX7_place_110 : dec mX7_place 110 = .ok (.getfield 10, 3) := by decide +kernel
theorem dX7_place_113 : dec mX7_place 113 = .ok (.getfield 101, 3) := by decide +kernel
theorem dX7_place_116 : dec mX7_place 116 = .ok (.getfield 128, 3) := by decide +kernel
theorem dX7_place_119 : dec mX7_place 119 = .ok (.iload_n 1, 1) := by decide +kernel
theorem dX7_place_120 : dec mX7_place 120 = .ok (.invokestatic 163, 3) := by decide +kernel
theorem dX7_place_123 : dec mX7_place 123 = .ok (.ireturn, 1) := by decide +kernel
theorem dX7_place_124 : dec mX7_place 124 = .ok (.aload_n 0, 1) := by decide +kernel
theorem dX7_place_125 : dec mX7_place 125 = .ok (.getfield 10, 3) := by decide +kernel
theorem dX7_place_128 : dec mX7_place 128 = .ok (.iload_n 1, 1) := by decide +kernel
theorem dX7_place_129 : dec mX7_place 129 = .ok (.invokevirtual 196, 3) := by decide +kernel
theorem dX7_place_132 : dec mX7_place 132 = .ok (.ireturn, 1) := by decide +kernel
theorem dX7_place_133 : dec mX7_place 133 = .ok (.aload_n 0, 1) := by decide +kernel
theorem dX7_place_134 : dec mX7_place 134 = .ok (.getfield 10, 3) := by decide +kernel
theorem dX7_place_137 : dec mX7_place 137 = .ok (.getfield 101, 3) := by decide +kernel
theorem dX7_place_140 : dec mX7_place 140 = .ok (.getfield 136, 3) := by decide +kernel
theorem dX7_place_143 : dec mX7_place 143 = .ok (.iload_n 1, 1) := by decide +kernel
theorem dX7_place_144 : dec mX7_place 144 = .ok (.invokestatic 163, 3) := by decide +kernel
theorem dX7_place_147 : dec mX7_place 147 = .ok (.ireturn, 1) := by decide +kernel
theorem dX7_place_148 : dec mX7_place 148 = .ok (.aload_n 0, 1) := by decide +kernel
theorem dX7_place_149 : dec mX7_place 149 = .ok (.getfield 10, 3) := by decide +kernel
theorem dX7_place_152 : dec mX7_place 152 = .ok (.iload_n 1, 1) := by decide +kernel
theorem dX7_place_153 : dec mX7_place 153 = .ok (.invokevirtual 199, 3) := by decide +kernel
theorem dX7_place_156 : dec mX7_place 156 = .ok (.ifCond .eq 7, 3) := by decide +kernel
theorem dX7_place_159 : dec mX7_place 159 = .ok (.iconst 1, 1) := by decide +kernel
theorem dX7_place_160 : dec mX7_place 160 = .ok (.goto 4, 3) := by decide +kernel
theorem dX7_place_163 : dec mX7_place 163 = .ok (.iconst 0, 1) := by decide +kernel
theorem dX7_place_164 : dec mX7_place 164 = .ok (.ireturn, 1) := by decide +kernel
theorem dX7_place_165 : dec mX7_place 165 = .ok (.new 44, 3) := by decide +kernel
theorem dX7_place_168 : dec mX7_place 168 = .ok (.dup, 1) := by decide +kernel
theorem dX7_place_169 : dec mX7_place 169 = .ok (.ldc 202, 2) := by decide +kernel
theorem dX7_place_171 : dec mX7_place 171 = .ok (.invokespecial 48, 3) := by decide +kernel
theorem dX7_place_174 : dec mX7_place 174 = .ok (.athrow, 1) := by decide +kernel
theorem dX7_tile_0 : dec mX7_tile 0 = .ok (.aload_n 0, 1) := by decide +kernel
theorem dX7_tile_1 : dec mX7_tile 1 = .ok (.getfield 10, 3) := by decide +kernel
theorem dX7_tile_4 : dec mX7_tile 4 = .ok (.iload_n 1, 1) := by decide +kernel
theorem dX7_tile_5 : dec mX7_tile 5 = .ok (.invokevirtual 204, 3) := by decide +kernel
theorem dX7_tile_8 : dec mX7_tile 8 = .ok (.ifCond .ne 13, 3) := by decide +kernel
theorem dX7_tile_11 : dec mX7_tile 11 = .ok (.new 151, 3) := by decide +kernel
theorem dX7_tile_14 : dec mX7_tile 14 = .ok (.dup, 1) := by decide +kernel
theorem dX7_tile_15 : dec mX7_tile 15 = .ok (.ldc 207, 2) := by decide +kernel
theorem dX7_tile_17 : dec mX7_tile 17 = .ok (.invokespecial 155, 3) := by decide +kernel
theorem dX7_tile_20 : dec mX7_tile 20 = .ok (.athrow, 1) := by decide +kernel
theorem dX7_tile_21 : dec mX7_tile 21 = .ok (.iload_n 2, 1) := by decide +kernel
theorem dX7_tile_22 : dec mX7_tile 22 = .ok (.tableswitch 59 0 2 #[26, 38, 50], 26) := by decide +kernel
theorem dX7_tile_48 : dec mX7_tile 48 = .ok (.aload_n 0, 1) := by decide +kernel
theorem dX7_tile_49 : dec mX7_tile 49 = .ok (.getfield 10, 3) := by decide +kernel
theorem dX7_tile_52 : dec mX7_tile 52 = .ok (.getfield 209, 3) := by decide +kernel
theorem dX7_tile_55 : dec mX7_tile 55 = .ok (.iload_n 1, 1) := by decide +kernel
theorem dX7_tile_56 : dec mX7_tile 56 = .ok (.invokestatic 163, 3) := by decide +kernel
theorem dX7_tile_59 : dec mX7_tile 59 = .ok (.ireturn, 1) := by decide +kernel
theorem dX7_tile_60 : dec mX7_tile 60 = .ok (.aload_n 0, 1) := by decide +kernel
theorem dX7_tile_61 : dec mX7_tile 61 = .ok (.getfield 10, 3) := by decide +kernel
theorem dX7_tile_64 : dec mX7_tile 64 = .ok (.getfield 212, 3) := by decide +kernel
theorem dX7_tile_67 : dec mX7_tile 67 = .ok (.iload_n 1, 1) := by decide +kernel
theorem dX7_tile_68 : dec mX7_tile 68 = .ok (.invokestatic 163, 3) := by decide +kernel
theorem dX7_tile_71 : dec mX7_tile 71 = .ok (.ireturn, 1) := by decide +kernel
theorem dX7_tile_72 : dec mX7_tile 72 = .ok (.aload_n 0, 1) := by decide +kernel
theorem dX7_tile_73 : dec mX7_tile 73 = .ok (.getfield 10, 3) := by decide +kernel
theorem dX7_tile_76 : dec mX7_tile 76 = .ok (.iload_n 1, 1) := by decide +kernel
theorem dX7_tile_77 : dec mX7_tile 77 = .ok (.invokevirtual 215, 3) := by decide +kernel
theorem dX7_tile_80 : dec mX7_tile 80 = .ok (.ireturn, 1) := by decide +kernel
theorem dX7_tile_81 : dec mX7_tile 81 = .ok (.new 44, 3) := by decide +kernel
theorem dX7_tile_84 : dec mX7_tile 84 = .ok (.dup, 1) := by decide +kernel
theorem dX7_tile_85 : dec mX7_tile 85 = .ok (.ldc 218, 2) := by decide +kernel
theorem dX7_tile_87 : dec mX7_tile 87 = .ok (.invokespecial 48, 3) := by decide +kernel
theorem dX7_tile_90 : dec mX7_tile 90 = .ok (.athrow, 1) := by decide +kernel
theorem dX7_begin_0 : dec mX7_begin 0 = .ok (.iload_n 1, 1) := by decide +kernel
theorem dX7_begin_1 : dec mX7_begin 1 = .ok (.iconst 2, 1) := by decide +kernel
theorem dX7_begin_2 : dec mX7_begin 2 = .ok (.if_icmp .lt 19, 3) := by decide +kernel
theorem dX7_begin_5 : dec mX7_begin 5 = .ok (.iload_n 1, 1) := by decide +kernel
theorem dX7_begin_6 : dec mX7_begin 6 = .ok (.bipush 6, 2) := by decide +kernel
theorem dX7_begin_8 : dec mX7_begin 8 = .ok (.if_icmp .gt 13, 3) := by decide +kernel
theorem dX7_begin_11 : dec mX7_begin 11 = .ok (.iload_n 2, 1) := by decide +kernel
theorem dX7_begin_12 : dec mX7_begin 12 = .ok (.iconst 1, 1) := by decide +kernel
theorem dX7_begin_13 : dec mX7_begin 13 = .ok (.if_icmp .lt 8, 3) := by decide +kernel
theorem dX7_begin_16 : dec mX7_begin 16 = .ok (.iload_n 2, 1) := by decide +kernel
theorem dX7_begin_17 : dec mX7_begin 17 = .ok (.iconst 2, 1) := by decide +kernel
theorem dX7_begin_18 : dec mX7_begin 18 = .ok (.if_icmp .le 13, 3) := by decide +kernel
theorem dX7_begin_21 : dec mX7_begin 21 = .ok (.new 44, 3) := by decide +kernel
theorem dX7_begin_24 : dec mX7_begin 24 = .ok (.dup, 1) := by decide +kernel
theorem dX7_begin_25 : dec mX7_begin 25 = .ok (.ldc 220, 2) := by decide +kernel
theorem dX7_begin_27 : dec mX7_begin 27 = .ok (.invokespecial 48, 3) := by decide +kernel
theorem dX7_begin_30 : dec mX7_begin 30 = .ok (.athrow, 1) := by decide +kernel
theorem dX7_begin_31 : dec mX7_begin 31 = .ok (.aload_n 0, 1) := by decide +kernel
theorem dX7_begin_32 : dec mX7_begin 32 = .ok (.getfield 22, 3) := by decide +kernel
theorem dX7_begin_35 : dec mX7_begin 35 = .ok (.aload_n 0, 1) := by decide +kernel
theorem dX7_begin_36 : dec mX7_begin 36 = .ok (.getfield 10, 3) := by decide +kernel
theorem dX7_begin_39 : dec mX7_begin 39 = .ok (.getfield 101, 3) := by decide +kernel
theorem dX7_begin_42 : dec mX7_begin 42 = .ok (.invokevirtual 222, 3) := by decide +kernel
theorem dX7_begin_45 : dec mX7_begin 45 = .ok (.aload_n 0, 1) := by decide +kernel
theorem dX7_begin_46 : dec mX7_begin 46 = .ok (.getfield 10, 3) := by decide +kernel
theorem dX7_begin_49 : dec mX7_begin 49 = .ok (.iload_n 1, 1) := by decide +kernel
theorem dX7_begin_50 : dec mX7_begin 50 = .ok (.iload_n 2, 1) := by decide +kernel
theorem dX7_begin_51 : dec mX7_begin 51 = .ok (.invokevirtual 40, 3) := by decide +kernel
theorem dX7_begin_54 : dec mX7_begin 54 = .ok (.aload_n 0, 1) := by decide +kernel
theorem dX7_begin_55 : dec mX7_begin 55 = .ok (.getfield 10, 3) := by decide +kernel
theorem dX7_begin_58 : dec mX7_begin 58 = .ok (.getfield 119, 3) := by decide +kernel
theorem dX7_begin_61 : dec mX7_begin 61 = .ok (.ireturn, 1) := by decide +kernel
theorem dX7_grey_0 : dec mX7_grey 0 = .ok (.aload_n 0, 1) := by decide +kernel
theorem dX7_grey_1 : dec mX7_grey 1 = .ok (.getfield 10, 3) := by decide +kernel
theorem dX7_grey_4 : dec mX7_grey 4 = .ok (.iload_n 1, 1) := by decide +kernel
theorem dX7_grey_5 : dec mX7_grey 5 = .ok (.iload_n 2, 1) := by decide +kernel
theorem dX7_grey_6 : dec mX7_grey 6 = .ok (.invokevirtual 147, 3) := by decide +kernel
theorem dX7_grey_9 : dec mX7_grey 9 = .ok (.ifCond .ne 13, 3) := by decide +kernel
theorem dX7_grey_12 : dec mX7_grey 12 = .ok (.new 151, 3) := by decide +kernel
theorem dX7_grey_15 : dec mX7_grey 15 = .ok (.dup, 1) := by decide +kernel
theorem dX7_grey_16 : dec mX7_grey 16 = .ok (.ldc 153, 2) := by decide +kernel
theorem dX7_grey_18 : dec mX7_grey 18 = .ok (.invokespecial 155, 3) := by decide +kernel
theorem dX7_grey_21 : dec mX7_grey 21 = .ok (.athrow, 1) := by decide +kernel
theorem dX7_grey_22 : dec mX7_grey 22 = .ok (.iload_n 3, 1) := by decide +kernel
theorem dX7_grey_23 : dec mX7_grey 23 = .ok (.invokestatic 226, 3) := by decide +kernel
theorem dX7_grey_26 : dec mX7_grey 26 = .ok (.ifCond .ne 13, 3) := by decide +kernel
theorem dX7_grey_29 : dec mX7_grey 29 = .ok (.new 44, 3) := by decide +kernel
theorem dX7_grey_32 : dec mX7_grey 32 = .ok (.dup, 1) := by decide +kernel
theorem dX7_grey_33 : dec mX7_grey 33 = .ok (.ldc 229, 2) := by decide +kernel
theorem dX7_grey_35 : dec mX7_grey 35 = .ok (.invokespecial 48, 3) := by decide +kernel
theorem dX7_grey_38 : dec mX7_grey 38 = .ok (.athrow, 1) := by decide +kernel
theorem dX7_grey_39 : dec mX7_grey 39 = .ok (.aload_n 0, 1) := by decide +kernel
theorem dX7_grey_40 : dec mX7_grey 40 = .ok (.getfield 22, 3) := by decide +kernel
theorem dX7_grey_43 : dec mX7_grey 43 = .ok (.aload_n 0, 1) := by decide +kernel
theorem dX7_grey_44 : dec mX7_grey 44 = .ok (.getfield 10, 3) := by decide +kernel
theorem dX7_grey_47 : dec mX7_grey 47 = .ok (.getfield 101, 3) := by decide +kernel
theorem dX7_grey_50 : dec mX7_grey 50 = .ok (.invokevirtual 222, 3) := by decide +kernel
theorem dX7_grey_53 : dec mX7_grey 53 = .ok (.aload_n 0, 1) := by decide +kernel
theorem dX7_grey_54 : dec mX7_grey 54 = .ok (.getfield 10, 3) := by decide +kernel
theorem dX7_grey_57 : dec mX7_grey 57 = .ok (.iload_n 1, 1) := by decide +kernel
theorem dX7_grey_58 : dec mX7_grey 58 = .ok (.iload_n 2, 1) := by decide +kernel
theorem dX7_grey_59 : dec mX7_grey 59 = .ok (.invokevirtual 156, 3) := by decide +kernel
theorem dX7_grey_62 : dec mX7_grey 62 = .ok (.istore 4, 2) := by decide +kernel
theorem dX7_grey_64 : dec mX7_grey 64 = .ok (.aload_n 0, 1) := by decide +kernel
theorem dX7_grey_65 : dec mX7_grey 65 = .ok (.getfield 10, 3) := by decide +kernel
theorem dX7_grey_68 : dec mX7_grey 68 = .ok (.getfield 101, 3) := by decide +kernel
theorem dX7_grey_71 : dec mX7_grey 71 = .ok (.getfield 160, 3) := by decide +kernel
theorem dX7_grey_74 : dec mX7_grey 74 = .ok (.iload 4, 2) := by decide +kernel
theorem dX7_grey_76 : dec mX7_grey 76 = .ok (.invokestatic 163, 3) := by decide +kernel
theorem dX7_grey_79 : dec mX7_grey 79 = .ok (.istore 5, 2) := by decide +kernel
theorem dX7_grey_81 : dec mX7_grey 81 = .ok (.aload_n 0, 1) := by decide +kernel
theorem dX7_grey_82 : dec mX7_grey 82 = .ok (.getfield 10, 3) := by decide +kernel
theorem dX7_grey_85 : dec mX7_grey 85 = .ok (.getfield 101, 3) := by decide +kernel
theorem dX7_grey_88 : dec mX7_grey 88 = .ok (.getfield 160, 3) := by decide +kernel
theorem dX7_grey_91 : dec mX7_grey 91 = .ok (.iload 4, 2) := by decide +kernel
theorem dX7_grey_93 : dec mX7_grey 93 = .ok (.iload_n 3, 1) := by decide +kernel
theorem dX7_grey_94 : dec mX7_grey 94 = .ok (.invokestatic 231, 3) := by decide +kernel
theorem dX7_grey_97 : dec mX7_grey 97 = .ok (.iload 5, 2) := by decide +kernel
theorem dX7_grey_99 : dec mX7_grey 99 = .ok (.ireturn, 1) := by decide +kernel
theorem dX7_fade_0 : dec mX7_fade 0 = .ok (.iload_n 1, 1) := by decide +kernel
theorem dX7_fade_1 : dec mX7_fade 1 = .ok (.invokestatic 226, 3) := by decide +kernel
theorem dX7_fade_4 : dec mX7_fade 4 = .ok (.ifCond .eq 10, 3) := by decide +kernel
theorem dX7_fade_7 : dec mX7_fade 7 = .ok (.iload_n 2, 1) := by decide +kernel
theorem dX7_fade_8 : dec mX7_fade 8 = .ok (.invokestatic 226, 3) := by decide +kernel
theorem dX7_fade_11 : dec mX7_fade 11 = .ok (.ifCond .ne 13, 3) := by decide +kernel
theorem dX7_fade_14 : dec mX7_fade 14 = .ok (.new 44, 3) := by decide +kernel
theorem dX7_fade_17 : dec mX7_fade 17 = .ok (.dup, 1) := by decide +kernel
theorem dX7_fade_18 : dec mX7_fade 18 = .ok (.ldc 229, 2) := by decide +kernel
theorem dX7_fade_20 : dec mX7_fade 20 = .ok (.invokespecial 48, 3) := by decide +kernel
theorem dX7_fade_23 : dec mX7_fade 23 = .ok (.athrow, 1) := by decide +kernel
theorem dX7_fade_24 : dec mX7_fade 24 = .ok (.aload_n 0, 1) := by decide +kernel
theorem dX7_fade_25 : dec mX7_fade 25 = .ok (.getfield 22, 3) := by decide +kernel
theorem dX7_fade_28 : dec mX7_fade 28 = .ok (.aload_n 0, 1) := by decide +kernel
theorem dX7_fade_29 : dec mX7_fade 29 = .ok (.getfield 10, 3) := by decide +kernel
theorem dX7_fade_32 : dec mX7_fade 32 = .ok (.getfield 101, 3) := by decide +kernel
theorem dX7_fade_35 : dec mX7_fade 35 = .ok (.invokevirtual 222, 3) := by decide +kernel
theorem dX7_fade_38 : dec mX7_fade 38 = .ok (.aload_n 0, 1) := by decide +kernel
theorem dX7_fade_39 : dec mX7_fade 39 = .ok (.getfield 10, 3) := by decide +kernel
theorem dX7_fade_42 : dec mX7_fade 42 = .ok (.iload_n 1, 1) := by decide +kernel
theorem dX7_fade_43 : dec mX7_fade 43 = .ok (.iload_n 2, 1) := by decide +kernel
theorem dX7_fade_44 : dec mX7_fade 44 = .ok (.invokevirtual 235, 3) := by decide +kernel
theorem dX7_fade_47 : dec mX7_fade 47 = .ok (.aload_n 0, 1) := by decide +kernel
theorem dX7_fade_48 : dec mX7_fade 48 = .ok (.getfield 10, 3) := by decide +kernel
theorem dX7_fade_51 : dec mX7_fade 51 = .ok (.invokevirtual 122, 3) := by decide +kernel
theorem dX7_fade_54 : dec mX7_fade 54 = .ok (.ireturn, 1) := by decide +kernel
theorem dX7_turn_0 : dec mX7_turn 0 = .ok (.aload_n 0, 1) := by decide +kernel
theorem dX7_turn_1 : dec mX7_turn 1 = .ok (.getfield 10, 3) := by decide +kernel
theorem dX7_turn_4 : dec mX7_turn 4 = .ok (.iload_n 1, 1) := by decide +kernel
theorem dX7_turn_5 : dec mX7_turn 5 = .ok (.invokevirtual 181, 3) := by decide +kernel
theorem dX7_turn_8 : dec mX7_turn 8 = .ok (.ifCond .ne 13, 3) := by decide +kernel
theorem dX7_turn_11 : dec mX7_turn 11 = .ok (.new 151, 3) := by decide +kernel
theorem dX7_turn_14 : dec mX7_turn 14 = .ok (.dup, 1) := by decide +kernel
theorem dX7_turn_15 : dec mX7_turn 15 = .ok (.ldc 185, 2) := by decide +kernel
theorem dX7_turn_17 : dec mX7_turn 17 = .ok (.invokespecial 155, 3) := by decide +kernel
theorem dX7_turn_20 : dec mX7_turn 20 = .ok (.athrow, 1) := by decide +kernel
theorem dX7_turn_21 : dec mX7_turn 21 = .ok (.aload_n 0, 1) := by decide +kernel
theorem dX7_turn_22 : dec mX7_turn 22 = .ok (.getfield 10, 3) := by decide +kernel
theorem dX7_turn_25 : dec mX7_turn 25 = .ok (.iload_n 1, 1) := by decide +kernel
theorem dX7_turn_26 : dec mX7_turn 26 = .ok (.invokevirtual 238, 3) := by decide +kernel
theorem dX7_turn_29 : dec mX7_turn 29 = .ok (.ifCond .eq 13, 3) := by decide +kernel
theorem dX7_turn_32 : dec mX7_turn 32 = .ok (.new 55, 3) := by decide +kernel
theorem dX7_turn_35 : dec mX7_turn 35 = .ok (.dup, 1) := by decide +kernel
theorem dX7_turn_36 : dec mX7_turn 36 = .ok (.ldc 241, 2) := by decide +kernel
theorem dX7_turn_38 : dec mX7_turn 38 = .ok (.invokespecial 59, 3) := by decide +kernel
theorem dX7_turn_41 : dec mX7_turn 41 = .ok (.athrow, 1) := by decide +kernel
theorem dX7_turn_42 : dec mX7_turn 42 = .ok (.aload_n 0, 1) := by decide +kernel
theorem dX7_turn_43 : dec mX7_turn 43 = .ok (.getfield 22, 3) := by decide +kernel
theorem dX7_turn_46 : dec mX7_turn 46 = .ok (.aload_n 0, 1) := by decide +kernel
theorem dX7_turn_47 : dec mX7_turn 47 = .ok (.getfield 10, 3) := by decide +kernel
theorem dX7_turn_50 : dec mX7_turn 50 = .ok (.getfield 101, 3) := by decide +kernel
theorem dX7_turn_53 : dec mX7_turn 53 = .ok (.invokevirtual 222, 3) := by decide +kernel
theorem dX7_turn_56 : dec mX7_turn 56 = .ok (.aload_n 0, 1) := by decide +kernel
theorem dX7_turn_57 : dec mX7_turn 57 = .ok (.getfield 10, 3) := by decide +kernel
theorem dX7_turn_60 : dec mX7_turn 60 = .ok (.invokevirtual 122, 3) := by decide +kernel
theorem dX7_turn_63 : dec mX7_turn 63 = .ok (.istore_n 2, 1) := by decide +kernel
theorem dX7_turn_64 : dec mX7_turn 64 = .ok (.aload_n 0, 1) := by decide +kernel
theorem dX7_turn_65 : dec mX7_turn 65 = .ok (.getfield 10, 3) := by decide +kernel
theorem dX7_turn_68 : dec mX7_turn 68 = .ok (.iload_n 1, 1) := by decide +kernel
theorem dX7_turn_69 : dec mX7_turn 69 = .ok (.invokevirtual 243, 3) := by decide +kernel
theorem dX7_turn_72 : dec mX7_turn 72 = .ok (.iload_n 2, 1) := by decide +kernel
theorem dX7_turn_73 : dec mX7_turn 73 = .ok (.aload_n 0, 1) := by decide +kernel
theorem dX7_turn_74 : dec mX7_turn 74 = .ok (.getfield 10, 3) := by decide +kernel
theorem dX7_turn_77 : dec mX7_turn 77 = .ok (.invokevirtual 122, 3) := by decide +kernel
theorem dX7_turn_80 : dec mX7_turn 80 = .ok (.isub, 1) := by decide +kernel
theorem dX7_turn_81 : dec mX7_turn 81 = .ok (.ireturn, 1) := by decide +kernel
theorem dX7_swap_0 : dec mX7_swap 0 = .ok (.aload_n 0, 1) := by decide +kernel
theorem dX7_swap_1 : dec mX7_swap 1 = .ok (.getfield 10, 3) := by decide +kernel
theorem dX7_swap_4 : dec mX7_swap 4 = .ok (.iload_n 1, 1) := by decide +kernel
theorem dX7_swap_5 : dec mX7_swap 5 = .ok (.invokevirtual 181, 3) := by decide +kernel
theorem dX7_swap_8 : dec mX7_swap 8 = .ok (.ifCond .eq 14, 3) := by decide +kernel
theorem dX7_swap_11 : dec mX7_swap 11 = .ok (.aload_n 0, 1) := by decide +kernel
theorem dX7_swap_12 : dec mX7_swap 12 = .ok (.getfield 10, 3) := by decide +kernel
theorem dX7_swap_15 : dec mX7_swap 15 = .ok (.iload_n 2, 1) := by decide +kernel
theorem dX7_swap_16 : dec mX7_swap 16 = .ok (.invokevirtual 181, 3) := by decide +kernel
theorem dX7_swap_19 : dec mX7_swap 19 = .ok (.ifCond .ne 13, 3) := by decide +kernel
theorem dX7_swap_22 : dec mX7_swap 22 = .ok (.new 151, 3) := by decide +kernel
theorem dX7_swap_25 : dec mX7_swap 25 = .ok (.dup, 1) := by decide +kernel
theorem dX7_swap_26 : dec mX7_swap 26 = .ok (.ldc 185, 2) := by decide +kernel
theorem dX7_swap_28 : dec mX7_swap 28 = .ok (.invokespecial 155, 3) := by decide +kernel
theorem dX7_swap_31 : dec mX7_swap 31 = .ok (.athrow, 1) := by decide +kernel
theorem dX7_swap_32 : dec mX7_swap 32 = .ok (.iload_n 1, 1) := by decide +kernel
theorem dX7_swap_33 : dec mX7_swap 33 = .ok (.iload_n 2, 1) := by decide +kernel
theorem dX7_swap_34 : dec mX7_swap 34 = .ok (.if_icmp .ne 13, 3) := by decide +kernel
theorem dX7_swap_37 : dec mX7_swap 37 = .ok (.new 44, 3) := by decide +kernel
theorem dX7_swap_40 : dec mX7_swap 40 = .ok (.dup, 1) := by decide +kernel
theorem dX7_swap_41 : dec mX7_swap 41 = .ok (.ldc 246, 2) := by decide +kernel
theorem dX7_swap_43 : dec mX7_swap 43 = .ok (.invokespecial 48, 3) := by decide +kernel
theorem dX7_swap_46 : dec mX7_swap 46 = .ok (.athrow, 1) := by decide +kernel
theorem dX7_swap_47 : dec mX7_swap 47 = .ok (.aload_n 0, 1) := by decide +kernel
theorem dX7_swap_48 : dec mX7_swap 48 = .ok (.getfield 10, 3) := by decide +kernel
theorem dX7_swap_51 : dec mX7_swap 51 = .ok (.iload_n 1, 1) := by decide +kernel
theorem dX7_swap_52 : dec mX7_swap 52 = .ok (.invokevirtual 238, 3) := by decide +kernel
theorem dX7_swap_55 : dec mX7_swap 55 = .ok (.ifCond .ne 14, 3) := by decide +kernel
theorem dX7_swap_58 : dec mX7_swap 58 = .ok (.aload_n 0, 1) := by decide +kernel
theorem dX7_swap_59 : dec mX7_swap 59 = .ok (.getfield 10, 3) := by decide +kernel
theorem dX7_swap_62 : dec mX7_swap 62 = .ok (.iload_n 2, 1) := by decide +kernel
theorem dX7_swap_63 : dec mX7_swap 63 = .ok (.invokevirtual 238, 3) := by decide +kernel
theorem dX7_swap_66 : dec mX7_swap 66 = .ok (.ifCond .eq 13, 3) := by decide +kernel
theorem dX7_swap_69 : dec mX7_swap 69 = .ok (.new 55, 3) := by decide +kernel
theorem dX7_swap_72 : dec mX7_swap 72 = .ok (.dup, 1) := by decide +kernel
theorem dX7_swap_73 : dec mX7_swap 73 = .ok (.ldc 248, 2) := by decide +kernel
theorem dX7_swap_75 : dec mX7_swap 75 = .ok (.invokespecial 59, 3) := by decide +kernel
theorem dX7_swap_78 : dec mX7_swap 78 = .ok (.athrow, 1) := by decide +kernel
theorem dX7_swap_79 : dec mX7_swap 79 = .ok (.aload_n 0, 1) := by decide +kernel
theorem dX7_swap_80 : dec mX7_swap 80 = .ok (.getfield 22, 3) := by decide +kernel
theorem dX7_swap_83 : dec mX7_swap 83 = .ok (.aload_n 0, 1) := by decide +kernel
theorem dX7_swap_84 : dec mX7_swap 84 = .ok (.getfield 10, 3) := by decide +kernel
theorem dX7_swap_87 : dec mX7_swap 87 = .ok (.getfield 101, 3) := by decide +kernel
theorem dX7_swap_90 : dec mX7_swap 90 = .ok (.invokevirtual 222, 3) := by decide +kernel
theorem dX7_swap_93 : dec mX7_swap 93 = .ok (.aload_n 0, 1) := by decide +kernel
theorem dX7_swap_94 : dec mX7_swap 94 = .ok (.getfield 10, 3) := by decide +kernel
theorem dX7_swap_97 : dec mX7_swap 97 = .ok (.invokevirtual 122, 3) := by decide +kernel
theorem dX7_swap_100 : dec mX7_swap 100 = .ok (.istore_n 3, 1) := by decide +kernel
theorem dX7_swap_101 : dec mX7_swap 101 = .ok (.aload_n 0, 1) := by decide +kernel
theorem dX7_swap_102 : dec mX7_swap 102 = .ok (.getfield 10, 3) := by decide +kernel
theorem dX7_swap_105 : dec mX7_swap 105 = .ok (.iload_n 1, 1) := by decide +kernel
theorem dX7_swap_106 : dec mX7_swap 106 = .ok (.iload_n 2, 1) := by decide +kernel
theorem dX7_swap_107 : dec mX7_swap 107 = .ok (.invokevirtual 250, 3) := by decide +kernel
theorem dX7_swap_110 : dec mX7_swap 110 = .ok (.iload_n 3, 1) := by decide +kernel
theorem dX7_swap_111 : dec mX7_swap 111 = .ok (.aload_n 0, 1) := by decide +kernel
theorem dX7_swap_112 : dec mX7_swap 112 = .ok (.getfield 10, 3) := by decide +kernel
theorem dX7_swap_115 : dec mX7_swap 115 = .ok (.invokevirtual 122, 3) := by decide +kernel
theorem dX7_swap_118 : dec mX7_swap 118 = .ok (.isub, 1) := by decide +kernel
theorem dX7_swap_119 : dec mX7_swap 119 = .ok (.ireturn, 1) := by decide +kernel
theorem dX7_flip_0 : dec mX7_flip 0 = .ok (.aload_n 0, 1) := by decide +kernel
theorem dX7_flip_1 : dec mX7_flip 1 = .ok (.getfield 10, 3) := by decide +kernel
theorem dX7_flip_4 : dec mX7_flip 4 = .ok (.iload_n 1, 1) := by decide +kernel
theorem dX7_flip_5 : dec mX7_flip 5 = .ok (.iload_n 2, 1) := by decide +kernel
theorem dX7_flip_6 : dec mX7_flip 6 = .ok (.invokevirtual 147, 3) := by decide +kernel
theorem dX7_flip_9 : dec mX7_flip 9 = .ok (.ifCond .ne 13, 3) := by decide +kernel
theorem dX7_flip_12 : dec mX7_flip 12 = .ok (.new 151, 3) := by decide +kernel
theorem dX7_flip_15 : dec mX7_flip 15 = .ok (.dup, 1) := by decide +kernel
theorem dX7_flip_16 : dec mX7_flip 16 = .ok (.ldc 153, 2) := by decide +kernel
theorem dX7_flip_18 : dec mX7_flip 18 = .ok (.invokespecial 155, 3) := by decide +kernel
theorem dX7_flip_21 : dec mX7_flip 21 = .ok (.athrow, 1) := by decide +kernel
theorem dX7_flip_22 : dec mX7_flip 22 = .ok (.aload_n 0, 1) := by decide +kernel
theorem dX7_flip_23 : dec mX7_flip 23 = .ok (.getfield 10, 3) := by decide +kernel
theorem dX7_flip_26 : dec mX7_flip 26 = .ok (.aload_n 0, 1) := by decide +kernel
theorem dX7_flip_27 : dec mX7_flip 27 = .ok (.getfield 10, 3) := by decide +kernel
theorem dX7_flip_30 : dec mX7_flip 30 = .ok (.iload_n 1, 1) := by decide +kernel
theorem dX7_flip_31 : dec mX7_flip 31 = .ok (.iload_n 2, 1) := by decide +kernel
theorem dX7_flip_32 : dec mX7_flip 32 = .ok (.invokevirtual 156, 3) := by decide +kernel
theorem dX7_flip_35 : dec mX7_flip 35 = .ok (.invokevirtual 253, 3) := by decide +kernel
theorem dX7_flip_38 : dec mX7_flip 38 = .ok (.istore_n 3, 1) := by decide +kernel
theorem dX7_flip_39 : dec mX7_flip 39 = .ok (.iload_n 3, 1) := by decide +kernel
theorem dX7_flip_40 : dec mX7_flip 40 = .ok (.iconst (-1), 1) := by decide +kernel
theorem dX7_flip_41 : dec mX7_flip 41 = .ok (.if_icmp .eq 14, 3) := by decide +kernel
theorem dX7_flip_44 : dec mX7_flip 44 = .ok (.aload_n 0, 1) := by decide +kernel
theorem dX7_flip_45 : dec mX7_flip 45 = .ok (.getfield 10, 3) := by decide +kernel
theorem dX7_flip_48 : dec mX7_flip 48 = .ok (.iload_n 3, 1) := by decide +kernel
theorem dX7_flip_49 : dec mX7_flip 49 = .ok (.invokevirtual 256, 3) := by decide +kernel
theorem dX7_flip_52 : dec mX7_flip 52 = .ok (.ifCond .ne 14, 3) := by decide +kernel
theorem dX7_flip_55 : dec mX7_flip 55 = .ok (.new 55, 3) := by decide +kernel
theorem dX7_flip_58 : dec mX7_flip 58 = .ok (.dup, 1) := by decide +kernel
theorem dX7_flip_59 : dec mX7_flip 59 = .ok (.ldc_w 259, 3) := by decide +kernel
theorem dX7_flip_62 : dec mX7_flip 62 = .ok (.invokespecial 59, 3) := by decide +kernel
theorem dX7_flip_65 : dec mX7_flip 65 = .ok (.athrow, 1) := by decide +kernel
theorem dX7_flip_66 : dec mX7_flip 66 = .ok (.aload_n 0, 1) := by decide +kernel
theorem dX7_flip_67 : dec mX7_flip 67 = .ok (.getfield 22, 3) := by decide +kernel
theorem dX7_flip_70 : dec mX7_flip 70 = .ok (.aload_n 0, 1) := by decide +kernel
theorem dX7_flip_71 : dec mX7_flip 71 = .ok (.getfield 10, 3) := by decide +kernel
theorem dX7_flip_74 : dec mX7_flip 74 = .ok (.getfield 101, 3) := by decide +kernel
theorem dX7_flip_77 : dec mX7_flip 77 = .ok (.invokevirtual 222, 3) := by decide +kernel
theorem dX7_flip_80 : dec mX7_flip 80 = .ok (.aload_n 0, 1) := by decide +kernel
theorem dX7_flip_81 : dec mX7_flip 81 = .ok (.getfield 10, 3) := by decide +kernel
theorem dX7_flip_84 : dec mX7_flip 84 = .ok (.invokevirtual 122, 3) := by decide +kernel
theorem dX7_flip_87 : dec mX7_flip 87 = .ok (.istore 4, 2) := by decide +kernel
theorem dX7_flip_89 : dec mX7_flip 89 = .ok (.aload_n 0, 1) := by decide +kernel
theorem dX7_flip_90 : dec mX7_flip 90 = .ok (.getfield 10, 3) := by decide +kernel
theorem dX7_flip_93 : dec mX7_flip 93 = .ok (.iload_n 3, 1) := by decide +kernel
theorem dX7_flip_94 : dec mX7_flip 94 = .ok (.invokevirtual 261, 3) := by decide +kernel
theorem dX7_flip_97 : dec mX7_flip 97 = .ok (.iload 4, 2) := by decide +kernel
theorem dX7_flip_99 : dec mX7_flip 99 = .ok (.aload_n 0, 1) := by decide +kernel
theorem dX7_flip_100 : dec mX7_flip 100 = .ok (.getfield 10, 3) := by decide +kernel
theorem dX7_flip_103 : dec mX7_flip 103 = .ok (.invokevirtual 122, 3) := by decide +kernel
theorem dX7_flip_106 : dec mX7_flip 106 = .ok (.isub, 1) := by decide +kernel
theorem dX7_flip_107 : dec mX7_flip 107 = .ok (.ireturn, 1) := by decide +kernel
theorem dX7_hold_0 : dec mX7_hold 0 = .ok (.aload_n 0, 1) := by decide +kernel
theorem dX7_hold_1 : dec mX7_hold 1 = .ok (.getfield 10, 3) := by decide +kernel
theorem dX7_hold_4 : dec mX7_hold 4 = .ok (.iload_n 1, 1) := by decide +kernel
theorem dX7_hold_5 : dec mX7_hold 5 = .ok (.invokevirtual 181, 3) := by decide +kernel
theorem dX7_hold_8 : dec mX7_hold 8 = .ok (.ifCond .ne 13, 3) := by decide +kernel
theorem dX7_hold_11 : dec mX7_hold 11 = .ok (.new 151, 3) := by decide +kernel
theorem dX7_hold_14 : dec mX7_hold 14 = .ok (.dup, 1) := by decide +kernel
theorem dX7_hold_15 : dec mX7_hold 15 = .ok (.ldc 185, 2) := by decide +kernel
theorem dX7_hold_17 : dec mX7_hold 17 = .ok (.invokespecial 155, 3) := by decide +kernel
theorem dX7_hold_20 : dec mX7_hold 20 = .ok (.athrow, 1) := by decide +kernel
theorem dX7_hold_21 : dec mX7_hold 21 = .ok (.aload_n 0, 1) := by decide +kernel
theorem dX7_hold_22 : dec mX7_hold 22 = .ok (.getfield 22, 3) := by decide +kernel
theorem dX7_hold_25 : dec mX7_hold 25 = .ok (.aload_n 0, 1) := by decide +kernel
theorem dX7_hold_26 : dec mX7_hold 26 = .ok (.getfield 10, 3) := by decide +kernel
theorem dX7_hold_29 : dec mX7_hold 29 = .ok (.getfield 101, 3) := by decide +kernel
theorem dX7_hold_32 : dec mX7_hold 32 = .ok (.invokevirtual 222, 3) := by decide +kernel
theorem dX7_hold_35 : dec mX7_hold 35 = .ok (.aload_n 0, 1) := by decide +kernel
theorem dX7_hold_36 : dec mX7_hold 36 = .ok (.getfield 10, 3) := by decide +kernel
theorem dX7_hold_39 : dec mX7_hold 39 = .ok (.getfield 101, 3) := by decide +kernel
theorem dX7_hold_42 : dec mX7_hold 42 = .ok (.getfield 136, 3) := by decide +kernel
theorem dX7_hold_45 : dec mX7_hold 45 = .ok (.iload_n 1, 1) := by decide +kernel
theorem dX7_hold_46 : dec mX7_hold 46 = .ok (.iload_n 2, 1) := by decide +kernel
theorem dX7_hold_47 : dec mX7_hold 47 = .ok (.ifCond .eq 7, 3) := by decide +kernel
theorem dX7_hold_50 : dec mX7_hold 50 = .ok (.iconst 1, 1) := by decide +kernel
theorem dX7_hold_51 : dec mX7_hold 51 = .ok (.goto 4, 3) := by decide +kernel
theorem dX7_hold_54 : dec mX7_hold 54 = .ok (.iconst 0, 1) := by decide +kernel
theorem dX7_hold_55 : dec mX7_hold 55 = .ok (.invokestatic 231, 3) := by decide +kernel
theorem dX7_hold_58 : dec mX7_hold 58 = .ok (.aload_n 0, 1) := by decide +kernel
theorem dX7_hold_59 : dec mX7_hold 59 = .ok (.getfield 10, 3) := by decide +kernel
theorem dX7_hold_62 : dec mX7_hold 62 = .ok (.aload_n 0, 1) := by decide +kernel
theorem dX7_hold_63 : dec mX7_hold 63 = .ok (.getfield 10, 3) := by decide +kernel
theorem dX7_hold_66 : dec mX7_hold 66 = .ok (.getfield 101, 3) := by decide +kernel
theorem dX7_hold_69 : dec mX7_hold 69 = .ok (.getfield 136, 3) := by decide +kernel
theorem dX7_hold_72 : dec mX7_hold 72 = .ok (.invokevirtual 132, 3) := by decide +kernel
theorem dX7_hold_75 : dec mX7_hold 75 = .ok (.ireturn, 1) := by decide +kernel
theorem dX7_lay_0 : dec mX7_lay 0 = .ok (.aload_n 0, 1) := by decide +kernel
theorem dX7_lay_1 : dec mX7_lay 1 = .ok (.getfield 22, 3) := by decide +kernel
theorem dX7_lay_4 : dec mX7_lay 4 = .ok (.aload_n 0, 1) := by decide +kernel
theorem dX7_lay_5 : dec mX7_lay 5 = .ok (.getfield 10, 3) := by decide +kernel
theorem dX7_lay_8 : dec mX7_lay 8 = .ok (.getfield 101, 3) := by decide +kernel
theorem dX7_lay_11 : dec mX7_lay 11 = .ok (.invokevirtual 222, 3) := by decide +kernel
theorem dX7_lay_14 : dec mX7_lay 14 = .ok (.aload_n 0, 1) := by decide +kernel
theorem dX7_lay_15 : dec mX7_lay 15 = .ok (.getfield 10, 3) := by decide +kernel
theorem dX7_lay_18 : dec mX7_lay 18 = .ok (.invokevirtual 122, 3) := by decide +kernel
theorem dX7_lay_21 : dec mX7_lay 21 = .ok (.istore_n 1, 1) := by decide +kernel
theorem dX7_lay_22 : dec mX7_lay 22 = .ok (.aload_n 0, 1) := by decide +kernel
theorem dX7_lay_23 : dec mX7_lay 23 = .ok (.getfield 10, 3) := by decide +kernel
theorem dX7_lay_26 : dec mX7_lay 26 = .ok (.invokevirtual 264, 3) := by decide +kernel
theorem dX7_lay_29 : dec mX7_lay 29 = .ok (.iload_n 1, 1) := by decide +kernel
theorem dX7_lay_30 : dec mX7_lay 30 = .ok (.aload_n 0, 1) := by decide +kernel
theorem dX7_lay_31 : dec mX7_lay 31 = .ok (.getfield 10, 3) := by decide +kernel
theorem dX7_lay_34 : dec mX7_lay 34 = .ok (.invokevirtual 122, 3) := by decide +kernel
theorem dX7_lay_37 : dec mX7_lay 37 = .ok (.isub, 1) := by decide +kernel
theorem dX7_lay_38 : dec mX7_lay 38 = .ok (.ireturn, 1) := by decide +kernel
theorem dX7_improve_0 : dec mX7_improve 0 = .ok (.iload_n 1, 1) := by decide +kernel
theorem dX7_improve_1 : dec mX7_improve 1 = .ok (.invokestatic 267, 3) := by decide +kernel
theorem dX7_improve_4 : dec mX7_improve 4 = .ok (.ifCond .ne 14, 3) := by decide +kernel
theorem dX7_improve_7 : dec mX7_improve 7 = .ok (.new 44, 3) := by decide +kernel
theorem dX7_improve_10 : dec mX7_improve 10 = .ok (.dup, 1) := by decide +kernel
theorem dX7_improve_11 : dec mX7_improve 11 = .ok (.ldc_w 270, 3) := by decide +kernel
theorem dX7_improve_14 : dec mX7_improve 14 = .ok (.invokespecial 48, 3) := by decide +kernel
theorem dX7_improve_17 : dec mX7_improve 17 = .ok (.athrow, 1) := by decide +kernel
theorem dX7_improve_18 : dec mX7_improve 18 = .ok (.aload_n 0, 1) := by decide +kernel
theorem dX7_improve_19 : dec mX7_improve 19 = .ok (.getfield 22, 3) := by decide +kernel
theorem dX7_improve_22 : dec mX7_improve 22 = .ok (.aload_n 0, 1) := by decide +kernel
theorem dX7_improve_23 : dec mX7_improve 23 = .ok (.getfield 10, 3) := by decide +kernel
theorem dX7_improve_26 : dec mX7_improve 26 = .ok (.getfield 101, 3) := by decide +kernel
theorem dX7_improve_29 : dec mX7_improve 29 = .ok (.invokevirtual 222, 3) := by decide +kernel
theorem dX7_improve_32 : dec mX7_improve 32 = .ok (.aload_n 0, 1) := by decide +kernel
theorem dX7_improve_33 : dec mX7_improve 33 = .ok (.getfield 10, 3) := by decide +kernel
theorem dX7_improve_36 : dec mX7_improve 36 = .ok (.invokevirtual 122, 3) := by decide +kernel
theorem dX7_improve_39 : dec mX7_improve 39 = .ok (.istore_n 2, 1) := by decide +kernel
theorem dX7_improve_40 : dec mX7_improve 40 = .ok (.aload_n 0, 1) := by decide +kernel
theorem dX7_improve_41 : dec mX7_improve 41 = .ok (.getfield 10, 3) := by decide +kernel
theorem dX7_improve_44 : dec mX7_improve 44 = .ok (.iload_n 1, 1) := by decide +kernel
theorem dX7_improve_45 : dec mX7_improve 45 = .ok (.invokevirtual 272, 3) := by decide +kernel
theorem dX7_improve_48 : dec mX7_improve 48 = .ok (.iload_n 2, 1) := by decide +kernel
theorem dX7_improve_49 : dec mX7_improve 49 = .ok (.aload_n 0, 1) := by decide +kernel
theorem dX7_improve_50 : dec mX7_improve 50 = .ok (.getfield 10, 3) := by decide +kernel
theorem dX7_improve_53 : dec mX7_improve 53 = .ok (.invokevirtual 122, 3) := by decide +kernel
theorem dX7_improve_56 : dec mX7_improve 56 = .ok (.isub, 1) := by decide +kernel
theorem dX7_improve_57 : dec mX7_improve 57 = .ok (.ireturn, 1) := by decide +kernel
theorem dX7_undo_0 : dec mX7_undo 0 = .ok (.aload_n 0, 1) := by decide +kernel
theorem dX7_undo_1 : dec mX7_undo 1 = .ok (.getfield 22, 3) := by decide +kernel
theorem dX7_undo_4 : dec mX7_undo 4 = .ok (.invokevirtual 275, 3) := by decide +kernel
theorem dX7_undo_7 : dec mX7_undo 7 = .ok (.ifCond .eq 14, 3) := by decide +kernel
theorem dX7_undo_10 : dec mX7_undo 10 = .ok (.new 55, 3) := by decide +kernel
theorem dX7_undo_13 : dec mX7_undo 13 = .ok (.dup, 1) := by decide +kernel
theorem dX7_undo_14 : dec mX7_undo 14 = .ok (.ldc_w 278, 3) := by decide +kernel
theorem dX7_undo_17 : dec mX7_undo 17 = .ok (.invokespecial 59, 3) := by decide +kernel
theorem dX7_undo_20 : dec mX7_undo 20 = .ok (.athrow, 1) := by decide +kernel
theorem dX7_undo_21 : dec mX7_undo 21 = .ok (.aload_n 0, 1) := by decide +kernel
theorem dX7_undo_22 : dec mX7_undo 22 = .ok (.getfield 10, 3) := by decide +kernel
theorem dX7_undo_25 : dec mX7_undo 25 = .ok (.aload_n 0, 1) := by decide +kernel
theorem dX7_undo_26 : dec mX7_undo 26 = .ok (.getfield 22, 3) := by decide +kernel
theorem dX7_undo_29 : dec mX7_undo 29 = .ok (.invokevirtual 280, 3) := by decide +kernel
theorem dX7_undo_32 : dec mX7_undo 32 = .ok (.invokevirtual 284, 3) := by decide +kernel
theorem dX7_undo_35 : dec mX7_undo 35 = .ok (.aload_n 0, 1) := by decide +kernel
theorem dX7_undo_36 : dec mX7_undo 36 = .ok (.getfield 22, 3) := by decide +kernel
theorem dX7_undo_39 : dec mX7_undo 39 = .ok (.getfield 287, 3) := by decide +kernel
theorem dX7_undo_42 : dec mX7_undo 42 = .ok (.ireturn, 1) := by decide +kernel
theorem dX7_gain_0 : dec mX7_gain 0 = .ok (.aload_n 0, 1) := by decide +kernel
theorem dX7_gain_1 : dec mX7_gain 1 = .ok (.getfield 10, 3) := by decide +kernel
theorem dX7_gain_4 : dec mX7_gain 4 = .ok (.iload_n 1, 1) := by decide +kernel
theorem dX7_gain_5 : dec mX7_gain 5 = .ok (.invokevirtual 290, 3) := by decide +kernel
theorem dX7_gain_8 : dec mX7_gain 8 = .ok (.ifCond .ne 14, 3) := by decide +kernel
theorem dX7_gain_11 : dec mX7_gain 11 = .ok (.new 44, 3) := by decide +kernel
theorem dX7_gain_14 : dec mX7_gain 14 = .ok (.dup, 1) := by decide +kernel
theorem dX7_gain_15 : dec mX7_gain 15 = .ok (.ldc_w 293, 3) := by decide +kernel
theorem dX7_gain_18 : dec mX7_gain 18 = .ok (.invokespecial 48, 3) := by decide +kernel
theorem dX7_gain_21 : dec mX7_gain 21 = .ok (.athrow, 1) := by decide +kernel
theorem dX7_gain_22 : dec mX7_gain 22 = .ok (.aload_n 0, 1) := by decide +kernel
theorem dX7_gain_23 : dec mX7_gain 23 = .ok (.getfield 10, 3) := by decide +kernel
theorem dX7_gain_26 : dec mX7_gain 26 = .ok (.iload_n 1, 1) := by decide +kernel
theorem dX7_gain_27 : dec mX7_gain 27 = .ok (.invokevirtual 295, 3) := by decide +kernel
theorem dX7_gain_30 : dec mX7_gain 30 = .ok (.ireturn, 1) := by decide +kernel
theorem dX7_best_0 : dec mX7_best 0 = .ok (.iload_n 1, 1) := by decide +kernel
theorem dX7_best_1 : dec mX7_best 1 = .ok (.ifCond .eq 19, 3) := by decide +kernel
theorem dX7_best_4 : dec mX7_best 4 = .ok (.iload_n 1, 1) := by decide +kernel
theorem dX7_best_5 : dec mX7_best 5 = .ok (.iconst 1, 1) := by decide +kernel
theorem dX7_best_6 : dec mX7_best 6 = .ok (.if_icmp .eq 14, 3) := by decide +kernel
theorem dX7_best_9 : dec mX7_best 9 = .ok (.new 44, 3) := by decide +kernel
theorem dX7_best_12 : dec mX7_best 12 = .ok (.dup, 1) := by decide +kernel
theorem dX7_best_13 : dec mX7_best 13 = .ok (.ldc_w 298, 3) := by decide +kernel
theorem dX7_best_16 : dec mX7_best 16 = .ok (.invokespecial 48, 3) := by decide +kernel
theorem dX7_best_19 : dec mX7_best 19 = .ok (.athrow, 1) := by decide +kernel
theorem dX7_best_20 : dec mX7_best 20 = .ok (.aload_n 0, 1) := by decide +kernel
theorem dX7_best_21 : dec mX7_best 21 = .ok (.getfield 10, 3) := by decide +kernel
theorem dX7_best_24 : dec mX7_best 24 = .ok (.getfield 300, 3) := by decide +kernel
theorem dX7_best_27 : dec mX7_best 27 = .ok (.aload_n 0, 1) := by decide +kernel
theorem dX7_best_28 : dec mX7_best 28 = .ok (.getfield 10, 3) := by decide +kernel
theorem dX7_best_31 : dec mX7_best 31 = .ok (.invokevirtual 304, 3) := by decide +kernel
theorem dX7_best_34 : dec mX7_best 34 = .ok (.iload_n 1, 1) := by decide +kernel
theorem dX7_best_35 : dec mX7_best 35 = .ok (.ifCond .ne 16, 3) := by decide +kernel
theorem dX7_best_38 : dec mX7_best 38 = .ok (.aload_n 0, 1) := by decide +kernel
theorem dX7_best_39 : dec mX7_best 39 = .ok (.getfield 10, 3) := by decide +kernel
theorem dX7_best_42 : dec mX7_best 42 = .ok (.getfield 300, 3) := by decide +kernel
theorem dX7_best_45 : dec mX7_best 45 = .ok (.getfield 310, 3) := by decide +kernel
theorem dX7_best_48 : dec mX7_best 48 = .ok (.goto 13, 3) := by decide +kernel
theorem dX7_best_51 : dec mX7_best 51 = .ok (.aload_n 0, 1) := by decide +kernel
theorem dX7_best_52 : dec mX7_best 52 = .ok (.getfield 10, 3) := by decide +kernel
theorem dX7_best_55 : dec mX7_best 55 = .ok (.getfield 300, 3) := by decide +kernel
theorem dX7_best_58 : dec mX7_best 58 = .ok (.getfield 313, 3) := by decide +kernel
theorem dX7_best_61 : dec mX7_best 61 = .ok (.ireturn, 1) := by decide +kernel
theorem dX7_ifImproved_0 : dec mX7_ifImproved 0 = .ok (.iload_n 1, 1) := by decide +kernel
theorem dX7_ifImproved_1 : dec mX7_ifImproved 1 = .ok (.invokestatic 267, 3) := by decide +kernel
theorem dX7_ifImproved_4 : dec mX7_ifImproved 4 = .ok (.ifCond .eq 12, 3) := by decide +kernel
theorem dX7_ifImproved_7 : dec mX7_ifImproved 7 = .ok (.iload_n 2, 1) := by decide +kernel
theorem dX7_ifImproved_8 : dec mX7_ifImproved 8 = .ok (.ifCond .eq 19, 3) := by decide +kernel
theorem dX7_ifImproved_11 : dec mX7_ifImproved 11 = .ok (.iload_n 2, 1) := by decide +kernel
theorem dX7_ifImproved_12 : dec mX7_ifImproved 12 = .ok (.iconst 1, 1) := by decide +kernel
theorem dX7_ifImproved_13 : dec mX7_ifImproved 13 = .ok (.if_icmp .eq 14, 3) := by decide +kernel
theorem dX7_ifImproved_16 : dec mX7_ifImproved 16 = .ok (.new 44, 3) := by decide +kernel
theorem dX7_ifImproved_19 : dec mX7_ifImproved 19 = .ok (.dup, 1) := by decide +kernel
theorem dX7_ifImproved_20 : dec mX7_ifImproved 20 = .ok (.ldc_w 316, 3) := by decide +kernel
theorem dX7_ifImproved_23 : dec mX7_ifImproved 23 = .ok (.invokespecial 48, 3) := by decide +kernel
theorem dX7_ifImproved_26 : dec mX7_ifImproved 26 = .ok (.athrow, 1) := by decide +kernel
theorem dX7_ifImproved_27 : dec mX7_ifImproved 27 = .ok (.aload_n 0, 1) := by decide +kernel
theorem dX7_ifImproved_28 : dec mX7_ifImproved 28 = .ok (.getfield 16, 3) := by decide +kernel
theorem dX7_ifImproved_31 : dec mX7_ifImproved 31 = .ok (.aload_n 0, 1) := by decide +kernel
theorem dX7_ifImproved_32 : dec mX7_ifImproved 32 = .ok (.getfield 10, 3) := by decide +kernel
theorem dX7_ifImproved_35 : dec mX7_ifImproved 35 = .ok (.getfield 101, 3) := by decide +kernel
theorem dX7_ifImproved_38 : dec mX7_ifImproved 38 = .ok (.invokevirtual 284, 3) := by decide +kernel
theorem dX7_ifImproved_41 : dec mX7_ifImproved 41 = .ok (.aload_n 0, 1) := by decide +kernel
theorem dX7_ifImproved_42 : dec mX7_ifImproved 42 = .ok (.getfield 16, 3) := by decide +kernel
theorem dX7_ifImproved_45 : dec mX7_ifImproved 45 = .ok (.iload_n 1, 1) := by decide +kernel
theorem dX7_ifImproved_46 : dec mX7_ifImproved 46 = .ok (.invokevirtual 272, 3) := by decide +kernel
theorem dX7_ifImproved_49 : dec mX7_ifImproved 49 = .ok (.iload_n 2, 1) := by decide +kernel
theorem dX7_ifImproved_50 : dec mX7_ifImproved 50 = .ok (.ifCond .ne 21, 3) := by decide +kernel
theorem dX7_ifImproved_53 : dec mX7_ifImproved 53 = .ok (.aload_n 0, 1) := by decide +kernel
theorem dX7_ifImproved_54 : dec mX7_ifImproved 54 = .ok (.getfield 10, 3) := by decide +kernel
theorem dX7_ifImproved_57 : dec mX7_ifImproved 57 = .ok (.invokevirtual 122, 3) := by decide +kernel
theorem dX7_ifImproved_60 : dec mX7_ifImproved 60 = .ok (.aload_n 0, 1) := by decide +kernel
theorem dX7_ifImproved_61 : dec mX7_ifImproved 61 = .ok (.getfield 16, 3) := by decide +kernel
theorem dX7_ifImproved_64 : dec mX7_ifImproved 64 = .ok (.invokevirtual 122, 3) := by decide +kernel
theorem dX7_ifImproved_67 : dec mX7_ifImproved 67 = .ok (.isub, 1) := by decide +kernel
theorem dX7_ifImproved_68 : dec mX7_ifImproved 68 = .ok (.goto 24, 3) := by decide +kernel
theorem dX7_ifImproved_71 : dec mX7_ifImproved 71 = .ok (.aload_n 0, 1) := by decide +kernel
theorem dX7_ifImproved_72 : dec mX7_ifImproved 72 = .ok (.getfield 16, 3) := by decide +kernel
theorem dX7_ifImproved_75 : dec mX7_ifImproved 75 = .ok (.getfield 101, 3) := by decide +kernel
theorem dX7_ifImproved_78 : dec mX7_ifImproved 78 = .ok (.getfield 142, 3) := by decide +kernel
theorem dX7_ifImproved_81 : dec mX7_ifImproved 81 = .ok (.aload_n 0, 1) := by decide +kernel
theorem dX7_ifImproved_82 : dec mX7_ifImproved 82 = .ok (.getfield 10, 3) := by decide +kernel
theorem dX7_ifImproved_85 : dec mX7_ifImproved 85 = .ok (.getfield 101, 3) := by decide +kernel
theorem dX7_ifImproved_88 : dec mX7_ifImproved 88 = .ok (.getfield 142, 3) := by decide +kernel
theorem dX7_ifImproved_91 : dec mX7_ifImproved 91 = .ok (.isub, 1) := by decide +kernel
theorem dX7_ifImproved_92 : dec mX7_ifImproved 92 = .ok (.ireturn, 1) := by decide +kernel
theorem dX7_least_0 : dec mX7_least 0 = .ok (.aload_n 0, 1) := by decide +kernel
theorem dX7_least_1 : dec mX7_least 1 = .ok (.getfield 10, 3) := by decide +kernel
theorem dX7_least_4 : dec mX7_least 4 = .ok (.invokevirtual 318, 3) := by decide +kernel
theorem dX7_least_7 : dec mX7_least 7 = .ok (.ireturn, 1) := by decide +kernel
theorem dX7_worst_0 : dec mX7_worst 0 = .ok (.aload_n 0, 1) := by decide +kernel
theorem dX7_worst_1 : dec mX7_worst 1 = .ok (.getfield 10, 3) := by decide +kernel
theorem dX7_worst_4 : dec mX7_worst 4 = .ok (.iload_n 1, 1) := by decide +kernel
theorem dX7_worst_5 : dec mX7_worst 5 = .ok (.invokevirtual 181, 3) := by decide +kernel
theorem dX7_worst_8 : dec mX7_worst 8 = .ok (.ifCond .ne 14, 3) := by decide +kernel
theorem dX7_worst_11 : dec mX7_worst 11 = .ok (.new 151, 3) := by decide +kernel
theorem dX7_worst_14 : dec mX7_worst 14 = .ok (.dup, 1) := by decide +kernel
theorem dX7_worst_15 : dec mX7_worst 15 = .ok (.ldc_w 321, 3) := by decide +kernel
theorem dX7_worst_18 : dec mX7_worst 18 = .ok (.invokespecial 155, 3) := by decide +kernel
theorem dX7_worst_21 : dec mX7_worst 21 = .ok (.athrow, 1) := by decide +kernel
theorem dX7_worst_22 : dec mX7_worst 22 = .ok (.aload_n 0, 1) := by decide +kernel
theorem dX7_worst_23 : dec mX7_worst 23 = .ok (.getfield 10, 3) := by decide +kernel
theorem dX7_worst_26 : dec mX7_worst 26 = .ok (.iload_n 1, 1) := by decide +kernel
theorem dX7_worst_27 : dec mX7_worst 27 = .ok (.invokevirtual 323, 3) := by decide +kernel
theorem dX7_worst_30 : dec mX7_worst 30 = .ok (.ireturn, 1) := by decide +kernel
theorem dX7_fits_0 : dec mX7_fits 0 = .ok (.aload_n 0, 1) := by decide +kernel
theorem dX7_fits_1 : dec mX7_fits 1 = .ok (.getfield 10, 3) := by decide +kernel
theorem dX7_fits_4 : dec mX7_fits 4 = .ok (.iload_n 1, 1) := by decide +kernel
theorem dX7_fits_5 : dec mX7_fits 5 = .ok (.invokevirtual 204, 3) := by decide +kernel
theorem dX7_fits_8 : dec mX7_fits 8 = .ok (.ifCond .ne 13, 3) := by decide +kernel
theorem dX7_fits_11 : dec mX7_fits 11 = .ok (.new 151, 3) := by decide +kernel
theorem dX7_fits_14 : dec mX7_fits 14 = .ok (.dup, 1) := by decide +kernel
theorem dX7_fits_15 : dec mX7_fits 15 = .ok (.ldc 207, 2) := by decide +kernel
theorem dX7_fits_17 : dec mX7_fits 17 = .ok (.invokespecial 155, 3) := by decide +kernel
theorem dX7_fits_20 : dec mX7_fits 20 = .ok (.athrow, 1) := by decide +kernel
theorem dX7_fits_21 : dec mX7_fits 21 = .ok (.aload_n 0, 1) := by decide +kernel
theorem dX7_fits_22 : dec mX7_fits 22 = .ok (.getfield 10, 3) := by decide +kernel
theorem dX7_fits_25 : dec mX7_fits 25 = .ok (.iload_n 1, 1) := by decide +kernel
theorem dX7_fits_26 : dec mX7_fits 26 = .ok (.invokevirtual 326, 3) := by decide +kernel
theorem dX7_fits_29 : dec mX7_fits 29 = .ok (.ireturn, 1) := by decide +kernel
theorem dX7_runScript_0 : dec mX7_runScript 0 = .ok (.iload_n 1, 1) := by decide +kernel
theorem dX7_runScript_1 : dec mX7_runScript 1 = .ok (.iconst 1, 1) := by decide +kernel
theorem dX7_runScript_2 : dec mX7_runScript 2 = .ok (.if_icmp .lt 23, 3) := by decide +kernel
theorem dX7_runScript_5 : dec mX7_runScript 5 = .ok (.iload_n 1, 1) := by decide +kernel
theorem dX7_runScript_6 : dec mX7_runScript 6 = .ok (.iconst 3, 1) := by decide +kernel
theorem dX7_runScript_7 : dec mX7_runScript 7 = .ok (.if_icmp .gt 18, 3) := by decide +kernel
theorem dX7_runScript_10 : dec mX7_runScript 10 = .ok (.lload_n 2, 1) := by decide +kernel
theorem dX7_runScript_11 : dec mX7_runScript 11 = .ok (.lconst 0, 1) := by decide +kernel
theorem dX7_runScript_12 : dec mX7_runScript 12 = .ok (.lcmp, 1) := by decide +kernel
theorem dX7_runScript_13 : dec mX7_runScript 13 = .ok (.ifCond .lt 12, 3) := by decide +kernel
theorem dX7_runScript_16 : dec mX7_runScript 16 = .ok (.lload_n 2, 1) := by decide +kernel
theorem dX7_runScript_17 : dec mX7_runScript 17 = .ok (.iload_n 1, 1) := by decide +kernel
theorem dX7_runScript_18 : dec mX7_runScript 18 = .ok (.invokestatic 329, 3) := by decide +kernel
theorem dX7_runScript_21 : dec mX7_runScript 21 = .ok (.lcmp, 1) := by decide +kernel
theorem dX7_runScript_22 : dec mX7_runScript 22 = .ok (.ifCond .lt 14, 3) := by decide +kernel
theorem dX7_runScript_25 : dec mX7_runScript 25 = .ok (.new 44, 3) := by decide +kernel
theorem dX7_runScript_28 : dec mX7_runScript 28 = .ok (.dup, 1) := by decide +kernel
theorem dX7_runScript_29 : dec mX7_runScript 29 = .ok (.ldc_w 333, 3) := by decide +kernel
theorem dX7_runScript_32 : dec mX7_runScript 32 = .ok (.invokespecial 48, 3) := by decide +kernel
theorem dX7_runScript_35 : dec mX7_runScript 35 = .ok (.athrow, 1) := by decide +kernel
theorem dX7_runScript_36 : dec mX7_runScript 36 = .ok (.aload_n 0, 1) := by decide +kernel
theorem dX7_runScript_37 : dec mX7_runScript 37 = .ok (.getfield 16, 3) := by decide +kernel
theorem dX7_runScript_40 : dec mX7_runScript 40 = .ok (.aload_n 0, 1) := by decide +kernel
theorem dX7_runScript_41 : dec mX7_runScript 41 = .ok (.getfield 10, 3) := by decide +kernel
theorem dX7_runScript_44 : dec mX7_runScript 44 = .ok (.getfield 101, 3) := by decide +kernel
theorem dX7_runScript_47 : dec mX7_runScript 47 = .ok (.invokevirtual 284, 3) := by decide +kernel
theorem dX7_runScript_50 : dec mX7_runScript 50 = .ok (.iconst 0, 1) := by decide +kernel
theorem dX7_runScript_51 : dec mX7_runScript 51 = .ok (.istore 4, 2) := by decide +kernel
theorem dX7_runScript_53 : dec mX7_runScript 53 = .ok (.iload 4, 2) := by decide +kernel
theorem dX7_runScript_55 : dec mX7_runScript 55 = .ok (.iload_n 1, 1) := by decide +kernel
theorem dX7_runScript_56 : dec mX7_runScript 56 = .ok (.if_icmp .ge 57, 3) := by decide +kernel
theorem dX7_runScript_59 : dec mX7_runScript 59 = .ok (.iload_n 1, 1) := by decide +kernel
theorem dX7_runScript_60 : dec mX7_runScript 60 = .ok (.iconst 1, 1) := by decide +kernel
theorem dX7_runScript_61 : dec mX7_runScript 61 = .ok (.isub, 1) := by decide +kernel
theorem dX7_runScript_62 : dec mX7_runScript 62 = .ok (.iload 4, 2) := by decide +kernel
theorem dX7_runScript_64 : dec mX7_runScript 64 = .ok (.isub, 1) := by decide +kernel
theorem dX7_runScript_65 : dec mX7_runScript 65 = .ok (.invokestatic 329, 3) := by decide +kernel
theorem dX7_runScript_68 : dec mX7_runScript 68 = .ok (.lstore 5, 2) := by decide +kernel
theorem dX7_runScript_70 : dec mX7_runScript 70 = .ok (.lload 5, 2) := by decide +kernel
theorem dX7_runScript_72 : dec mX7_runScript 72 = .ok (.lconst 0, 1) := by decide +kernel
theorem dX7_runScript_73 : dec mX7_runScript 73 = .ok (.lcmp, 1) := by decide +kernel
theorem dX7_runScript_74 : dec mX7_runScript 74 = .ok (.ifCond .le 14, 3) := by decide +kernel
theorem dX7_runScript_77 : dec mX7_runScript 77 = .ok (.lload_n 2, 1) := by decide +kernel
theorem dX7_runScript_78 : dec mX7_runScript 78 = .ok (.lload 5, 2) := by decide +kernel
theorem dX7_runScript_80 : dec mX7_runScript 80 = .ok (.ldiv, 1) := by decide +kernel
theorem dX7_runScript_81 : dec mX7_runScript 81 = .ok (.ldc2_w 335, 3) := by decide +kernel
theorem dX7_runScript_84 : dec mX7_runScript 84 = .ok (.lrem, 1) := by decide +kernel
theorem dX7_runScript_85 : dec mX7_runScript 85 = .ok (.goto 4, 3) := by decide +kernel
theorem dX7_runScript_88 : dec mX7_runScript 88 = .ok (.lconst 0, 1) := by decide +kernel
theorem dX7_runScript_89 : dec mX7_runScript 89 = .ok (.lstore 7, 2) := by decide +kernel
theorem dX7_runScript_91 : dec mX7_runScript 91 = .ok (.aload_n 0, 1) := by decide +kernel
theorem dX7_runScript_92 : dec mX7_runScript 92 = .ok (.getfield 16, 3) := by decide +kernel
theorem dX7_runScript_95 : dec mX7_runScript 95 = .ok (.lload 7, 2) := by decide +kernel
theorem dX7_runScript_97 : dec mX7_runScript 97 = .ok (.l2i, 1) := by decide +kernel
theorem dX7_runScript_98 : dec mX7_runScript 98 = .ok (.invokestatic 337, 3) := by decide +kernel
theorem dX7_runScript_101 : dec mX7_runScript 101 = .ok (.ifCond .ne 6, 3) := by decide +kernel
theorem dX7_runScript_104 : dec mX7_runScript 104 = .ok (.iload 4, 2) := by decide +kernel
theorem dX7_runScript_106 : dec mX7_runScript 106 = .ok (.ireturn, 1) := by decide +kernel
theorem dX7_runScript_107 : dec mX7_runScript 107 = .ok (.iinc 4 1, 3) := by decide +kernel
theorem dX7_runScript_110 : dec mX7_runScript 110 = .ok (.goto (-57), 3) := by decide +kernel
theorem dX7_runScript_113 : dec mX7_runScript 113 = .ok (.iconst (-1), 1) := by decide +kernel
theorem dX7_runScript_114 : dec mX7_runScript 114 = .ok (.ireturn, 1) := by decide +kernel
theorem dX7_simulate_0 : dec mX7_simulate 0 = .ok (.iload_n 3, 1) := by decide +kernel
theorem dX7_simulate_1 : dec mX7_simulate 1 = .ok (.iconst 1, 1) := by decide +kernel
theorem dX7_simulate_2 : dec mX7_simulate 2 = .ok (.if_icmp .lt 9, 3) := by decide +kernel
theorem dX7_simulate_5 : dec mX7_simulate 5 = .ok (.iload_n 3, 1) := by decide +kernel
theorem dX7_simulate_6 : dec mX7_simulate 6 = .ok (.bipush 30, 2) := by decide +kernel
theorem dX7_simulate_8 : dec mX7_simulate 8 = .ok (.if_icmp .le 14, 3) := by decide +kernel
theorem dX7_simulate_11 : dec mX7_simulate 11 = .ok (.new 44, 3) := by decide +kernel
theorem dX7_simulate_14 : dec mX7_simulate 14 = .ok (.dup, 1) := by decide +kernel
theorem dX7_simulate_15 : dec mX7_simulate 15 = .ok (.ldc_w 341, 3) := by decide +kernel
theorem dX7_simulate_18 : dec mX7_simulate 18 = .ok (.invokespecial 48, 3) := by decide +kernel
theorem dX7_simulate_21 : dec mX7_simulate 21 = .ok (.athrow, 1) := by decide +kernel
theorem dX7_simulate_22 : dec mX7_simulate 22 = .ok (.aload_n 0, 1) := by decide +kernel
theorem dX7_simulate_23 : dec mX7_simulate 23 = .ok (.getfield 16, 3) := by decide +kernel
theorem dX7_simulate_26 : dec mX7_simulate 26 = .ok (.aload_n 0, 1) := by decide +kernel
theorem dX7_simulate_27 : dec mX7_simulate 27 = .ok (.getfield 10, 3) := by decide +kernel
theorem dX7_simulate_30 : dec mX7_simulate 30 = .ok (.getfield 101, 3) := by decide +kernel
theorem dX7_simulate_33 : dec mX7_simulate 33 = .ok (.invokevirtual 284, 3) := by decide +kernel
theorem dX7_simulate_36 : dec mX7_simulate 36 = .ok (.lload_n 1, 1) := by decide +kernel
theorem dX7_simulate_37 : dec mX7_simulate 37 = .ok (.lstore 4, 2) := by decide +kernel
theorem dX7_simulate_39 : dec mX7_simulate 39 = .ok (.iconst 0, 1) := by decide +kernel
theorem dX7_simulate_40 : dec mX7_simulate 40 = .ok (.istore 6, 2) := by decide +kernel
theorem dX7_simulate_42 : dec mX7_simulate 42 = .ok (.iload 6, 2) := by decide +kernel
theorem dX7_simulate_44 : dec mX7_simulate 44 = .ok (.iload_n 3, 1) := by decide +kernel
theorem dX7_simulate_45 : dec mX7_simulate 45 = .ok (.if_icmp .ge 34, 3) := by decide +kernel
theorem dX7_simulate_48 : dec mX7_simulate 48 = .ok (.lload 4, 2) := by decide +kernel
theorem dX7_simulate_50 : dec mX7_simulate 50 = .ok (.ldc2_w 343, 3) := by decide +kernel
theorem dX7_simulate_53 : dec mX7_simulate 53 = .ok (.lmul, 1) := by decide +kernel
theorem dX7_simulate_54 : dec mX7_simulate 54 = .ok (.ldc2_w 345, 3) := by decide +kernel
theorem dX7_simulate_57 : dec mX7_simulate 57 = .ok (.ladd, 1) := by decide +kernel
theorem dX7_simulate_58 : dec mX7_simulate 58 = .ok (.lstore 4, 2) := by decide +kernel
theorem dX7_simulate_60 : dec mX7_simulate 60 = .ok (.aload_n 0, 1) := by decide +kernel
theorem dX7_simulate_61 : dec mX7_simulate 61 = .ok (.getfield 16, 3) := by decide +kernel
theorem dX7_simulate_64 : dec mX7_simulate 64 = .ok (.lload 4, 2) := by decide +kernel
theorem dX7_simulate_66 : dec mX7_simulate 66 = .ok (.bipush 33, 2) := by decide +kernel
theorem dX7_simulate_68 : dec mX7_simulate 68 = .ok (.lushr, 1) := by decide +kernel
theorem dX7_simulate_69 : dec mX7_simulate 69 = .ok (.l2i, 1) := by decide +kernel
theorem dX7_simulate_70 : dec mX7_simulate 70 = .ok (.invokestatic 347, 3) := by decide +kernel
theorem dX7_simulate_73 : dec mX7_simulate 73 = .ok (.iinc 6 1, 3) := by decide +kernel
theorem dX7_simulate_76 : dec mX7_simulate 76 = .ok (.goto (-34), 3) := by decide +kernel
theorem dX7_simulate_79 : dec mX7_simulate 79 = .ok (.aload_n 0, 1) := by decide +kernel
theorem dX7_simulate_80 : dec mX7_simulate 80 = .ok (.getfield 16, 3) := by decide +kernel
theorem dX7_simulate_83 : dec mX7_simulate 83 = .ok (.invokevirtual 122, 3) := by decide +kernel
theorem dX7_simulate_86 : dec mX7_simulate 86 = .ok (.ireturn, 1) := by decide +kernel
theorem dX7_save_0 : dec mX7_save 0 = .ok (.iload_n 1, 1) := by decide +kernel
theorem dX7_save_1 : dec mX7_save 1 = .ok (.ifCond .lt 8, 3) := by decide +kernel
theorem dX7_save_4 : dec mX7_save 4 = .ok (.iload_n 1, 1) := by decide +kernel
theorem dX7_save_5 : dec mX7_save 5 = .ok (.iconst 2, 1) := by decide +kernel
theorem dX7_save_6 : dec mX7_save 6 = .ok (.if_icmp .lt 14, 3) := by decide +kernel
theorem dX7_save_9 : dec mX7_save 9 = .ok (.new 151, 3) := by decide +kernel
theorem dX7_save_12 : dec mX7_save 12 = .ok (.dup, 1) := by decide +kernel
theorem dX7_save_13 : dec mX7_save 13 = .ok (.ldc_w 351, 3) := by decide +kernel
theorem dX7_save_16 : dec mX7_save 16 = .ok (.invokespecial 155, 3) := by decide +kernel
theorem dX7_save_19 : dec mX7_save 19 = .ok (.athrow, 1) := by decide +kernel
theorem dX7_save_20 : dec mX7_save 20 = .ok (.aload_n 0, 1) := by decide +kernel
theorem dX7_save_21 : dec mX7_save 21 = .ok (.getfield 29, 3) := by decide +kernel
theorem dX7_save_24 : dec mX7_save 24 = .ok (.iload_n 1, 1) := by decide +kernel
theorem dX7_save_25 : dec mX7_save 25 = .ok (.aload_n 0, 1) := by decide +kernel
theorem dX7_save_26 : dec mX7_save 26 = .ok (.getfield 10, 3) := by decide +kernel
theorem dX7_save_29 : dec mX7_save 29 = .ok (.getfield 101, 3) := by decide +kernel
theorem dX7_save_32 : dec mX7_save 32 = .ok (.invokevirtual 353, 3) := by decide +kernel
theorem dX7_save_35 : dec mX7_save 35 = .ok (.aload_n 0, 1) := by decide +kernel
theorem dX7_save_36 : dec mX7_save 36 = .ok (.getfield 10, 3) := by decide +kernel
theorem dX7_save_39 : dec mX7_save 39 = .ok (.invokevirtual 122, 3) := by decide +kernel
theorem dX7_save_42 : dec mX7_save 42 = .ok (.ireturn, 1) := by decide +kernel
theorem dX7_restore_0 : dec mX7_restore 0 = .ok (.iload_n 1, 1) := by decide +kernel
theorem dX7_restore_1 : dec mX7_restore 1 = .ok (.ifCond .lt 8, 3) := by decide +kernel
theorem dX7_restore_4 : dec mX7_restore 4 = .ok (.iload_n 1, 1) := by decide +kernel
theorem dX7_restore_5 : dec mX7_restore 5 = .ok (.iconst 2, 1) := by decide +kernel
theorem dX7_restore_6 : dec mX7_restore 6 = .ok (.if_icmp .lt 14, 3) := by decide +kernel
theorem dX7_restore_9 : dec mX7_restore 9 = .ok (.new 151, 3) := by decide +kernel
theorem dX7_restore_12 : dec mX7_restore 12 = .ok (.dup, 1) := by decide +kernel
theorem dX7_restore_13 : dec mX7_restore 13 = .ok (.ldc_w 351, 3) := by decide +kernel
theorem dX7_restore_16 : dec mX7_restore 16 = .ok (.invokespecial 155, 3) := by decide +kernel
theorem dX7_restore_19 : dec mX7_restore 19 = .ok (.athrow, 1) := by decide +kernel
theorem dX7_restore_20 : dec mX7_restore 20 = .ok (.aload_n 0, 1) := by decide +kernel
theorem dX7_restore_21 : dec mX7_restore 21 = .ok (.getfield 29, 3) := by decide +kernel
theorem dX7_restore_24 : dec mX7_restore 24 = .ok (.iload_n 1, 1) := by decide +kernel
theorem dX7_restore_25 : dec mX7_restore 25 = .ok (.invokevirtual 357, 3) := by decide +kernel
theorem dX7_restore_28 : dec mX7_restore 28 = .ok (.ifCond .ne 14, 3) := by decide +kernel
theorem dX7_restore_31 : dec mX7_restore 31 = .ok (.new 55, 3) := by decide +kernel
theorem dX7_restore_34 : dec mX7_restore 34 = .ok (.dup, 1) := by decide +kernel
theorem dX7_restore_35 : dec mX7_restore 35 = .ok (.ldc_w 360, 3) := by decide +kernel
theorem dX7_restore_38 : dec mX7_restore 38 = .ok (.invokespecial 59, 3) := by decide +kernel
theorem dX7_restore_41 : dec mX7_restore 41 = .ok (.athrow, 1) := by decide +kernel
theorem dX7_restore_42 : dec mX7_restore 42 = .ok (.aload_n 0, 1) := by decide +kernel
theorem dX7_restore_43 : dec mX7_restore 43 = .ok (.getfield 22, 3) := by decide +kernel
theorem dX7_restore_46 : dec mX7_restore 46 = .ok (.invokevirtual 74, 3) := by decide +kernel
theorem dX7_restore_49 : dec mX7_restore 49 = .ok (.aload_n 0, 1) := by decide +kernel
theorem dX7_restore_50 : dec mX7_restore 50 = .ok (.getfield 10, 3) := by decide +kernel
theorem dX7_restore_53 : dec mX7_restore 53 = .ok (.aload_n 0, 1) := by decide +kernel
theorem dX7_restore_54 : dec mX7_restore 54 = .ok (.getfield 29, 3) := by decide +kernel
theorem dX7_restore_57 : dec mX7_restore 57 = .ok (.iload_n 1, 1) := by decide +kernel
theorem dX7_restore_58 : dec mX7_restore 58 = .ok (.invokevirtual 362, 3) := by decide +kernel
theorem dX7_restore_61 : dec mX7_restore 61 = .ok (.invokevirtual 284, 3) := by decide +kernel
theorem dX7_restore_64 : dec mX7_restore 64 = .ok (.aload_n 0, 1) := by decide +kernel
theorem dX7_restore_65 : dec mX7_restore 65 = .ok (.getfield 10, 3) := by decide +kernel
theorem dX7_restore_68 : dec mX7_restore 68 = .ok (.invokevirtual 122, 3) := by decide +kernel
theorem dX7_restore_71 : dec mX7_restore 71 = .ok (.ireturn, 1) := by decide +kernel
theorem dX7_isGrey_0 : dec mX7_isGrey 0 = .ok (.iload_n 0, 1) := by decide +kernel
theorem dX7_isGrey_1 : dec mX7_isGrey 1 = .ok (.ifCond .lt 13, 3) := by decide +kernel
theorem dX7_isGrey_4 : dec mX7_isGrey 4 = .ok (.iload_n 0, 1) := by decide +kernel
theorem dX7_isGrey_5 : dec mX7_isGrey 5 = .ok (.bipush 99, 2) := by decide +kernel
theorem dX7_isGrey_7 : dec mX7_isGrey 7 = .ok (.if_icmp .gt 7, 3) := by decide +kernel
theorem dX7_isGrey_10 : dec mX7_isGrey 10 = .ok (.iconst 1, 1) := by decide +kernel
theorem dX7_isGrey_11 : dec mX7_isGrey 11 = .ok (.goto 4, 3) := by decide +kernel
theorem dX7_isGrey_14 : dec mX7_isGrey 14 = .ok (.iconst 0, 1) := by decide +kernel
theorem dX7_isGrey_15 : dec mX7_isGrey 15 = .ok (.ireturn, 1) := by decide +kernel
theorem dX7_isCountOfChanges_0 : dec mX7_isCountOfChanges 0 = .ok (.iload_n 0, 1) := by decide +kernel
theorem dX7_isCountOfChanges_1 : dec mX7_isCountOfChanges 1 = .ok (.iconst 1, 1) := by decide +kernel
theorem dX7_isCountOfChanges_2 : dec mX7_isCountOfChanges 2 = .ok (.if_icmp .lt 13, 3) := by decide +kernel
theorem dX7_isCountOfChanges_5 : dec mX7_isCountOfChanges 5 = .ok (.iload_n 0, 1) := by decide +kernel
theorem dX7_isCountOfChanges_6 : dec mX7_isCountOfChanges 6 = .ok (.bipush 20, 2) := by decide +kernel
theorem dX7_isCountOfChanges_8 : dec mX7_isCountOfChanges 8 = .ok (.if_icmp .gt 7, 3) := by decide +kernel
theorem dX7_isCountOfChanges_11 : dec mX7_isCountOfChanges 11 = .ok (.iconst 1, 1) := by decide +kernel
theorem dX7_isCountOfChanges_12 : dec mX7_isCountOfChanges 12 = .ok (.goto 4, 3) := by decide +kernel
theorem dX7_isCountOfChanges_15 : dec mX7_isCountOfChanges 15 = .ok (.iconst 0, 1) := by decide +kernel
theorem dX7_isCountOfChanges_16 : dec mX7_isCountOfChanges 16 = .ok (.ireturn, 1) := by decide +kernel
theorem dX7_behindGroups_0 : dec mX7_behindGroups 0 = .ok (.lconst 1, 1) := by decide +kernel
theorem dX7_behindGroups_1 : dec mX7_behindGroups 1 = .ok (.lstore_n 1, 1) := by decide +kernel
theorem dX7_behindGroups_2 : dec mX7_behindGroups 2 = .ok (.iconst 0, 1) := by decide +kernel
theorem dX7_behindGroups_3 : dec mX7_behindGroups 3 = .ok (.istore_n 3, 1) := by decide +kernel
theorem dX7_behindGroups_4 : dec mX7_behindGroups 4 = .ok (.iload_n 3, 1) := by decide +kernel
theorem dX7_behindGroups_5 : dec mX7_behindGroups 5 = .ok (.iload_n 0, 1) := by decide +kernel
theorem dX7_behindGroups_6 : dec mX7_behindGroups 6 = .ok (.if_icmp .ge 15, 3) := by decide +kernel
theorem dX7_behindGroups_9 : dec mX7_behindGroups 9 = .ok (.lload_n 1, 1) := by decide +kernel
theorem dX7_behindGroups_10 : dec mX7_behindGroups 10 = .ok (.ldc2_w 335, 3) := by decide +kernel
theorem dX7_behindGroups_13 : dec mX7_behindGroups 13 = .ok (.lmul, 1) := by decide +kernel
theorem dX7_behindGroups_14 : dec mX7_behindGroups 14 = .ok (.lstore_n 1, 1) := by decide +kernel
theorem dX7_behindGroups_15 : dec mX7_behindGroups 15 = .ok (.iinc 3 1, 3) := by decide +kernel
theorem dX7_behindGroups_18 : dec mX7_behindGroups 18 = .ok (.goto (-14), 3) := by decide +kernel
theorem dX7_behindGroups_21 : dec mX7_behindGroups 21 = .ok (.lload_n 1, 1) := by decide +kernel
theorem dX7_behindGroups_22 : dec mX7_behindGroups 22 = .ok (.lreturn, 1) := by decide +kernel
theorem dX7_at_0 : dec mX7_at 0 = .ok (.iload_n 1, 1) := by decide +kernel
theorem dX7_at_1 : dec mX7_at 1 = .ok (.ifCond .lt 15, 3) := by decide +kernel
theorem dX7_at_4 : dec mX7_at 4 = .ok (.iload_n 1, 1) := by decide +kernel
theorem dX7_at_5 : dec mX7_at 5 = .ok (.aload_n 0, 1) := by decide +kernel
theorem dX7_at_6 : dec mX7_at 6 = .ok (.arraylength, 1) := by decide +kernel
theorem dX7_at_7 : dec mX7_at 7 = .ok (.if_icmp .ge 9, 3) := by decide +kernel
theorem dX7_at_10 : dec mX7_at 10 = .ok (.aload_n 0, 1) := by decide +kernel
theorem dX7_at_11 : dec mX7_at 11 = .ok (.iload_n 1, 1) := by decide +kernel
theorem dX7_at_12 : dec mX7_at 12 = .ok (.iaload, 1) := by decide +kernel
theorem dX7_at_13 : dec mX7_at 13 = .ok (.goto 4, 3) := by decide +kernel
theorem dX7_at_16 : dec mX7_at 16 = .ok (.iconst 0, 1) := by decide +kernel
theorem dX7_at_17 : dec mX7_at 17 = .ok (.ireturn, 1) := by decide +kernel
theorem dX7_put_0 : dec mX7_put 0 = .ok (.iload_n 1, 1) := by decide +kernel
theorem dX7_put_1 : dec mX7_put 1 = .ok (.ifCond .lt 13, 3) := by decide +kernel
theorem dX7_put_4 : dec mX7_put 4 = .ok (.iload_n 1, 1) := by decide +kernel
theorem dX7_put_5 : dec mX7_put 5 = .ok (.aload_n 0, 1) := by decide +kernel
theorem dX7_put_6 : dec mX7_put 6 = .ok (.arraylength, 1) := by decide +kernel
theorem dX7_put_7 : dec mX7_put 7 = .ok (.if_icmp .ge 7, 3) := by decide +kernel
theorem dX7_put_10 : dec mX7_put 10 = .ok (.aload_n 0, 1) := by decide +kernel
theorem dX7_put_11 : dec mX7_put 11 = .ok (.iload_n 1, 1) := by decide +kernel
theorem dX7_put_12 : dec mX7_put 12 = .ok (.iload_n 2, 1) := by decide +kernel
theorem dX7_put_13 : dec mX7_put 13 = .ok (.iastore, 1) := by decide +kernel
theorem dX7_put_14 : dec mX7_put 14 = .ok (.return_, 1) := by decide +kernel
theorem dX7_exchange_0 : dec mX7_exchange 0 = .ok (.iload_n 1, 1) := by decide +kernel
theorem dX7_exchange_1 : dec mX7_exchange 1 = .ok (.ifCond .lt 33, 3) := by decide +kernel
theorem dX7_exchange_4 : dec mX7_exchange 4 = .ok (.iload_n 1, 1) := by decide +kernel
theorem dX7_exchange_5 : dec mX7_exchange 5 = .ok (.aload_n 0, 1) := by decide +kernel
theorem dX7_exchange_6 : dec mX7_exchange 6 = .ok (.arraylength, 1) := by decide +kernel
theorem dX7_exchange_7 : dec mX7_exchange 7 = .ok (.if_icmp .ge 27, 3) := by decide +kernel
theorem dX7_exchange_10 : dec mX7_exchange 10 = .ok (.iload_n 2, 1) := by decide +kernel
theorem dX7_exchange_11 : dec mX7_exchange 11 = .ok (.ifCond .lt 23, 3) := by decide +kernel
theorem dX7_exchange_14 : dec mX7_exchange 14 = .ok (.iload_n 2, 1) := by decide +kernel
theorem dX7_exchange_15 : dec mX7_exchange 15 = .ok (.aload_n 0, 1) := by decide +kernel
theorem dX7_exchange_16 : dec mX7_exchange 16 = .ok (.arraylength, 1) := by decide +kernel
theorem dX7_exchange_17 : dec mX7_exchange 17 = .ok (.if_icmp .ge 17, 3) := by decide +kernel
theorem dX7_exchange_20 : dec mX7_exchange 20 = .ok (.aload_n 0, 1) := by decide +kernel
theorem dX7_exchange_21 : dec mX7_exchange 21 = .ok (.iload_n 1, 1) := by decide +kernel
theorem dX7_exchange_22 : dec mX7_exchange 22 = .ok (.iaload, 1) := by decide +kernel
theorem dX7_exchange_23 : dec mX7_exchange 23 = .ok (.istore_n 3, 1) := by decide +kernel
theorem dX7_exchange_24 : dec mX7_exchange 24 = .ok (.aload_n 0, 1) := by decide +kernel
theorem dX7_exchange_25 : dec mX7_exchange 25 = .ok (.iload_n 1, 1) := by decide +kernel
theorem dX7_exchange_26 : dec mX7_exchange 26 = .ok (.aload_n 0, 1) := by decide +kernel
theorem dX7_exchange_27 : dec mX7_exchange 27 = .ok (.iload_n 2, 1) := by decide +kernel
theorem dX7_exchange_28 : dec mX7_exchange 28 = .ok (.iaload, 1) := by decide +kernel
theorem dX7_exchange_29 : dec mX7_exchange 29 = .ok (.iastore, 1) := by decide +kernel
theorem dX7_exchange_30 : dec mX7_exchange 30 = .ok (.aload_n 0, 1) := by decide +kernel
theorem dX7_exchange_31 : dec mX7_exchange 31 = .ok (.iload_n 2, 1) := by decide +kernel
theorem dX7_exchange_32 : dec mX7_exchange 32 = .ok (.iload_n 3, 1) := by decide +kernel
theorem dX7_exchange_33 : dec mX7_exchange 33 = .ok (.iastore, 1) := by decide +kernel
theorem dX7_exchange_34 : dec mX7_exchange 34 = .ok (.return_, 1) := by decide +kernel
