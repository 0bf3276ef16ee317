theorem dX0_init_0 : dec mX0_init 0 = .ok (.aload_n 0, 1) := by decide +kernel
theorem dX0_init_1 : dec mX0_init 1 = .ok (.invokespecial 3, 3) := by decide +kernel
theorem dX0_init_4 : dec mX0_init 4 = .ok (.aload_n 0, 1) := by decide +kernel
theorem dX0_init_5 : dec mX0_init 5 = .ok (.new 9, 3) := by decide +kernel
theorem dX0_init_8 : dec mX0_init 8 = .ok (.dup, 1) := by decide +kernel
theorem dX0_init_9 : dec mX0_init 9 = .ok (.invokespecial 11, 3) := by decide +kernel
theorem dX0_init_12 : dec mX0_init 12 = .ok (.putfield 12, 3) := by decide +kernel
theorem dX0_init_15 : dec mX0_init 15 = .ok (.aload_n 0, 1) := by decide +kernel
theorem dX0_init_16 : dec mX0_init 16 = .ok (.bipush 56, 2) := by decide +kernel
theorem dX0_init_18 : dec mX0_init 18 = .ok (.newarray .int, 2) := by decide +kernel
theorem dX0_init_20 : dec mX0_init 20 = .ok (.putfield 18, 3) := by decide +kernel
theorem dX0_init_23 : dec mX0_init 23 = .ok (.aload_n 0, 1) := by decide +kernel
theorem dX0_init_24 : dec mX0_init 24 = .ok (.bipush 56, 2) := by decide +kernel
theorem dX0_init_26 : dec mX0_init 26 = .ok (.newarray .int, 2) := by decide +kernel
theorem dX0_init_28 : dec mX0_init 28 = .ok (.putfield 22, 3) := by decide +kernel
theorem dX0_init_31 : dec mX0_init 31 = .ok (.aload_n 0, 1) := by decide +kernel
theorem dX0_init_32 : dec mX0_init 32 = .ok (.bipush 56, 2) := by decide +kernel
theorem dX0_init_34 : dec mX0_init 34 = .ok (.newarray .int, 2) := by decide +kernel
theorem dX0_init_36 : dec mX0_init 36 = .ok (.putfield 25, 3) := by decide +kernel
theorem dX0_init_39 : dec mX0_init 39 = .ok (.aload_n 0, 1) := by decide +kernel
theorem dX0_init_40 : dec mX0_init 40 = .ok (.bipush 56, 2) := by decide +kernel
theorem dX0_init_42 : dec mX0_init 42 = .ok (.newarray .int, 2) := by decide +kernel
theorem dX0_init_44 : dec mX0_init 44 = .ok (.putfield 28, 3) := by decide +kernel
theorem dX0_init_47 : dec mX0_init 47 = .ok (.aload_n 0, 1) := by decide +kernel
theorem dX0_init_48 : dec mX0_init 48 = .ok (.bipush 112, 2) := by decide +kernel
theorem dX0_init_50 : dec mX0_init 50 = .ok (.newarray .int, 2) := by decide +kernel
theorem dX0_init_52 : dec mX0_init 52 = .ok (.putfield 31, 3) := by decide +kernel
theorem dX0_init_55 : dec mX0_init 55 = .ok (.aload_n 0, 1) := by decide +kernel
theorem dX0_init_56 : dec mX0_init 56 = .ok (.new 34, 3) := by decide +kernel
theorem dX0_init_59 : dec mX0_init 59 = .ok (.dup, 1) := by decide +kernel
theorem dX0_init_60 : dec mX0_init 60 = .ok (.invokespecial 36, 3) := by decide +kernel
theorem dX0_init_63 : dec mX0_init 63 = .ok (.putfield 37, 3) := by decide +kernel
theorem dX0_init_66 : dec mX0_init 66 = .ok (.aload_n 0, 1) := by decide +kernel
theorem dX0_init_67 : dec mX0_init 67 = .ok (.bipush 56, 2) := by decide +kernel
theorem dX0_init_69 : dec mX0_init 69 = .ok (.newarray .int, 2) := by decide +kernel
theorem dX0_init_71 : dec mX0_init 71 = .ok (.putfield 41, 3) := by decide +kernel
theorem dX0_init_74 : dec mX0_init 74 = .ok (.aload_n 0, 1) := by decide +kernel
theorem dX0_init_75 : dec mX0_init 75 = .ok (.bipush 56, 2) := by decide +kernel
theorem dX0_init_77 : dec mX0_init 77 = .ok (.newarray .int, 2) := by decide +kernel
theorem dX0_init_79 : dec mX0_init 79 = .ok (.putfield 44, 3) := by decide +kernel
theorem dX0_init_82 : dec mX0_init 82 = .ok (.return_, 1) := by decide +kernel
theorem dX0_start_0 : dec mX0_start 0 = .ok (.aload_n 0, 1) := by decide +kernel
theorem dX0_start_1 : dec mX0_start 1 = .ok (.getfield 12, 3) := by decide +kernel
theorem dX0_start_4 : dec mX0_start 4 = .ok (.iload_n 1, 1) := by decide +kernel
theorem dX0_start_5 : dec mX0_start 5 = .ok (.putfield 47, 3) := by decide +kernel
theorem dX0_start_8 : dec mX0_start 8 = .ok (.aload_n 0, 1) := by decide +kernel
theorem dX0_start_9 : dec mX0_start 9 = .ok (.getfield 12, 3) := by decide +kernel
theorem dX0_start_12 : dec mX0_start 12 = .ok (.iload_n 2, 1) := by decide +kernel
theorem dX0_start_13 : dec mX0_start 13 = .ok (.putfield 51, 3) := by decide +kernel
theorem dX0_start_16 : dec mX0_start 16 = .ok (.aload_n 0, 1) := by decide +kernel
theorem dX0_start_17 : dec mX0_start 17 = .ok (.getfield 12, 3) := by decide +kernel
theorem dX0_start_20 : dec mX0_start 20 = .ok (.iconst 0, 1) := by decide +kernel
theorem dX0_start_21 : dec mX0_start 21 = .ok (.putfield 54, 3) := by decide +kernel
theorem dX0_start_24 : dec mX0_start 24 = .ok (.aload_n 0, 1) := by decide +kernel
theorem dX0_start_25 : dec mX0_start 25 = .ok (.getfield 12, 3) := by decide +kernel
theorem dX0_start_28 : dec mX0_start 28 = .ok (.getfield 57, 3) := by decide +kernel
theorem dX0_start_31 : dec mX0_start 31 = .ok (.iconst 0, 1) := by decide +kernel
theorem dX0_start_32 : dec mX0_start 32 = .ok (.invokestatic 60, 3) := by decide +kernel
theorem dX0_start_35 : dec mX0_start 35 = .ok (.aload_n 0, 1) := by decide +kernel
theorem dX0_start_36 : dec mX0_start 36 = .ok (.getfield 12, 3) := by decide +kernel
theorem dX0_start_39 : dec mX0_start 39 = .ok (.getfield 66, 3) := by decide +kernel
theorem dX0_start_42 : dec mX0_start 42 = .ok (.iconst 0, 1) := by decide +kernel
theorem dX0_start_43 : dec mX0_start 43 = .ok (.invokestatic 60, 3) := by decide +kernel
theorem dX0_start_46 : dec mX0_start 46 = .ok (.aload_n 0, 1) := by decide +kernel
theorem dX0_start_47 : dec mX0_start 47 = .ok (.getfield 12, 3) := by decide +kernel
theorem dX0_start_50 : dec mX0_start 50 = .ok (.getfield 69, 3) := by decide +kernel
theorem dX0_start_53 : dec mX0_start 53 = .ok (.iconst 0, 1) := by decide +kernel
theorem dX0_start_54 : dec mX0_start 54 = .ok (.invokestatic 60, 3) := by decide +kernel
theorem dX0_start_57 : dec mX0_start 57 = .ok (.aload_n 0, 1) := by decide +kernel
theorem dX0_start_58 : dec mX0_start 58 = .ok (.invokevirtual 72, 3) := by decide +kernel
theorem dX0_start_61 : dec mX0_start 61 = .ok (.iconst 0, 1) := by decide +kernel
theorem dX0_start_62 : dec mX0_start 62 = .ok (.istore_n 3, 1) := by decide +kernel
theorem dX0_start_63 : dec mX0_start 63 = .ok (.iload_n 3, 1) := by decide +kernel
theorem dX0_start_64 : dec mX0_start 64 = .ok (.aload_n 0, 1) := by decide +kernel
theorem dX0_start_65 : dec mX0_start 65 = .ok (.getfield 75, 3) := by decide +kernel
theorem dX0_start_68 : dec mX0_start 68 = .ok (.if_icmp .ge 26, 3) := by decide +kernel
theorem dX0_start_71 : dec mX0_start 71 = .ok (.aload_n 0, 1) := by decide +kernel
theorem dX0_start_72 : dec mX0_start 72 = .ok (.iload_n 3, 1) := by decide +kernel
theorem dX0_start_73 : dec mX0_start 73 = .ok (.invokevirtual 78, 3) := by decide +kernel
theorem dX0_start_76 : dec mX0_start 76 = .ok (.aload_n 0, 1) := by decide +kernel
theorem dX0_start_77 : dec mX0_start 77 = .ok (.getfield 12, 3) := by decide +kernel
theorem dX0_start_80 : dec mX0_start 80 = .ok (.getfield 82, 3) := by decide +kernel
theorem dX0_start_83 : dec mX0_start 83 = .ok (.iload_n 3, 1) := by decide +kernel
theorem dX0_start_84 : dec mX0_start 84 = .ok (.iload_n 3, 1) := by decide +kernel
theorem dX0_start_85 : dec mX0_start 85 = .ok (.invokestatic 85, 3) := by decide +kernel
theorem dX0_start_88 : dec mX0_start 88 = .ok (.iinc 3 1, 3) := by decide +kernel
theorem dX0_start_91 : dec mX0_start 91 = .ok (.goto (-28), 3) := by decide +kernel
theorem dX0_start_94 : dec mX0_start 94 = .ok (.aload_n 0, 1) := by decide +kernel
theorem dX0_start_95 : dec mX0_start 95 = .ok (.invokevirtual 89, 3) := by decide +kernel
theorem dX0_start_98 : dec mX0_start 98 = .ok (.return_, 1) := by decide +kernel
theorem dX0_takeFrom_0 : dec mX0_takeFrom 0 = .ok (.aload_n 1, 1) := by decide +kernel
theorem dX0_takeFrom_1 : dec mX0_takeFrom 1 = .ok (.aload_n 0, 1) := by decide +kernel
theorem dX0_takeFrom_2 : dec mX0_takeFrom 2 = .ok (.getfield 12, 3) := by decide +kernel
theorem dX0_takeFrom_5 : dec mX0_takeFrom 5 = .ok (.invokestatic 92, 3) := by decide +kernel
theorem dX0_takeFrom_8 : dec mX0_takeFrom 8 = .ok (.aload_n 0, 1) := by decide +kernel
theorem dX0_takeFrom_9 : dec mX0_takeFrom 9 = .ok (.invokevirtual 72, 3) := by decide +kernel
theorem dX0_takeFrom_12 : dec mX0_takeFrom 12 = .ok (.aload_n 0, 1) := by decide +kernel
theorem dX0_takeFrom_13 : dec mX0_takeFrom 13 = .ok (.invokevirtual 89, 3) := by decide +kernel
theorem dX0_takeFrom_16 : dec mX0_takeFrom 16 = .ok (.return_, 1) := by decide +kernel
theorem dX0_measure_0 : dec mX0_measure 0 = .ok (.aload_n 0, 1) := by decide +kernel
theorem dX0_measure_1 : dec mX0_measure 1 = .ok (.aload_n 0, 1) := by decide +kernel
theorem dX0_measure_2 : dec mX0_measure 2 = .ok (.getfield 12, 3) := by decide +kernel
theorem dX0_measure_5 : dec mX0_measure 5 = .ok (.getfield 47, 3) := by decide +kernel
theorem dX0_measure_8 : dec mX0_measure 8 = .ok (.iconst 2, 1) := by decide +kernel
theorem dX0_measure_9 : dec mX0_measure 9 = .ok (.iadd, 1) := by decide +kernel
theorem dX0_measure_10 : dec mX0_measure 10 = .ok (.putfield 96, 3) := by decide +kernel
theorem dX0_measure_13 : dec mX0_measure 13 = .ok (.aload_n 0, 1) := by decide +kernel
theorem dX0_measure_14 : dec mX0_measure 14 = .ok (.aload_n 0, 1) := by decide +kernel
theorem dX0_measure_15 : dec mX0_measure 15 = .ok (.getfield 12, 3) := by decide +kernel
theorem dX0_measure_18 : dec mX0_measure 18 = .ok (.getfield 47, 3) := by decide +kernel
theorem dX0_measure_21 : dec mX0_measure 21 = .ok (.iconst 1, 1) := by decide +kernel
theorem dX0_measure_22 : dec mX0_measure 22 = .ok (.iadd, 1) := by decide +kernel
theorem dX0_measure_23 : dec mX0_measure 23 = .ok (.aload_n 0, 1) := by decide +kernel
theorem dX0_measure_24 : dec mX0_measure 24 = .ok (.getfield 12, 3) := by decide +kernel
theorem dX0_measure_27 : dec mX0_measure 27 = .ok (.getfield 51, 3) := by decide +kernel
theorem dX0_measure_30 : dec mX0_measure 30 = .ok (.imul, 1) := by decide +kernel
theorem dX0_measure_31 : dec mX0_measure 31 = .ok (.putfield 99, 3) := by decide +kernel
theorem dX0_measure_34 : dec mX0_measure 34 = .ok (.aload_n 0, 1) := by decide +kernel
theorem dX0_measure_35 : dec mX0_measure 35 = .ok (.aload_n 0, 1) := by decide +kernel
theorem dX0_measure_36 : dec mX0_measure 36 = .ok (.getfield 96, 3) := by decide +kernel
theorem dX0_measure_39 : dec mX0_measure 39 = .ok (.aload_n 0, 1) := by decide +kernel
theorem dX0_measure_40 : dec mX0_measure 40 = .ok (.getfield 99, 3) := by decide +kernel
theorem dX0_measure_43 : dec mX0_measure 43 = .ok (.imul, 1) := by decide +kernel
theorem dX0_measure_44 : dec mX0_measure 44 = .ok (.putfield 102, 3) := by decide +kernel
theorem dX0_measure_47 : dec mX0_measure 47 = .ok (.aload_n 0, 1) := by decide +kernel
theorem dX0_measure_48 : dec mX0_measure 48 = .ok (.aload_n 0, 1) := by decide +kernel
theorem dX0_measure_49 : dec mX0_measure 49 = .ok (.getfield 102, 3) := by decide +kernel
theorem dX0_measure_52 : dec mX0_measure 52 = .ok (.iconst 2, 1) := by decide +kernel
theorem dX0_measure_53 : dec mX0_measure 53 = .ok (.idiv, 1) := by decide +kernel
theorem dX0_measure_54 : dec mX0_measure 54 = .ok (.putfield 75, 3) := by decide +kernel
theorem dX0_measure_57 : dec mX0_measure 57 = .ok (.iconst 0, 1) := by decide +kernel
theorem dX0_measure_58 : dec mX0_measure 58 = .ok (.istore_n 1, 1) := by decide +kernel
theorem dX0_measure_59 : dec mX0_measure 59 = .ok (.iconst 0, 1) := by decide +kernel
theorem dX0_measure_60 : dec mX0_measure 60 = .ok (.istore_n 2, 1) := by decide +kernel
theorem dX0_measure_61 : dec mX0_measure 61 = .ok (.iload_n 2, 1) := by decide +kernel
theorem dX0_measure_62 : dec mX0_measure 62 = .ok (.aload_n 0, 1) := by decide +kernel
theorem dX0_measure_63 : dec mX0_measure 63 = .ok (.getfield 12, 3) := by decide +kernel
theorem dX0_measure_66 : dec mX0_measure 66 = .ok (.getfield 51, 3) := by decide +kernel
theorem dX0_measure_69 : dec mX0_measure 69 = .ok (.if_icmp .ge 98, 3) := by decide +kernel
theorem dX0_measure_72 : dec mX0_measure 72 = .ok (.iconst 0, 1) := by decide +kernel
theorem dX0_measure_73 : dec mX0_measure 73 = .ok (.istore_n 3, 1) := by decide +kernel
theorem dX0_measure_74 : dec mX0_measure 74 = .ok (.iload_n 3, 1) := by decide +kernel
theorem dX0_measure_75 : dec mX0_measure 75 = .ok (.aload_n 0, 1) := by decide +kernel
theorem dX0_measure_76 : dec mX0_measure 76 = .ok (.getfield 12, 3) := by decide +kernel
theorem dX0_measure_79 : dec mX0_measure 79 = .ok (.getfield 47, 3) := by decide +kernel
theorem dX0_measure_82 : dec mX0_measure 82 = .ok (.if_icmp .gt 79, 3) := by decide +kernel
theorem dX0_measure_85 : dec mX0_measure 85 = .ok (.iload_n 3, 1) := by decide +kernel
theorem dX0_measure_86 : dec mX0_measure 86 = .ok (.istore 4, 2) := by decide +kernel
theorem dX0_measure_88 : dec mX0_measure 88 = .ok (.iload 4, 2) := by decide +kernel
theorem dX0_measure_90 : dec mX0_measure 90 = .ok (.aload_n 0, 1) := by decide +kernel
theorem dX0_measure_91 : dec mX0_measure 91 = .ok (.getfield 12, 3) := by decide +kernel
theorem dX0_measure_94 : dec mX0_measure 94 = .ok (.getfield 47, 3) := by decide +kernel
theorem dX0_measure_97 : dec mX0_measure 97 = .ok (.if_icmp .gt 58, 3) := by decide +kernel
theorem dX0_measure_100 : dec mX0_measure 100 = .ok (.aload_n 0, 1) := by decide +kernel
theorem dX0_measure_101 : dec mX0_measure 101 = .ok (.getfield 18, 3) := by decide +kernel
theorem dX0_measure_104 : dec mX0_measure 104 = .ok (.iload_n 1, 1) := by decide +kernel
theorem dX0_measure_105 : dec mX0_measure 105 = .ok (.iload_n 3, 1) := by decide +kernel
theorem dX0_measure_106 : dec mX0_measure 106 = .ok (.invokestatic 85, 3) := by decide +kernel
theorem dX0_measure_109 : dec mX0_measure 109 = .ok (.aload_n 0, 1) := by decide +kernel
theorem dX0_measure_110 : dec mX0_measure 110 = .ok (.getfield 22, 3) := by decide +kernel
theorem dX0_measure_113 : dec mX0_measure 113 = .ok (.iload_n 1, 1) := by decide +kernel
theorem dX0_measure_114 : dec mX0_measure 114 = .ok (.iload 4, 2) := by decide +kernel
theorem dX0_measure_116 : dec mX0_measure 116 = .ok (.invokestatic 85, 3) := by decide +kernel
theorem dX0_measure_119 : dec mX0_measure 119 = .ok (.aload_n 0, 1) := by decide +kernel
theorem dX0_measure_120 : dec mX0_measure 120 = .ok (.getfield 25, 3) := by decide +kernel
theorem dX0_measure_123 : dec mX0_measure 123 = .ok (.iload_n 1, 1) := by decide +kernel
theorem dX0_measure_124 : dec mX0_measure 124 = .ok (.aload_n 0, 1) := by decide +kernel
theorem dX0_measure_125 : dec mX0_measure 125 = .ok (.iload_n 3, 1) := by decide +kernel
theorem dX0_measure_126 : dec mX0_measure 126 = .ok (.invokevirtual 105, 3) := by decide +kernel
theorem dX0_measure_129 : dec mX0_measure 129 = .ok (.invokestatic 85, 3) := by decide +kernel
theorem dX0_measure_132 : dec mX0_measure 132 = .ok (.aload_n 0, 1) := by decide +kernel
theorem dX0_measure_133 : dec mX0_measure 133 = .ok (.getfield 28, 3) := by decide +kernel
theorem dX0_measure_136 : dec mX0_measure 136 = .ok (.iload_n 1, 1) := by decide +kernel
theorem dX0_measure_137 : dec mX0_measure 137 = .ok (.aload_n 0, 1) := by decide +kernel
theorem dX0_measure_138 : dec mX0_measure 138 = .ok (.iload 4, 2) := by decide +kernel
theorem dX0_measure_140 : dec mX0_measure 140 = .ok (.invokevirtual 105, 3) := by decide +kernel
theorem dX0_measure_143 : dec mX0_measure 143 = .ok (.invokestatic 85, 3) := by decide +kernel
theorem dX0_measure_146 : dec mX0_measure 146 = .ok (.iinc 1 1, 3) := by decide +kernel
theorem dX0_measure_149 : dec mX0_measure 149 = .ok (.iinc 4 1, 3) := by decide +kernel
theorem dX0_measure_152 : dec mX0_measure 152 = .ok (.goto (-64), 3) := by decide +kernel
theorem dX0_measure_155 : dec mX0_measure 155 = .ok (.iinc 3 1, 3) := by decide +kernel
theorem dX0_measure_158 : dec mX0_measure 158 = .ok (.goto (-84), 3) := by decide +kernel
theorem dX0_measure_161 : dec mX0_measure 161 = .ok (.iinc 2 1, 3) := by decide +kernel
theorem dX0_measure_164 : dec mX0_measure 164 = .ok (.goto (-103), 3) := by decide +kernel
theorem dX0_measure_167 : dec mX0_measure 167 = .ok (.return_, 1) := by decide +kernel
theorem dX0_placeAtFirst_0 : dec mX0_placeAtFirst 0 = .ok (.aload_n 0, 1) := by decide +kernel
theorem dX0_placeAtFirst_1 : dec mX0_placeAtFirst 1 = .ok (.getfield 96, 3) := by decide +kernel
theorem dX0_placeAtFirst_4 : dec mX0_placeAtFirst 4 = .ok (.iconst 2, 1) := by decide +kernel
theorem dX0_placeAtFirst_5 : dec mX0_placeAtFirst 5 = .ok (.irem, 1) := by decide +kernel
theorem dX0_placeAtFirst_6 : dec mX0_placeAtFirst 6 = .ok (.ifCond .ne 36, 3) := by decide +kernel
theorem dX0_placeAtFirst_9 : dec mX0_placeAtFirst 9 = .ok (.aload_n 0, 1) := by decide +kernel
theorem dX0_placeAtFirst_10 : dec mX0_placeAtFirst 10 = .ok (.getfield 12, 3) := by decide +kernel
theorem dX0_placeAtFirst_13 : dec mX0_placeAtFirst 13 = .ok (.getfield 109, 3) := by decide +kernel
theorem dX0_placeAtFirst_16 : dec mX0_placeAtFirst 16 = .ok (.iload_n 1, 1) := by decide +kernel
theorem dX0_placeAtFirst_17 : dec mX0_placeAtFirst 17 = .ok (.iconst 2, 1) := by decide +kernel
theorem dX0_placeAtFirst_18 : dec mX0_placeAtFirst 18 = .ok (.iload_n 1, 1) := by decide +kernel
theorem dX0_placeAtFirst_19 : dec mX0_placeAtFirst 19 = .ok (.imul, 1) := by decide +kernel
theorem dX0_placeAtFirst_20 : dec mX0_placeAtFirst 20 = .ok (.invokestatic 85, 3) := by decide +kernel
theorem dX0_placeAtFirst_23 : dec mX0_placeAtFirst 23 = .ok (.aload_n 0, 1) := by decide +kernel
theorem dX0_placeAtFirst_24 : dec mX0_placeAtFirst 24 = .ok (.getfield 12, 3) := by decide +kernel
theorem dX0_placeAtFirst_27 : dec mX0_placeAtFirst 27 = .ok (.getfield 112, 3) := by decide +kernel
theorem dX0_placeAtFirst_30 : dec mX0_placeAtFirst 30 = .ok (.iload_n 1, 1) := by decide +kernel
theorem dX0_placeAtFirst_31 : dec mX0_placeAtFirst 31 = .ok (.iconst 2, 1) := by decide +kernel
theorem dX0_placeAtFirst_32 : dec mX0_placeAtFirst 32 = .ok (.iload_n 1, 1) := by decide +kernel
theorem dX0_placeAtFirst_33 : dec mX0_placeAtFirst 33 = .ok (.imul, 1) := by decide +kernel
theorem dX0_placeAtFirst_34 : dec mX0_placeAtFirst 34 = .ok (.iconst 1, 1) := by decide +kernel
theorem dX0_placeAtFirst_35 : dec mX0_placeAtFirst 35 = .ok (.iadd, 1) := by decide +kernel
theorem dX0_placeAtFirst_36 : dec mX0_placeAtFirst 36 = .ok (.invokestatic 85, 3) := by decide +kernel
theorem dX0_placeAtFirst_39 : dec mX0_placeAtFirst 39 = .ok (.goto 46, 3) := by decide +kernel
theorem dX0_placeAtFirst_42 : dec mX0_placeAtFirst 42 = .ok (.iload_n 1, 1) := by decide +kernel
theorem dX0_placeAtFirst_43 : dec mX0_placeAtFirst 43 = .ok (.iload_n 1, 1) := by decide +kernel
theorem dX0_placeAtFirst_44 : dec mX0_placeAtFirst 44 = .ok (.aload_n 0, 1) := by decide +kernel
theorem dX0_placeAtFirst_45 : dec mX0_placeAtFirst 45 = .ok (.getfield 96, 3) := by decide +kernel
theorem dX0_placeAtFirst_48 : dec mX0_placeAtFirst 48 = .ok (.idiv, 1) := by decide +kernel
theorem dX0_placeAtFirst_49 : dec mX0_placeAtFirst 49 = .ok (.aload_n 0, 1) := by decide +kernel
theorem dX0_placeAtFirst_50 : dec mX0_placeAtFirst 50 = .ok (.getfield 96, 3) := by decide +kernel
theorem dX0_placeAtFirst_53 : dec mX0_placeAtFirst 53 = .ok (.imul, 1) := by decide +kernel
theorem dX0_placeAtFirst_54 : dec mX0_placeAtFirst 54 = .ok (.iadd, 1) := by decide +kernel
theorem dX0_placeAtFirst_55 : dec mX0_placeAtFirst 55 = .ok (.istore_n 2, 1) := by decide +kernel
theorem dX0_placeAtFirst_56 : dec mX0_placeAtFirst 56 = .ok (.aload_n 0, 1) := by decide +kernel
theorem dX0_placeAtFirst_57 : dec mX0_placeAtFirst 57 = .ok (.getfield 12, 3) := by decide +kernel
theorem dX0_placeAtFirst_60 : dec mX0_placeAtFirst 60 = .ok (.getfield 109, 3) := by decide +kernel
theorem dX0_placeAtFirst_63 : dec mX0_placeAtFirst 63 = .ok (.iload_n 1, 1) := by decide +kernel
theorem dX0_placeAtFirst_64 : dec mX0_placeAtFirst 64 = .ok (.iload_n 2, 1) := by decide +kernel
theorem dX0_placeAtFirst_65 : dec mX0_placeAtFirst 65 = .ok (.invokestatic 85, 3) := by decide +kernel
theorem dX0_placeAtFirst_68 : dec mX0_placeAtFirst 68 = .ok (.aload_n 0, 1) := by decide +kernel
theorem dX0_placeAtFirst_69 : dec mX0_placeAtFirst 69 = .ok (.getfield 12, 3) := by decide +kernel
theorem dX0_placeAtFirst_72 : dec mX0_placeAtFirst 72 = .ok (.getfield 112, 3) := by decide +kernel
theorem dX0_placeAtFirst_75 : dec mX0_placeAtFirst 75 = .ok (.iload_n 1, 1) := by decide +kernel
theorem dX0_placeAtFirst_76 : dec mX0_placeAtFirst 76 = .ok (.iload_n 2, 1) := by decide +kernel
theorem dX0_placeAtFirst_77 : dec mX0_placeAtFirst 77 = .ok (.aload_n 0, 1) := by decide +kernel
theorem dX0_placeAtFirst_78 : dec mX0_placeAtFirst 78 = .ok (.getfield 96, 3) := by decide +kernel
theorem dX0_placeAtFirst_81 : dec mX0_placeAtFirst 81 = .ok (.iadd, 1) := by decide +kernel
theorem dX0_placeAtFirst_82 : dec mX0_placeAtFirst 82 = .ok (.invokestatic 85, 3) := by decide +kernel
theorem dX0_placeAtFirst_85 : dec mX0_placeAtFirst 85 = .ok (.return_, 1) := by decide +kernel
theorem dX0_markPlaces_0 : dec mX0_markPlaces 0 = .ok (.iconst 0, 1) := by decide +kernel
theorem dX0_markPlaces_1 : dec mX0_markPlaces 1 = .ok (.istore_n 1, 1) := by decide +kernel
theorem dX0_markPlaces_2 : dec mX0_markPlaces 2 = .ok (.iload_n 1, 1) := by decide +kernel
theorem dX0_markPlaces_3 : dec mX0_markPlaces 3 = .ok (.aload_n 0, 1) := by decide +kernel
theorem dX0_markPlaces_4 : dec mX0_markPlaces 4 = .ok (.getfield 75, 3) := by decide +kernel
theorem dX0_markPlaces_7 : dec mX0_markPlaces 7 = .ok (.if_icmp .ge 47, 3) := by decide +kernel
theorem dX0_markPlaces_10 : dec mX0_markPlaces 10 = .ok (.aload_n 0, 1) := by decide +kernel
theorem dX0_markPlaces_11 : dec mX0_markPlaces 11 = .ok (.getfield 31, 3) := by decide +kernel
theorem dX0_markPlaces_14 : dec mX0_markPlaces 14 = .ok (.aload_n 0, 1) := by decide +kernel
theorem dX0_markPlaces_15 : dec mX0_markPlaces 15 = .ok (.getfield 12, 3) := by decide +kernel
theorem dX0_markPlaces_18 : dec mX0_markPlaces 18 = .ok (.getfield 109, 3) := by decide +kernel
theorem dX0_markPlaces_21 : dec mX0_markPlaces 21 = .ok (.iload_n 1, 1) := by decide +kernel
theorem dX0_markPlaces_22 : dec mX0_markPlaces 22 = .ok (.invokestatic 115, 3) := by decide +kernel
theorem dX0_markPlaces_25 : dec mX0_markPlaces 25 = .ok (.iload_n 1, 1) := by decide +kernel
theorem dX0_markPlaces_26 : dec mX0_markPlaces 26 = .ok (.invokestatic 85, 3) := by decide +kernel
theorem dX0_markPlaces_29 : dec mX0_markPlaces 29 = .ok (.aload_n 0, 1) := by decide +kernel
theorem dX0_markPlaces_30 : dec mX0_markPlaces 30 = .ok (.getfield 31, 3) := by decide +kernel
theorem dX0_markPlaces_33 : dec mX0_markPlaces 33 = .ok (.aload_n 0, 1) := by decide +kernel
theorem dX0_markPlaces_34 : dec mX0_markPlaces 34 = .ok (.getfield 12, 3) := by decide +kernel
theorem dX0_markPlaces_37 : dec mX0_markPlaces 37 = .ok (.getfield 112, 3) := by decide +kernel
theorem dX0_markPlaces_40 : dec mX0_markPlaces 40 = .ok (.iload_n 1, 1) := by decide +kernel
theorem dX0_markPlaces_41 : dec mX0_markPlaces 41 = .ok (.invokestatic 115, 3) := by decide +kernel
theorem dX0_markPlaces_44 : dec mX0_markPlaces 44 = .ok (.iload_n 1, 1) := by decide +kernel
theorem dX0_markPlaces_45 : dec mX0_markPlaces 45 = .ok (.invokestatic 85, 3) := by decide +kernel
theorem dX0_markPlaces_48 : dec mX0_markPlaces 48 = .ok (.iinc 1 1, 3) := by decide +kernel
theorem dX0_markPlaces_51 : dec mX0_markPlaces 51 = .ok (.goto (-49), 3) := by decide +kernel
theorem dX0_markPlaces_54 : dec mX0_markPlaces 54 = .ok (.return_, 1) := by decide +kernel
theorem dX0_hasSquare_0 : dec mX0_hasSquare 0 = .ok (.iload_n 1, 1) := by decide +kernel
theorem dX0_hasSquare_1 : dec mX0_hasSquare 1 = .ok (.ifCond .lt 27, 3) := by decide +kernel
theorem dX0_hasSquare_4 : dec mX0_hasSquare 4 = .ok (.iload_n 1, 1) := by decide +kernel
theorem dX0_hasSquare_5 : dec mX0_hasSquare 5 = .ok (.aload_n 0, 1) := by decide +kernel
theorem dX0_hasSquare_6 : dec mX0_hasSquare 6 = .ok (.getfield 96, 3) := by decide +kernel
theorem dX0_hasSquare_9 : dec mX0_hasSquare 9 = .ok (.if_icmp .ge 19, 3) := by decide +kernel
theorem dX0_hasSquare_12 : dec mX0_hasSquare 12 = .ok (.iload_n 2, 1) := by decide +kernel
theorem dX0_hasSquare_13 : dec mX0_hasSquare 13 = .ok (.ifCond .lt 15, 3) := by decide +kernel
theorem dX0_hasSquare_16 : dec mX0_hasSquare 16 = .ok (.iload_n 2, 1) := by decide +kernel
theorem dX0_hasSquare_17 : dec mX0_hasSquare 17 = .ok (.aload_n 0, 1) := by decide +kernel
theorem dX0_hasSquare_18 : dec mX0_hasSquare 18 = .ok (.getfield 99, 3) := by decide +kernel
theorem dX0_hasSquare_21 : dec mX0_hasSquare 21 = .ok (.if_icmp .ge 7, 3) := by decide +kernel
theorem dX0_hasSquare_24 : dec mX0_hasSquare 24 = .ok (.iconst 1, 1) := by decide +kernel
theorem dX0_hasSquare_25 : dec mX0_hasSquare 25 = .ok (.goto 4, 3) := by decide +kernel
theorem dX0_hasSquare_28 : dec mX0_hasSquare 28 = .ok (.iconst 0, 1) := by decide +kernel
theorem dX0_hasSquare_29 : dec mX0_hasSquare 29 = .ok (.ireturn, 1) := by decide +kernel
theorem dX0_squareAt_0 : dec mX0_squareAt 0 = .ok (.iload_n 2, 1) := by decide +kernel
theorem dX0_squareAt_1 : dec mX0_squareAt 1 = .ok (.aload_n 0, 1) := by decide +kernel
theorem dX0_squareAt_2 : dec mX0_squareAt 2 = .ok (.getfield 96, 3) := by decide +kernel
theorem dX0_squareAt_5 : dec mX0_squareAt 5 = .ok (.imul, 1) := by decide +kernel
theorem dX0_squareAt_6 : dec mX0_squareAt 6 = .ok (.iload_n 1, 1) := by decide +kernel
theorem dX0_squareAt_7 : dec mX0_squareAt 7 = .ok (.iadd, 1) := by decide +kernel
theorem dX0_squareAt_8 : dec mX0_squareAt 8 = .ok (.ireturn, 1) := by decide +kernel
theorem dX0_hasPlace_0 : dec mX0_hasPlace 0 = .ok (.iload_n 1, 1) := by decide +kernel
theorem dX0_hasPlace_1 : dec mX0_hasPlace 1 = .ok (.ifCond .lt 15, 3) := by decide +kernel
theorem dX0_hasPlace_4 : dec mX0_hasPlace 4 = .ok (.iload_n 1, 1) := by decide +kernel
theorem dX0_hasPlace_5 : dec mX0_hasPlace 5 = .ok (.aload_n 0, 1) := by decide +kernel
theorem dX0_hasPlace_6 : dec mX0_hasPlace 6 = .ok (.getfield 75, 3) := by decide +kernel
theorem dX0_hasPlace_9 : dec mX0_hasPlace 9 = .ok (.if_icmp .ge 7, 3) := by decide +kernel
theorem dX0_hasPlace_12 : dec mX0_hasPlace 12 = .ok (.iconst 1, 1) := by decide +kernel
theorem dX0_hasPlace_13 : dec mX0_hasPlace 13 = .ok (.goto 4, 3) := by decide +kernel
theorem dX0_hasPlace_16 : dec mX0_hasPlace 16 = .ok (.iconst 0, 1) := by decide +kernel
theorem dX0_hasPlace_17 : dec mX0_hasPlace 17 = .ok (.ireturn, 1) := by decide +kernel
theorem dX0_hasTile_0 : dec mX0_hasTile 0 = .ok (.iload_n 1, 1) := by decide +kernel
theorem dX0_hasTile_1 : dec mX0_hasTile 1 = .ok (.ifCond .lt 15, 3) := by decide +kernel
theorem dX0_hasTile_4 : dec mX0_hasTile 4 = .ok (.iload_n 1, 1) := by decide +kernel
theorem dX0_hasTile_5 : dec mX0_hasTile 5 = .ok (.aload_n 0, 1) := by decide +kernel
theorem dX0_hasTile_6 : dec mX0_hasTile 6 = .ok (.getfield 75, 3) := by decide +kernel
theorem dX0_hasTile_9 : dec mX0_hasTile 9 = .ok (.if_icmp .ge 7, 3) := by decide +kernel
theorem dX0_hasTile_12 : dec mX0_hasTile 12 = .ok (.iconst 1, 1) := by decide +kernel
theorem dX0_hasTile_13 : dec mX0_hasTile 13 = .ok (.goto 4, 3) := by decide +kernel
theorem dX0_hasTile_16 : dec mX0_hasTile 16 = .ok (.iconst 0, 1) := by decide +kernel
theorem dX0_hasTile_17 : dec mX0_hasTile 17 = .ok (.ireturn, 1) := by decide +kernel
theorem dX0_isHeld_0 : dec mX0_isHeld 0 = .ok (.aload_n 0, 1) := by decide +kernel
theorem dX0_isHeld_1 : dec mX0_isHeld 1 = .ok (.getfield 12, 3) := by decide +kernel
theorem dX0_isHeld_4 : dec mX0_isHeld 4 = .ok (.getfield 69, 3) := by decide +kernel
theorem dX0_isHeld_7 : dec mX0_isHeld 7 = .ok (.iload_n 1, 1) := by decide +kernel
theorem dX0_isHeld_8 : dec mX0_isHeld 8 = .ok (.invokestatic 115, 3) := by decide +kernel
theorem dX0_isHeld_11 : dec mX0_isHeld 11 = .ok (.ifCond .eq 7, 3) := by decide +kernel
theorem dX0_isHeld_14 : dec mX0_isHeld 14 = .ok (.iconst 1, 1) := by decide +kernel
theorem dX0_isHeld_15 : dec mX0_isHeld 15 = .ok (.goto 4, 3) := by decide +kernel
theorem dX0_isHeld_18 : dec mX0_isHeld 18 = .ok (.iconst 0, 1) := by decide +kernel
theorem dX0_isHeld_19 : dec mX0_isHeld 19 = .ok (.ireturn, 1) := by decide +kernel
theorem dX0_isAlongRow_0 : dec mX0_isAlongRow 0 = .ok (.aload_n 0, 1) := by decide +kernel
theorem dX0_isAlongRow_1 : dec mX0_isAlongRow 1 = .ok (.getfield 12, 3) := by decide +kernel
theorem dX0_isAlongRow_4 : dec mX0_isAlongRow 4 = .ok (.getfield 112, 3) := by decide +kernel
theorem dX0_isAlongRow_7 : dec mX0_isAlongRow 7 = .ok (.iload_n 1, 1) := by decide +kernel
theorem dX0_isAlongRow_8 : dec mX0_isAlongRow 8 = .ok (.invokestatic 115, 3) := by decide +kernel
theorem dX0_isAlongRow_11 : dec mX0_isAlongRow 11 = .ok (.aload_n 0, 1) := by decide +kernel
theorem dX0_isAlongRow_12 : dec mX0_isAlongRow 12 = .ok (.getfield 12, 3) := by decide +kernel
theorem dX0_isAlongRow_15 : dec mX0_isAlongRow 15 = .ok (.getfield 109, 3) := by decide +kernel
theorem dX0_isAlongRow_18 : dec mX0_isAlongRow 18 = .ok (.iload_n 1, 1) := by decide +kernel
theorem dX0_isAlongRow_19 : dec mX0_isAlongRow 19 = .ok (.invokestatic 115, 3) := by decide +kernel
theorem dX0_isAlongRow_22 : dec mX0_isAlongRow 22 = .ok (.iconst 1, 1) := by decide +kernel
theorem dX0_isAlongRow_23 : dec mX0_isAlongRow 23 = .ok (.iadd, 1) := by decide +kernel
theorem dX0_isAlongRow_24 : dec mX0_isAlongRow 24 = .ok (.if_icmp .ne 7, 3) := by decide +kernel
theorem dX0_isAlongRow_27 : dec mX0_isAlongRow 27 = .ok (.iconst 1, 1) := by decide +kernel
theorem dX0_isAlongRow_28 : dec mX0_isAlongRow 28 = .ok (.goto 4, 3) := by decide +kernel
theorem dX0_isAlongRow_31 : dec mX0_isAlongRow 31 = .ok (.iconst 0, 1) := by decide +kernel
theorem dX0_isAlongRow_32 : dec mX0_isAlongRow 32 = .ok (.ireturn, 1) := by decide +kernel
theorem dX0_placesAlongRows_0 : dec mX0_placesAlongRows 0 = .ok (.iconst 0, 1) := by decide +kernel
theorem dX0_placesAlongRows_1 : dec mX0_placesAlongRows 1 = .ok (.istore_n 1, 1) := by decide +kernel
theorem dX0_placesAlongRows_2 : dec mX0_placesAlongRows 2 = .ok (.iconst 0, 1) := by decide +kernel
theorem dX0_placesAlongRows_3 : dec mX0_placesAlongRows 3 = .ok (.istore_n 2, 1) := by decide +kernel
theorem dX0_placesAlongRows_4 : dec mX0_placesAlongRows 4 = .ok (.iload_n 2, 1) := by decide +kernel
theorem dX0_placesAlongRows_5 : dec mX0_placesAlongRows 5 = .ok (.aload_n 0, 1) := by decide +kernel
theorem dX0_placesAlongRows_6 : dec mX0_placesAlongRows 6 = .ok (.getfield 75, 3) := by decide +kernel
theorem dX0_placesAlongRows_9 : dec mX0_placesAlongRows 9 = .ok (.if_icmp .ge 25, 3) := by decide +kernel
theorem dX0_placesAlongRows_12 : dec mX0_placesAlongRows 12 = .ok (.iload_n 1, 1) := by decide +kernel
theorem dX0_placesAlongRows_13 : dec mX0_placesAlongRows 13 = .ok (.aload_n 0, 1) := by decide +kernel
theorem dX0_placesAlongRows_14 : dec mX0_placesAlongRows 14 = .ok (.iload_n 2, 1) := by decide +kernel
theorem dX0_placesAlongRows_15 : dec mX0_placesAlongRows 15 = .ok (.invokevirtual 119, 3) := by decide +kernel
theorem dX0_placesAlongRows_18 : dec mX0_placesAlongRows 18 = .ok (.ifCond .eq 7, 3) := by decide +kernel
theorem dX0_placesAlongRows_21 : dec mX0_placesAlongRows 21 = .ok (.iconst 1, 1) := by decide +kernel
theorem dX0_placesAlongRows_22 : dec mX0_placesAlongRows 22 = .ok (.goto 4, 3) := by decide +kernel
theorem dX0_placesAlongRows_25 : dec mX0_placesAlongRows 25 = .ok (.iconst 0, 1) := by decide +kernel
theorem dX0_placesAlongRows_26 : dec mX0_placesAlongRows 26 = .ok (.iadd, 1) := by decide +kernel
theorem dX0_placesAlongRows_27 : dec mX0_placesAlongRows 27 = .ok (.istore_n 1, 1) := by decide +kernel
theorem dX0_placesAlongRows_28 : dec mX0_placesAlongRows 28 = .ok (.iinc 2 1, 3) := by decide +kernel
theorem dX0_placesAlongRows_31 : dec mX0_placesAlongRows 31 = .ok (.goto (-27), 3) := by decide +kernel
theorem dX0_placesAlongRows_34 : dec mX0_placesAlongRows 34 = .ok (.iload_n 1, 1) := by decide +kernel
theorem dX0_placesAlongRows_35 : dec mX0_placesAlongRows 35 = .ok (.ireturn, 1) := by decide +kernel
theorem dX0_marked_0 : dec mX0_marked 0 = .ok (.iconst 0, 1) := by decide +kernel
theorem dX0_marked_1 : dec mX0_marked 1 = .ok (.istore_n 2, 1) := by decide +kernel
theorem dX0_marked_2 : dec mX0_marked 2 = .ok (.iconst 0, 1) := by decide +kernel
theorem dX0_marked_3 : dec mX0_marked 3 = .ok (.istore_n 3, 1) := by decide +kernel
theorem dX0_marked_4 : dec mX0_marked 4 = .ok (.iload_n 3, 1) := by decide +kernel
theorem dX0_marked_5 : dec mX0_marked 5 = .ok (.aload_n 0, 1) := by decide +kernel
theorem dX0_marked_6 : dec mX0_marked 6 = .ok (.getfield 75, 3) := by decide +kernel
theorem dX0_marked_9 : dec mX0_marked 9 = .ok (.if_icmp .ge 17, 3) := by decide +kernel
theorem dX0_marked_12 : dec mX0_marked 12 = .ok (.iload_n 2, 1) := by decide +kernel
theorem dX0_marked_13 : dec mX0_marked 13 = .ok (.aload_n 1, 1) := by decide +kernel
theorem dX0_marked_14 : dec mX0_marked 14 = .ok (.iload_n 3, 1) := by decide +kernel
theorem dX0_marked_15 : dec mX0_marked 15 = .ok (.invokestatic 115, 3) := by decide +kernel
theorem dX0_marked_18 : dec mX0_marked 18 = .ok (.iadd, 1) := by decide +kernel
theorem dX0_marked_19 : dec mX0_marked 19 = .ok (.istore_n 2, 1) := by decide +kernel
theorem dX0_marked_20 : dec mX0_marked 20 = .ok (.iinc 3 1, 3) := by decide +kernel
theorem dX0_marked_23 : dec mX0_marked 23 = .ok (.goto (-19), 3) := by decide +kernel
theorem dX0_marked_26 : dec mX0_marked 26 = .ok (.iload_n 2, 1) := by decide +kernel
theorem dX0_marked_27 : dec mX0_marked 27 = .ok (.ireturn, 1) := by decide +kernel
theorem dX0_placeWith_0 : dec mX0_placeWith 0 = .ok (.iconst 0, 1) := by decide +kernel
theorem dX0_placeWith_1 : dec mX0_placeWith 1 = .ok (.istore_n 2, 1) := by decide +kernel
theorem dX0_placeWith_2 : dec mX0_placeWith 2 = .ok (.iload_n 2, 1) := by decide +kernel
theorem dX0_placeWith_3 : dec mX0_placeWith 3 = .ok (.aload_n 0, 1) := by decide +kernel
theorem dX0_placeWith_4 : dec mX0_placeWith 4 = .ok (.getfield 75, 3) := by decide +kernel
theorem dX0_placeWith_7 : dec mX0_placeWith 7 = .ok (.if_icmp .ge 26, 3) := by decide +kernel
theorem dX0_placeWith_10 : dec mX0_placeWith 10 = .ok (.aload_n 0, 1) := by decide +kernel
theorem dX0_placeWith_11 : dec mX0_placeWith 11 = .ok (.getfield 12, 3) := by decide +kernel
theorem dX0_placeWith_14 : dec mX0_placeWith 14 = .ok (.getfield 82, 3) := by decide +kernel
theorem dX0_placeWith_17 : dec mX0_placeWith 17 = .ok (.iload_n 2, 1) := by decide +kernel
theorem dX0_placeWith_18 : dec mX0_placeWith 18 = .ok (.invokestatic 115, 3) := by decide +kernel
theorem dX0_placeWith_21 : dec mX0_placeWith 21 = .ok (.iload_n 1, 1) := by decide +kernel
theorem dX0_placeWith_22 : dec mX0_placeWith 22 = .ok (.if_icmp .ne 5, 3) := by decide +kernel
theorem dX0_placeWith_25 : dec mX0_placeWith 25 = .ok (.iload_n 2, 1) := by decide +kernel
theorem dX0_placeWith_26 : dec mX0_placeWith 26 = .ok (.ireturn, 1) := by decide +kernel
theorem dX0_placeWith_27 : dec mX0_placeWith 27 = .ok (.iinc 2 1, 3) := by decide +kernel
theorem dX0_placeWith_30 : dec mX0_placeWith 30 = .ok (.goto (-28), 3) := by decide +kernel
theorem dX0_placeWith_33 : dec mX0_placeWith 33 = .ok (.iconst (-1), 1) := by decide +kernel
theorem dX0_placeWith_34 : dec mX0_placeWith 34 = .ok (.ireturn, 1) := by decide +kernel
theorem dX0_pipsOn_0 : dec mX0_pipsOn 0 = .ok (.aload_n 0, 1) := by decide +kernel
theorem dX0_pipsOn_1 : dec mX0_pipsOn 1 = .ok (.getfield 31, 3) := by decide +kernel
theorem dX0_pipsOn_4 : dec mX0_pipsOn 4 = .ok (.iload_n 1, 1) := by decide +kernel
theorem dX0_pipsOn_5 : dec mX0_pipsOn 5 = .ok (.invokestatic 115, 3) := by decide +kernel
theorem dX0_pipsOn_8 : dec mX0_pipsOn 8 = .ok (.istore_n 2, 1) := by decide +kernel
theorem dX0_pipsOn_9 : dec mX0_pipsOn 9 = .ok (.aload_n 0, 1) := by decide +kernel
theorem dX0_pipsOn_10 : dec mX0_pipsOn 10 = .ok (.getfield 12, 3) := by decide +kernel
theorem dX0_pipsOn_13 : dec mX0_pipsOn 13 = .ok (.getfield 82, 3) := by decide +kernel
theorem dX0_pipsOn_16 : dec mX0_pipsOn 16 = .ok (.iload_n 2, 1) := by decide +kernel
theorem dX0_pipsOn_17 : dec mX0_pipsOn 17 = .ok (.invokestatic 115, 3) := by decide +kernel
theorem dX0_pipsOn_20 : dec mX0_pipsOn 20 = .ok (.istore_n 3, 1) := by decide +kernel
theorem dX0_pipsOn_21 : dec mX0_pipsOn 21 = .ok (.aload_n 0, 1) := by decide +kernel
theorem dX0_pipsOn_22 : dec mX0_pipsOn 22 = .ok (.getfield 12, 3) := by decide +kernel
theorem dX0_pipsOn_25 : dec mX0_pipsOn 25 = .ok (.getfield 109, 3) := by decide +kernel
theorem dX0_pipsOn_28 : dec mX0_pipsOn 28 = .ok (.iload_n 2, 1) := by decide +kernel
theorem dX0_pipsOn_29 : dec mX0_pipsOn 29 = .ok (.invokestatic 115, 3) := by decide +kernel
theorem dX0_pipsOn_32 : dec mX0_pipsOn 32 = .ok (.iload_n 1, 1) := by decide +kernel
theorem dX0_pipsOn_33 : dec mX0_pipsOn 33 = .ok (.if_icmp .ne 7, 3) := by decide +kernel
theorem dX0_pipsOn_36 : dec mX0_pipsOn 36 = .ok (.iconst 1, 1) := by decide +kernel
theorem dX0_pipsOn_37 : dec mX0_pipsOn 37 = .ok (.goto 4, 3) := by decide +kernel
theorem dX0_pipsOn_40 : dec mX0_pipsOn 40 = .ok (.iconst 0, 1) := by decide +kernel
theorem dX0_pipsOn_41 : dec mX0_pipsOn 41 = .ok (.istore 4, 2) := by decide +kernel
theorem dX0_pipsOn_43 : dec mX0_pipsOn 43 = .ok (.aload_n 0, 1) := by decide +kernel
theorem dX0_pipsOn_44 : dec mX0_pipsOn 44 = .ok (.getfield 12, 3) := by decide +kernel
theorem dX0_pipsOn_47 : dec mX0_pipsOn 47 = .ok (.getfield 66, 3) := by decide +kernel
theorem dX0_pipsOn_50 : dec mX0_pipsOn 50 = .ok (.iload_n 2, 1) := by decide +kernel
theorem dX0_pipsOn_51 : dec mX0_pipsOn 51 = .ok (.invokestatic 115, 3) := by decide +kernel
theorem dX0_pipsOn_54 : dec mX0_pipsOn 54 = .ok (.ifCond .eq 7, 3) := by decide +kernel
theorem dX0_pipsOn_57 : dec mX0_pipsOn 57 = .ok (.iconst 1, 1) := by decide +kernel
theorem dX0_pipsOn_58 : dec mX0_pipsOn 58 = .ok (.goto 4, 3) := by decide +kernel
theorem dX0_pipsOn_61 : dec mX0_pipsOn 61 = .ok (.iconst 0, 1) := by decide +kernel
theorem dX0_pipsOn_62 : dec mX0_pipsOn 62 = .ok (.istore 5, 2) := by decide +kernel
theorem dX0_pipsOn_64 : dec mX0_pipsOn 64 = .ok (.iload 4, 2) := by decide +kernel
theorem dX0_pipsOn_66 : dec mX0_pipsOn 66 = .ok (.iload 5, 2) := by decide +kernel
theorem dX0_pipsOn_68 : dec mX0_pipsOn 68 = .ok (.if_icmp .ne 14, 3) := by decide +kernel
theorem dX0_pipsOn_71 : dec mX0_pipsOn 71 = .ok (.aload_n 0, 1) := by decide +kernel
theorem dX0_pipsOn_72 : dec mX0_pipsOn 72 = .ok (.getfield 22, 3) := by decide +kernel
theorem dX0_pipsOn_75 : dec mX0_pipsOn 75 = .ok (.iload_n 3, 1) := by decide +kernel
theorem dX0_pipsOn_76 : dec mX0_pipsOn 76 = .ok (.invokestatic 115, 3) := by decide +kernel
theorem dX0_pipsOn_79 : dec mX0_pipsOn 79 = .ok (.goto 11, 3) := by decide +kernel
theorem dX0_pipsOn_82 : dec mX0_pipsOn 82 = .ok (.aload_n 0, 1) := by decide +kernel
theorem dX0_pipsOn_83 : dec mX0_pipsOn 83 = .ok (.getfield 18, 3) := by decide +kernel
theorem dX0_pipsOn_86 : dec mX0_pipsOn 86 = .ok (.iload_n 3, 1) := by decide +kernel
theorem dX0_pipsOn_87 : dec mX0_pipsOn 87 = .ok (.invokestatic 115, 3) := by decide +kernel
theorem dX0_pipsOn_90 : dec mX0_pipsOn 90 = .ok (.ireturn, 1) := by decide +kernel
theorem dX0_shade_0 : dec mX0_shade 0 = .ok (.aload_n 0, 1) := by decide +kernel
theorem dX0_shade_1 : dec mX0_shade 1 = .ok (.getfield 12, 3) := by decide +kernel
theorem dX0_shade_4 : dec mX0_shade 4 = .ok (.getfield 47, 3) := by decide +kernel
theorem dX0_shade_7 : dec mX0_shade 7 = .ok (.ifCond .le 18, 3) := by decide +kernel
theorem dX0_shade_10 : dec mX0_shade 10 = .ok (.bipush 99, 2) := by decide +kernel
theorem dX0_shade_12 : dec mX0_shade 12 = .ok (.iload_n 1, 1) := by decide +kernel
theorem dX0_shade_13 : dec mX0_shade 13 = .ok (.imul, 1) := by decide +kernel
theorem dX0_shade_14 : dec mX0_shade 14 = .ok (.aload_n 0, 1) := by decide +kernel
theorem dX0_shade_15 : dec mX0_shade 15 = .ok (.getfield 12, 3) := by decide +kernel
theorem dX0_shade_18 : dec mX0_shade 18 = .ok (.getfield 47, 3) := by decide +kernel
theorem dX0_shade_21 : dec mX0_shade 21 = .ok (.idiv, 1) := by decide +kernel
theorem dX0_shade_22 : dec mX0_shade 22 = .ok (.goto 4, 3) := by decide +kernel
theorem dX0_shade_25 : dec mX0_shade 25 = .ok (.iconst 0, 1) := by decide +kernel
theorem dX0_shade_26 : dec mX0_shade 26 = .ok (.ireturn, 1) := by decide +kernel
theorem dX0_miss_0 : dec mX0_miss 0 = .ok (.iload_n 0, 1) := by decide +kernel
theorem dX0_miss_1 : dec mX0_miss 1 = .ok (.iload_n 1, 1) := by decide +kernel
theorem dX0_miss_2 : dec mX0_miss 2 = .ok (.isub, 1) := by decide +kernel
theorem dX0_miss_3 : dec mX0_miss 3 = .ok (.iload_n 0, 1) := by decide +kernel
theorem dX0_miss_4 : dec mX0_miss 4 = .ok (.iload_n 1, 1) := by decide +kernel
theorem dX0_miss_5 : dec mX0_miss 5 = .ok (.isub, 1) := by decide +kernel
theorem dX0_miss_6 : dec mX0_miss 6 = .ok (.imul, 1) := by decide +kernel
theorem dX0_miss_7 : dec mX0_miss 7 = .ok (.ireturn, 1) := by decide +kernel
theorem dX0_both_0 : dec mX0_both 0 = .ok (.iload_n 0, 1) := by decide +kernel
theorem dX0_both_1 : dec mX0_both 1 = .ok (.iload_n 2, 1) := by decide +kernel
theorem dX0_both_2 : dec mX0_both 2 = .ok (.isub, 1) := by decide +kernel
theorem dX0_both_3 : dec mX0_both 3 = .ok (.iload_n 0, 1) := by decide +kernel
theorem dX0_both_4 : dec mX0_both 4 = .ok (.iload_n 2, 1) := by decide +kernel
theorem dX0_both_5 : dec mX0_both 5 = .ok (.isub, 1) := by decide +kernel
theorem dX0_both_6 : dec mX0_both 6 = .ok (.imul, 1) := by decide +kernel
theorem dX0_both_7 : dec mX0_both 7 = .ok (.iload_n 1, 1) := by decide +kernel
theorem dX0_both_8 : dec mX0_both 8 = .ok (.iload_n 3, 1) := by decide +kernel
theorem dX0_both_9 : dec mX0_both 9 = .ok (.isub, 1) := by decide +kernel
theorem dX0_both_10 : dec mX0_both 10 = .ok (.iload_n 1, 1) := by decide +kernel
theorem dX0_both_11 : dec mX0_both 11 = .ok (.iload_n 3, 1) := by decide +kernel
theorem dX0_both_12 : dec mX0_both 12 = .ok (.isub, 1) := by decide +kernel
theorem dX0_both_13 : dec mX0_both 13 = .ok (.imul, 1) := by decide +kernel
theorem dX0_both_14 : dec mX0_both 14 = .ok (.iadd, 1) := by decide +kernel
theorem dX0_both_15 : dec mX0_both 15 = .ok (.ireturn, 1) := by decide +kernel
theorem dX0_leastOf_0 : dec mX0_leastOf 0 = .ok (.iload_n 0, 1) := by decide +kernel
theorem dX0_leastOf_1 : dec mX0_leastOf 1 = .ok (.iload_n 2, 1) := by decide +kernel
theorem dX0_leastOf_2 : dec mX0_leastOf 2 = .ok (.isub, 1) := by decide +kernel
theorem dX0_leastOf_3 : dec mX0_leastOf 3 = .ok (.iload_n 0, 1) := by decide +kernel
theorem dX0_leastOf_4 : dec mX0_leastOf 4 = .ok (.iload_n 2, 1) := by decide +kernel
theorem dX0_leastOf_5 : dec mX0_leastOf 5 = .ok (.isub, 1) := by decide +kernel
theorem dX0_leastOf_6 : dec mX0_leastOf 6 = .ok (.imul, 1) := by decide +kernel
theorem dX0_leastOf_7 : dec mX0_leastOf 7 = .ok (.iload_n 1, 1) := by decide +kernel
theorem dX0_leastOf_8 : dec mX0_leastOf 8 = .ok (.iload_n 3, 1) := by decide +kernel
theorem dX0_leastOf_9 : dec mX0_leastOf 9 = .ok (.isub, 1) := by decide +kernel
theorem dX0_leastOf_10 : dec mX0_leastOf 10 = .ok (.iload_n 1, 1) := by decide +kernel
theorem dX0_leastOf_11 : dec mX0_leastOf 11 = .ok (.iload_n 3, 1) := by decide +kernel
theorem dX0_leastOf_12 : dec mX0_leastOf 12 = .ok (.isub, 1) := by decide +kernel
theorem dX0_leastOf_13 : dec mX0_leastOf 13 = .ok (.imul, 1) := by decide +kernel
theorem dX0_leastOf_14 : dec mX0_leastOf 14 = .ok (.iadd, 1) := by decide +kernel
theorem dX0_leastOf_15 : dec mX0_leastOf 15 = .ok (.istore 4, 2) := by decide +kernel
theorem dX0_leastOf_17 : dec mX0_leastOf 17 = .ok (.iload_n 0, 1) := by decide +kernel
theorem dX0_leastOf_18 : dec mX0_leastOf 18 = .ok (.iload_n 3, 1) := by decide +kernel
theorem dX0_leastOf_19 : dec mX0_leastOf 19 = .ok (.isub, 1) := by decide +kernel
theorem dX0_leastOf_20 : dec mX0_leastOf 20 = .ok (.iload_n 0, 1) := by decide +kernel
theorem dX0_leastOf_21 : dec mX0_leastOf 21 = .ok (.iload_n 3, 1) := by decide +kernel
theorem dX0_leastOf_22 : dec mX0_leastOf 22 = .ok (.isub, 1) := by decide +kernel
theorem dX0_leastOf_23 : dec mX0_leastOf 23 = .ok (.imul, 1) := by decide +kernel
theorem dX0_leastOf_24 : dec mX0_leastOf 24 = .ok (.iload_n 1, 1) := by decide +kernel
theorem dX0_leastOf_25 : dec mX0_leastOf 25 = .ok (.iload_n 2, 1) := by decide +kernel
theorem dX0_leastOf_26 : dec mX0_leastOf 26 = .ok (.isub, 1) := by decide +kernel
theorem dX0_leastOf_27 : dec mX0_leastOf 27 = .ok (.iload_n 1, 1) := by decide +kernel
theorem dX0_leastOf_28 : dec mX0_leastOf 28 = .ok (.iload_n 2, 1) := by decide +kernel
theorem dX0_leastOf_29 : dec mX0_leastOf 29 = .ok (.isub, 1) := by decide +kernel
theorem dX0_leastOf_30 : dec mX0_leastOf 30 = .ok (.imul, 1) := by decide +kernel
theorem dX0_leastOf_31 : dec mX0_leastOf 31 = .ok (.iadd, 1) := by decide +kernel
theorem dX0_leastOf_32 : dec mX0_leastOf 32 = .ok (.istore 5, 2) := by decide +kernel
theorem dX0_leastOf_34 : dec mX0_leastOf 34 = .ok (.iload 4, 2) := by decide +kernel
theorem dX0_leastOf_36 : dec mX0_leastOf 36 = .ok (.iload 5, 2) := by decide +kernel
theorem dX0_leastOf_38 : dec mX0_leastOf 38 = .ok (.if_icmp .ge 8, 3) := by decide +kernel
theorem dX0_leastOf_41 : dec mX0_leastOf 41 = .ok (.iload 4, 2) := by decide +kernel
theorem dX0_leastOf_43 : dec mX0_leastOf 43 = .ok (.goto 5, 3) := by decide +kernel
theorem dX0_leastOf_46 : dec mX0_leastOf 46 = .ok (.iload 5, 2) := by decide +kernel
theorem dX0_leastOf_48 : dec mX0_leastOf 48 = .ok (.ireturn, 1) := by decide +kernel
theorem dX0_errorAt_0 : dec mX0_errorAt 0 = .ok (.aload_n 0, 1) := by decide +kernel
theorem dX0_errorAt_1 : dec mX0_errorAt 1 = .ok (.iload_n 1, 1) := by decide +kernel
theorem dX0_errorAt_2 : dec mX0_errorAt 2 = .ok (.aload_n 0, 1) := by decide +kernel
theorem dX0_errorAt_3 : dec mX0_errorAt 3 = .ok (.getfield 12, 3) := by decide +kernel
theorem dX0_errorAt_6 : dec mX0_errorAt 6 = .ok (.getfield 66, 3) := by decide +kernel
theorem dX0_errorAt_9 : dec mX0_errorAt 9 = .ok (.iload_n 1, 1) := by decide +kernel
theorem dX0_errorAt_10 : dec mX0_errorAt 10 = .ok (.invokestatic 115, 3) := by decide +kernel
theorem dX0_errorAt_13 : dec mX0_errorAt 13 = .ok (.invokevirtual 123, 3) := by decide +kernel
theorem dX0_errorAt_16 : dec mX0_errorAt 16 = .ok (.ireturn, 1) := by decide +kernel
theorem dX0_errorLaid_0 : dec mX0_errorLaid 0 = .ok (.aload_n 0, 1) := by decide +kernel
theorem dX0_errorLaid_1 : dec mX0_errorLaid 1 = .ok (.getfield 12, 3) := by decide +kernel
theorem dX0_errorLaid_4 : dec mX0_errorLaid 4 = .ok (.getfield 82, 3) := by decide +kernel
theorem dX0_errorLaid_7 : dec mX0_errorLaid 7 = .ok (.iload_n 1, 1) := by decide +kernel
theorem dX0_errorLaid_8 : dec mX0_errorLaid 8 = .ok (.invokestatic 115, 3) := by decide +kernel
theorem dX0_errorLaid_11 : dec mX0_errorLaid 11 = .ok (.istore_n 3, 1) := by decide +kernel
theorem dX0_errorLaid_12 : dec mX0_errorLaid 12 = .ok (.aload_n 0, 1) := by decide +kernel
theorem dX0_errorLaid_13 : dec mX0_errorLaid 13 = .ok (.getfield 12, 3) := by decide +kernel
theorem dX0_errorLaid_16 : dec mX0_errorLaid 16 = .ok (.getfield 57, 3) := by decide +kernel
theorem dX0_errorLaid_19 : dec mX0_errorLaid 19 = .ok (.aload_n 0, 1) := by decide +kernel
theorem dX0_errorLaid_20 : dec mX0_errorLaid 20 = .ok (.getfield 12, 3) := by decide +kernel
theorem dX0_errorLaid_23 : dec mX0_errorLaid 23 = .ok (.getfield 109, 3) := by decide +kernel
theorem dX0_errorLaid_26 : dec mX0_errorLaid 26 = .ok (.iload_n 1, 1) := by decide +kernel
theorem dX0_errorLaid_27 : dec mX0_errorLaid 27 = .ok (.invokestatic 115, 3) := by decide +kernel
theorem dX0_errorLaid_30 : dec mX0_errorLaid 30 = .ok (.invokestatic 115, 3) := by decide +kernel
theorem dX0_errorLaid_33 : dec mX0_errorLaid 33 = .ok (.istore 4, 2) := by decide +kernel
theorem dX0_errorLaid_35 : dec mX0_errorLaid 35 = .ok (.aload_n 0, 1) := by decide +kernel
theorem dX0_errorLaid_36 : dec mX0_errorLaid 36 = .ok (.getfield 12, 3) := by decide +kernel
theorem dX0_errorLaid_39 : dec mX0_errorLaid 39 = .ok (.getfield 57, 3) := by decide +kernel
theorem dX0_errorLaid_42 : dec mX0_errorLaid 42 = .ok (.aload_n 0, 1) := by decide +kernel
theorem dX0_errorLaid_43 : dec mX0_errorLaid 43 = .ok (.getfield 12, 3) := by decide +kernel
theorem dX0_errorLaid_46 : dec mX0_errorLaid 46 = .ok (.getfield 112, 3) := by decide +kernel
theorem dX0_errorLaid_49 : dec mX0_errorLaid 49 = .ok (.iload_n 1, 1) := by decide +kernel
theorem dX0_errorLaid_50 : dec mX0_errorLaid 50 = .ok (.invokestatic 115, 3) := by decide +kernel
theorem dX0_errorLaid_53 : dec mX0_errorLaid 53 = .ok (.invokestatic 115, 3) := by decide +kernel
theorem dX0_errorLaid_56 : dec mX0_errorLaid 56 = .ok (.istore 5, 2) := by decide +kernel
theorem dX0_errorLaid_58 : dec mX0_errorLaid 58 = .ok (.aload_n 0, 1) := by decide +kernel
theorem dX0_errorLaid_59 : dec mX0_errorLaid 59 = .ok (.getfield 25, 3) := by decide +kernel
theorem dX0_errorLaid_62 : dec mX0_errorLaid 62 = .ok (.iload_n 3, 1) := by decide +kernel
theorem dX0_errorLaid_63 : dec mX0_errorLaid 63 = .ok (.invokestatic 115, 3) := by decide +kernel
theorem dX0_errorLaid_66 : dec mX0_errorLaid 66 = .ok (.istore 6, 2) := by decide +kernel
theorem dX0_errorLaid_68 : dec mX0_errorLaid 68 = .ok (.aload_n 0, 1) := by decide +kernel
theorem dX0_errorLaid_69 : dec mX0_errorLaid 69 = .ok (.getfield 28, 3) := by decide +kernel
theorem dX0_errorLaid_72 : dec mX0_errorLaid 72 = .ok (.iload_n 3, 1) := by decide +kernel
theorem dX0_errorLaid_73 : dec mX0_errorLaid 73 = .ok (.invokestatic 115, 3) := by decide +kernel
theorem dX0_errorLaid_76 : dec mX0_errorLaid 76 = .ok (.istore 7, 2) := by decide +kernel
theorem dX0_errorLaid_78 : dec mX0_errorLaid 78 = .ok (.iload_n 2, 1) := by decide +kernel
theorem dX0_errorLaid_79 : dec mX0_errorLaid 79 = .ok (.ifCond .ne 17, 3) := by decide +kernel
theorem dX0_errorLaid_82 : dec mX0_errorLaid 82 = .ok (.iload 4, 2) := by decide +kernel
theorem dX0_errorLaid_84 : dec mX0_errorLaid 84 = .ok (.iload 5, 2) := by decide +kernel
theorem dX0_errorLaid_86 : dec mX0_errorLaid 86 = .ok (.iload 6, 2) := by decide +kernel
theorem dX0_errorLaid_88 : dec mX0_errorLaid 88 = .ok (.iload 7, 2) := by decide +kernel
theorem dX0_errorLaid_90 : dec mX0_errorLaid 90 = .ok (.invokestatic 127, 3) := by decide +kernel
theorem dX0_errorLaid_93 : dec mX0_errorLaid 93 = .ok (.goto 14, 3) := by decide +kernel
theorem dX0_errorLaid_96 : dec mX0_errorLaid 96 = .ok (.iload 4, 2) := by decide +kernel
theorem dX0_errorLaid_98 : dec mX0_errorLaid 98 = .ok (.iload 5, 2) := by decide +kernel
theorem dX0_errorLaid_100 : dec mX0_errorLaid 100 = .ok (.iload 7, 2) := by decide +kernel
theorem dX0_errorLaid_102 : dec mX0_errorLaid 102 = .ok (.iload 6, 2) := by decide +kernel
theorem dX0_errorLaid_104 : dec mX0_errorLaid 104 = .ok (.invokestatic 127, 3) := by decide +kernel
theorem dX0_errorLaid_107 : dec mX0_errorLaid 107 = .ok (.ireturn, 1) := by decide +kernel
theorem dX0_leastWith_0 : dec mX0_leastWith 0 = .ok (.aload_n 0, 1) := by decide +kernel
theorem dX0_leastWith_1 : dec mX0_leastWith 1 = .ok (.getfield 12, 3) := by decide +kernel
theorem dX0_leastWith_4 : dec mX0_leastWith 4 = .ok (.getfield 57, 3) := by decide +kernel
theorem dX0_leastWith_7 : dec mX0_leastWith 7 = .ok (.iload_n 1, 1) := by decide +kernel
theorem dX0_leastWith_8 : dec mX0_leastWith 8 = .ok (.invokestatic 115, 3) := by decide +kernel
theorem dX0_leastWith_11 : dec mX0_leastWith 11 = .ok (.aload_n 0, 1) := by decide +kernel
theorem dX0_leastWith_12 : dec mX0_leastWith 12 = .ok (.getfield 12, 3) := by decide +kernel
theorem dX0_leastWith_15 : dec mX0_leastWith 15 = .ok (.getfield 57, 3) := by decide +kernel
theorem dX0_leastWith_18 : dec mX0_leastWith 18 = .ok (.iload_n 2, 1) := by decide +kernel
theorem dX0_leastWith_19 : dec mX0_leastWith 19 = .ok (.invokestatic 115, 3) := by decide +kernel
theorem dX0_leastWith_22 : dec mX0_leastWith 22 = .ok (.aload_n 0, 1) := by decide +kernel
theorem dX0_leastWith_23 : dec mX0_leastWith 23 = .ok (.getfield 25, 3) := by decide +kernel
theorem dX0_leastWith_26 : dec mX0_leastWith 26 = .ok (.iload_n 3, 1) := by decide +kernel
theorem dX0_leastWith_27 : dec mX0_leastWith 27 = .ok (.invokestatic 115, 3) := by decide +kernel
theorem dX0_leastWith_30 : dec mX0_leastWith 30 = .ok (.aload_n 0, 1) := by decide +kernel
theorem dX0_leastWith_31 : dec mX0_leastWith 31 = .ok (.getfield 28, 3) := by decide +kernel
theorem dX0_leastWith_34 : dec mX0_leastWith 34 = .ok (.iload_n 3, 1) := by decide +kernel
theorem dX0_leastWith_35 : dec mX0_leastWith 35 = .ok (.invokestatic 115, 3) := by decide +kernel
theorem dX0_leastWith_38 : dec mX0_leastWith 38 = .ok (.invokestatic 131, 3) := by decide +kernel
theorem dX0_leastWith_41 : dec mX0_leastWith 41 = .ok (.ireturn, 1) := by decide +kernel
theorem dX0_leastAt_0 : dec mX0_leastAt 0 = .ok (.aload_n 0, 1) := by decide +kernel
theorem dX0_leastAt_1 : dec mX0_leastAt 1 = .ok (.aload_n 0, 1) := by decide +kernel
theorem dX0_leastAt_2 : dec mX0_leastAt 2 = .ok (.getfield 12, 3) := by decide +kernel
theorem dX0_leastAt_5 : dec mX0_leastAt 5 = .ok (.getfield 109, 3) := by decide +kernel
theorem dX0_leastAt_8 : dec mX0_leastAt 8 = .ok (.iload_n 1, 1) := by decide +kernel
theorem dX0_leastAt_9 : dec mX0_leastAt 9 = .ok (.invokestatic 115, 3) := by decide +kernel
theorem dX0_leastAt_12 : dec mX0_leastAt 12 = .ok (.aload_n 0, 1) := by decide +kernel
theorem dX0_leastAt_13 : dec mX0_leastAt 13 = .ok (.getfield 12, 3) := by decide +kernel
theorem dX0_leastAt_16 : dec mX0_leastAt 16 = .ok (.getfield 112, 3) := by decide +kernel
theorem dX0_leastAt_19 : dec mX0_leastAt 19 = .ok (.iload_n 1, 1) := by decide +kernel
theorem dX0_leastAt_20 : dec mX0_leastAt 20 = .ok (.invokestatic 115, 3) := by decide +kernel
theorem dX0_leastAt_23 : dec mX0_leastAt 23 = .ok (.iload_n 2, 1) := by decide +kernel
theorem dX0_leastAt_24 : dec mX0_leastAt 24 = .ok (.invokevirtual 134, 3) := by decide +kernel
theorem dX0_leastAt_27 : dec mX0_leastAt 27 = .ok (.ireturn, 1) := by decide +kernel
theorem dX0_errorOfAll_0 : dec mX0_errorOfAll 0 = .ok (.iconst 0, 1) := by decide +kernel
theorem dX0_errorOfAll_1 : dec mX0_errorOfAll 1 = .ok (.istore_n 1, 1) := by decide +kernel
theorem dX0_errorOfAll_2 : dec mX0_errorOfAll 2 = .ok (.iconst 0, 1) := by decide +kernel
theorem dX0_errorOfAll_3 : dec mX0_errorOfAll 3 = .ok (.istore_n 2, 1) := by decide +kernel
theorem dX0_errorOfAll_4 : dec mX0_errorOfAll 4 = .ok (.iload_n 2, 1) := by decide +kernel
theorem dX0_errorOfAll_5 : dec mX0_errorOfAll 5 = .ok (.aload_n 0, 1) := by decide +kernel
theorem dX0_errorOfAll_6 : dec mX0_errorOfAll 6 = .ok (.getfield 75, 3) := by decide +kernel
theorem dX0_errorOfAll_9 : dec mX0_errorOfAll 9 = .ok (.if_icmp .ge 17, 3) := by decide +kernel
theorem dX0_errorOfAll_12 : dec mX0_errorOfAll 12 = .ok (.iload_n 1, 1) := by decide +kernel
theorem dX0_errorOfAll_13 : dec mX0_errorOfAll 13 = .ok (.aload_n 0, 1) := by decide +kernel
theorem dX0_errorOfAll_14 : dec mX0_errorOfAll 14 = .ok (.iload_n 2, 1) := by decide +kernel
theorem dX0_errorOfAll_15 : dec mX0_errorOfAll 15 = .ok (.invokevirtual 138, 3) := by decide +kernel
theorem dX0_errorOfAll_18 : dec mX0_errorOfAll 18 = .ok (.iadd, 1) := by decide +kernel
theorem dX0_errorOfAll_19 : dec mX0_errorOfAll 19 = .ok (.istore_n 1, 1) := by decide +kernel
theorem dX0_errorOfAll_20 : dec mX0_errorOfAll 20 = .ok (.iinc 2 1, 3) := by decide +kernel
theorem dX0_errorOfAll_23 : dec mX0_errorOfAll 23 = .ok (.goto (-19), 3) := by decide +kernel
theorem dX0_errorOfAll_26 : dec mX0_errorOfAll 26 = .ok (.iload_n 1, 1) := by decide +kernel
theorem dX0_errorOfAll_27 : dec mX0_errorOfAll 27 = .ok (.ireturn, 1) := by decide +kernel
theorem dX0_leastOfAll_0 : dec mX0_leastOfAll 0 = .ok (.iconst 0, 1) := by decide +kernel
theorem dX0_leastOfAll_1 : dec mX0_leastOfAll 1 = .ok (.istore_n 1, 1) := by decide +kernel
theorem dX0_leastOfAll_2 : dec mX0_leastOfAll 2 = .ok (.iconst 0, 1) := by decide +kernel
theorem dX0_leastOfAll_3 : dec mX0_leastOfAll 3 = .ok (.istore_n 2, 1) := by decide +kernel
theorem dX0_leastOfAll_4 : dec mX0_leastOfAll 4 = .ok (.iload_n 2, 1) := by decide +kernel
theorem dX0_leastOfAll_5 : dec mX0_leastOfAll 5 = .ok (.aload_n 0, 1) := by decide +kernel
theorem dX0_leastOfAll_6 : dec mX0_leastOfAll 6 = .ok (.getfield 102, 3) := by decide +kernel
theorem dX0_leastOfAll_9 : dec mX0_leastOfAll 9 = .ok (.if_icmp .ge 75, 3) := by decide +kernel
theorem dX0_leastOfAll_12 : dec mX0_leastOfAll 12 = .ok (.aload_n 0, 1) := by decide +kernel
theorem dX0_leastOfAll_13 : dec mX0_leastOfAll 13 = .ok (.getfield 12, 3) := by decide +kernel
theorem dX0_leastOfAll_16 : dec mX0_leastOfAll 16 = .ok (.getfield 57, 3) := by decide +kernel
theorem dX0_leastOfAll_19 : dec mX0_leastOfAll 19 = .ok (.iload_n 2, 1) := by decide +kernel
theorem dX0_leastOfAll_20 : dec mX0_leastOfAll 20 = .ok (.invokestatic 115, 3) := by decide +kernel
theorem dX0_leastOfAll_23 : dec mX0_leastOfAll 23 = .ok (.istore_n 3, 1) := by decide +kernel
theorem dX0_leastOfAll_24 : dec mX0_leastOfAll 24 = .ok (.iload_n 3, 1) := by decide +kernel
theorem dX0_leastOfAll_25 : dec mX0_leastOfAll 25 = .ok (.aload_n 0, 1) := by decide +kernel
theorem dX0_leastOfAll_26 : dec mX0_leastOfAll 26 = .ok (.iconst 0, 1) := by decide +kernel
theorem dX0_leastOfAll_27 : dec mX0_leastOfAll 27 = .ok (.invokevirtual 105, 3) := by decide +kernel
theorem dX0_leastOfAll_30 : dec mX0_leastOfAll 30 = .ok (.invokestatic 141, 3) := by decide +kernel
theorem dX0_leastOfAll_33 : dec mX0_leastOfAll 33 = .ok (.istore 4, 2) := by decide +kernel
theorem dX0_leastOfAll_35 : dec mX0_leastOfAll 35 = .ok (.iconst 1, 1) := by decide +kernel
theorem dX0_leastOfAll_36 : dec mX0_leastOfAll 36 = .ok (.istore 5, 2) := by decide +kernel
theorem dX0_leastOfAll_38 : dec mX0_leastOfAll 38 = .ok (.iload 5, 2) := by decide +kernel
theorem dX0_leastOfAll_40 : dec mX0_leastOfAll 40 = .ok (.aload_n 0, 1) := by decide +kernel
theorem dX0_leastOfAll_41 : dec mX0_leastOfAll 41 = .ok (.getfield 12, 3) := by decide +kernel
theorem dX0_leastOfAll_44 : dec mX0_leastOfAll 44 = .ok (.getfield 47, 3) := by decide +kernel
theorem dX0_leastOfAll_47 : dec mX0_leastOfAll 47 = .ok (.if_icmp .gt 26, 3) := by decide +kernel
theorem dX0_leastOfAll_50 : dec mX0_leastOfAll 50 = .ok (.iload 4, 2) := by decide +kernel
theorem dX0_leastOfAll_52 : dec mX0_leastOfAll 52 = .ok (.iload_n 3, 1) := by decide +kernel
theorem dX0_leastOfAll_53 : dec mX0_leastOfAll 53 = .ok (.aload_n 0, 1) := by decide +kernel
theorem dX0_leastOfAll_54 : dec mX0_leastOfAll 54 = .ok (.iload 5, 2) := by decide +kernel
theorem dX0_leastOfAll_56 : dec mX0_leastOfAll 56 = .ok (.invokevirtual 105, 3) := by decide +kernel
theorem dX0_leastOfAll_59 : dec mX0_leastOfAll 59 = .ok (.invokestatic 141, 3) := by decide +kernel
theorem dX0_leastOfAll_62 : dec mX0_leastOfAll 62 = .ok (.invokestatic 144, 3) := by decide +kernel
theorem dX0_leastOfAll_65 : dec mX0_leastOfAll 65 = .ok (.istore 4, 2) := by decide +kernel
theorem dX0_leastOfAll_67 : dec mX0_leastOfAll 67 = .ok (.iinc 5 1, 3) := by decide +kernel
theorem dX0_leastOfAll_70 : dec mX0_leastOfAll 70 = .ok (.goto (-32), 3) := by decide +kernel
theorem dX0_leastOfAll_73 : dec mX0_leastOfAll 73 = .ok (.iload_n 1, 1) := by decide +kernel
theorem dX0_leastOfAll_74 : dec mX0_leastOfAll 74 = .ok (.iload 4, 2) := by decide +kernel
theorem dX0_leastOfAll_76 : dec mX0_leastOfAll 76 = .ok (.iadd, 1) := by decide +kernel
theorem dX0_leastOfAll_77 : dec mX0_leastOfAll 77 = .ok (.istore_n 1, 1) := by decide +kernel
theorem dX0_leastOfAll_78 : dec mX0_leastOfAll 78 = .ok (.iinc 2 1, 3) := by decide +kernel
theorem dX0_leastOfAll_81 : dec mX0_leastOfAll 81 = .ok (.goto (-77), 3) := by decide +kernel
theorem dX0_leastOfAll_84 : dec mX0_leastOfAll 84 = .ok (.iload_n 1, 1) := by decide +kernel
theorem dX0_leastOfAll_85 : dec mX0_leastOfAll 85 = .ok (.ireturn, 1) := by decide +kernel
theorem dX0_placeOfRank_0 : dec mX0_placeOfRank 0 = .ok (.iconst 0, 1) := by decide +kernel
theorem dX0_placeOfRank_1 : dec mX0_placeOfRank 1 = .ok (.istore_n 2, 1) := by decide +kernel
theorem dX0_placeOfRank_2 : dec mX0_placeOfRank 2 = .ok (.iload_n 2, 1) := by decide +kernel
theorem dX0_placeOfRank_3 : dec mX0_placeOfRank 3 = .ok (.aload_n 0, 1) := by decide +kernel
theorem dX0_placeOfRank_4 : dec mX0_placeOfRank 4 = .ok (.getfield 75, 3) := by decide +kernel
theorem dX0_placeOfRank_7 : dec mX0_placeOfRank 7 = .ok (.if_icmp .ge 22, 3) := by decide +kernel
theorem dX0_placeOfRank_10 : dec mX0_placeOfRank 10 = .ok (.aload_n 0, 1) := by decide +kernel
theorem dX0_placeOfRank_11 : dec mX0_placeOfRank 11 = .ok (.getfield 44, 3) := by decide +kernel
theorem dX0_placeOfRank_14 : dec mX0_placeOfRank 14 = .ok (.iload_n 2, 1) := by decide +kernel
theorem dX0_placeOfRank_15 : dec mX0_placeOfRank 15 = .ok (.aload_n 0, 1) := by decide +kernel
theorem dX0_placeOfRank_16 : dec mX0_placeOfRank 16 = .ok (.iload_n 2, 1) := by decide +kernel
theorem dX0_placeOfRank_17 : dec mX0_placeOfRank 17 = .ok (.invokevirtual 138, 3) := by decide +kernel
theorem dX0_placeOfRank_20 : dec mX0_placeOfRank 20 = .ok (.invokestatic 85, 3) := by decide +kernel
theorem dX0_placeOfRank_23 : dec mX0_placeOfRank 23 = .ok (.iinc 2 1, 3) := by decide +kernel
theorem dX0_placeOfRank_26 : dec mX0_placeOfRank 26 = .ok (.goto (-24), 3) := by decide +kernel
theorem dX0_placeOfRank_29 : dec mX0_placeOfRank 29 = .ok (.iconst 0, 1) := by decide +kernel
theorem dX0_placeOfRank_30 : dec mX0_placeOfRank 30 = .ok (.istore_n 2, 1) := by decide +kernel
theorem dX0_placeOfRank_31 : dec mX0_placeOfRank 31 = .ok (.iload_n 2, 1) := by decide +kernel
theorem dX0_placeOfRank_32 : dec mX0_placeOfRank 32 = .ok (.aload_n 0, 1) := by decide +kernel
theorem dX0_placeOfRank_33 : dec mX0_placeOfRank 33 = .ok (.getfield 75, 3) := by decide +kernel
theorem dX0_placeOfRank_36 : dec mX0_placeOfRank 36 = .ok (.if_icmp .ge 20, 3) := by decide +kernel
theorem dX0_placeOfRank_39 : dec mX0_placeOfRank 39 = .ok (.aload_n 0, 1) := by decide +kernel
theorem dX0_placeOfRank_40 : dec mX0_placeOfRank 40 = .ok (.iload_n 2, 1) := by decide +kernel
theorem dX0_placeOfRank_41 : dec mX0_placeOfRank 41 = .ok (.invokevirtual 149, 3) := by decide +kernel
theorem dX0_placeOfRank_44 : dec mX0_placeOfRank 44 = .ok (.iload_n 1, 1) := by decide +kernel
theorem dX0_placeOfRank_45 : dec mX0_placeOfRank 45 = .ok (.if_icmp .ne 5, 3) := by decide +kernel
theorem dX0_placeOfRank_48 : dec mX0_placeOfRank 48 = .ok (.iload_n 2, 1) := by decide +kernel
theorem dX0_placeOfRank_49 : dec mX0_placeOfRank 49 = .ok (.ireturn, 1) := by decide +kernel
theorem dX0_placeOfRank_50 : dec mX0_placeOfRank 50 = .ok (.iinc 2 1, 3) := by decide +kernel
theorem dX0_placeOfRank_53 : dec mX0_placeOfRank 53 = .ok (.goto (-22), 3) := by decide +kernel
theorem dX0_placeOfRank_56 : dec mX0_placeOfRank 56 = .ok (.iconst (-1), 1) := by decide +kernel
theorem dX0_placeOfRank_57 : dec mX0_placeOfRank 57 = .ok (.ireturn, 1) := by decide +kernel
theorem dX0_rankOf_0 : dec mX0_rankOf 0 = .ok (.iconst 0, 1) := by decide +kernel
theorem dX0_rankOf_1 : dec mX0_rankOf 1 = .ok (.istore_n 2, 1) := by decide +kernel
theorem dX0_rankOf_2 : dec mX0_rankOf 2 = .ok (.aload_n 0, 1) := by decide +kernel
theorem dX0_rankOf_3 : dec mX0_rankOf 3 = .ok (.getfield 44, 3) := by decide +kernel
theorem dX0_rankOf_6 : dec mX0_rankOf 6 = .ok (.iload_n 1, 1) := by decide +kernel
theorem dX0_rankOf_7 : dec mX0_rankOf 7 = .ok (.invokestatic 115, 3) := by decide +kernel
theorem dX0_rankOf_10 : dec mX0_rankOf 10 = .ok (.istore_n 3, 1) := by decide +kernel
theorem dX0_rankOf_11 : dec mX0_rankOf 11 = .ok (.iconst 0, 1) := by decide +kernel
theorem dX0_rankOf_12 : dec mX0_rankOf 12 = .ok (.istore 4, 2) := by decide +kernel
theorem dX0_rankOf_14 : dec mX0_rankOf 14 = .ok (.iload 4, 2) := by decide +kernel
theorem dX0_rankOf_16 : dec mX0_rankOf 16 = .ok (.aload_n 0, 1) := by decide +kernel
theorem dX0_rankOf_17 : dec mX0_rankOf 17 = .ok (.getfield 75, 3) := by decide +kernel
theorem dX0_rankOf_20 : dec mX0_rankOf 20 = .ok (.if_icmp .ge 46, 3) := by decide +kernel
theorem dX0_rankOf_23 : dec mX0_rankOf 23 = .ok (.aload_n 0, 1) := by decide +kernel
theorem dX0_rankOf_24 : dec mX0_rankOf 24 = .ok (.getfield 44, 3) := by decide +kernel
theorem dX0_rankOf_27 : dec mX0_rankOf 27 = .ok (.iload 4, 2) := by decide +kernel
theorem dX0_rankOf_29 : dec mX0_rankOf 29 = .ok (.invokestatic 115, 3) := by decide +kernel
theorem dX0_rankOf_32 : dec mX0_rankOf 32 = .ok (.istore 5, 2) := by decide +kernel
theorem dX0_rankOf_34 : dec mX0_rankOf 34 = .ok (.iload_n 2, 1) := by decide +kernel
theorem dX0_rankOf_35 : dec mX0_rankOf 35 = .ok (.iload 5, 2) := by decide +kernel
theorem dX0_rankOf_37 : dec mX0_rankOf 37 = .ok (.iload_n 3, 1) := by decide +kernel
theorem dX0_rankOf_38 : dec mX0_rankOf 38 = .ok (.if_icmp .gt 15, 3) := by decide +kernel
theorem dX0_rankOf_41 : dec mX0_rankOf 41 = .ok (.iload 5, 2) := by decide +kernel
theorem dX0_rankOf_43 : dec mX0_rankOf 43 = .ok (.iload_n 3, 1) := by decide +kernel
theorem dX0_rankOf_44 : dec mX0_rankOf 44 = .ok (.if_icmp .ne 13, 3) := by decide +kernel
theorem dX0_rankOf_47 : dec mX0_rankOf 47 = .ok (.iload 4, 2) := by decide +kernel
theorem dX0_rankOf_49 : dec mX0_rankOf 49 = .ok (.iload_n 1, 1) := by decide +kernel
theorem dX0_rankOf_50 : dec mX0_rankOf 50 = .ok (.if_icmp .ge 7, 3) := by decide +kernel
theorem dX0_rankOf_53 : dec mX0_rankOf 53 = .ok (.iconst 1, 1) := by decide +kernel
theorem dX0_rankOf_54 : dec mX0_rankOf 54 = .ok (.goto 4, 3) := by decide +kernel
theorem dX0_rankOf_57 : dec mX0_rankOf 57 = .ok (.iconst 0, 1) := by decide +kernel
theorem dX0_rankOf_58 : dec mX0_rankOf 58 = .ok (.iadd, 1) := by decide +kernel
theorem dX0_rankOf_59 : dec mX0_rankOf 59 = .ok (.istore_n 2, 1) := by decide +kernel
theorem dX0_rankOf_60 : dec mX0_rankOf 60 = .ok (.iinc 4 1, 3) := by decide +kernel
theorem dX0_rankOf_63 : dec mX0_rankOf 63 = .ok (.goto (-49), 3) := by decide +kernel
theorem dX0_rankOf_66 : dec mX0_rankOf 66 = .ok (.iload_n 2, 1) := by decide +kernel
theorem dX0_rankOf_67 : dec mX0_rankOf 67 = .ok (.ireturn, 1) := by decide +kernel
theorem dX0_bestPlaceFor_0 : dec mX0_bestPlaceFor 0 = .ok (.iconst 0, 1) := by decide +kernel
theorem dX0_bestPlaceFor_1 : dec mX0_bestPlaceFor 1 = .ok (.istore_n 2, 1) := by decide +kernel
theorem dX0_bestPlaceFor_2 : dec mX0_bestPlaceFor 2 = .ok (.aload_n 0, 1) := by decide +kernel
theorem dX0_bestPlaceFor_3 : dec mX0_bestPlaceFor 3 = .ok (.iconst 0, 1) := by decide +kernel
theorem dX0_bestPlaceFor_4 : dec mX0_bestPlaceFor 4 = .ok (.iload_n 1, 1) := by decide +kernel
theorem dX0_bestPlaceFor_5 : dec mX0_bestPlaceFor 5 = .ok (.invokevirtual 152, 3) := by decide +kernel
theorem dX0_bestPlaceFor_8 : dec mX0_bestPlaceFor 8 = .ok (.istore_n 3, 1) := by decide +kernel
theorem dX0_bestPlaceFor_9 : dec mX0_bestPlaceFor 9 = .ok (.iconst 1, 1) := by decide +kernel
theorem dX0_bestPlaceFor_10 : dec mX0_bestPlaceFor 10 = .ok (.istore 4, 2) := by decide +kernel
theorem dX0_bestPlaceFor_12 : dec mX0_bestPlaceFor 12 = .ok (.iload 4, 2) := by decide +kernel
theorem dX0_bestPlaceFor_14 : dec mX0_bestPlaceFor 14 = .ok (.aload_n 0, 1) := by decide +kernel
theorem dX0_bestPlaceFor_15 : dec mX0_bestPlaceFor 15 = .ok (.getfield 75, 3) := by decide +kernel
theorem dX0_bestPlaceFor_18 : dec mX0_bestPlaceFor 18 = .ok (.if_icmp .ge 30, 3) := by decide +kernel
theorem dX0_bestPlaceFor_21 : dec mX0_bestPlaceFor 21 = .ok (.aload_n 0, 1) := by decide +kernel
theorem dX0_bestPlaceFor_22 : dec mX0_bestPlaceFor 22 = .ok (.iload 4, 2) := by decide +kernel
theorem dX0_bestPlaceFor_24 : dec mX0_bestPlaceFor 24 = .ok (.iload_n 1, 1) := by decide +kernel
theorem dX0_bestPlaceFor_25 : dec mX0_bestPlaceFor 25 = .ok (.invokevirtual 152, 3) := by decide +kernel
theorem dX0_bestPlaceFor_28 : dec mX0_bestPlaceFor 28 = .ok (.istore 5, 2) := by decide +kernel
theorem dX0_bestPlaceFor_30 : dec mX0_bestPlaceFor 30 = .ok (.iload 5, 2) := by decide +kernel
theorem dX0_bestPlaceFor_32 : dec mX0_bestPlaceFor 32 = .ok (.iload_n 3, 1) := by decide +kernel
theorem dX0_bestPlaceFor_33 : dec mX0_bestPlaceFor 33 = .ok (.if_icmp .ge 9, 3) := by decide +kernel
theorem dX0_bestPlaceFor_36 : dec mX0_bestPlaceFor 36 = .ok (.iload 5, 2) := by decide +kernel
theorem dX0_bestPlaceFor_38 : dec mX0_bestPlaceFor 38 = .ok (.istore_n 3, 1) := by decide +kernel
theorem dX0_bestPlaceFor_39 : dec mX0_bestPlaceFor 39 = .ok (.iload 4, 2) := by decide +kernel
theorem dX0_bestPlaceFor_41 : dec mX0_bestPlaceFor 41 = .ok (.istore_n 2, 1) := by decide +kernel
theorem dX0_bestPlaceFor_42 : dec mX0_bestPlaceFor 42 = .ok (.iinc 4 1, 3) := by decide +kernel
theorem dX0_bestPlaceFor_45 : dec mX0_bestPlaceFor 45 = .ok (.goto (-33), 3) := by decide +kernel
theorem dX0_bestPlaceFor_48 : dec mX0_bestPlaceFor 48 = .ok (.iload_n 2, 1) := by decide +kernel
theorem dX0_bestPlaceFor_49 : dec mX0_bestPlaceFor 49 = .ok (.ireturn, 1) := by decide +kernel
theorem dX0_tryGrey_0 : dec mX0_tryGrey 0 = .ok (.aload_n 0, 1) := by decide +kernel
theorem dX0_tryGrey_1 : dec mX0_tryGrey 1 = .ok (.iload_n 1, 1) := by decide +kernel
theorem dX0_tryGrey_2 : dec mX0_tryGrey 2 = .ok (.iload_n 2, 1) := by decide +kernel
theorem dX0_tryGrey_3 : dec mX0_tryGrey 3 = .ok (.invokevirtual 155, 3) := by decide +kernel
theorem dX0_tryGrey_6 : dec mX0_tryGrey 6 = .ok (.ifCond .eq 10, 3) := by decide +kernel
theorem dX0_tryGrey_9 : dec mX0_tryGrey 9 = .ok (.iload_n 3, 1) := by decide +kernel
theorem dX0_tryGrey_10 : dec mX0_tryGrey 10 = .ok (.invokestatic 159, 3) := by decide +kernel
theorem dX0_tryGrey_13 : dec mX0_tryGrey 13 = .ok (.ifCond .ne 5, 3) := by decide +kernel
theorem dX0_tryGrey_16 : dec mX0_tryGrey 16 = .ok (.iconst 0, 1) := by decide +kernel
theorem dX0_tryGrey_17 : dec mX0_tryGrey 17 = .ok (.ireturn, 1) := by decide +kernel
theorem dX0_tryGrey_18 : dec mX0_tryGrey 18 = .ok (.aload_n 0, 1) := by decide +kernel
theorem dX0_tryGrey_19 : dec mX0_tryGrey 19 = .ok (.getfield 12, 3) := by decide +kernel
theorem dX0_tryGrey_22 : dec mX0_tryGrey 22 = .ok (.getfield 57, 3) := by decide +kernel
theorem dX0_tryGrey_25 : dec mX0_tryGrey 25 = .ok (.aload_n 0, 1) := by decide +kernel
theorem dX0_tryGrey_26 : dec mX0_tryGrey 26 = .ok (.iload_n 1, 1) := by decide +kernel
theorem dX0_tryGrey_27 : dec mX0_tryGrey 27 = .ok (.iload_n 2, 1) := by decide +kernel
theorem dX0_tryGrey_28 : dec mX0_tryGrey 28 = .ok (.invokevirtual 162, 3) := by decide +kernel
theorem dX0_tryGrey_31 : dec mX0_tryGrey 31 = .ok (.iload_n 3, 1) := by decide +kernel
theorem dX0_tryGrey_32 : dec mX0_tryGrey 32 = .ok (.invokestatic 85, 3) := by decide +kernel
theorem dX0_tryGrey_35 : dec mX0_tryGrey 35 = .ok (.iconst 1, 1) := by decide +kernel
theorem dX0_tryGrey_36 : dec mX0_tryGrey 36 = .ok (.ireturn, 1) := by decide +kernel
theorem dX0_fadeAll_0 : dec mX0_fadeAll 0 = .ok (.aload_n 0, 1) := by decide +kernel
theorem dX0_fadeAll_1 : dec mX0_fadeAll 1 = .ok (.getfield 96, 3) := by decide +kernel
theorem dX0_fadeAll_4 : dec mX0_fadeAll 4 = .ok (.aload_n 0, 1) := by decide +kernel
theorem dX0_fadeAll_5 : dec mX0_fadeAll 5 = .ok (.getfield 99, 3) := by decide +kernel
theorem dX0_fadeAll_8 : dec mX0_fadeAll 8 = .ok (.iadd, 1) := by decide +kernel
theorem dX0_fadeAll_9 : dec mX0_fadeAll 9 = .ok (.iconst 2, 1) := by decide +kernel
theorem dX0_fadeAll_10 : dec mX0_fadeAll 10 = .ok (.isub, 1) := by decide +kernel
theorem dX0_fadeAll_11 : dec mX0_fadeAll 11 = .ok (.istore_n 3, 1) := by decide +kernel
theorem dX0_fadeAll_12 : dec mX0_fadeAll 12 = .ok (.iconst 0, 1) := by decide +kernel
theorem dX0_fadeAll_13 : dec mX0_fadeAll 13 = .ok (.istore 4, 2) := by decide +kernel
theorem dX0_fadeAll_15 : dec mX0_fadeAll 15 = .ok (.iload 4, 2) := by decide +kernel
theorem dX0_fadeAll_17 : dec mX0_fadeAll 17 = .ok (.aload_n 0, 1) := by decide +kernel
theorem dX0_fadeAll_18 : dec mX0_fadeAll 18 = .ok (.getfield 102, 3) := by decide +kernel
theorem dX0_fadeAll_21 : dec mX0_fadeAll 21 = .ok (.if_icmp .ge 62, 3) := by decide +kernel
theorem dX0_fadeAll_24 : dec mX0_fadeAll 24 = .ok (.aload_n 0, 1) := by decide +kernel
theorem dX0_fadeAll_25 : dec mX0_fadeAll 25 = .ok (.getfield 96, 3) := by decide +kernel
theorem dX0_fadeAll_28 : dec mX0_fadeAll 28 = .ok (.ifCond .le 55, 3) := by decide +kernel
theorem dX0_fadeAll_31 : dec mX0_fadeAll 31 = .ok (.iload_n 3, 1) := by decide +kernel
theorem dX0_fadeAll_32 : dec mX0_fadeAll 32 = .ok (.ifCond .le 51, 3) := by decide +kernel
theorem dX0_fadeAll_35 : dec mX0_fadeAll 35 = .ok (.iload 4, 2) := by decide +kernel
theorem dX0_fadeAll_37 : dec mX0_fadeAll 37 = .ok (.aload_n 0, 1) := by decide +kernel
theorem dX0_fadeAll_38 : dec mX0_fadeAll 38 = .ok (.getfield 96, 3) := by decide +kernel
theorem dX0_fadeAll_41 : dec mX0_fadeAll 41 = .ok (.irem, 1) := by decide +kernel
theorem dX0_fadeAll_42 : dec mX0_fadeAll 42 = .ok (.iload 4, 2) := by decide +kernel
theorem dX0_fadeAll_44 : dec mX0_fadeAll 44 = .ok (.aload_n 0, 1) := by decide +kernel
theorem dX0_fadeAll_45 : dec mX0_fadeAll 45 = .ok (.getfield 96, 3) := by decide +kernel
theorem dX0_fadeAll_48 : dec mX0_fadeAll 48 = .ok (.idiv, 1) := by decide +kernel
theorem dX0_fadeAll_49 : dec mX0_fadeAll 49 = .ok (.iadd, 1) := by decide +kernel
theorem dX0_fadeAll_50 : dec mX0_fadeAll 50 = .ok (.istore 5, 2) := by decide +kernel
theorem dX0_fadeAll_52 : dec mX0_fadeAll 52 = .ok (.aload_n 0, 1) := by decide +kernel
theorem dX0_fadeAll_53 : dec mX0_fadeAll 53 = .ok (.getfield 12, 3) := by decide +kernel
theorem dX0_fadeAll_56 : dec mX0_fadeAll 56 = .ok (.getfield 57, 3) := by decide +kernel
theorem dX0_fadeAll_59 : dec mX0_fadeAll 59 = .ok (.iload 4, 2) := by decide +kernel
theorem dX0_fadeAll_61 : dec mX0_fadeAll 61 = .ok (.iload_n 1, 1) := by decide +kernel
theorem dX0_fadeAll_62 : dec mX0_fadeAll 62 = .ok (.iload_n 3, 1) := by decide +kernel
theorem dX0_fadeAll_63 : dec mX0_fadeAll 63 = .ok (.iload 5, 2) := by decide +kernel
theorem dX0_fadeAll_65 : dec mX0_fadeAll 65 = .ok (.isub, 1) := by decide +kernel
theorem dX0_fadeAll_66 : dec mX0_fadeAll 66 = .ok (.imul, 1) := by decide +kernel
theorem dX0_fadeAll_67 : dec mX0_fadeAll 67 = .ok (.iload_n 2, 1) := by decide +kernel
theorem dX0_fadeAll_68 : dec mX0_fadeAll 68 = .ok (.iload 5, 2) := by decide +kernel
theorem dX0_fadeAll_70 : dec mX0_fadeAll 70 = .ok (.imul, 1) := by decide +kernel
theorem dX0_fadeAll_71 : dec mX0_fadeAll 71 = .ok (.iadd, 1) := by decide +kernel
theorem dX0_fadeAll_72 : dec mX0_fadeAll 72 = .ok (.iload_n 3, 1) := by decide +kernel
theorem dX0_fadeAll_73 : dec mX0_fadeAll 73 = .ok (.idiv, 1) := by decide +kernel
theorem dX0_fadeAll_74 : dec mX0_fadeAll 74 = .ok (.invokestatic 85, 3) := by decide +kernel
theorem dX0_fadeAll_77 : dec mX0_fadeAll 77 = .ok (.iinc 4 1, 3) := by decide +kernel
theorem dX0_fadeAll_80 : dec mX0_fadeAll 80 = .ok (.goto (-65), 3) := by decide +kernel
theorem dX0_fadeAll_83 : dec mX0_fadeAll 83 = .ok (.return_, 1) := by decide +kernel
theorem dX0_tryHold_0 : dec mX0_tryHold 0 = .ok (.aload_n 0, 1) := by decide +kernel
theorem dX0_tryHold_1 : dec mX0_tryHold 1 = .ok (.iload_n 1, 1) := by decide +kernel
theorem dX0_tryHold_2 : dec mX0_tryHold 2 = .ok (.invokevirtual 165, 3) := by decide +kernel
theorem dX0_tryHold_5 : dec mX0_tryHold 5 = .ok (.ifCond .ne 5, 3) := by decide +kernel
theorem dX0_tryHold_8 : dec mX0_tryHold 8 = .ok (.iconst 0, 1) := by decide +kernel
theorem dX0_tryHold_9 : dec mX0_tryHold 9 = .ok (.ireturn, 1) := by decide +kernel
theorem dX0_tryHold_10 : dec mX0_tryHold 10 = .ok (.aload_n 0, 1) := by decide +kernel
theorem dX0_tryHold_11 : dec mX0_tryHold 11 = .ok (.getfield 12, 3) := by decide +kernel
theorem dX0_tryHold_14 : dec mX0_tryHold 14 = .ok (.getfield 69, 3) := by decide +kernel
theorem dX0_tryHold_17 : dec mX0_tryHold 17 = .ok (.iload_n 1, 1) := by decide +kernel
theorem dX0_tryHold_18 : dec mX0_tryHold 18 = .ok (.iconst 1, 1) := by decide +kernel
theorem dX0_tryHold_19 : dec mX0_tryHold 19 = .ok (.invokestatic 85, 3) := by decide +kernel
theorem dX0_tryHold_22 : dec mX0_tryHold 22 = .ok (.iconst 1, 1) := by decide +kernel
theorem dX0_tryHold_23 : dec mX0_tryHold 23 = .ok (.ireturn, 1) := by decide +kernel
theorem dX0_turnGain_0 : dec mX0_turnGain 0 = .ok (.aload_n 0, 1) := by decide +kernel
theorem dX0_turnGain_1 : dec mX0_turnGain 1 = .ok (.getfield 12, 3) := by decide +kernel
theorem dX0_turnGain_4 : dec mX0_turnGain 4 = .ok (.getfield 66, 3) := by decide +kernel
theorem dX0_turnGain_7 : dec mX0_turnGain 7 = .ok (.iload_n 1, 1) := by decide +kernel
theorem dX0_turnGain_8 : dec mX0_turnGain 8 = .ok (.invokestatic 115, 3) := by decide +kernel
theorem dX0_turnGain_11 : dec mX0_turnGain 11 = .ok (.istore_n 2, 1) := by decide +kernel
theorem dX0_turnGain_12 : dec mX0_turnGain 12 = .ok (.aload_n 0, 1) := by decide +kernel
theorem dX0_turnGain_13 : dec mX0_turnGain 13 = .ok (.iload_n 1, 1) := by decide +kernel
theorem dX0_turnGain_14 : dec mX0_turnGain 14 = .ok (.iload_n 2, 1) := by decide +kernel
theorem dX0_turnGain_15 : dec mX0_turnGain 15 = .ok (.invokevirtual 123, 3) := by decide +kernel
theorem dX0_turnGain_18 : dec mX0_turnGain 18 = .ok (.aload_n 0, 1) := by decide +kernel
theorem dX0_turnGain_19 : dec mX0_turnGain 19 = .ok (.iload_n 1, 1) := by decide +kernel
theorem dX0_turnGain_20 : dec mX0_turnGain 20 = .ok (.iconst 1, 1) := by decide +kernel
theorem dX0_turnGain_21 : dec mX0_turnGain 21 = .ok (.iload_n 2, 1) := by decide +kernel
theorem dX0_turnGain_22 : dec mX0_turnGain 22 = .ok (.isub, 1) := by decide +kernel
theorem dX0_turnGain_23 : dec mX0_turnGain 23 = .ok (.invokevirtual 123, 3) := by decide +kernel
theorem dX0_turnGain_26 : dec mX0_turnGain 26 = .ok (.isub, 1) := by decide +kernel
theorem dX0_turnGain_27 : dec mX0_turnGain 27 = .ok (.ireturn, 1) := by decide +kernel
theorem dX0_turnPlace_0 : dec mX0_turnPlace 0 = .ok (.aload_n 0, 1) := by decide +kernel
theorem dX0_turnPlace_1 : dec mX0_turnPlace 1 = .ok (.getfield 12, 3) := by decide +kernel
theorem dX0_turnPlace_4 : dec mX0_turnPlace 4 = .ok (.getfield 66, 3) := by decide +kernel
theorem dX0_turnPlace_7 : dec mX0_turnPlace 7 = .ok (.iload_n 1, 1) := by decide +kernel
theorem dX0_turnPlace_8 : dec mX0_turnPlace 8 = .ok (.iconst 1, 1) := by decide +kernel
theorem dX0_turnPlace_9 : dec mX0_turnPlace 9 = .ok (.aload_n 0, 1) := by decide +kernel
theorem dX0_turnPlace_10 : dec mX0_turnPlace 10 = .ok (.getfield 12, 3) := by decide +kernel
theorem dX0_turnPlace_13 : dec mX0_turnPlace 13 = .ok (.getfield 66, 3) := by decide +kernel
theorem dX0_turnPlace_16 : dec mX0_turnPlace 16 = .ok (.iload_n 1, 1) := by decide +kernel
theorem dX0_turnPlace_17 : dec mX0_turnPlace 17 = .ok (.invokestatic 115, 3) := by decide +kernel
theorem dX0_turnPlace_20 : dec mX0_turnPlace 20 = .ok (.isub, 1) := by decide +kernel
theorem dX0_turnPlace_21 : dec mX0_turnPlace 21 = .ok (.invokestatic 85, 3) := by decide +kernel
theorem dX0_turnPlace_24 : dec mX0_turnPlace 24 = .ok (.aload_n 0, 1) := by decide +kernel
theorem dX0_turnPlace_25 : dec mX0_turnPlace 25 = .ok (.getfield 12, 3) := by decide +kernel
theorem dX0_turnPlace_28 : dec mX0_turnPlace 28 = .ok (.dup, 1) := by decide +kernel
theorem dX0_turnPlace_29 : dec mX0_turnPlace 29 = .ok (.getfield 54, 3) := by decide +kernel
theorem dX0_turnPlace_32 : dec mX0_turnPlace 32 = .ok (.iconst 1, 1) := by decide +kernel
theorem dX0_turnPlace_33 : dec mX0_turnPlace 33 = .ok (.iadd, 1) := by decide +kernel
theorem dX0_turnPlace_34 : dec mX0_turnPlace 34 = .ok (.putfield 54, 3) := by decide +kernel
theorem dX0_turnPlace_37 : dec mX0_turnPlace 37 = .ok (.return_, 1) := by decide +kernel
theorem dX0_tryTurn_0 : dec mX0_tryTurn 0 = .ok (.aload_n 0, 1) := by decide +kernel
theorem dX0_tryTurn_1 : dec mX0_tryTurn 1 = .ok (.iload_n 1, 1) := by decide +kernel
theorem dX0_tryTurn_2 : dec mX0_tryTurn 2 = .ok (.invokevirtual 165, 3) := by decide +kernel
theorem dX0_tryTurn_5 : dec mX0_tryTurn 5 = .ok (.ifCond .eq 11, 3) := by decide +kernel
theorem dX0_tryTurn_8 : dec mX0_tryTurn 8 = .ok (.aload_n 0, 1) := by decide +kernel
theorem dX0_tryTurn_9 : dec mX0_tryTurn 9 = .ok (.iload_n 1, 1) := by decide +kernel
theorem dX0_tryTurn_10 : dec mX0_tryTurn 10 = .ok (.invokevirtual 168, 3) := by decide +kernel
theorem dX0_tryTurn_13 : dec mX0_tryTurn 13 = .ok (.ifCond .eq 5, 3) := by decide +kernel
theorem dX0_tryTurn_16 : dec mX0_tryTurn 16 = .ok (.iconst 0, 1) := by decide +kernel
theorem dX0_tryTurn_17 : dec mX0_tryTurn 17 = .ok (.ireturn, 1) := by decide +kernel
theorem dX0_tryTurn_18 : dec mX0_tryTurn 18 = .ok (.aload_n 0, 1) := by decide +kernel
theorem dX0_tryTurn_19 : dec mX0_tryTurn 19 = .ok (.iload_n 1, 1) := by decide +kernel
theorem dX0_tryTurn_20 : dec mX0_tryTurn 20 = .ok (.invokevirtual 171, 3) := by decide +kernel
theorem dX0_tryTurn_23 : dec mX0_tryTurn 23 = .ok (.iconst 1, 1) := by decide +kernel
theorem dX0_tryTurn_24 : dec mX0_tryTurn 24 = .ok (.ireturn, 1) := by decide +kernel
theorem dX0_swapGain_0 : dec mX0_swapGain 0 = .ok (.aload_n 0, 1) := by decide +kernel
theorem dX0_swapGain_1 : dec mX0_swapGain 1 = .ok (.iload_n 1, 1) := by decide +kernel
theorem dX0_swapGain_2 : dec mX0_swapGain 2 = .ok (.invokevirtual 138, 3) := by decide +kernel
theorem dX0_swapGain_5 : dec mX0_swapGain 5 = .ok (.aload_n 0, 1) := by decide +kernel
theorem dX0_swapGain_6 : dec mX0_swapGain 6 = .ok (.iload_n 2, 1) := by decide +kernel
theorem dX0_swapGain_7 : dec mX0_swapGain 7 = .ok (.invokevirtual 138, 3) := by decide +kernel
theorem dX0_swapGain_10 : dec mX0_swapGain 10 = .ok (.iadd, 1) := by decide +kernel
theorem dX0_swapGain_11 : dec mX0_swapGain 11 = .ok (.aload_n 0, 1) := by decide +kernel
theorem dX0_swapGain_12 : dec mX0_swapGain 12 = .ok (.iload_n 1, 1) := by decide +kernel
theorem dX0_swapGain_13 : dec mX0_swapGain 13 = .ok (.aload_n 0, 1) := by decide +kernel
theorem dX0_swapGain_14 : dec mX0_swapGain 14 = .ok (.getfield 12, 3) := by decide +kernel
theorem dX0_swapGain_17 : dec mX0_swapGain 17 = .ok (.getfield 82, 3) := by decide +kernel
theorem dX0_swapGain_20 : dec mX0_swapGain 20 = .ok (.iload_n 2, 1) := by decide +kernel
theorem dX0_swapGain_21 : dec mX0_swapGain 21 = .ok (.invokestatic 115, 3) := by decide +kernel
theorem dX0_swapGain_24 : dec mX0_swapGain 24 = .ok (.invokevirtual 152, 3) := by decide +kernel
theorem dX0_swapGain_27 : dec mX0_swapGain 27 = .ok (.isub, 1) := by decide +kernel
theorem dX0_swapGain_28 : dec mX0_swapGain 28 = .ok (.aload_n 0, 1) := by decide +kernel
theorem dX0_swapGain_29 : dec mX0_swapGain 29 = .ok (.iload_n 2, 1) := by decide +kernel
theorem dX0_swapGain_30 : dec mX0_swapGain 30 = .ok (.aload_n 0, 1) := by decide +kernel
theorem dX0_swapGain_31 : dec mX0_swapGain 31 = .ok (.getfield 12, 3) := by decide +kernel
theorem dX0_swapGain_34 : dec mX0_swapGain 34 = .ok (.getfield 82, 3) := by decide +kernel
theorem dX0_swapGain_37 : dec mX0_swapGain 37 = .ok (.iload_n 1, 1) := by decide +kernel
theorem dX0_swapGain_38 : dec mX0_swapGain 38 = .ok (.invokestatic 115, 3) := by decide +kernel
theorem dX0_swapGain_41 : dec mX0_swapGain 41 = .ok (.invokevirtual 152, 3) := by decide +kernel
theorem dX0_swapGain_44 : dec mX0_swapGain 44 = .ok (.isub, 1) := by decide +kernel
theorem dX0_swapGain_45 : dec mX0_swapGain 45 = .ok (.ireturn, 1) := by decide +kernel
theorem dX0_swapPlaces_0 : dec mX0_swapPlaces 0 = .ok (.aload_n 0, 1) := by decide +kernel
theorem dX0_swapPlaces_1 : dec mX0_swapPlaces 1 = .ok (.getfield 12, 3) := by decide +kernel
theorem dX0_swapPlaces_4 : dec mX0_swapPlaces 4 = .ok (.getfield 82, 3) := by decide +kernel
theorem dX0_swapPlaces_7 : dec mX0_swapPlaces 7 = .ok (.iload_n 1, 1) := by decide +kernel
theorem dX0_swapPlaces_8 : dec mX0_swapPlaces 8 = .ok (.iload_n 2, 1) := by decide +kernel
theorem dX0_swapPlaces_9 : dec mX0_swapPlaces 9 = .ok (.invokestatic 174, 3) := by decide +kernel
theorem dX0_swapPlaces_12 : dec mX0_swapPlaces 12 = .ok (.aload_n 0, 1) := by decide +kernel
theorem dX0_swapPlaces_13 : dec mX0_swapPlaces 13 = .ok (.iload_n 1, 1) := by decide +kernel
theorem dX0_swapPlaces_14 : dec mX0_swapPlaces 14 = .ok (.invokevirtual 177, 3) := by decide +kernel
theorem dX0_swapPlaces_17 : dec mX0_swapPlaces 17 = .ok (.aload_n 0, 1) := by decide +kernel
theorem dX0_swapPlaces_18 : dec mX0_swapPlaces 18 = .ok (.iload_n 2, 1) := by decide +kernel
theorem dX0_swapPlaces_19 : dec mX0_swapPlaces 19 = .ok (.invokevirtual 177, 3) := by decide +kernel
theorem dX0_swapPlaces_22 : dec mX0_swapPlaces 22 = .ok (.aload_n 0, 1) := by decide +kernel
theorem dX0_swapPlaces_23 : dec mX0_swapPlaces 23 = .ok (.getfield 12, 3) := by decide +kernel
theorem dX0_swapPlaces_26 : dec mX0_swapPlaces 26 = .ok (.dup, 1) := by decide +kernel
theorem dX0_swapPlaces_27 : dec mX0_swapPlaces 27 = .ok (.getfield 54, 3) := by decide +kernel
theorem dX0_swapPlaces_30 : dec mX0_swapPlaces 30 = .ok (.iconst 1, 1) := by decide +kernel
theorem dX0_swapPlaces_31 : dec mX0_swapPlaces 31 = .ok (.iadd, 1) := by decide +kernel
theorem dX0_swapPlaces_32 : dec mX0_swapPlaces 32 = .ok (.putfield 54, 3) := by decide +kernel
theorem dX0_swapPlaces_35 : dec mX0_swapPlaces 35 = .ok (.return_, 1) := by decide +kernel
theorem dX0_trySwap_0 : dec mX0_trySwap 0 = .ok (.aload_n 0, 1) := by decide +kernel
theorem dX0_trySwap_1 : dec mX0_trySwap 1 = .ok (.iload_n 1, 1) := by decide +kernel
theorem dX0_trySwap_2 : dec mX0_trySwap 2 = .ok (.invokevirtual 165, 3) := by decide +kernel
theorem dX0_trySwap_5 : dec mX0_trySwap 5 = .ok (.ifCond .eq 32, 3) := by decide +kernel
theorem dX0_trySwap_8 : dec mX0_trySwap 8 = .ok (.aload_n 0, 1) := by decide +kernel
theorem dX0_trySwap_9 : dec mX0_trySwap 9 = .ok (.iload_n 2, 1) := by decide +kernel
theorem dX0_trySwap_10 : dec mX0_trySwap 10 = .ok (.invokevirtual 165, 3) := by decide +kernel
theorem dX0_trySwap_13 : dec mX0_trySwap 13 = .ok (.ifCond .eq 24, 3) := by decide +kernel
theorem dX0_trySwap_16 : dec mX0_trySwap 16 = .ok (.iload_n 1, 1) := by decide +kernel
theorem dX0_trySwap_17 : dec mX0_trySwap 17 = .ok (.iload_n 2, 1) := by decide +kernel
theorem dX0_trySwap_18 : dec mX0_trySwap 18 = .ok (.if_icmp .eq 19, 3) := by decide +kernel
theorem dX0_trySwap_21 : dec mX0_trySwap 21 = .ok (.aload_n 0, 1) := by decide +kernel
theorem dX0_trySwap_22 : dec mX0_trySwap 22 = .ok (.iload_n 1, 1) := by decide +kernel
theorem dX0_trySwap_23 : dec mX0_trySwap 23 = .ok (.invokevirtual 168, 3) := by decide +kernel
theorem dX0_trySwap_26 : dec mX0_trySwap 26 = .ok (.ifCond .ne 11, 3) := by decide +kernel
theorem dX0_trySwap_29 : dec mX0_trySwap 29 = .ok (.aload_n 0, 1) := by decide +kernel
theorem dX0_trySwap_30 : dec mX0_trySwap 30 = .ok (.iload_n 2, 1) := by decide +kernel
theorem dX0_trySwap_31 : dec mX0_trySwap 31 = .ok (.invokevirtual 168, 3) := by decide +kernel
theorem dX0_trySwap_34 : dec mX0_trySwap 34 = .ok (.ifCond .eq 5, 3) := by decide +kernel
theorem dX0_trySwap_37 : dec mX0_trySwap 37 = .ok (.iconst 0, 1) := by decide +kernel
theorem dX0_trySwap_38 : dec mX0_trySwap 38 = .ok (.ireturn, 1) := by decide +kernel
theorem dX0_trySwap_39 : dec mX0_trySwap 39 = .ok (.aload_n 0, 1) := by decide +kernel
theorem dX0_trySwap_40 : dec mX0_trySwap 40 = .ok (.iload_n 1, 1) := by decide +kernel
theorem dX0_trySwap_41 : dec mX0_trySwap 41 = .ok (.iload_n 2, 1) := by decide +kernel
theorem dX0_trySwap_42 : dec mX0_trySwap 42 = .ok (.invokevirtual 180, 3) := by decide +kernel
theorem dX0_trySwap_45 : dec mX0_trySwap 45 = .ok (.iconst 1, 1) := by decide +kernel
theorem dX0_trySwap_46 : dec mX0_trySwap 46 = .ok (.ireturn, 1) := by decide +kernel
theorem dX0_layBetterWay_0 : dec mX0_layBetterWay 0 = .ok (.aload_n 0, 1) := by decide +kernel
theorem dX0_layBetterWay_1 : dec mX0_layBetterWay 1 = .ok (.getfield 12, 3) := by decide +kernel
theorem dX0_layBetterWay_4 : dec mX0_layBetterWay 4 = .ok (.getfield 66, 3) := by decide +kernel
theorem dX0_layBetterWay_7 : dec mX0_layBetterWay 7 = .ok (.iload_n 1, 1) := by decide +kernel
theorem dX0_layBetterWay_8 : dec mX0_layBetterWay 8 = .ok (.aload_n 0, 1) := by decide +kernel
theorem dX0_layBetterWay_9 : dec mX0_layBetterWay 9 = .ok (.iload_n 1, 1) := by decide +kernel
theorem dX0_layBetterWay_10 : dec mX0_layBetterWay 10 = .ok (.iconst 0, 1) := by decide +kernel
theorem dX0_layBetterWay_11 : dec mX0_layBetterWay 11 = .ok (.invokevirtual 123, 3) := by decide +kernel
theorem dX0_layBetterWay_14 : dec mX0_layBetterWay 14 = .ok (.aload_n 0, 1) := by decide +kernel
theorem dX0_layBetterWay_15 : dec mX0_layBetterWay 15 = .ok (.iload_n 1, 1) := by decide +kernel
theorem dX0_layBetterWay_16 : dec mX0_layBetterWay 16 = .ok (.iconst 1, 1) := by decide +kernel
theorem dX0_layBetterWay_17 : dec mX0_layBetterWay 17 = .ok (.invokevirtual 123, 3) := by decide +kernel
theorem dX0_layBetterWay_20 : dec mX0_layBetterWay 20 = .ok (.if_icmp .le 7, 3) := by decide +kernel
theorem dX0_layBetterWay_23 : dec mX0_layBetterWay 23 = .ok (.iconst 1, 1) := by decide +kernel
theorem dX0_layBetterWay_24 : dec mX0_layBetterWay 24 = .ok (.goto 4, 3) := by decide +kernel
theorem dX0_layBetterWay_27 : dec mX0_layBetterWay 27 = .ok (.iconst 0, 1) := by decide +kernel
theorem dX0_layBetterWay_28 : dec mX0_layBetterWay 28 = .ok (.invokestatic 85, 3) := by decide +kernel
theorem dX0_layBetterWay_31 : dec mX0_layBetterWay 31 = .ok (.return_, 1) := by decide +kernel
theorem dX0_partner_0 : dec mX0_partner 0 = .ok (.aload_n 0, 1) := by decide +kernel
theorem dX0_partner_1 : dec mX0_partner 1 = .ok (.getfield 12, 3) := by decide +kernel
theorem dX0_partner_4 : dec mX0_partner 4 = .ok (.getfield 109, 3) := by decide +kernel
theorem dX0_partner_7 : dec mX0_partner 7 = .ok (.iload_n 1, 1) := by decide +kernel
theorem dX0_partner_8 : dec mX0_partner 8 = .ok (.invokestatic 115, 3) := by decide +kernel
theorem dX0_partner_11 : dec mX0_partner 11 = .ok (.istore_n 2, 1) := by decide +kernel
theorem dX0_partner_12 : dec mX0_partner 12 = .ok (.aload_n 0, 1) := by decide +kernel
theorem dX0_partner_13 : dec mX0_partner 13 = .ok (.iload_n 1, 1) := by decide +kernel
theorem dX0_partner_14 : dec mX0_partner 14 = .ok (.invokevirtual 119, 3) := by decide +kernel
theorem dX0_partner_17 : dec mX0_partner 17 = .ok (.istore_n 3, 1) := by decide +kernel
theorem dX0_partner_18 : dec mX0_partner 18 = .ok (.aload_n 0, 1) := by decide +kernel
theorem dX0_partner_19 : dec mX0_partner 19 = .ok (.getfield 96, 3) := by decide +kernel
theorem dX0_partner_22 : dec mX0_partner 22 = .ok (.ifCond .le 22, 3) := by decide +kernel
theorem dX0_partner_25 : dec mX0_partner 25 = .ok (.iload_n 3, 1) := by decide +kernel
theorem dX0_partner_26 : dec mX0_partner 26 = .ok (.ifCond .ne 20, 3) := by decide +kernel
theorem dX0_partner_29 : dec mX0_partner 29 = .ok (.iload_n 2, 1) := by decide +kernel
theorem dX0_partner_30 : dec mX0_partner 30 = .ok (.aload_n 0, 1) := by decide +kernel
theorem dX0_partner_31 : dec mX0_partner 31 = .ok (.getfield 96, 3) := by decide +kernel
theorem dX0_partner_34 : dec mX0_partner 34 = .ok (.irem, 1) := by decide +kernel
theorem dX0_partner_35 : dec mX0_partner 35 = .ok (.aload_n 0, 1) := by decide +kernel
theorem dX0_partner_36 : dec mX0_partner 36 = .ok (.getfield 96, 3) := by decide +kernel
theorem dX0_partner_39 : dec mX0_partner 39 = .ok (.iconst 1, 1) := by decide +kernel
theorem dX0_partner_40 : dec mX0_partner 40 = .ok (.isub, 1) := by decide +kernel
theorem dX0_partner_41 : dec mX0_partner 41 = .ok (.if_icmp .ne 5, 3) := by decide +kernel
theorem dX0_partner_44 : dec mX0_partner 44 = .ok (.iconst (-1), 1) := by decide +kernel
theorem dX0_partner_45 : dec mX0_partner 45 = .ok (.ireturn, 1) := by decide +kernel
theorem dX0_partner_46 : dec mX0_partner 46 = .ok (.iload_n 2, 1) := by decide +kernel
theorem dX0_partner_47 : dec mX0_partner 47 = .ok (.iload_n 3, 1) := by decide +kernel
theorem dX0_partner_48 : dec mX0_partner 48 = .ok (.ifCond .eq 10, 3) := by decide +kernel
theorem dX0_partner_51 : dec mX0_partner 51 = .ok (.aload_n 0, 1) := by decide +kernel
theorem dX0_partner_52 : dec mX0_partner 52 = .ok (.getfield 96, 3) := by decide +kernel
theorem dX0_partner_55 : dec mX0_partner 55 = .ok (.goto 4, 3) := by decide +kernel
theorem dX0_partner_58 : dec mX0_partner 58 = .ok (.iconst 1, 1) := by decide +kernel
theorem dX0_partner_59 : dec mX0_partner 59 = .ok (.iadd, 1) := by decide +kernel
theorem dX0_partner_60 : dec mX0_partner 60 = .ok (.istore 4, 2) := by decide +kernel
theorem dX0_partner_62 : dec mX0_partner 62 = .ok (.iload 4, 2) := by decide +kernel
theorem dX0_partner_64 : dec mX0_partner 64 = .ok (.aload_n 0, 1) := by decide +kernel
theorem dX0_partner_65 : dec mX0_partner 65 = .ok (.getfield 102, 3) := by decide +kernel
theorem dX0_partner_68 : dec mX0_partner 68 = .ok (.if_icmp .lt 5, 3) := by decide +kernel
theorem dX0_partner_71 : dec mX0_partner 71 = .ok (.iconst (-1), 1) := by decide +kernel
theorem dX0_partner_72 : dec mX0_partner 72 = .ok (.ireturn, 1) := by decide +kernel
theorem dX0_partner_73 : dec mX0_partner 73 = .ok (.aload_n 0, 1) := by decide +kernel
theorem dX0_partner_74 : dec mX0_partner 74 = .ok (.getfield 31, 3) := by decide +kernel
theorem dX0_partner_77 : dec mX0_partner 77 = .ok (.iload 4, 2) := by decide +kernel
theorem dX0_partner_79 : dec mX0_partner 79 = .ok (.invokestatic 115, 3) := by decide +kernel
theorem dX0_partner_82 : dec mX0_partner 82 = .ok (.istore 5, 2) := by decide +kernel
theorem dX0_partner_84 : dec mX0_partner 84 = .ok (.aload_n 0, 1) := by decide +kernel
theorem dX0_partner_85 : dec mX0_partner 85 = .ok (.getfield 12, 3) := by decide +kernel
theorem dX0_partner_88 : dec mX0_partner 88 = .ok (.getfield 109, 3) := by decide +kernel
theorem dX0_partner_91 : dec mX0_partner 91 = .ok (.iload 5, 2) := by decide +kernel
theorem dX0_partner_93 : dec mX0_partner 93 = .ok (.invokestatic 115, 3) := by decide +kernel
theorem dX0_partner_96 : dec mX0_partner 96 = .ok (.iload 4, 2) := by decide +kernel
theorem dX0_partner_98 : dec mX0_partner 98 = .ok (.if_icmp .ne 18, 3) := by decide +kernel
theorem dX0_partner_101 : dec mX0_partner 101 = .ok (.aload_n 0, 1) := by decide +kernel
theorem dX0_partner_102 : dec mX0_partner 102 = .ok (.iload 5, 2) := by decide +kernel
theorem dX0_partner_104 : dec mX0_partner 104 = .ok (.invokevirtual 119, 3) := by decide +kernel
theorem dX0_partner_107 : dec mX0_partner 107 = .ok (.iload_n 3, 1) := by decide +kernel
theorem dX0_partner_108 : dec mX0_partner 108 = .ok (.if_icmp .ne 8, 3) := by decide +kernel
theorem dX0_partner_111 : dec mX0_partner 111 = .ok (.iload 5, 2) := by decide +kernel
theorem dX0_partner_113 : dec mX0_partner 113 = .ok (.goto 4, 3) := by decide +kernel
theorem dX0_partner_116 : dec mX0_partner 116 = .ok (.iconst (-1), 1) := by decide +kernel
theorem dX0_partner_117 : dec mX0_partner 117 = .ok (.ireturn, 1) := by decide +kernel
theorem dX0_blocks_0 : dec mX0_blocks 0 = .ok (.iconst 0, 1) := by decide +kernel
theorem dX0_blocks_1 : dec mX0_blocks 1 = .ok (.istore_n 1, 1) := by decide +kernel
theorem dX0_blocks_2 : dec mX0_blocks 2 = .ok (.iconst 0, 1) := by decide +kernel
theorem dX0_blocks_3 : dec mX0_blocks 3 = .ok (.istore_n 2, 1) := by decide +kernel
theorem dX0_blocks_4 : dec mX0_blocks 4 = .ok (.iload_n 2, 1) := by decide +kernel
theorem dX0_blocks_5 : dec mX0_blocks 5 = .ok (.aload_n 0, 1) := by decide +kernel
theorem dX0_blocks_6 : dec mX0_blocks 6 = .ok (.getfield 75, 3) := by decide +kernel
theorem dX0_blocks_9 : dec mX0_blocks 9 = .ok (.if_icmp .ge 26, 3) := by decide +kernel
theorem dX0_blocks_12 : dec mX0_blocks 12 = .ok (.iload_n 1, 1) := by decide +kernel
theorem dX0_blocks_13 : dec mX0_blocks 13 = .ok (.aload_n 0, 1) := by decide +kernel
theorem dX0_blocks_14 : dec mX0_blocks 14 = .ok (.iload_n 2, 1) := by decide +kernel
theorem dX0_blocks_15 : dec mX0_blocks 15 = .ok (.invokevirtual 184, 3) := by decide +kernel
theorem dX0_blocks_18 : dec mX0_blocks 18 = .ok (.iconst (-1), 1) := by decide +kernel
theorem dX0_blocks_19 : dec mX0_blocks 19 = .ok (.if_icmp .eq 7, 3) := by decide +kernel
theorem dX0_blocks_22 : dec mX0_blocks 22 = .ok (.iconst 1, 1) := by decide +kernel
theorem dX0_blocks_23 : dec mX0_blocks 23 = .ok (.goto 4, 3) := by decide +kernel
theorem dX0_blocks_26 : dec mX0_blocks 26 = .ok (.iconst 0, 1) := by decide +kernel
theorem dX0_blocks_27 : dec mX0_blocks 27 = .ok (.iadd, 1) := by decide +kernel
theorem dX0_blocks_28 : dec mX0_blocks 28 = .ok (.istore_n 1, 1) := by decide +kernel
theorem dX0_blocks_29 : dec mX0_blocks 29 = .ok (.iinc 2 1, 3) := by decide +kernel
theorem dX0_blocks_32 : dec mX0_blocks 32 = .ok (.goto (-28), 3) := by decide +kernel
theorem dX0_blocks_35 : dec mX0_blocks 35 = .ok (.iload_n 1, 1) := by decide +kernel
theorem dX0_blocks_36 : dec mX0_blocks 36 = .ok (.ireturn, 1) := by decide +kernel
theorem dX0_blockAt_0 : dec mX0_blockAt 0 = .ok (.iload_n 1, 1) := by decide +kernel
theorem dX0_blockAt_1 : dec mX0_blockAt 1 = .ok (.ifCond .lt 11, 3) := by decide +kernel
theorem dX0_blockAt_4 : dec mX0_blockAt 4 = .ok (.iload_n 1, 1) := by decide +kernel
theorem dX0_blockAt_5 : dec mX0_blockAt 5 = .ok (.aload_n 0, 1) := by decide +kernel
theorem dX0_blockAt_6 : dec mX0_blockAt 6 = .ok (.getfield 102, 3) := by decide +kernel
theorem dX0_blockAt_9 : dec mX0_blockAt 9 = .ok (.if_icmp .lt 5, 3) := by decide +kernel
theorem dX0_blockAt_12 : dec mX0_blockAt 12 = .ok (.iconst (-1), 1) := by decide +kernel
theorem dX0_blockAt_13 : dec mX0_blockAt 13 = .ok (.ireturn, 1) := by decide +kernel
theorem dX0_blockAt_14 : dec mX0_blockAt 14 = .ok (.aload_n 0, 1) := by decide +kernel
theorem dX0_blockAt_15 : dec mX0_blockAt 15 = .ok (.getfield 31, 3) := by decide +kernel
theorem dX0_blockAt_18 : dec mX0_blockAt 18 = .ok (.iload_n 1, 1) := by decide +kernel
theorem dX0_blockAt_19 : dec mX0_blockAt 19 = .ok (.invokestatic 115, 3) := by decide +kernel
theorem dX0_blockAt_22 : dec mX0_blockAt 22 = .ok (.istore_n 2, 1) := by decide +kernel
theorem dX0_blockAt_23 : dec mX0_blockAt 23 = .ok (.aload_n 0, 1) := by decide +kernel
theorem dX0_blockAt_24 : dec mX0_blockAt 24 = .ok (.getfield 12, 3) := by decide +kernel
theorem dX0_blockAt_27 : dec mX0_blockAt 27 = .ok (.getfield 109, 3) := by decide +kernel
theorem dX0_blockAt_30 : dec mX0_blockAt 30 = .ok (.iload_n 2, 1) := by decide +kernel
theorem dX0_blockAt_31 : dec mX0_blockAt 31 = .ok (.invokestatic 115, 3) := by decide +kernel
theorem dX0_blockAt_34 : dec mX0_blockAt 34 = .ok (.iload_n 1, 1) := by decide +kernel
theorem dX0_blockAt_35 : dec mX0_blockAt 35 = .ok (.if_icmp .ne 16, 3) := by decide +kernel
theorem dX0_blockAt_38 : dec mX0_blockAt 38 = .ok (.aload_n 0, 1) := by decide +kernel
theorem dX0_blockAt_39 : dec mX0_blockAt 39 = .ok (.iload_n 2, 1) := by decide +kernel
theorem dX0_blockAt_40 : dec mX0_blockAt 40 = .ok (.invokevirtual 184, 3) := by decide +kernel
theorem dX0_blockAt_43 : dec mX0_blockAt 43 = .ok (.iconst (-1), 1) := by decide +kernel
theorem dX0_blockAt_44 : dec mX0_blockAt 44 = .ok (.if_icmp .eq 7, 3) := by decide +kernel
theorem dX0_blockAt_47 : dec mX0_blockAt 47 = .ok (.iload_n 2, 1) := by decide +kernel
theorem dX0_blockAt_48 : dec mX0_blockAt 48 = .ok (.goto 4, 3) := by decide +kernel
theorem dX0_blockAt_51 : dec mX0_blockAt 51 = .ok (.iconst (-1), 1) := by decide +kernel
theorem dX0_blockAt_52 : dec mX0_blockAt 52 = .ok (.ireturn, 1) := by decide +kernel
theorem dX0_isFreeBlock_0 : dec mX0_isFreeBlock 0 = .ok (.aload_n 0, 1) := by decide +kernel
theorem dX0_isFreeBlock_1 : dec mX0_isFreeBlock 1 = .ok (.iload_n 1, 1) := by decide +kernel
theorem dX0_isFreeBlock_2 : dec mX0_isFreeBlock 2 = .ok (.invokevirtual 184, 3) := by decide +kernel
theorem dX0_isFreeBlock_5 : dec mX0_isFreeBlock 5 = .ok (.istore_n 2, 1) := by decide +kernel
theorem dX0_isFreeBlock_6 : dec mX0_isFreeBlock 6 = .ok (.iload_n 2, 1) := by decide +kernel
theorem dX0_isFreeBlock_7 : dec mX0_isFreeBlock 7 = .ok (.iconst (-1), 1) := by decide +kernel
theorem dX0_isFreeBlock_8 : dec mX0_isFreeBlock 8 = .ok (.if_icmp .eq 23, 3) := by decide +kernel
theorem dX0_isFreeBlock_11 : dec mX0_isFreeBlock 11 = .ok (.aload_n 0, 1) := by decide +kernel
theorem dX0_isFreeBlock_12 : dec mX0_isFreeBlock 12 = .ok (.iload_n 1, 1) := by decide +kernel
theorem dX0_isFreeBlock_13 : dec mX0_isFreeBlock 13 = .ok (.invokevirtual 168, 3) := by decide +kernel
theorem dX0_isFreeBlock_16 : dec mX0_isFreeBlock 16 = .ok (.ifCond .ne 15, 3) := by decide +kernel
theorem dX0_isFreeBlock_19 : dec mX0_isFreeBlock 19 = .ok (.aload_n 0, 1) := by decide +kernel
theorem dX0_isFreeBlock_20 : dec mX0_isFreeBlock 20 = .ok (.iload_n 2, 1) := by decide +kernel
theorem dX0_isFreeBlock_21 : dec mX0_isFreeBlock 21 = .ok (.invokevirtual 168, 3) := by decide +kernel
theorem dX0_isFreeBlock_24 : dec mX0_isFreeBlock 24 = .ok (.ifCond .ne 7, 3) := by decide +kernel
theorem dX0_isFreeBlock_27 : dec mX0_isFreeBlock 27 = .ok (.iconst 1, 1) := by decide +kernel
theorem dX0_isFreeBlock_28 : dec mX0_isFreeBlock 28 = .ok (.goto 4, 3) := by decide +kernel
theorem dX0_isFreeBlock_31 : dec mX0_isFreeBlock 31 = .ok (.iconst 0, 1) := by decide +kernel
theorem dX0_isFreeBlock_32 : dec mX0_isFreeBlock 32 = .ok (.ireturn, 1) := by decide +kernel
theorem dX0_flipGain_0 : dec mX0_flipGain 0 = .ok (.aload_n 0, 1) := by decide +kernel
theorem dX0_flipGain_1 : dec mX0_flipGain 1 = .ok (.iload_n 1, 1) := by decide +kernel
theorem dX0_flipGain_2 : dec mX0_flipGain 2 = .ok (.invokevirtual 119, 3) := by decide +kernel
theorem dX0_flipGain_5 : dec mX0_flipGain 5 = .ok (.istore_n 3, 1) := by decide +kernel
theorem dX0_flipGain_6 : dec mX0_flipGain 6 = .ok (.aload_n 0, 1) := by decide +kernel
theorem dX0_flipGain_7 : dec mX0_flipGain 7 = .ok (.getfield 12, 3) := by decide +kernel
theorem dX0_flipGain_10 : dec mX0_flipGain 10 = .ok (.getfield 109, 3) := by decide +kernel
theorem dX0_flipGain_13 : dec mX0_flipGain 13 = .ok (.iload_n 1, 1) := by decide +kernel
theorem dX0_flipGain_14 : dec mX0_flipGain 14 = .ok (.invokestatic 115, 3) := by decide +kernel
theorem dX0_flipGain_17 : dec mX0_flipGain 17 = .ok (.istore 4, 2) := by decide +kernel
theorem dX0_flipGain_19 : dec mX0_flipGain 19 = .ok (.iload 4, 2) := by decide +kernel
theorem dX0_flipGain_21 : dec mX0_flipGain 21 = .ok (.iload_n 3, 1) := by decide +kernel
theorem dX0_flipGain_22 : dec mX0_flipGain 22 = .ok (.ifCond .eq 7, 3) := by decide +kernel
theorem dX0_flipGain_25 : dec mX0_flipGain 25 = .ok (.iconst 1, 1) := by decide +kernel
theorem dX0_flipGain_26 : dec mX0_flipGain 26 = .ok (.goto 7, 3) := by decide +kernel
theorem dX0_flipGain_29 : dec mX0_flipGain 29 = .ok (.aload_n 0, 1) := by decide +kernel
theorem dX0_flipGain_30 : dec mX0_flipGain 30 = .ok (.getfield 96, 3) := by decide +kernel
theorem dX0_flipGain_33 : dec mX0_flipGain 33 = .ok (.iadd, 1) := by decide +kernel
theorem dX0_flipGain_34 : dec mX0_flipGain 34 = .ok (.istore 5, 2) := by decide +kernel
theorem dX0_flipGain_36 : dec mX0_flipGain 36 = .ok (.iload_n 3, 1) := by decide +kernel
theorem dX0_flipGain_37 : dec mX0_flipGain 37 = .ok (.ifCond .eq 10, 3) := by decide +kernel
theorem dX0_flipGain_40 : dec mX0_flipGain 40 = .ok (.aload_n 0, 1) := by decide +kernel
theorem dX0_flipGain_41 : dec mX0_flipGain 41 = .ok (.getfield 96, 3) := by decide +kernel
theorem dX0_flipGain_44 : dec mX0_flipGain 44 = .ok (.goto 4, 3) := by decide +kernel
theorem dX0_flipGain_47 : dec mX0_flipGain 47 = .ok (.iconst 1, 1) := by decide +kernel
theorem dX0_flipGain_48 : dec mX0_flipGain 48 = .ok (.istore 6, 2) := by decide +kernel
theorem dX0_flipGain_50 : dec mX0_flipGain 50 = .ok (.aload_n 0, 1) := by decide +kernel
theorem dX0_flipGain_51 : dec mX0_flipGain 51 = .ok (.iload_n 1, 1) := by decide +kernel
theorem dX0_flipGain_52 : dec mX0_flipGain 52 = .ok (.aload_n 0, 1) := by decide +kernel
theorem dX0_flipGain_53 : dec mX0_flipGain 53 = .ok (.getfield 12, 3) := by decide +kernel
theorem dX0_flipGain_56 : dec mX0_flipGain 56 = .ok (.getfield 66, 3) := by decide +kernel
theorem dX0_flipGain_59 : dec mX0_flipGain 59 = .ok (.iload_n 1, 1) := by decide +kernel
theorem dX0_flipGain_60 : dec mX0_flipGain 60 = .ok (.invokestatic 115, 3) := by decide +kernel
theorem dX0_flipGain_63 : dec mX0_flipGain 63 = .ok (.invokevirtual 123, 3) := by decide +kernel
theorem dX0_flipGain_66 : dec mX0_flipGain 66 = .ok (.aload_n 0, 1) := by decide +kernel
theorem dX0_flipGain_67 : dec mX0_flipGain 67 = .ok (.iload_n 2, 1) := by decide +kernel
theorem dX0_flipGain_68 : dec mX0_flipGain 68 = .ok (.aload_n 0, 1) := by decide +kernel
theorem dX0_flipGain_69 : dec mX0_flipGain 69 = .ok (.getfield 12, 3) := by decide +kernel
theorem dX0_flipGain_72 : dec mX0_flipGain 72 = .ok (.getfield 66, 3) := by decide +kernel
theorem dX0_flipGain_75 : dec mX0_flipGain 75 = .ok (.iload_n 2, 1) := by decide +kernel
theorem dX0_flipGain_76 : dec mX0_flipGain 76 = .ok (.invokestatic 115, 3) := by decide +kernel
theorem dX0_flipGain_79 : dec mX0_flipGain 79 = .ok (.invokevirtual 123, 3) := by decide +kernel
theorem dX0_flipGain_82 : dec mX0_flipGain 82 = .ok (.iadd, 1) := by decide +kernel
theorem dX0_flipGain_83 : dec mX0_flipGain 83 = .ok (.aload_n 0, 1) := by decide +kernel
theorem dX0_flipGain_84 : dec mX0_flipGain 84 = .ok (.iload 4, 2) := by decide +kernel
theorem dX0_flipGain_86 : dec mX0_flipGain 86 = .ok (.iload 4, 2) := by decide +kernel
theorem dX0_flipGain_88 : dec mX0_flipGain 88 = .ok (.iload 6, 2) := by decide +kernel
theorem dX0_flipGain_90 : dec mX0_flipGain 90 = .ok (.iadd, 1) := by decide +kernel
theorem dX0_flipGain_91 : dec mX0_flipGain 91 = .ok (.aload_n 0, 1) := by decide +kernel
theorem dX0_flipGain_92 : dec mX0_flipGain 92 = .ok (.getfield 12, 3) := by decide +kernel
theorem dX0_flipGain_95 : dec mX0_flipGain 95 = .ok (.getfield 82, 3) := by decide +kernel
theorem dX0_flipGain_98 : dec mX0_flipGain 98 = .ok (.iload_n 1, 1) := by decide +kernel
theorem dX0_flipGain_99 : dec mX0_flipGain 99 = .ok (.invokestatic 115, 3) := by decide +kernel
theorem dX0_flipGain_102 : dec mX0_flipGain 102 = .ok (.invokevirtual 134, 3) := by decide +kernel
theorem dX0_flipGain_105 : dec mX0_flipGain 105 = .ok (.isub, 1) := by decide +kernel
theorem dX0_flipGain_106 : dec mX0_flipGain 106 = .ok (.aload_n 0, 1) := by decide +kernel
theorem dX0_flipGain_107 : dec mX0_flipGain 107 = .ok (.iload 5, 2) := by decide +kernel
theorem dX0_flipGain_109 : dec mX0_flipGain 109 = .ok (.iload 5, 2) := by decide +kernel
theorem dX0_flipGain_111 : dec mX0_flipGain 111 = .ok (.iload 6, 2) := by decide +kernel
theorem dX0_flipGain_113 : dec mX0_flipGain 113 = .ok (.iadd, 1) := by decide +kernel
theorem dX0_flipGain_114 : dec mX0_flipGain 114 = .ok (.aload_n 0, 1) := by decide +kernel
theorem dX0_flipGain_115 : dec mX0_flipGain 115 = .ok (.getfield 12, 3) := by decide +kernel
theorem dX0_flipGain_118 : dec mX0_flipGain 118 = .ok (.getfield 82, 3) := by decide +kernel
theorem dX0_flipGain_121 : dec mX0_flipGain 121 = .ok (.iload_n 2, 1) := by decide +kernel
theorem dX0_flipGain_122 : dec mX0_flipGain 122 = .ok (.invokestatic 115, 3) := by decide +kernel
theorem dX0_flipGain_125 : dec mX0_flipGain 125 = .ok (.invokevirtual 134, 3) := by decide +kernel
theorem dX0_flipGain_128 : dec mX0_flipGain 128 = .ok (.isub, 1) := by decide +kernel
theorem dX0_flipGain_129 : dec mX0_flipGain 129 = .ok (.ireturn, 1) := by decide +kernel
theorem dX0_flipBlock_0 : dec mX0_flipBlock 0 = .ok (.aload_n 0, 1) := by decide +kernel
theorem dX0_flipBlock_1 : dec mX0_flipBlock 1 = .ok (.iload_n 1, 1) := by decide +kernel
theorem dX0_flipBlock_2 : dec mX0_flipBlock 2 = .ok (.invokevirtual 184, 3) := by decide +kernel
theorem dX0_flipBlock_5 : dec mX0_flipBlock 5 = .ok (.istore_n 2, 1) := by decide +kernel
theorem dX0_flipBlock_6 : dec mX0_flipBlock 6 = .ok (.aload_n 0, 1) := by decide +kernel
theorem dX0_flipBlock_7 : dec mX0_flipBlock 7 = .ok (.iload_n 1, 1) := by decide +kernel
theorem dX0_flipBlock_8 : dec mX0_flipBlock 8 = .ok (.invokevirtual 119, 3) := by decide +kernel
theorem dX0_flipBlock_11 : dec mX0_flipBlock 11 = .ok (.istore_n 3, 1) := by decide +kernel
theorem dX0_flipBlock_12 : dec mX0_flipBlock 12 = .ok (.aload_n 0, 1) := by decide +kernel
theorem dX0_flipBlock_13 : dec mX0_flipBlock 13 = .ok (.getfield 12, 3) := by decide +kernel
theorem dX0_flipBlock_16 : dec mX0_flipBlock 16 = .ok (.getfield 109, 3) := by decide +kernel
theorem dX0_flipBlock_19 : dec mX0_flipBlock 19 = .ok (.iload_n 1, 1) := by decide +kernel
theorem dX0_flipBlock_20 : dec mX0_flipBlock 20 = .ok (.invokestatic 115, 3) := by decide +kernel
theorem dX0_flipBlock_23 : dec mX0_flipBlock 23 = .ok (.istore 4, 2) := by decide +kernel
theorem dX0_flipBlock_25 : dec mX0_flipBlock 25 = .ok (.iload 4, 2) := by decide +kernel
theorem dX0_flipBlock_27 : dec mX0_flipBlock 27 = .ok (.iload_n 3, 1) := by decide +kernel
theorem dX0_flipBlock_28 : dec mX0_flipBlock 28 = .ok (.ifCond .eq 7, 3) := by decide +kernel
theorem dX0_flipBlock_31 : dec mX0_flipBlock 31 = .ok (.iconst 1, 1) := by decide +kernel
theorem dX0_flipBlock_32 : dec mX0_flipBlock 32 = .ok (.goto 7, 3) := by decide +kernel
theorem dX0_flipBlock_35 : dec mX0_flipBlock 35 = .ok (.aload_n 0, 1) := by decide +kernel
theorem dX0_flipBlock_36 : dec mX0_flipBlock 36 = .ok (.getfield 96, 3) := by decide +kernel
theorem dX0_flipBlock_39 : dec mX0_flipBlock 39 = .ok (.iadd, 1) := by decide +kernel
theorem dX0_flipBlock_40 : dec mX0_flipBlock 40 = .ok (.istore 5, 2) := by decide +kernel
theorem dX0_flipBlock_42 : dec mX0_flipBlock 42 = .ok (.iload_n 3, 1) := by decide +kernel
theorem dX0_flipBlock_43 : dec mX0_flipBlock 43 = .ok (.ifCond .eq 10, 3) := by decide +kernel
theorem dX0_flipBlock_46 : dec mX0_flipBlock 46 = .ok (.aload_n 0, 1) := by decide +kernel
theorem dX0_flipBlock_47 : dec mX0_flipBlock 47 = .ok (.getfield 96, 3) := by decide +kernel
theorem dX0_flipBlock_50 : dec mX0_flipBlock 50 = .ok (.goto 4, 3) := by decide +kernel
theorem dX0_flipBlock_53 : dec mX0_flipBlock 53 = .ok (.iconst 1, 1) := by decide +kernel
theorem dX0_flipBlock_54 : dec mX0_flipBlock 54 = .ok (.istore 6, 2) := by decide +kernel
theorem dX0_flipBlock_56 : dec mX0_flipBlock 56 = .ok (.aload_n 0, 1) := by decide +kernel
theorem dX0_flipBlock_57 : dec mX0_flipBlock 57 = .ok (.getfield 12, 3) := by decide +kernel
theorem dX0_flipBlock_60 : dec mX0_flipBlock 60 = .ok (.getfield 112, 3) := by decide +kernel
theorem dX0_flipBlock_63 : dec mX0_flipBlock 63 = .ok (.iload_n 1, 1) := by decide +kernel
theorem dX0_flipBlock_64 : dec mX0_flipBlock 64 = .ok (.iload 4, 2) := by decide +kernel
theorem dX0_flipBlock_66 : dec mX0_flipBlock 66 = .ok (.iload 6, 2) := by decide +kernel
theorem dX0_flipBlock_68 : dec mX0_flipBlock 68 = .ok (.iadd, 1) := by decide +kernel
theorem dX0_flipBlock_69 : dec mX0_flipBlock 69 = .ok (.invokestatic 85, 3) := by decide +kernel
theorem dX0_flipBlock_72 : dec mX0_flipBlock 72 = .ok (.aload_n 0, 1) := by decide +kernel
theorem dX0_flipBlock_73 : dec mX0_flipBlock 73 = .ok (.getfield 12, 3) := by decide +kernel
theorem dX0_flipBlock_76 : dec mX0_flipBlock 76 = .ok (.getfield 109, 3) := by decide +kernel
theorem dX0_flipBlock_79 : dec mX0_flipBlock 79 = .ok (.iload_n 2, 1) := by decide +kernel
theorem dX0_flipBlock_80 : dec mX0_flipBlock 80 = .ok (.iload 5, 2) := by decide +kernel
theorem dX0_flipBlock_82 : dec mX0_flipBlock 82 = .ok (.invokestatic 85, 3) := by decide +kernel
theorem dX0_flipBlock_85 : dec mX0_flipBlock 85 = .ok (.aload_n 0, 1) := by decide +kernel
theorem dX0_flipBlock_86 : dec mX0_flipBlock 86 = .ok (.iload_n 1, 1) := by decide +kernel
theorem dX0_flipBlock_87 : dec mX0_flipBlock 87 = .ok (.invokevirtual 177, 3) := by decide +kernel
theorem dX0_flipBlock_90 : dec mX0_flipBlock 90 = .ok (.aload_n 0, 1) := by decide +kernel
theorem dX0_flipBlock_91 : dec mX0_flipBlock 91 = .ok (.iload_n 2, 1) := by decide +kernel
theorem dX0_flipBlock_92 : dec mX0_flipBlock 92 = .ok (.invokevirtual 177, 3) := by decide +kernel
theorem dX0_flipBlock_95 : dec mX0_flipBlock 95 = .ok (.aload_n 0, 1) := by decide +kernel
theorem dX0_flipBlock_96 : dec mX0_flipBlock 96 = .ok (.iload_n 2, 1) := by decide +kernel
theorem dX0_flipBlock_97 : dec mX0_flipBlock 97 = .ok (.invokevirtual 187, 3) := by decide +kernel
theorem dX0_flipBlock_100 : dec mX0_flipBlock 100 = .ok (.aload_n 0, 1) := by decide +kernel
theorem dX0_flipBlock_101 : dec mX0_flipBlock 101 = .ok (.invokevirtual 89, 3) := by decide +kernel
theorem dX0_flipBlock_104 : dec mX0_flipBlock 104 = .ok (.aload_n 0, 1) := by decide +kernel
theorem dX0_flipBlock_105 : dec mX0_flipBlock 105 = .ok (.getfield 12, 3) := by decide +kernel
theorem dX0_flipBlock_108 : dec mX0_flipBlock 108 = .ok (.dup, 1) := by decide +kernel
theorem dX0_flipBlock_109 : dec mX0_flipBlock 109 = .ok (.getfield 54, 3) := by decide +kernel
theorem dX0_flipBlock_112 : dec mX0_flipBlock 112 = .ok (.iconst 1, 1) := by decide +kernel
theorem dX0_flipBlock_113 : dec mX0_flipBlock 113 = .ok (.iadd, 1) := by decide +kernel
theorem dX0_flipBlock_114 : dec mX0_flipBlock 114 = .ok (.putfield 54, 3) := by decide +kernel
theorem dX0_flipBlock_117 : dec mX0_flipBlock 117 = .ok (.return_, 1) := by decide +kernel
theorem dX0_tryFlip_0 : dec mX0_tryFlip 0 = .ok (.aload_n 0, 1) := by decide +kernel
theorem dX0_tryFlip_1 : dec mX0_tryFlip 1 = .ok (.iload_n 1, 1) := by decide +kernel
theorem dX0_tryFlip_2 : dec mX0_tryFlip 2 = .ok (.iload_n 2, 1) := by decide +kernel
theorem dX0_tryFlip_3 : dec mX0_tryFlip 3 = .ok (.invokevirtual 155, 3) := by decide +kernel
theorem dX0_tryFlip_6 : dec mX0_tryFlip 6 = .ok (.ifCond .eq 16, 3) := by decide +kernel
theorem dX0_tryFlip_9 : dec mX0_tryFlip 9 = .ok (.aload_n 0, 1) := by decide +kernel
theorem dX0_tryFlip_10 : dec mX0_tryFlip 10 = .ok (.aload_n 0, 1) := by decide +kernel
theorem dX0_tryFlip_11 : dec mX0_tryFlip 11 = .ok (.iload_n 1, 1) := by decide +kernel
theorem dX0_tryFlip_12 : dec mX0_tryFlip 12 = .ok (.iload_n 2, 1) := by decide +kernel
theorem dX0_tryFlip_13 : dec mX0_tryFlip 13 = .ok (.invokevirtual 162, 3) := by decide +kernel
theorem dX0_tryFlip_16 : dec mX0_tryFlip 16 = .ok (.invokevirtual 190, 3) := by decide +kernel
theorem dX0_tryFlip_19 : dec mX0_tryFlip 19 = .ok (.goto 4, 3) := by decide +kernel
theorem dX0_tryFlip_22 : dec mX0_tryFlip 22 = .ok (.iconst (-1), 1) := by decide +kernel
theorem dX0_tryFlip_23 : dec mX0_tryFlip 23 = .ok (.istore_n 3, 1) := by decide +kernel
theorem dX0_tryFlip_24 : dec mX0_tryFlip 24 = .ok (.iload_n 3, 1) := by decide +kernel
theorem dX0_tryFlip_25 : dec mX0_tryFlip 25 = .ok (.iconst (-1), 1) := by decide +kernel
theorem dX0_tryFlip_26 : dec mX0_tryFlip 26 = .ok (.if_icmp .eq 11, 3) := by decide +kernel
theorem dX0_tryFlip_29 : dec mX0_tryFlip 29 = .ok (.aload_n 0, 1) := by decide +kernel
theorem dX0_tryFlip_30 : dec mX0_tryFlip 30 = .ok (.iload_n 3, 1) := by decide +kernel
theorem dX0_tryFlip_31 : dec mX0_tryFlip 31 = .ok (.invokevirtual 193, 3) := by decide +kernel
theorem dX0_tryFlip_34 : dec mX0_tryFlip 34 = .ok (.ifCond .ne 5, 3) := by decide +kernel
theorem dX0_tryFlip_37 : dec mX0_tryFlip 37 = .ok (.iconst 0, 1) := by decide +kernel
theorem dX0_tryFlip_38 : dec mX0_tryFlip 38 = .ok (.ireturn, 1) := by decide +kernel
theorem dX0_tryFlip_39 : dec mX0_tryFlip 39 = .ok (.aload_n 0, 1) := by decide +kernel
theorem dX0_tryFlip_40 : dec mX0_tryFlip 40 = .ok (.iload_n 3, 1) := by decide +kernel
theorem dX0_tryFlip_41 : dec mX0_tryFlip 41 = .ok (.invokevirtual 196, 3) := by decide +kernel
theorem dX0_tryFlip_44 : dec mX0_tryFlip 44 = .ok (.iconst 1, 1) := by decide +kernel
theorem dX0_tryFlip_45 : dec mX0_tryFlip 45 = .ok (.ireturn, 1) := by decide +kernel
theorem dX0_numberAnew_0 : dec mX0_numberAnew 0 = .ok (.iload_n 1, 1) := by decide +kernel
theorem dX0_numberAnew_1 : dec mX0_numberAnew 1 = .ok (.istore_n 2, 1) := by decide +kernel
theorem dX0_numberAnew_2 : dec mX0_numberAnew 2 = .ok (.iconst 0, 1) := by decide +kernel
theorem dX0_numberAnew_3 : dec mX0_numberAnew 3 = .ok (.istore_n 3, 1) := by decide +kernel
theorem dX0_numberAnew_4 : dec mX0_numberAnew 4 = .ok (.iload_n 3, 1) := by decide +kernel
theorem dX0_numberAnew_5 : dec mX0_numberAnew 5 = .ok (.bipush 56, 2) := by decide +kernel
theorem dX0_numberAnew_7 : dec mX0_numberAnew 7 = .ok (.if_icmp .ge 51, 3) := by decide +kernel
theorem dX0_numberAnew_10 : dec mX0_numberAnew 10 = .ok (.iload_n 2, 1) := by decide +kernel
theorem dX0_numberAnew_11 : dec mX0_numberAnew 11 = .ok (.ifCond .le 47, 3) := by decide +kernel
theorem dX0_numberAnew_14 : dec mX0_numberAnew 14 = .ok (.aload_n 0, 1) := by decide +kernel
theorem dX0_numberAnew_15 : dec mX0_numberAnew 15 = .ok (.getfield 12, 3) := by decide +kernel
theorem dX0_numberAnew_18 : dec mX0_numberAnew 18 = .ok (.getfield 109, 3) := by decide +kernel
theorem dX0_numberAnew_21 : dec mX0_numberAnew 21 = .ok (.iload_n 2, 1) := by decide +kernel
theorem dX0_numberAnew_22 : dec mX0_numberAnew 22 = .ok (.iconst 1, 1) := by decide +kernel
theorem dX0_numberAnew_23 : dec mX0_numberAnew 23 = .ok (.isub, 1) := by decide +kernel
theorem dX0_numberAnew_24 : dec mX0_numberAnew 24 = .ok (.invokestatic 115, 3) := by decide +kernel
theorem dX0_numberAnew_27 : dec mX0_numberAnew 27 = .ok (.aload_n 0, 1) := by decide +kernel
theorem dX0_numberAnew_28 : dec mX0_numberAnew 28 = .ok (.getfield 12, 3) := by decide +kernel
theorem dX0_numberAnew_31 : dec mX0_numberAnew 31 = .ok (.getfield 109, 3) := by decide +kernel
theorem dX0_numberAnew_34 : dec mX0_numberAnew 34 = .ok (.iload_n 2, 1) := by decide +kernel
theorem dX0_numberAnew_35 : dec mX0_numberAnew 35 = .ok (.invokestatic 115, 3) := by decide +kernel
theorem dX0_numberAnew_38 : dec mX0_numberAnew 38 = .ok (.if_icmp .le 20, 3) := by decide +kernel
theorem dX0_numberAnew_41 : dec mX0_numberAnew 41 = .ok (.aload_n 0, 1) := by decide +kernel
theorem dX0_numberAnew_42 : dec mX0_numberAnew 42 = .ok (.iload_n 2, 1) := by decide +kernel
theorem dX0_numberAnew_43 : dec mX0_numberAnew 43 = .ok (.iconst 1, 1) := by decide +kernel
theorem dX0_numberAnew_44 : dec mX0_numberAnew 44 = .ok (.isub, 1) := by decide +kernel
theorem dX0_numberAnew_45 : dec mX0_numberAnew 45 = .ok (.iload_n 2, 1) := by decide +kernel
theorem dX0_numberAnew_46 : dec mX0_numberAnew 46 = .ok (.invokevirtual 199, 3) := by decide +kernel
theorem dX0_numberAnew_49 : dec mX0_numberAnew 49 = .ok (.iinc 2 (-1), 3) := by decide +kernel
theorem dX0_numberAnew_52 : dec mX0_numberAnew 52 = .ok (.iinc 3 1, 3) := by decide +kernel
theorem dX0_numberAnew_55 : dec mX0_numberAnew 55 = .ok (.goto (-51), 3) := by decide +kernel
theorem dX0_numberAnew_58 : dec mX0_numberAnew 58 = .ok (.iconst 0, 1) := by decide +kernel
theorem dX0_numberAnew_59 : dec mX0_numberAnew 59 = .ok (.istore_n 3, 1) := by decide +kernel
theorem dX0_numberAnew_60 : dec mX0_numberAnew 60 = .ok (.iload_n 3, 1) := by decide +kernel
theorem dX0_numberAnew_61 : dec mX0_numberAnew 61 = .ok (.bipush 56, 2) := by decide +kernel
theorem dX0_numberAnew_63 : dec mX0_numberAnew 63 = .ok (.if_icmp .ge 57, 3) := by decide +kernel
theorem dX0_numberAnew_66 : dec mX0_numberAnew 66 = .ok (.iload_n 2, 1) := by decide +kernel
theorem dX0_numberAnew_67 : dec mX0_numberAnew 67 = .ok (.iconst 1, 1) := by decide +kernel
theorem dX0_numberAnew_68 : dec mX0_numberAnew 68 = .ok (.iadd, 1) := by decide +kernel
theorem dX0_numberAnew_69 : dec mX0_numberAnew 69 = .ok (.aload_n 0, 1) := by decide +kernel
theorem dX0_numberAnew_70 : dec mX0_numberAnew 70 = .ok (.getfield 75, 3) := by decide +kernel
theorem dX0_numberAnew_73 : dec mX0_numberAnew 73 = .ok (.if_icmp .ge 47, 3) := by decide +kernel
theorem dX0_numberAnew_76 : dec mX0_numberAnew 76 = .ok (.aload_n 0, 1) := by decide +kernel
theorem dX0_numberAnew_77 : dec mX0_numberAnew 77 = .ok (.getfield 12, 3) := by decide +kernel
theorem dX0_numberAnew_80 : dec mX0_numberAnew 80 = .ok (.getfield 109, 3) := by decide +kernel
theorem dX0_numberAnew_83 : dec mX0_numberAnew 83 = .ok (.iload_n 2, 1) := by decide +kernel
theorem dX0_numberAnew_84 : dec mX0_numberAnew 84 = .ok (.iconst 1, 1) := by decide +kernel
theorem dX0_numberAnew_85 : dec mX0_numberAnew 85 = .ok (.iadd, 1) := by decide +kernel
theorem dX0_numberAnew_86 : dec mX0_numberAnew 86 = .ok (.invokestatic 115, 3) := by decide +kernel
theorem dX0_numberAnew_89 : dec mX0_numberAnew 89 = .ok (.aload_n 0, 1) := by decide +kernel
theorem dX0_numberAnew_90 : dec mX0_numberAnew 90 = .ok (.getfield 12, 3) := by decide +kernel
theorem dX0_numberAnew_93 : dec mX0_numberAnew 93 = .ok (.getfield 109, 3) := by decide +kernel
theorem dX0_numberAnew_96 : dec mX0_numberAnew 96 = .ok (.iload_n 2, 1) := by decide +kernel
theorem dX0_numberAnew_97 : dec mX0_numberAnew 97 = .ok (.invokestatic 115, 3) := by decide +kernel
theorem dX0_numberAnew_100 : dec mX0_numberAnew 100 = .ok (.if_icmp .ge 20, 3) := by decide +kernel
theorem dX0_numberAnew_103 : dec mX0_numberAnew 103 = .ok (.aload_n 0, 1) := by decide +kernel
theorem dX0_numberAnew_104 : dec mX0_numberAnew 104 = .ok (.iload_n 2, 1) := by decide +kernel
theorem dX0_numberAnew_105 : dec mX0_numberAnew 105 = .ok (.iload_n 2, 1) := by decide +kernel
theorem dX0_numberAnew_106 : dec mX0_numberAnew 106 = .ok (.iconst 1, 1) := by decide +kernel
theorem dX0_numberAnew_107 : dec mX0_numberAnew 107 = .ok (.iadd, 1) := by decide +kernel
theorem dX0_numberAnew_108 : dec mX0_numberAnew 108 = .ok (.invokevirtual 199, 3) := by decide +kernel
theorem dX0_numberAnew_111 : dec mX0_numberAnew 111 = .ok (.iinc 2 1, 3) := by decide +kernel
theorem dX0_numberAnew_114 : dec mX0_numberAnew 114 = .ok (.iinc 3 1, 3) := by decide +kernel
theorem dX0_numberAnew_117 : dec mX0_numberAnew 117 = .ok (.goto (-57), 3) := by decide +kernel
theorem dX0_numberAnew_120 : dec mX0_numberAnew 120 = .ok (.return_, 1) := by decide +kernel
theorem dX0_exchangePlaces_0 : dec mX0_exchangePlaces 0 = .ok (.aload_n 0, 1) := by decide +kernel
theorem dX0_exchangePlaces_1 : dec mX0_exchangePlaces 1 = .ok (.getfield 12, 3) := by decide +kernel
theorem dX0_exchangePlaces_4 : dec mX0_exchangePlaces 4 = .ok (.getfield 109, 3) := by decide +kernel
theorem dX0_exchangePlaces_7 : dec mX0_exchangePlaces 7 = .ok (.iload_n 1, 1) := by decide +kernel
theorem dX0_exchangePlaces_8 : dec mX0_exchangePlaces 8 = .ok (.iload_n 2, 1) := by decide +kernel
theorem dX0_exchangePlaces_9 : dec mX0_exchangePlaces 9 = .ok (.invokestatic 174, 3) := by decide +kernel
theorem dX0_exchangePlaces_12 : dec mX0_exchangePlaces 12 = .ok (.aload_n 0, 1) := by decide +kernel
theorem dX0_exchangePlaces_13 : dec mX0_exchangePlaces 13 = .ok (.getfield 12, 3) := by decide +kernel
theorem dX0_exchangePlaces_16 : dec mX0_exchangePlaces 16 = .ok (.getfield 112, 3) := by decide +kernel
theorem dX0_exchangePlaces_19 : dec mX0_exchangePlaces 19 = .ok (.iload_n 1, 1) := by decide +kernel
theorem dX0_exchangePlaces_20 : dec mX0_exchangePlaces 20 = .ok (.iload_n 2, 1) := by decide +kernel
theorem dX0_exchangePlaces_21 : dec mX0_exchangePlaces 21 = .ok (.invokestatic 174, 3) := by decide +kernel
theorem dX0_exchangePlaces_24 : dec mX0_exchangePlaces 24 = .ok (.aload_n 0, 1) := by decide +kernel
theorem dX0_exchangePlaces_25 : dec mX0_exchangePlaces 25 = .ok (.getfield 12, 3) := by decide +kernel
theorem dX0_exchangePlaces_28 : dec mX0_exchangePlaces 28 = .ok (.getfield 82, 3) := by decide +kernel
theorem dX0_exchangePlaces_31 : dec mX0_exchangePlaces 31 = .ok (.iload_n 1, 1) := by decide +kernel
theorem dX0_exchangePlaces_32 : dec mX0_exchangePlaces 32 = .ok (.iload_n 2, 1) := by decide +kernel
theorem dX0_exchangePlaces_33 : dec mX0_exchangePlaces 33 = .ok (.invokestatic 174, 3) := by decide +kernel
theorem dX0_exchangePlaces_36 : dec mX0_exchangePlaces 36 = .ok (.aload_n 0, 1) := by decide +kernel
theorem dX0_exchangePlaces_37 : dec mX0_exchangePlaces 37 = .ok (.getfield 12, 3) := by decide +kernel
theorem dX0_exchangePlaces_40 : dec mX0_exchangePlaces 40 = .ok (.getfield 66, 3) := by decide +kernel
theorem dX0_exchangePlaces_43 : dec mX0_exchangePlaces 43 = .ok (.iload_n 1, 1) := by decide +kernel
theorem dX0_exchangePlaces_44 : dec mX0_exchangePlaces 44 = .ok (.iload_n 2, 1) := by decide +kernel
theorem dX0_exchangePlaces_45 : dec mX0_exchangePlaces 45 = .ok (.invokestatic 174, 3) := by decide +kernel
theorem dX0_exchangePlaces_48 : dec mX0_exchangePlaces 48 = .ok (.aload_n 0, 1) := by decide +kernel
theorem dX0_exchangePlaces_49 : dec mX0_exchangePlaces 49 = .ok (.getfield 12, 3) := by decide +kernel
theorem dX0_exchangePlaces_52 : dec mX0_exchangePlaces 52 = .ok (.getfield 69, 3) := by decide +kernel
theorem dX0_exchangePlaces_55 : dec mX0_exchangePlaces 55 = .ok (.iload_n 1, 1) := by decide +kernel
theorem dX0_exchangePlaces_56 : dec mX0_exchangePlaces 56 = .ok (.iload_n 2, 1) := by decide +kernel
theorem dX0_exchangePlaces_57 : dec mX0_exchangePlaces 57 = .ok (.invokestatic 174, 3) := by decide +kernel
theorem dX0_exchangePlaces_60 : dec mX0_exchangePlaces 60 = .ok (.return_, 1) := by decide +kernel
theorem dX0_layAnew_0 : dec mX0_layAnew 0 = .ok (.aload_n 0, 1) := by decide +kernel
theorem dX0_layAnew_1 : dec mX0_layAnew 1 = .ok (.getfield 41, 3) := by decide +kernel
theorem dX0_layAnew_4 : dec mX0_layAnew 4 = .ok (.iconst 0, 1) := by decide +kernel
theorem dX0_layAnew_5 : dec mX0_layAnew 5 = .ok (.invokestatic 60, 3) := by decide +kernel
theorem dX0_layAnew_8 : dec mX0_layAnew 8 = .ok (.iconst 0, 1) := by decide +kernel
theorem dX0_layAnew_9 : dec mX0_layAnew 9 = .ok (.istore_n 1, 1) := by decide +kernel
theorem dX0_layAnew_10 : dec mX0_layAnew 10 = .ok (.iload_n 1, 1) := by decide +kernel
theorem dX0_layAnew_11 : dec mX0_layAnew 11 = .ok (.aload_n 0, 1) := by decide +kernel
theorem dX0_layAnew_12 : dec mX0_layAnew 12 = .ok (.getfield 75, 3) := by decide +kernel
theorem dX0_layAnew_15 : dec mX0_layAnew 15 = .ok (.if_icmp .ge 36, 3) := by decide +kernel
theorem dX0_layAnew_18 : dec mX0_layAnew 18 = .ok (.aload_n 0, 1) := by decide +kernel
theorem dX0_layAnew_19 : dec mX0_layAnew 19 = .ok (.iload_n 1, 1) := by decide +kernel
theorem dX0_layAnew_20 : dec mX0_layAnew 20 = .ok (.invokevirtual 168, 3) := by decide +kernel
theorem dX0_layAnew_23 : dec mX0_layAnew 23 = .ok (.ifCond .ne 22, 3) := by decide +kernel
theorem dX0_layAnew_26 : dec mX0_layAnew 26 = .ok (.aload_n 0, 1) := by decide +kernel
theorem dX0_layAnew_27 : dec mX0_layAnew 27 = .ok (.getfield 41, 3) := by decide +kernel
theorem dX0_layAnew_30 : dec mX0_layAnew 30 = .ok (.aload_n 0, 1) := by decide +kernel
theorem dX0_layAnew_31 : dec mX0_layAnew 31 = .ok (.getfield 12, 3) := by decide +kernel
theorem dX0_layAnew_34 : dec mX0_layAnew 34 = .ok (.getfield 82, 3) := by decide +kernel
theorem dX0_layAnew_37 : dec mX0_layAnew 37 = .ok (.iload_n 1, 1) := by decide +kernel
theorem dX0_layAnew_38 : dec mX0_layAnew 38 = .ok (.invokestatic 115, 3) := by decide +kernel
theorem dX0_layAnew_41 : dec mX0_layAnew 41 = .ok (.iconst 1, 1) := by decide +kernel
theorem dX0_layAnew_42 : dec mX0_layAnew 42 = .ok (.invokestatic 85, 3) := by decide +kernel
theorem dX0_layAnew_45 : dec mX0_layAnew 45 = .ok (.iinc 1 1, 3) := by decide +kernel
theorem dX0_layAnew_48 : dec mX0_layAnew 48 = .ok (.goto (-38), 3) := by decide +kernel
theorem dX0_layAnew_51 : dec mX0_layAnew 51 = .ok (.iconst 0, 1) := by decide +kernel
theorem dX0_layAnew_52 : dec mX0_layAnew 52 = .ok (.istore_n 1, 1) := by decide +kernel
theorem dX0_layAnew_53 : dec mX0_layAnew 53 = .ok (.iload_n 1, 1) := by decide +kernel
theorem dX0_layAnew_54 : dec mX0_layAnew 54 = .ok (.aload_n 0, 1) := by decide +kernel
theorem dX0_layAnew_55 : dec mX0_layAnew 55 = .ok (.getfield 75, 3) := by decide +kernel
theorem dX0_layAnew_58 : dec mX0_layAnew 58 = .ok (.if_icmp .ge 22, 3) := by decide +kernel
theorem dX0_layAnew_61 : dec mX0_layAnew 61 = .ok (.aload_n 0, 1) := by decide +kernel
theorem dX0_layAnew_62 : dec mX0_layAnew 62 = .ok (.iload_n 1, 1) := by decide +kernel
theorem dX0_layAnew_63 : dec mX0_layAnew 63 = .ok (.invokevirtual 168, 3) := by decide +kernel
theorem dX0_layAnew_66 : dec mX0_layAnew 66 = .ok (.ifCond .ne 8, 3) := by decide +kernel
theorem dX0_layAnew_69 : dec mX0_layAnew 69 = .ok (.aload_n 0, 1) := by decide +kernel
theorem dX0_layAnew_70 : dec mX0_layAnew 70 = .ok (.iload_n 1, 1) := by decide +kernel
theorem dX0_layAnew_71 : dec mX0_layAnew 71 = .ok (.invokevirtual 202, 3) := by decide +kernel
theorem dX0_layAnew_74 : dec mX0_layAnew 74 = .ok (.iinc 1 1, 3) := by decide +kernel
theorem dX0_layAnew_77 : dec mX0_layAnew 77 = .ok (.goto (-24), 3) := by decide +kernel
theorem dX0_layAnew_80 : dec mX0_layAnew 80 = .ok (.return_, 1) := by decide +kernel
theorem dX0_layBestTile_0 : dec mX0_layBestTile 0 = .ok (.aload_n 0, 1) := by decide +kernel
theorem dX0_layBestTile_1 : dec mX0_layBestTile 1 = .ok (.getfield 12, 3) := by decide +kernel
theorem dX0_layBestTile_4 : dec mX0_layBestTile 4 = .ok (.getfield 57, 3) := by decide +kernel
theorem dX0_layBestTile_7 : dec mX0_layBestTile 7 = .ok (.aload_n 0, 1) := by decide +kernel
theorem dX0_layBestTile_8 : dec mX0_layBestTile 8 = .ok (.getfield 12, 3) := by decide +kernel
theorem dX0_layBestTile_11 : dec mX0_layBestTile 11 = .ok (.getfield 109, 3) := by decide +kernel
theorem dX0_layBestTile_14 : dec mX0_layBestTile 14 = .ok (.iload_n 1, 1) := by decide +kernel
theorem dX0_layBestTile_15 : dec mX0_layBestTile 15 = .ok (.invokestatic 115, 3) := by decide +kernel
theorem dX0_layBestTile_18 : dec mX0_layBestTile 18 = .ok (.invokestatic 115, 3) := by decide +kernel
theorem dX0_layBestTile_21 : dec mX0_layBestTile 21 = .ok (.istore_n 2, 1) := by decide +kernel
theorem dX0_layBestTile_22 : dec mX0_layBestTile 22 = .ok (.aload_n 0, 1) := by decide +kernel
theorem dX0_layBestTile_23 : dec mX0_layBestTile 23 = .ok (.getfield 12, 3) := by decide +kernel
theorem dX0_layBestTile_26 : dec mX0_layBestTile 26 = .ok (.getfield 57, 3) := by decide +kernel
theorem dX0_layBestTile_29 : dec mX0_layBestTile 29 = .ok (.aload_n 0, 1) := by decide +kernel
theorem dX0_layBestTile_30 : dec mX0_layBestTile 30 = .ok (.getfield 12, 3) := by decide +kernel
theorem dX0_layBestTile_33 : dec mX0_layBestTile 33 = .ok (.getfield 112, 3) := by decide +kernel
theorem dX0_layBestTile_36 : dec mX0_layBestTile 36 = .ok (.iload_n 1, 1) := by decide +kernel
theorem dX0_layBestTile_37 : dec mX0_layBestTile 37 = .ok (.invokestatic 115, 3) := by decide +kernel
theorem dX0_layBestTile_40 : dec mX0_layBestTile 40 = .ok (.invokestatic 115, 3) := by decide +kernel
theorem dX0_layBestTile_43 : dec mX0_layBestTile 43 = .ok (.istore_n 3, 1) := by decide +kernel
theorem dX0_layBestTile_44 : dec mX0_layBestTile 44 = .ok (.iconst (-1), 1) := by decide +kernel
theorem dX0_layBestTile_45 : dec mX0_layBestTile 45 = .ok (.istore 4, 2) := by decide +kernel
theorem dX0_layBestTile_47 : dec mX0_layBestTile 47 = .ok (.iconst 0, 1) := by decide +kernel
theorem dX0_layBestTile_48 : dec mX0_layBestTile 48 = .ok (.istore 5, 2) := by decide +kernel
theorem dX0_layBestTile_50 : dec mX0_layBestTile 50 = .ok (.iconst 0, 1) := by decide +kernel
theorem dX0_layBestTile_51 : dec mX0_layBestTile 51 = .ok (.istore 6, 2) := by decide +kernel
theorem dX0_layBestTile_53 : dec mX0_layBestTile 53 = .ok (.iload 6, 2) := by decide +kernel
theorem dX0_layBestTile_55 : dec mX0_layBestTile 55 = .ok (.aload_n 0, 1) := by decide +kernel
theorem dX0_layBestTile_56 : dec mX0_layBestTile 56 = .ok (.getfield 75, 3) := by decide +kernel
theorem dX0_layBestTile_59 : dec mX0_layBestTile 59 = .ok (.if_icmp .ge 67, 3) := by decide +kernel
theorem dX0_layBestTile_62 : dec mX0_layBestTile 62 = .ok (.aload_n 0, 1) := by decide +kernel
theorem dX0_layBestTile_63 : dec mX0_layBestTile 63 = .ok (.getfield 41, 3) := by decide +kernel
theorem dX0_layBestTile_66 : dec mX0_layBestTile 66 = .ok (.iload 6, 2) := by decide +kernel
theorem dX0_layBestTile_68 : dec mX0_layBestTile 68 = .ok (.invokestatic 115, 3) := by decide +kernel
theorem dX0_layBestTile_71 : dec mX0_layBestTile 71 = .ok (.ifCond .eq 49, 3) := by decide +kernel
theorem dX0_layBestTile_74 : dec mX0_layBestTile 74 = .ok (.iload_n 2, 1) := by decide +kernel
theorem dX0_layBestTile_75 : dec mX0_layBestTile 75 = .ok (.iload_n 3, 1) := by decide +kernel
theorem dX0_layBestTile_76 : dec mX0_layBestTile 76 = .ok (.aload_n 0, 1) := by decide +kernel
theorem dX0_layBestTile_77 : dec mX0_layBestTile 77 = .ok (.getfield 25, 3) := by decide +kernel
theorem dX0_layBestTile_80 : dec mX0_layBestTile 80 = .ok (.iload 6, 2) := by decide +kernel
theorem dX0_layBestTile_82 : dec mX0_layBestTile 82 = .ok (.invokestatic 115, 3) := by decide +kernel
theorem dX0_layBestTile_85 : dec mX0_layBestTile 85 = .ok (.aload_n 0, 1) := by decide +kernel
theorem dX0_layBestTile_86 : dec mX0_layBestTile 86 = .ok (.getfield 28, 3) := by decide +kernel
theorem dX0_layBestTile_89 : dec mX0_layBestTile 89 = .ok (.iload 6, 2) := by decide +kernel
theorem dX0_layBestTile_91 : dec mX0_layBestTile 91 = .ok (.invokestatic 115, 3) := by decide +kernel
theorem dX0_layBestTile_94 : dec mX0_layBestTile 94 = .ok (.invokestatic 131, 3) := by decide +kernel
theorem dX0_layBestTile_97 : dec mX0_layBestTile 97 = .ok (.istore 7, 2) := by decide +kernel
theorem dX0_layBestTile_99 : dec mX0_layBestTile 99 = .ok (.iload 4, 2) := by decide +kernel
theorem dX0_layBestTile_101 : dec mX0_layBestTile 101 = .ok (.iconst (-1), 1) := by decide +kernel
theorem dX0_layBestTile_102 : dec mX0_layBestTile 102 = .ok (.if_icmp .eq 10, 3) := by decide +kernel
theorem dX0_layBestTile_105 : dec mX0_layBestTile 105 = .ok (.iload 7, 2) := by decide +kernel
theorem dX0_layBestTile_107 : dec mX0_layBestTile 107 = .ok (.iload 5, 2) := by decide +kernel
theorem dX0_layBestTile_109 : dec mX0_layBestTile 109 = .ok (.if_icmp .ge 11, 3) := by decide +kernel
theorem dX0_layBestTile_112 : dec mX0_layBestTile 112 = .ok (.iload 6, 2) := by decide +kernel
theorem dX0_layBestTile_114 : dec mX0_layBestTile 114 = .ok (.istore 4, 2) := by decide +kernel
theorem dX0_layBestTile_116 : dec mX0_layBestTile 116 = .ok (.iload 7, 2) := by decide +kernel
theorem dX0_layBestTile_118 : dec mX0_layBestTile 118 = .ok (.istore 5, 2) := by decide +kernel
theorem dX0_layBestTile_120 : dec mX0_layBestTile 120 = .ok (.iinc 6 1, 3) := by decide +kernel
theorem dX0_layBestTile_123 : dec mX0_layBestTile 123 = .ok (.goto (-70), 3) := by decide +kernel
theorem dX0_layBestTile_126 : dec mX0_layBestTile 126 = .ok (.iload 4, 2) := by decide +kernel
theorem dX0_layBestTile_128 : dec mX0_layBestTile 128 = .ok (.iconst (-1), 1) := by decide +kernel
theorem dX0_layBestTile_129 : dec mX0_layBestTile 129 = .ok (.if_icmp .eq 31, 3) := by decide +kernel
theorem dX0_layBestTile_132 : dec mX0_layBestTile 132 = .ok (.aload_n 0, 1) := by decide +kernel
theorem dX0_layBestTile_133 : dec mX0_layBestTile 133 = .ok (.getfield 41, 3) := by decide +kernel
theorem dX0_layBestTile_136 : dec mX0_layBestTile 136 = .ok (.iload 4, 2) := by decide +kernel
theorem dX0_layBestTile_138 : dec mX0_layBestTile 138 = .ok (.iconst 0, 1) := by decide +kernel
theorem dX0_layBestTile_139 : dec mX0_layBestTile 139 = .ok (.invokestatic 85, 3) := by decide +kernel
theorem dX0_layBestTile_142 : dec mX0_layBestTile 142 = .ok (.aload_n 0, 1) := by decide +kernel
theorem dX0_layBestTile_143 : dec mX0_layBestTile 143 = .ok (.getfield 12, 3) := by decide +kernel
theorem dX0_layBestTile_146 : dec mX0_layBestTile 146 = .ok (.getfield 82, 3) := by decide +kernel
theorem dX0_layBestTile_149 : dec mX0_layBestTile 149 = .ok (.iload_n 1, 1) := by decide +kernel
theorem dX0_layBestTile_150 : dec mX0_layBestTile 150 = .ok (.iload 4, 2) := by decide +kernel
theorem dX0_layBestTile_152 : dec mX0_layBestTile 152 = .ok (.invokestatic 85, 3) := by decide +kernel
theorem dX0_layBestTile_155 : dec mX0_layBestTile 155 = .ok (.aload_n 0, 1) := by decide +kernel
theorem dX0_layBestTile_156 : dec mX0_layBestTile 156 = .ok (.iload_n 1, 1) := by decide +kernel
theorem dX0_layBestTile_157 : dec mX0_layBestTile 157 = .ok (.invokevirtual 177, 3) := by decide +kernel
theorem dX0_layBestTile_160 : dec mX0_layBestTile 160 = .ok (.return_, 1) := by decide +kernel
theorem dX0_isPossible_0 : dec mX0_isPossible 0 = .ok (.iload_n 1, 1) := by decide +kernel
theorem dX0_isPossible_1 : dec mX0_isPossible 1 = .ok (.ifCond .lt 10, 3) := by decide +kernel
theorem dX0_isPossible_4 : dec mX0_isPossible 4 = .ok (.iload_n 1, 1) := by decide +kernel
theorem dX0_isPossible_5 : dec mX0_isPossible 5 = .ok (.sipush 30000, 3) := by decide +kernel
theorem dX0_isPossible_8 : dec mX0_isPossible 8 = .ok (.if_icmp .lt 5, 3) := by decide +kernel
theorem dX0_isPossible_11 : dec mX0_isPossible 11 = .ok (.iconst 0, 1) := by decide +kernel
theorem dX0_isPossible_12 : dec mX0_isPossible 12 = .ok (.ireturn, 1) := by decide +kernel
theorem dX0_isPossible_13 : dec mX0_isPossible 13 = .ok (.iload_n 1, 1) := by decide +kernel
theorem dX0_isPossible_14 : dec mX0_isPossible 14 = .ok (.sipush 10000, 3) := by decide +kernel
theorem dX0_isPossible_17 : dec mX0_isPossible 17 = .ok (.irem, 1) := by decide +kernel
theorem dX0_isPossible_18 : dec mX0_isPossible 18 = .ok (.istore_n 2, 1) := by decide +kernel
theorem dX0_isPossible_19 : dec mX0_isPossible 19 = .ok (.iload_n 1, 1) := by decide +kernel
theorem dX0_isPossible_20 : dec mX0_isPossible 20 = .ok (.sipush 10000, 3) := by decide +kernel
theorem dX0_isPossible_23 : dec mX0_isPossible 23 = .ok (.if_icmp .ge 9, 3) := by decide +kernel
theorem dX0_isPossible_26 : dec mX0_isPossible 26 = .ok (.aload_n 0, 1) := by decide +kernel
theorem dX0_isPossible_27 : dec mX0_isPossible 27 = .ok (.iload_n 2, 1) := by decide +kernel
theorem dX0_isPossible_28 : dec mX0_isPossible 28 = .ok (.invokevirtual 165, 3) := by decide +kernel
theorem dX0_isPossible_31 : dec mX0_isPossible 31 = .ok (.ireturn, 1) := by decide +kernel
theorem dX0_isPossible_32 : dec mX0_isPossible 32 = .ok (.iload_n 1, 1) := by decide +kernel
theorem dX0_isPossible_33 : dec mX0_isPossible 33 = .ok (.sipush 20000, 3) := by decide +kernel
theorem dX0_isPossible_36 : dec mX0_isPossible 36 = .ok (.if_icmp .ge 31, 3) := by decide +kernel
theorem dX0_isPossible_39 : dec mX0_isPossible 39 = .ok (.iload_n 2, 1) := by decide +kernel
theorem dX0_isPossible_40 : dec mX0_isPossible 40 = .ok (.bipush 100, 2) := by decide +kernel
theorem dX0_isPossible_42 : dec mX0_isPossible 42 = .ok (.idiv, 1) := by decide +kernel
theorem dX0_isPossible_43 : dec mX0_isPossible 43 = .ok (.iload_n 2, 1) := by decide +kernel
theorem dX0_isPossible_44 : dec mX0_isPossible 44 = .ok (.bipush 100, 2) := by decide +kernel
theorem dX0_isPossible_46 : dec mX0_isPossible 46 = .ok (.irem, 1) := by decide +kernel
theorem dX0_isPossible_47 : dec mX0_isPossible 47 = .ok (.if_icmp .ge 18, 3) := by decide +kernel
theorem dX0_isPossible_50 : dec mX0_isPossible 50 = .ok (.aload_n 0, 1) := by decide +kernel
theorem dX0_isPossible_51 : dec mX0_isPossible 51 = .ok (.iload_n 2, 1) := by decide +kernel
theorem dX0_isPossible_52 : dec mX0_isPossible 52 = .ok (.bipush 100, 2) := by decide +kernel
theorem dX0_isPossible_54 : dec mX0_isPossible 54 = .ok (.irem, 1) := by decide +kernel
theorem dX0_isPossible_55 : dec mX0_isPossible 55 = .ok (.invokevirtual 165, 3) := by decide +kernel
theorem dX0_isPossible_58 : dec mX0_isPossible 58 = .ok (.ifCond .eq 7, 3) := by decide +kernel
theorem dX0_isPossible_61 : dec mX0_isPossible 61 = .ok (.iconst 1, 1) := by decide +kernel
theorem dX0_isPossible_62 : dec mX0_isPossible 62 = .ok (.goto 4, 3) := by decide +kernel
theorem dX0_isPossible_65 : dec mX0_isPossible 65 = .ok (.iconst 0, 1) := by decide +kernel
theorem dX0_isPossible_66 : dec mX0_isPossible 66 = .ok (.ireturn, 1) := by decide +kernel
theorem dX0_isPossible_67 : dec mX0_isPossible 67 = .ok (.aload_n 0, 1) := by decide +kernel
theorem dX0_isPossible_68 : dec mX0_isPossible 68 = .ok (.iload_n 2, 1) := by decide +kernel
theorem dX0_isPossible_69 : dec mX0_isPossible 69 = .ok (.invokevirtual 190, 3) := by decide +kernel
theorem dX0_isPossible_72 : dec mX0_isPossible 72 = .ok (.iconst (-1), 1) := by decide +kernel
theorem dX0_isPossible_73 : dec mX0_isPossible 73 = .ok (.if_icmp .eq 7, 3) := by decide +kernel
theorem dX0_isPossible_76 : dec mX0_isPossible 76 = .ok (.iconst 1, 1) := by decide +kernel
theorem dX0_isPossible_77 : dec mX0_isPossible 77 = .ok (.goto 4, 3) := by decide +kernel
theorem dX0_isPossible_80 : dec mX0_isPossible 80 = .ok (.iconst 0, 1) := by decide +kernel
theorem dX0_isPossible_81 : dec mX0_isPossible 81 = .ok (.ireturn, 1) := by decide +kernel
theorem dX0_gainOf_0 : dec mX0_gainOf 0 = .ok (.iload_n 1, 1) := by decide +kernel
theorem dX0_gainOf_1 : dec mX0_gainOf 1 = .ok (.sipush 10000, 3) := by decide +kernel
theorem dX0_gainOf_4 : dec mX0_gainOf 4 = .ok (.irem, 1) := by decide +kernel
theorem dX0_gainOf_5 : dec mX0_gainOf 5 = .ok (.istore_n 2, 1) := by decide +kernel
theorem dX0_gainOf_6 : dec mX0_gainOf 6 = .ok (.iload_n 1, 1) := by decide +kernel
theorem dX0_gainOf_7 : dec mX0_gainOf 7 = .ok (.sipush 10000, 3) := by decide +kernel
theorem dX0_gainOf_10 : dec mX0_gainOf 10 = .ok (.if_icmp .ge 9, 3) := by decide +kernel
theorem dX0_gainOf_13 : dec mX0_gainOf 13 = .ok (.aload_n 0, 1) := by decide +kernel
theorem dX0_gainOf_14 : dec mX0_gainOf 14 = .ok (.iload_n 2, 1) := by decide +kernel
theorem dX0_gainOf_15 : dec mX0_gainOf 15 = .ok (.invokevirtual 205, 3) := by decide +kernel
theorem dX0_gainOf_18 : dec mX0_gainOf 18 = .ok (.ireturn, 1) := by decide +kernel
theorem dX0_gainOf_19 : dec mX0_gainOf 19 = .ok (.iload_n 1, 1) := by decide +kernel
theorem dX0_gainOf_20 : dec mX0_gainOf 20 = .ok (.sipush 20000, 3) := by decide +kernel
theorem dX0_gainOf_23 : dec mX0_gainOf 23 = .ok (.if_icmp .ge 16, 3) := by decide +kernel
theorem dX0_gainOf_26 : dec mX0_gainOf 26 = .ok (.aload_n 0, 1) := by decide +kernel
theorem dX0_gainOf_27 : dec mX0_gainOf 27 = .ok (.iload_n 2, 1) := by decide +kernel
theorem dX0_gainOf_28 : dec mX0_gainOf 28 = .ok (.bipush 100, 2) := by decide +kernel
theorem dX0_gainOf_30 : dec mX0_gainOf 30 = .ok (.idiv, 1) := by decide +kernel
theorem dX0_gainOf_31 : dec mX0_gainOf 31 = .ok (.iload_n 2, 1) := by decide +kernel
theorem dX0_gainOf_32 : dec mX0_gainOf 32 = .ok (.bipush 100, 2) := by decide +kernel
theorem dX0_gainOf_34 : dec mX0_gainOf 34 = .ok (.irem, 1) := by decide +kernel
theorem dX0_gainOf_35 : dec mX0_gainOf 35 = .ok (.invokevirtual 208, 3) := by decide +kernel
theorem dX0_gainOf_38 : dec mX0_gainOf 38 = .ok (.ireturn, 1) := by decide +kernel
theorem dX0_gainOf_39 : dec mX0_gainOf 39 = .ok (.aload_n 0, 1) := by decide +kernel
theorem dX0_gainOf_40 : dec mX0_gainOf 40 = .ok (.getfield 31, 3) := by decide +kernel
theorem dX0_gainOf_43 : dec mX0_gainOf 43 = .ok (.iload_n 2, 1) := by decide +kernel
theorem dX0_gainOf_44 : dec mX0_gainOf 44 = .ok (.invokestatic 115, 3) := by decide +kernel
theorem dX0_gainOf_47 : dec mX0_gainOf 47 = .ok (.istore_n 3, 1) := by decide +kernel
theorem dX0_gainOf_48 : dec mX0_gainOf 48 = .ok (.aload_n 0, 1) := by decide +kernel
theorem dX0_gainOf_49 : dec mX0_gainOf 49 = .ok (.iload_n 3, 1) := by decide +kernel
theorem dX0_gainOf_50 : dec mX0_gainOf 50 = .ok (.aload_n 0, 1) := by decide +kernel
theorem dX0_gainOf_51 : dec mX0_gainOf 51 = .ok (.iload_n 3, 1) := by decide +kernel
theorem dX0_gainOf_52 : dec mX0_gainOf 52 = .ok (.invokevirtual 184, 3) := by decide +kernel
theorem dX0_gainOf_55 : dec mX0_gainOf 55 = .ok (.invokevirtual 211, 3) := by decide +kernel
theorem dX0_gainOf_58 : dec mX0_gainOf 58 = .ok (.ireturn, 1) := by decide +kernel
theorem dX0_doBestChanges_0 : dec mX0_doBestChanges 0 = .ok (.iconst 0, 1) := by decide +kernel
theorem dX0_doBestChanges_1 : dec mX0_doBestChanges 1 = .ok (.istore_n 2, 1) := by decide +kernel
theorem dX0_doBestChanges_2 : dec mX0_doBestChanges 2 = .ok (.iload_n 2, 1) := by decide +kernel
theorem dX0_doBestChanges_3 : dec mX0_doBestChanges 3 = .ok (.iload_n 1, 1) := by decide +kernel
theorem dX0_doBestChanges_4 : dec mX0_doBestChanges 4 = .ok (.if_icmp .ge 101, 3) := by decide +kernel
theorem dX0_doBestChanges_7 : dec mX0_doBestChanges 7 = .ok (.aload_n 0, 1) := by decide +kernel
theorem dX0_doBestChanges_8 : dec mX0_doBestChanges 8 = .ok (.getfield 37, 3) := by decide +kernel
theorem dX0_doBestChanges_11 : dec mX0_doBestChanges 11 = .ok (.aload_n 0, 1) := by decide +kernel
theorem dX0_doBestChanges_12 : dec mX0_doBestChanges 12 = .ok (.invokevirtual 214, 3) := by decide +kernel
theorem dX0_doBestChanges_15 : dec mX0_doBestChanges 15 = .ok (.aload_n 0, 1) := by decide +kernel
theorem dX0_doBestChanges_16 : dec mX0_doBestChanges 16 = .ok (.getfield 37, 3) := by decide +kernel
theorem dX0_doBestChanges_19 : dec mX0_doBestChanges 19 = .ok (.getfield 218, 3) := by decide +kernel
theorem dX0_doBestChanges_22 : dec mX0_doBestChanges 22 = .ok (.ifCond .gt 4, 3) := by decide +kernel
theorem dX0_doBestChanges_25 : dec mX0_doBestChanges 25 = .ok (.return_, 1) := by decide +kernel
theorem dX0_doBestChanges_26 : dec mX0_doBestChanges 26 = .ok (.aload_n 0, 1) := by decide +kernel
theorem dX0_doBestChanges_27 : dec mX0_doBestChanges 27 = .ok (.getfield 37, 3) := by decide +kernel
theorem dX0_doBestChanges_30 : dec mX0_doBestChanges 30 = .ok (.getfield 221, 3) := by decide +kernel
theorem dX0_doBestChanges_33 : dec mX0_doBestChanges 33 = .ok (.sipush 10000, 3) := by decide +kernel
theorem dX0_doBestChanges_36 : dec mX0_doBestChanges 36 = .ok (.irem, 1) := by decide +kernel
theorem dX0_doBestChanges_37 : dec mX0_doBestChanges 37 = .ok (.istore_n 3, 1) := by decide +kernel
theorem dX0_doBestChanges_38 : dec mX0_doBestChanges 38 = .ok (.aload_n 0, 1) := by decide +kernel
theorem dX0_doBestChanges_39 : dec mX0_doBestChanges 39 = .ok (.getfield 37, 3) := by decide +kernel
theorem dX0_doBestChanges_42 : dec mX0_doBestChanges 42 = .ok (.getfield 221, 3) := by decide +kernel
theorem dX0_doBestChanges_45 : dec mX0_doBestChanges 45 = .ok (.sipush 10000, 3) := by decide +kernel
theorem dX0_doBestChanges_48 : dec mX0_doBestChanges 48 = .ok (.if_icmp .ge 11, 3) := by decide +kernel
theorem dX0_doBestChanges_51 : dec mX0_doBestChanges 51 = .ok (.aload_n 0, 1) := by decide +kernel
theorem dX0_doBestChanges_52 : dec mX0_doBestChanges 52 = .ok (.iload_n 3, 1) := by decide +kernel
theorem dX0_doBestChanges_53 : dec mX0_doBestChanges 53 = .ok (.invokevirtual 171, 3) := by decide +kernel
theorem dX0_doBestChanges_56 : dec mX0_doBestChanges 56 = .ok (.goto 43, 3) := by decide +kernel
theorem dX0_doBestChanges_59 : dec mX0_doBestChanges 59 = .ok (.aload_n 0, 1) := by decide +kernel
theorem dX0_doBestChanges_60 : dec mX0_doBestChanges 60 = .ok (.getfield 37, 3) := by decide +kernel
theorem dX0_doBestChanges_63 : dec mX0_doBestChanges 63 = .ok (.getfield 221, 3) := by decide +kernel
theorem dX0_doBestChanges_66 : dec mX0_doBestChanges 66 = .ok (.sipush 20000, 3) := by decide +kernel
theorem dX0_doBestChanges_69 : dec mX0_doBestChanges 69 = .ok (.if_icmp .ge 18, 3) := by decide +kernel
theorem dX0_doBestChanges_72 : dec mX0_doBestChanges 72 = .ok (.aload_n 0, 1) := by decide +kernel
theorem dX0_doBestChanges_73 : dec mX0_doBestChanges 73 = .ok (.iload_n 3, 1) := by decide +kernel
theorem dX0_doBestChanges_74 : dec mX0_doBestChanges 74 = .ok (.bipush 100, 2) := by decide +kernel
theorem dX0_doBestChanges_76 : dec mX0_doBestChanges 76 = .ok (.idiv, 1) := by decide +kernel
theorem dX0_doBestChanges_77 : dec mX0_doBestChanges 77 = .ok (.iload_n 3, 1) := by decide +kernel
theorem dX0_doBestChanges_78 : dec mX0_doBestChanges 78 = .ok (.bipush 100, 2) := by decide +kernel
theorem dX0_doBestChanges_80 : dec mX0_doBestChanges 80 = .ok (.irem, 1) := by decide +kernel
theorem dX0_doBestChanges_81 : dec mX0_doBestChanges 81 = .ok (.invokevirtual 180, 3) := by decide +kernel
theorem dX0_doBestChanges_84 : dec mX0_doBestChanges 84 = .ok (.goto 15, 3) := by decide +kernel
theorem dX0_doBestChanges_87 : dec mX0_doBestChanges 87 = .ok (.aload_n 0, 1) := by decide +kernel
theorem dX0_doBestChanges_88 : dec mX0_doBestChanges 88 = .ok (.aload_n 0, 1) := by decide +kernel
theorem dX0_doBestChanges_89 : dec mX0_doBestChanges 89 = .ok (.getfield 31, 3) := by decide +kernel
theorem dX0_doBestChanges_92 : dec mX0_doBestChanges 92 = .ok (.iload_n 3, 1) := by decide +kernel
theorem dX0_doBestChanges_93 : dec mX0_doBestChanges 93 = .ok (.invokestatic 115, 3) := by decide +kernel
theorem dX0_doBestChanges_96 : dec mX0_doBestChanges 96 = .ok (.invokevirtual 196, 3) := by decide +kernel
theorem dX0_doBestChanges_99 : dec mX0_doBestChanges 99 = .ok (.iinc 2 1, 3) := by decide +kernel
theorem dX0_doBestChanges_102 : dec mX0_doBestChanges 102 = .ok (.goto (-100), 3) := by decide +kernel
theorem dX0_doBestChanges_105 : dec mX0_doBestChanges 105 = .ok (.return_, 1) := by decide +kernel
theorem dX1_doInText_0 : dec mX1_doInText 0 = .ok (.aload_n 1, 1) := by decide +kernel
theorem dX1_doInText_1 : dec mX1_doInText 1 = .ok (.iload_n 2, 1) := by decide +kernel
theorem dX1_doInText_2 : dec mX1_doInText 2 = .ok (.iconst 1, 1) := by decide +kernel
theorem dX1_doInText_3 : dec mX1_doInText 3 = .ok (.iadd, 1) := by decide +kernel
theorem dX1_doInText_4 : dec mX1_doInText 4 = .ok (.invokevirtual 7, 3) := by decide +kernel
theorem dX1_doInText_7 : dec mX1_doInText 7 = .ok (.istore_n 3, 1) := by decide +kernel
theorem dX1_doInText_8 : dec mX1_doInText 8 = .ok (.aload_n 1, 1) := by decide +kernel
theorem dX1_doInText_9 : dec mX1_doInText 9 = .ok (.iload_n 2, 1) := by decide +kernel
theorem dX1_doInText_10 : dec mX1_doInText 10 = .ok (.iconst 2, 1) := by decide +kernel
theorem dX1_doInText_11 : dec mX1_doInText 11 = .ok (.iadd, 1) := by decide +kernel
theorem dX1_doInText_12 : dec mX1_doInText 12 = .ok (.invokevirtual 13, 3) := by decide +kernel
theorem dX1_doInText_15 : dec mX1_doInText 15 = .ok (.istore 4, 2) := by decide +kernel
theorem dX1_doInText_17 : dec mX1_doInText 17 = .ok (.aload_n 1, 1) := by decide +kernel
theorem dX1_doInText_18 : dec mX1_doInText 18 = .ok (.iload_n 2, 1) := by decide +kernel
theorem dX1_doInText_19 : dec mX1_doInText 19 = .ok (.iconst 1, 1) := by decide +kernel
theorem dX1_doInText_20 : dec mX1_doInText 20 = .ok (.iadd, 1) := by decide +kernel
theorem dX1_doInText_21 : dec mX1_doInText 21 = .ok (.invokevirtual 13, 3) := by decide +kernel
theorem dX1_doInText_24 : dec mX1_doInText 24 = .ok (.istore 5, 2) := by decide +kernel
theorem dX1_doInText_26 : dec mX1_doInText 26 = .ok (.aload_n 1, 1) := by decide +kernel
theorem dX1_doInText_27 : dec mX1_doInText 27 = .ok (.iload_n 2, 1) := by decide +kernel
theorem dX1_doInText_28 : dec mX1_doInText 28 = .ok (.iconst 3, 1) := by decide +kernel
theorem dX1_doInText_29 : dec mX1_doInText 29 = .ok (.iadd, 1) := by decide +kernel
theorem dX1_doInText_30 : dec mX1_doInText 30 = .ok (.invokevirtual 13, 3) := by decide +kernel
theorem dX1_doInText_33 : dec mX1_doInText 33 = .ok (.istore 6, 2) := by decide +kernel
theorem dX1_doInText_35 : dec mX1_doInText 35 = .ok (.aload_n 1, 1) := by decide +kernel
theorem dX1_doInText_36 : dec mX1_doInText 36 = .ok (.iload_n 2, 1) := by decide +kernel
theorem dX1_doInText_37 : dec mX1_doInText 37 = .ok (.invokevirtual 16, 3) := by decide +kernel
theorem dX1_doInText_40 : dec mX1_doInText 40 = .ok (.tableswitch 162 98 116 #[123, 162, 162, 162, 138, 162, 131, 154, 162, 162, 148, 162, 162, 162, 92, 162, 162, 114, 107], 92) := by decide +kernel
theorem dX1_doInText_132 : dec mX1_doInText 132 = .ok (.aload_n 0, 1) := by decide +kernel
theorem dX1_doInText_133 : dec mX1_doInText 133 = .ok (.iload_n 3, 1) := by decide +kernel
theorem dX1_doInText_134 : dec mX1_doInText 134 = .ok (.iload 4, 2) := by decide +kernel
theorem dX1_doInText_136 : dec mX1_doInText 136 = .ok (.aload_n 1, 1) := by decide +kernel
theorem dX1_doInText_137 : dec mX1_doInText 137 = .ok (.iload_n 2, 1) := by decide +kernel
theorem dX1_doInText_138 : dec mX1_doInText 138 = .ok (.iconst 4, 1) := by decide +kernel
theorem dX1_doInText_139 : dec mX1_doInText 139 = .ok (.iadd, 1) := by decide +kernel
theorem dX1_doInText_140 : dec mX1_doInText 140 = .ok (.invokevirtual 13, 3) := by decide +kernel
theorem dX1_doInText_143 : dec mX1_doInText 143 = .ok (.invokevirtual 19, 3) := by decide +kernel
theorem dX1_doInText_146 : dec mX1_doInText 146 = .ok (.ireturn, 1) := by decide +kernel
theorem dX1_doInText_147 : dec mX1_doInText 147 = .ok (.aload_n 0, 1) := by decide +kernel
theorem dX1_doInText_148 : dec mX1_doInText 148 = .ok (.iload 5, 2) := by decide +kernel
theorem dX1_doInText_150 : dec mX1_doInText 150 = .ok (.invokevirtual 25, 3) := by decide +kernel
theorem dX1_doInText_153 : dec mX1_doInText 153 = .ok (.ireturn, 1) := by decide +kernel
theorem dX1_doInText_154 : dec mX1_doInText 154 = .ok (.aload_n 0, 1) := by decide +kernel
theorem dX1_doInText_155 : dec mX1_doInText 155 = .ok (.iload 5, 2) := by decide +kernel
theorem dX1_doInText_157 : dec mX1_doInText 157 = .ok (.iload 6, 2) := by decide +kernel
theorem dX1_doInText_159 : dec mX1_doInText 159 = .ok (.invokevirtual 29, 3) := by decide +kernel
theorem dX1_doInText_162 : dec mX1_doInText 162 = .ok (.ireturn, 1) := by decide +kernel
theorem dX1_doInText_163 : dec mX1_doInText 163 = .ok (.aload_n 0, 1) := by decide +kernel
theorem dX1_doInText_164 : dec mX1_doInText 164 = .ok (.iload_n 3, 1) := by decide +kernel
theorem dX1_doInText_165 : dec mX1_doInText 165 = .ok (.iload 4, 2) := by decide +kernel
theorem dX1_doInText_167 : dec mX1_doInText 167 = .ok (.invokevirtual 33, 3) := by decide +kernel
theorem dX1_doInText_170 : dec mX1_doInText 170 = .ok (.ireturn, 1) := by decide +kernel
theorem dX1_doInText_171 : dec mX1_doInText 171 = .ok (.aload_n 0, 1) := by decide +kernel
theorem dX1_doInText_172 : dec mX1_doInText 172 = .ok (.iload 5, 2) := by decide +kernel
theorem dX1_doInText_174 : dec mX1_doInText 174 = .ok (.invokevirtual 36, 3) := by decide +kernel
theorem dX1_doInText_177 : dec mX1_doInText 177 = .ok (.ireturn, 1) := by decide +kernel
theorem dX1_doInText_178 : dec mX1_doInText 178 = .ok (.aload_n 0, 1) := by decide +kernel
theorem dX1_doInText_179 : dec mX1_doInText 179 = .ok (.iload 5, 2) := by decide +kernel
theorem dX1_doInText_181 : dec mX1_doInText 181 = .ok (.iload 6, 2) := by decide +kernel
theorem dX1_doInText_183 : dec mX1_doInText 183 = .ok (.invokevirtual 39, 3) := by decide +kernel
theorem dX1_doInText_186 : dec mX1_doInText 186 = .ok (.iconst 1, 1) := by decide +kernel
theorem dX1_doInText_187 : dec mX1_doInText 187 = .ok (.ireturn, 1) := by decide +kernel
theorem dX1_doInText_188 : dec mX1_doInText 188 = .ok (.aload_n 0, 1) := by decide +kernel
theorem dX1_doInText_189 : dec mX1_doInText 189 = .ok (.invokevirtual 43, 3) := by decide +kernel
theorem dX1_doInText_192 : dec mX1_doInText 192 = .ok (.iconst 1, 1) := by decide +kernel
theorem dX1_doInText_193 : dec mX1_doInText 193 = .ok (.ireturn, 1) := by decide +kernel
theorem dX1_doInText_194 : dec mX1_doInText 194 = .ok (.aload_n 0, 1) := by decide +kernel
theorem dX1_doInText_195 : dec mX1_doInText 195 = .ok (.iload 5, 2) := by decide +kernel
theorem dX1_doInText_197 : dec mX1_doInText 197 = .ok (.invokevirtual 46, 3) := by decide +kernel
theorem dX1_doInText_200 : dec mX1_doInText 200 = .ok (.iconst 1, 1) := by decide +kernel
theorem dX1_doInText_201 : dec mX1_doInText 201 = .ok (.ireturn, 1) := by decide +kernel
theorem dX1_doInText_202 : dec mX1_doInText 202 = .ok (.iconst 0, 1) := by decide +kernel
theorem dX1_doInText_203 : dec mX1_doInText 203 = .ok (.ireturn, 1) := by decide +kernel
theorem dX1_doGroup_0 : dec mX1_doGroup 0 = .ok (.iload_n 1, 1) := by decide +kernel
theorem dX1_doGroup_1 : dec mX1_doGroup 1 = .ok (.ldc 50, 2) := by decide +kernel
theorem dX1_doGroup_3 : dec mX1_doGroup 3 = .ok (.irem, 1) := by decide +kernel
theorem dX1_doGroup_4 : dec mX1_doGroup 4 = .ok (.istore_n 2, 1) := by decide +kernel
theorem dX1_doGroup_5 : dec mX1_doGroup 5 = .ok (.iload_n 2, 1) := by decide +kernel
theorem dX1_doGroup_6 : dec mX1_doGroup 6 = .ok (.sipush 10000, 3) := by decide +kernel
theorem dX1_doGroup_9 : dec mX1_doGroup 9 = .ok (.idiv, 1) := by decide +kernel
theorem dX1_doGroup_10 : dec mX1_doGroup 10 = .ok (.istore_n 3, 1) := by decide +kernel
theorem dX1_doGroup_11 : dec mX1_doGroup 11 = .ok (.iload_n 2, 1) := by decide +kernel
theorem dX1_doGroup_12 : dec mX1_doGroup 12 = .ok (.bipush 100, 2) := by decide +kernel
theorem dX1_doGroup_14 : dec mX1_doGroup 14 = .ok (.idiv, 1) := by decide +kernel
theorem dX1_doGroup_15 : dec mX1_doGroup 15 = .ok (.bipush 100, 2) := by decide +kernel
theorem dX1_doGroup_17 : dec mX1_doGroup 17 = .ok (.irem, 1) := by decide +kernel
theorem dX1_doGroup_18 : dec mX1_doGroup 18 = .ok (.istore 4, 2) := by decide +kernel
theorem dX1_doGroup_20 : dec mX1_doGroup 20 = .ok (.iload_n 2, 1) := by decide +kernel
theorem dX1_doGroup_21 : dec mX1_doGroup 21 = .ok (.sipush 1000, 3) := by decide +kernel
theorem dX1_doGroup_24 : dec mX1_doGroup 24 = .ok (.idiv, 1) := by decide +kernel
theorem dX1_doGroup_25 : dec mX1_doGroup 25 = .ok (.istore 5, 2) := by decide +kernel
theorem dX1_doGroup_27 : dec mX1_doGroup 27 = .ok (.iload_n 2, 1) := by decide +kernel
theorem dX1_doGroup_28 : dec mX1_doGroup 28 = .ok (.bipush 10, 2) := by decide +kernel
theorem dX1_doGroup_30 : dec mX1_doGroup 30 = .ok (.idiv, 1) := by decide +kernel
theorem dX1_doGroup_31 : dec mX1_doGroup 31 = .ok (.bipush 100, 2) := by decide +kernel
theorem dX1_doGroup_33 : dec mX1_doGroup 33 = .ok (.irem, 1) := by decide +kernel
theorem dX1_doGroup_34 : dec mX1_doGroup 34 = .ok (.istore 6, 2) := by decide +kernel
theorem dX1_doGroup_36 : dec mX1_doGroup 36 = .ok (.iload_n 2, 1) := by decide +kernel
theorem dX1_doGroup_37 : dec mX1_doGroup 37 = .ok (.bipush 10, 2) := by decide +kernel
theorem dX1_doGroup_39 : dec mX1_doGroup 39 = .ok (.irem, 1) := by decide +kernel
theorem dX1_doGroup_40 : dec mX1_doGroup 40 = .ok (.istore 7, 2) := by decide +kernel
theorem dX1_doGroup_42 : dec mX1_doGroup 42 = .ok (.iload_n 1, 1) := by decide +kernel
theorem dX1_doGroup_43 : dec mX1_doGroup 43 = .ok (.ldc 50, 2) := by decide +kernel
theorem dX1_doGroup_45 : dec mX1_doGroup 45 = .ok (.idiv, 1) := by decide +kernel
theorem dX1_doGroup_46 : dec mX1_doGroup 46 = .ok (.tableswitch 283 1 9 #[50, 62, 85, 107, 130, 146, 192, 229, 269], 50) := by decide +kernel
theorem dX1_doGroup_96 : dec mX1_doGroup 96 = .ok (.aload_n 0, 1) := by decide +kernel
theorem dX1_doGroup_97 : dec mX1_doGroup 97 = .ok (.iload_n 3, 1) := by decide +kernel
theorem dX1_doGroup_98 : dec mX1_doGroup 98 = .ok (.iload 4, 2) := by decide +kernel
theorem dX1_doGroup_100 : dec mX1_doGroup 100 = .ok (.iload_n 2, 1) := by decide +kernel
theorem dX1_doGroup_101 : dec mX1_doGroup 101 = .ok (.bipush 100, 2) := by decide +kernel
theorem dX1_doGroup_103 : dec mX1_doGroup 103 = .ok (.irem, 1) := by decide +kernel
theorem dX1_doGroup_104 : dec mX1_doGroup 104 = .ok (.invokevirtual 19, 3) := by decide +kernel
theorem dX1_doGroup_107 : dec mX1_doGroup 107 = .ok (.ireturn, 1) := by decide +kernel
theorem dX1_doGroup_108 : dec mX1_doGroup 108 = .ok (.iload_n 2, 1) := by decide +kernel
theorem dX1_doGroup_109 : dec mX1_doGroup 109 = .ok (.sipush 1000, 3) := by decide +kernel
theorem dX1_doGroup_112 : dec mX1_doGroup 112 = .ok (.irem, 1) := by decide +kernel
theorem dX1_doGroup_113 : dec mX1_doGroup 113 = .ok (.ifCond .ne 16, 3) := by decide +kernel
theorem dX1_doGroup_116 : dec mX1_doGroup 116 = .ok (.aload_n 0, 1) := by decide +kernel
theorem dX1_doGroup_117 : dec mX1_doGroup 117 = .ok (.iload 5, 2) := by decide +kernel
theorem dX1_doGroup_119 : dec mX1_doGroup 119 = .ok (.invokevirtual 25, 3) := by decide +kernel
theorem dX1_doGroup_122 : dec mX1_doGroup 122 = .ok (.ifCond .eq 7, 3) := by decide +kernel
theorem dX1_doGroup_125 : dec mX1_doGroup 125 = .ok (.iconst 1, 1) := by decide +kernel
theorem dX1_doGroup_126 : dec mX1_doGroup 126 = .ok (.goto 4, 3) := by decide +kernel
theorem dX1_doGroup_129 : dec mX1_doGroup 129 = .ok (.iconst 0, 1) := by decide +kernel
theorem dX1_doGroup_130 : dec mX1_doGroup 130 = .ok (.ireturn, 1) := by decide +kernel
theorem dX1_doGroup_131 : dec mX1_doGroup 131 = .ok (.iload 7, 2) := by decide +kernel
theorem dX1_doGroup_133 : dec mX1_doGroup 133 = .ok (.ifCond .ne 18, 3) := by decide +kernel
theorem dX1_doGroup_136 : dec mX1_doGroup 136 = .ok (.aload_n 0, 1) := by decide +kernel
theorem dX1_doGroup_137 : dec mX1_doGroup 137 = .ok (.iload 5, 2) := by decide +kernel
theorem dX1_doGroup_139 : dec mX1_doGroup 139 = .ok (.iload 6, 2) := by decide +kernel
theorem dX1_doGroup_141 : dec mX1_doGroup 141 = .ok (.invokevirtual 29, 3) := by decide +kernel
theorem dX1_doGroup_144 : dec mX1_doGroup 144 = .ok (.ifCond .eq 7, 3) := by decide +kernel
theorem dX1_doGroup_147 : dec mX1_doGroup 147 = .ok (.iconst 1, 1) := by decide +kernel
theorem dX1_doGroup_148 : dec mX1_doGroup 148 = .ok (.goto 4, 3) := by decide +kernel
theorem dX1_doGroup_151 : dec mX1_doGroup 151 = .ok (.iconst 0, 1) := by decide +kernel
theorem dX1_doGroup_152 : dec mX1_doGroup 152 = .ok (.ireturn, 1) := by decide +kernel
theorem dX1_doGroup_153 : dec mX1_doGroup 153 = .ok (.iload_n 2, 1) := by decide +kernel
theorem dX1_doGroup_154 : dec mX1_doGroup 154 = .ok (.bipush 100, 2) := by decide +kernel
theorem dX1_doGroup_156 : dec mX1_doGroup 156 = .ok (.irem, 1) := by decide +kernel
theorem dX1_doGroup_157 : dec mX1_doGroup 157 = .ok (.ifCond .ne 17, 3) := by decide +kernel
theorem dX1_doGroup_160 : dec mX1_doGroup 160 = .ok (.aload_n 0, 1) := by decide +kernel
theorem dX1_doGroup_161 : dec mX1_doGroup 161 = .ok (.iload_n 3, 1) := by decide +kernel
theorem dX1_doGroup_162 : dec mX1_doGroup 162 = .ok (.iload 4, 2) := by decide +kernel
theorem dX1_doGroup_164 : dec mX1_doGroup 164 = .ok (.invokevirtual 33, 3) := by decide +kernel
theorem dX1_doGroup_167 : dec mX1_doGroup 167 = .ok (.ifCond .eq 7, 3) := by decide +kernel
theorem dX1_doGroup_170 : dec mX1_doGroup 170 = .ok (.iconst 1, 1) := by decide +kernel
theorem dX1_doGroup_171 : dec mX1_doGroup 171 = .ok (.goto 4, 3) := by decide +kernel
theorem dX1_doGroup_174 : dec mX1_doGroup 174 = .ok (.iconst 0, 1) := by decide +kernel
theorem dX1_doGroup_175 : dec mX1_doGroup 175 = .ok (.ireturn, 1) := by decide +kernel
theorem dX1_doGroup_176 : dec mX1_doGroup 176 = .ok (.iload_n 2, 1) := by decide +kernel
theorem dX1_doGroup_177 : dec mX1_doGroup 177 = .ok (.invokestatic 51, 3) := by decide +kernel
theorem dX1_doGroup_180 : dec mX1_doGroup 180 = .ok (.ifCond .ne 5, 3) := by decide +kernel
theorem dX1_doGroup_183 : dec mX1_doGroup 183 = .ok (.iconst 0, 1) := by decide +kernel
theorem dX1_doGroup_184 : dec mX1_doGroup 184 = .ok (.ireturn, 1) := by decide +kernel
theorem dX1_doGroup_185 : dec mX1_doGroup 185 = .ok (.aload_n 0, 1) := by decide +kernel
theorem dX1_doGroup_186 : dec mX1_doGroup 186 = .ok (.iload_n 2, 1) := by decide +kernel
theorem dX1_doGroup_187 : dec mX1_doGroup 187 = .ok (.invokevirtual 46, 3) := by decide +kernel
theorem dX1_doGroup_190 : dec mX1_doGroup 190 = .ok (.iconst 1, 1) := by decide +kernel
theorem dX1_doGroup_191 : dec mX1_doGroup 191 = .ok (.ireturn, 1) := by decide +kernel
theorem dX1_doGroup_192 : dec mX1_doGroup 192 = .ok (.iload 7, 2) := by decide +kernel
theorem dX1_doGroup_194 : dec mX1_doGroup 194 = .ok (.ifCond .ne 42, 3) := by decide +kernel
theorem dX1_doGroup_197 : dec mX1_doGroup 197 = .ok (.aload_n 0, 1) := by decide +kernel
theorem dX1_doGroup_198 : dec mX1_doGroup 198 = .ok (.iload 5, 2) := by decide +kernel
theorem dX1_doGroup_200 : dec mX1_doGroup 200 = .ok (.invokevirtual 56, 3) := by decide +kernel
theorem dX1_doGroup_203 : dec mX1_doGroup 203 = .ok (.ifCond .eq 33, 3) := by decide +kernel
theorem dX1_doGroup_206 : dec mX1_doGroup 206 = .ok (.aload_n 0, 1) := by decide +kernel
theorem dX1_doGroup_207 : dec mX1_doGroup 207 = .ok (.iload 6, 2) := by decide +kernel
theorem dX1_doGroup_209 : dec mX1_doGroup 209 = .ok (.invokevirtual 59, 3) := by decide +kernel
theorem dX1_doGroup_212 : dec mX1_doGroup 212 = .ok (.ifCond .eq 24, 3) := by decide +kernel
theorem dX1_doGroup_215 : dec mX1_doGroup 215 = .ok (.aload_n 0, 1) := by decide +kernel
theorem dX1_doGroup_216 : dec mX1_doGroup 216 = .ok (.getfield 62, 3) := by decide +kernel
theorem dX1_doGroup_219 : dec mX1_doGroup 219 = .ok (.getfield 66, 3) := by decide +kernel
theorem dX1_doGroup_222 : dec mX1_doGroup 222 = .ok (.iload 5, 2) := by decide +kernel
theorem dX1_doGroup_224 : dec mX1_doGroup 224 = .ok (.invokestatic 72, 3) := by decide +kernel
theorem dX1_doGroup_227 : dec mX1_doGroup 227 = .ok (.iload 6, 2) := by decide +kernel
theorem dX1_doGroup_229 : dec mX1_doGroup 229 = .ok (.if_icmp .ne 7, 3) := by decide +kernel
theorem dX1_doGroup_232 : dec mX1_doGroup 232 = .ok (.iconst 1, 1) := by decide +kernel
theorem dX1_doGroup_233 : dec mX1_doGroup 233 = .ok (.goto 4, 3) := by decide +kernel
theorem dX1_doGroup_236 : dec mX1_doGroup 236 = .ok (.iconst 0, 1) := by decide +kernel
theorem dX1_doGroup_237 : dec mX1_doGroup 237 = .ok (.ireturn, 1) := by decide +kernel
theorem dX1_doGroup_238 : dec mX1_doGroup 238 = .ok (.iload 6, 2) := by decide +kernel
theorem dX1_doGroup_240 : dec mX1_doGroup 240 = .ok (.ifCond .ne 33, 3) := by decide +kernel
theorem dX1_doGroup_243 : dec mX1_doGroup 243 = .ok (.aload_n 0, 1) := by decide +kernel
theorem dX1_doGroup_244 : dec mX1_doGroup 244 = .ok (.iload 5, 2) := by decide +kernel
theorem dX1_doGroup_246 : dec mX1_doGroup 246 = .ok (.invokevirtual 56, 3) := by decide +kernel
theorem dX1_doGroup_249 : dec mX1_doGroup 249 = .ok (.ifCond .eq 24, 3) := by decide +kernel
theorem dX1_doGroup_252 : dec mX1_doGroup 252 = .ok (.aload_n 0, 1) := by decide +kernel
theorem dX1_doGroup_253 : dec mX1_doGroup 253 = .ok (.getfield 62, 3) := by decide +kernel
theorem dX1_doGroup_256 : dec mX1_doGroup 256 = .ok (.getfield 76, 3) := by decide +kernel
theorem dX1_doGroup_259 : dec mX1_doGroup 259 = .ok (.iload 5, 2) := by decide +kernel
theorem dX1_doGroup_261 : dec mX1_doGroup 261 = .ok (.invokestatic 72, 3) := by decide +kernel
theorem dX1_doGroup_264 : dec mX1_doGroup 264 = .ok (.iload 7, 2) := by decide +kernel
theorem dX1_doGroup_266 : dec mX1_doGroup 266 = .ok (.if_icmp .ne 7, 3) := by decide +kernel
theorem dX1_doGroup_269 : dec mX1_doGroup 269 = .ok (.iconst 1, 1) := by decide +kernel
theorem dX1_doGroup_270 : dec mX1_doGroup 270 = .ok (.goto 4, 3) := by decide +kernel
theorem dX1_doGroup_273 : dec mX1_doGroup 273 = .ok (.iconst 0, 1) := by decide +kernel
theorem dX1_doGroup_274 : dec mX1_doGroup 274 = .ok (.ireturn, 1) := by decide +kernel
theorem dX1_doGroup_275 : dec mX1_doGroup 275 = .ok (.iload 7, 2) := by decide +kernel
theorem dX1_doGroup_277 : dec mX1_doGroup 277 = .ok (.ifCond .ne 36, 3) := by decide +kernel
theorem dX1_doGroup_280 : dec mX1_doGroup 280 = .ok (.aload_n 0, 1) := by decide +kernel
theorem dX1_doGroup_281 : dec mX1_doGroup 281 = .ok (.iload_n 3, 1) := by decide +kernel
theorem dX1_doGroup_282 : dec mX1_doGroup 282 = .ok (.iload 4, 2) := by decide +kernel
theorem dX1_doGroup_284 : dec mX1_doGroup 284 = .ok (.invokevirtual 79, 3) := by decide +kernel
theorem dX1_doGroup_287 : dec mX1_doGroup 287 = .ok (.ifCond .eq 26, 3) := by decide +kernel
theorem dX1_doGroup_290 : dec mX1_doGroup 290 = .ok (.aload_n 0, 1) := by decide +kernel
theorem dX1_doGroup_291 : dec mX1_doGroup 291 = .ok (.aload_n 0, 1) := by decide +kernel
theorem dX1_doGroup_292 : dec mX1_doGroup 292 = .ok (.iload_n 3, 1) := by decide +kernel
theorem dX1_doGroup_293 : dec mX1_doGroup 293 = .ok (.iload 4, 2) := by decide +kernel
theorem dX1_doGroup_295 : dec mX1_doGroup 295 = .ok (.invokevirtual 82, 3) := by decide +kernel
theorem dX1_doGroup_298 : dec mX1_doGroup 298 = .ok (.invokevirtual 86, 3) := by decide +kernel
theorem dX1_doGroup_301 : dec mX1_doGroup 301 = .ok (.iload 6, 2) := by decide +kernel
theorem dX1_doGroup_303 : dec mX1_doGroup 303 = .ok (.bipush 10, 2) := by decide +kernel
theorem dX1_doGroup_305 : dec mX1_doGroup 305 = .ok (.irem, 1) := by decide +kernel
theorem dX1_doGroup_306 : dec mX1_doGroup 306 = .ok (.if_icmp .ne 7, 3) := by decide +kernel
theorem dX1_doGroup_309 : dec mX1_doGroup 309 = .ok (.iconst 1, 1) := by decide +kernel
theorem dX1_doGroup_310 : dec mX1_doGroup 310 = .ok (.goto 4, 3) := by decide +kernel
theorem dX1_doGroup_313 : dec mX1_doGroup 313 = .ok (.iconst 0, 1) := by decide +kernel
theorem dX1_doGroup_314 : dec mX1_doGroup 314 = .ok (.ireturn, 1) := by decide +kernel
theorem dX1_doGroup_315 : dec mX1_doGroup 315 = .ok (.aload_n 0, 1) := by decide +kernel
theorem dX1_doGroup_316 : dec mX1_doGroup 316 = .ok (.invokevirtual 89, 3) := by decide +kernel
theorem dX1_doGroup_319 : dec mX1_doGroup 319 = .ok (.iload_n 2, 1) := by decide +kernel
theorem dX1_doGroup_320 : dec mX1_doGroup 320 = .ok (.if_icmp .gt 7, 3) := by decide +kernel
theorem dX1_doGroup_323 : dec mX1_doGroup 323 = .ok (.iconst 1, 1) := by decide +kernel
theorem dX1_doGroup_324 : dec mX1_doGroup 324 = .ok (.goto 4, 3) := by decide +kernel
theorem dX1_doGroup_327 : dec mX1_doGroup 327 = .ok (.iconst 0, 1) := by decide +kernel
theorem dX1_doGroup_328 : dec mX1_doGroup 328 = .ok (.ireturn, 1) := by decide +kernel
theorem dX1_doGroup_329 : dec mX1_doGroup 329 = .ok (.iconst 0, 1) := by decide +kernel
theorem dX1_doGroup_330 : dec mX1_doGroup 330 = .ok (.ireturn, 1) := by decide +kernel
theorem dX1_doTurn_0 : dec mX1_doTurn 0 = .ok (.iload_n 1, 1) := by decide +kernel
theorem dX1_doTurn_1 : dec mX1_doTurn 1 = .ok (.bipush 8, 2) := by decide +kernel
theorem dX1_doTurn_3 : dec mX1_doTurn 3 = .ok (.idiv, 1) := by decide +kernel
theorem dX1_doTurn_4 : dec mX1_doTurn 4 = .ok (.istore_n 2, 1) := by decide +kernel
theorem dX1_doTurn_5 : dec mX1_doTurn 5 = .ok (.iload_n 1, 1) := by decide +kernel
theorem dX1_doTurn_6 : dec mX1_doTurn 6 = .ok (.bipush 8, 2) := by decide +kernel
theorem dX1_doTurn_8 : dec mX1_doTurn 8 = .ok (.irem, 1) := by decide +kernel
theorem dX1_doTurn_9 : dec mX1_doTurn 9 = .ok (.tableswitch 152 0 6 #[43, 43, 70, 82, 82, 101, 120], 43) := by decide +kernel
theorem dX1_doTurn_52 : dec mX1_doTurn 52 = .ok (.aload_n 0, 1) := by decide +kernel
theorem dX1_doTurn_53 : dec mX1_doTurn 53 = .ok (.iload_n 2, 1) := by decide +kernel
theorem dX1_doTurn_54 : dec mX1_doTurn 54 = .ok (.bipush 8, 2) := by decide +kernel
theorem dX1_doTurn_56 : dec mX1_doTurn 56 = .ok (.irem, 1) := by decide +kernel
theorem dX1_doTurn_57 : dec mX1_doTurn 57 = .ok (.iload_n 2, 1) := by decide +kernel
theorem dX1_doTurn_58 : dec mX1_doTurn 58 = .ok (.bipush 8, 2) := by decide +kernel
theorem dX1_doTurn_60 : dec mX1_doTurn 60 = .ok (.idiv, 1) := by decide +kernel
theorem dX1_doTurn_61 : dec mX1_doTurn 61 = .ok (.bipush 14, 2) := by decide +kernel
theorem dX1_doTurn_63 : dec mX1_doTurn 63 = .ok (.irem, 1) := by decide +kernel
theorem dX1_doTurn_64 : dec mX1_doTurn 64 = .ok (.iload_n 2, 1) := by decide +kernel
theorem dX1_doTurn_65 : dec mX1_doTurn 65 = .ok (.sipush 128, 3) := by decide +kernel
theorem dX1_doTurn_68 : dec mX1_doTurn 68 = .ok (.idiv, 1) := by decide +kernel
theorem dX1_doTurn_69 : dec mX1_doTurn 69 = .ok (.bipush 100, 2) := by decide +kernel
theorem dX1_doTurn_71 : dec mX1_doTurn 71 = .ok (.irem, 1) := by decide +kernel
theorem dX1_doTurn_72 : dec mX1_doTurn 72 = .ok (.invokevirtual 19, 3) := by decide +kernel
theorem dX1_doTurn_75 : dec mX1_doTurn 75 = .ok (.pop, 1) := by decide +kernel
theorem dX1_doTurn_76 : dec mX1_doTurn 76 = .ok (.goto 94, 3) := by decide +kernel
theorem dX1_doTurn_79 : dec mX1_doTurn 79 = .ok (.aload_n 0, 1) := by decide +kernel
theorem dX1_doTurn_80 : dec mX1_doTurn 80 = .ok (.iload_n 2, 1) := by decide +kernel
theorem dX1_doTurn_81 : dec mX1_doTurn 81 = .ok (.bipush 56, 2) := by decide +kernel
theorem dX1_doTurn_83 : dec mX1_doTurn 83 = .ok (.irem, 1) := by decide +kernel
theorem dX1_doTurn_84 : dec mX1_doTurn 84 = .ok (.invokevirtual 25, 3) := by decide +kernel
theorem dX1_doTurn_87 : dec mX1_doTurn 87 = .ok (.pop, 1) := by decide +kernel
theorem dX1_doTurn_88 : dec mX1_doTurn 88 = .ok (.goto 82, 3) := by decide +kernel
theorem dX1_doTurn_91 : dec mX1_doTurn 91 = .ok (.aload_n 0, 1) := by decide +kernel
theorem dX1_doTurn_92 : dec mX1_doTurn 92 = .ok (.iload_n 2, 1) := by decide +kernel
theorem dX1_doTurn_93 : dec mX1_doTurn 93 = .ok (.bipush 56, 2) := by decide +kernel
theorem dX1_doTurn_95 : dec mX1_doTurn 95 = .ok (.irem, 1) := by decide +kernel
theorem dX1_doTurn_96 : dec mX1_doTurn 96 = .ok (.iload_n 2, 1) := by decide +kernel
theorem dX1_doTurn_97 : dec mX1_doTurn 97 = .ok (.bipush 64, 2) := by decide +kernel
theorem dX1_doTurn_99 : dec mX1_doTurn 99 = .ok (.idiv, 1) := by decide +kernel
theorem dX1_doTurn_100 : dec mX1_doTurn 100 = .ok (.bipush 56, 2) := by decide +kernel
theorem dX1_doTurn_102 : dec mX1_doTurn 102 = .ok (.irem, 1) := by decide +kernel
theorem dX1_doTurn_103 : dec mX1_doTurn 103 = .ok (.invokevirtual 29, 3) := by decide +kernel
theorem dX1_doTurn_106 : dec mX1_doTurn 106 = .ok (.pop, 1) := by decide +kernel
theorem dX1_doTurn_107 : dec mX1_doTurn 107 = .ok (.goto 63, 3) := by decide +kernel
theorem dX1_doTurn_110 : dec mX1_doTurn 110 = .ok (.aload_n 0, 1) := by decide +kernel
theorem dX1_doTurn_111 : dec mX1_doTurn 111 = .ok (.iload_n 2, 1) := by decide +kernel
theorem dX1_doTurn_112 : dec mX1_doTurn 112 = .ok (.bipush 8, 2) := by decide +kernel
theorem dX1_doTurn_114 : dec mX1_doTurn 114 = .ok (.irem, 1) := by decide +kernel
theorem dX1_doTurn_115 : dec mX1_doTurn 115 = .ok (.iload_n 2, 1) := by decide +kernel
theorem dX1_doTurn_116 : dec mX1_doTurn 116 = .ok (.bipush 8, 2) := by decide +kernel
theorem dX1_doTurn_118 : dec mX1_doTurn 118 = .ok (.idiv, 1) := by decide +kernel
theorem dX1_doTurn_119 : dec mX1_doTurn 119 = .ok (.bipush 14, 2) := by decide +kernel
theorem dX1_doTurn_121 : dec mX1_doTurn 121 = .ok (.irem, 1) := by decide +kernel
theorem dX1_doTurn_122 : dec mX1_doTurn 122 = .ok (.invokevirtual 33, 3) := by decide +kernel
theorem dX1_doTurn_125 : dec mX1_doTurn 125 = .ok (.pop, 1) := by decide +kernel
theorem dX1_doTurn_126 : dec mX1_doTurn 126 = .ok (.goto 44, 3) := by decide +kernel
theorem dX1_doTurn_129 : dec mX1_doTurn 129 = .ok (.iload_n 2, 1) := by decide +kernel
theorem dX1_doTurn_130 : dec mX1_doTurn 130 = .ok (.iconst 4, 1) := by decide +kernel
theorem dX1_doTurn_131 : dec mX1_doTurn 131 = .ok (.irem, 1) := by decide +kernel
theorem dX1_doTurn_132 : dec mX1_doTurn 132 = .ok (.ifCond .ne 22, 3) := by decide +kernel
theorem dX1_doTurn_135 : dec mX1_doTurn 135 = .ok (.aload_n 0, 1) := by decide +kernel
theorem dX1_doTurn_136 : dec mX1_doTurn 136 = .ok (.iload_n 2, 1) := by decide +kernel
theorem dX1_doTurn_137 : dec mX1_doTurn 137 = .ok (.bipush 100, 2) := by decide +kernel
theorem dX1_doTurn_139 : dec mX1_doTurn 139 = .ok (.irem, 1) := by decide +kernel
theorem dX1_doTurn_140 : dec mX1_doTurn 140 = .ok (.iload_n 2, 1) := by decide +kernel
theorem dX1_doTurn_141 : dec mX1_doTurn 141 = .ok (.sipush 128, 3) := by decide +kernel
theorem dX1_doTurn_144 : dec mX1_doTurn 144 = .ok (.idiv, 1) := by decide +kernel
theorem dX1_doTurn_145 : dec mX1_doTurn 145 = .ok (.bipush 100, 2) := by decide +kernel
theorem dX1_doTurn_147 : dec mX1_doTurn 147 = .ok (.irem, 1) := by decide +kernel
theorem dX1_doTurn_148 : dec mX1_doTurn 148 = .ok (.invokevirtual 39, 3) := by decide +kernel
theorem dX1_doTurn_151 : dec mX1_doTurn 151 = .ok (.goto 19, 3) := by decide +kernel
theorem dX1_doTurn_154 : dec mX1_doTurn 154 = .ok (.aload_n 0, 1) := by decide +kernel
theorem dX1_doTurn_155 : dec mX1_doTurn 155 = .ok (.invokevirtual 43, 3) := by decide +kernel
theorem dX1_doTurn_158 : dec mX1_doTurn 158 = .ok (.goto 12, 3) := by decide +kernel
theorem dX1_doTurn_161 : dec mX1_doTurn 161 = .ok (.aload_n 0, 1) := by decide +kernel
theorem dX1_doTurn_162 : dec mX1_doTurn 162 = .ok (.iconst 1, 1) := by decide +kernel
theorem dX1_doTurn_163 : dec mX1_doTurn 163 = .ok (.iload_n 2, 1) := by decide +kernel
theorem dX1_doTurn_164 : dec mX1_doTurn 164 = .ok (.iconst 4, 1) := by decide +kernel
theorem dX1_doTurn_165 : dec mX1_doTurn 165 = .ok (.irem, 1) := by decide +kernel
theorem dX1_doTurn_166 : dec mX1_doTurn 166 = .ok (.iadd, 1) := by decide +kernel
theorem dX1_doTurn_167 : dec mX1_doTurn 167 = .ok (.invokevirtual 46, 3) := by decide +kernel
theorem dX1_doTurn_170 : dec mX1_doTurn 170 = .ok (.return_, 1) := by decide +kernel
theorem dX2_init_0 : dec mX2_init 0 = .ok (.aload_n 0, 1) := by decide +kernel
theorem dX2_init_1 : dec mX2_init 1 = .ok (.invokespecial 3, 3) := by decide +kernel
theorem dX2_init_4 : dec mX2_init 4 = .ok (.aload_n 0, 1) := by decide +kernel
theorem dX2_init_5 : dec mX2_init 5 = .ok (.bipush 14, 2) := by decide +kernel
theorem dX2_init_7 : dec mX2_init 7 = .ok (.anewarray 9, 3) := by decide +kernel
theorem dX2_init_10 : dec mX2_init 10 = .ok (.putfield 11, 3) := by decide +kernel
theorem dX2_init_13 : dec mX2_init 13 = .ok (.iconst 0, 1) := by decide +kernel
theorem dX2_init_14 : dec mX2_init 14 = .ok (.istore_n 1, 1) := by decide +kernel
theorem dX2_init_15 : dec mX2_init 15 = .ok (.iload_n 1, 1) := by decide +kernel
theorem dX2_init_16 : dec mX2_init 16 = .ok (.bipush 14, 2) := by decide +kernel
theorem dX2_init_18 : dec mX2_init 18 = .ok (.if_icmp .ge 22, 3) := by decide +kernel
theorem dX2_init_21 : dec mX2_init 21 = .ok (.aload_n 0, 1) := by decide +kernel
theorem dX2_init_22 : dec mX2_init 22 = .ok (.getfield 11, 3) := by decide +kernel
theorem dX2_init_25 : dec mX2_init 25 = .ok (.iload_n 1, 1) := by decide +kernel
theorem dX2_init_26 : dec mX2_init 26 = .ok (.new 9, 3) := by decide +kernel
theorem dX2_init_29 : dec mX2_init 29 = .ok (.dup, 1) := by decide +kernel
theorem dX2_init_30 : dec mX2_init 30 = .ok (.invokespecial 17, 3) := by decide +kernel
theorem dX2_init_33 : dec mX2_init 33 = .ok (.aastore, 1) := by decide +kernel
theorem dX2_init_34 : dec mX2_init 34 = .ok (.iinc 1 1, 3) := by decide +kernel
theorem dX2_init_37 : dec mX2_init 37 = .ok (.goto (-22), 3) := by decide +kernel
theorem dX2_init_40 : dec mX2_init 40 = .ok (.return_, 1) := by decide +kernel
theorem dX2_isEmpty_0 : dec mX2_isEmpty 0 = .ok (.aload_n 0, 1) := by decide +kernel
theorem dX2_isEmpty_1 : dec mX2_isEmpty 1 = .ok (.getfield 18, 3) := by decide +kernel
theorem dX2_isEmpty_4 : dec mX2_isEmpty 4 = .ok (.ifCond .ne 7, 3) := by decide +kernel
theorem dX2_isEmpty_7 : dec mX2_isEmpty 7 = .ok (.iconst 1, 1) := by decide +kernel
theorem dX2_isEmpty_8 : dec mX2_isEmpty 8 = .ok (.goto 4, 3) := by decide +kernel
theorem dX2_isEmpty_11 : dec mX2_isEmpty 11 = .ok (.iconst 0, 1) := by decide +kernel
theorem dX2_isEmpty_12 : dec mX2_isEmpty 12 = .ok (.ireturn, 1) := by decide +kernel
theorem dX2_forget_0 : dec mX2_forget 0 = .ok (.aload_n 0, 1) := by decide +kernel
theorem dX2_forget_1 : dec mX2_forget 1 = .ok (.iconst 0, 1) := by decide +kernel
theorem dX2_forget_2 : dec mX2_forget 2 = .ok (.putfield 18, 3) := by decide +kernel
theorem dX2_forget_5 : dec mX2_forget 5 = .ok (.return_, 1) := by decide +kernel
theorem dX2_remember_0 : dec mX2_remember 0 = .ok (.aload_n 0, 1) := by decide +kernel
theorem dX2_remember_1 : dec mX2_remember 1 = .ok (.getfield 18, 3) := by decide +kernel
theorem dX2_remember_4 : dec mX2_remember 4 = .ok (.bipush 14, 2) := by decide +kernel
theorem dX2_remember_6 : dec mX2_remember 6 = .ok (.if_icmp .ne 26, 3) := by decide +kernel
theorem dX2_remember_9 : dec mX2_remember 9 = .ok (.aload_n 0, 1) := by decide +kernel
theorem dX2_remember_10 : dec mX2_remember 10 = .ok (.aload_n 0, 1) := by decide +kernel
theorem dX2_remember_11 : dec mX2_remember 11 = .ok (.getfield 22, 3) := by decide +kernel
theorem dX2_remember_14 : dec mX2_remember 14 = .ok (.iconst 1, 1) := by decide +kernel
theorem dX2_remember_15 : dec mX2_remember 15 = .ok (.iadd, 1) := by decide +kernel
theorem dX2_remember_16 : dec mX2_remember 16 = .ok (.bipush 14, 2) := by decide +kernel
theorem dX2_remember_18 : dec mX2_remember 18 = .ok (.irem, 1) := by decide +kernel
theorem dX2_remember_19 : dec mX2_remember 19 = .ok (.putfield 22, 3) := by decide +kernel
theorem dX2_remember_22 : dec mX2_remember 22 = .ok (.aload_n 0, 1) := by decide +kernel
theorem dX2_remember_23 : dec mX2_remember 23 = .ok (.dup, 1) := by decide +kernel
theorem dX2_remember_24 : dec mX2_remember 24 = .ok (.getfield 18, 3) := by decide +kernel
theorem dX2_remember_27 : dec mX2_remember 27 = .ok (.iconst 1, 1) := by decide +kernel
theorem dX2_remember_28 : dec mX2_remember 28 = .ok (.isub, 1) := by decide +kernel
theorem dX2_remember_29 : dec mX2_remember 29 = .ok (.putfield 18, 3) := by decide +kernel
theorem dX2_remember_32 : dec mX2_remember 32 = .ok (.aload_n 1, 1) := by decide +kernel
theorem dX2_remember_33 : dec mX2_remember 33 = .ok (.aload_n 0, 1) := by decide +kernel
theorem dX2_remember_34 : dec mX2_remember 34 = .ok (.aload_n 0, 1) := by decide +kernel
theorem dX2_remember_35 : dec mX2_remember 35 = .ok (.getfield 22, 3) := by decide +kernel
theorem dX2_remember_38 : dec mX2_remember 38 = .ok (.aload_n 0, 1) := by decide +kernel
theorem dX2_remember_39 : dec mX2_remember 39 = .ok (.getfield 18, 3) := by decide +kernel
theorem dX2_remember_42 : dec mX2_remember 42 = .ok (.iadd, 1) := by decide +kernel
theorem dX2_remember_43 : dec mX2_remember 43 = .ok (.bipush 14, 2) := by decide +kernel
theorem dX2_remember_45 : dec mX2_remember 45 = .ok (.irem, 1) := by decide +kernel
theorem dX2_remember_46 : dec mX2_remember 46 = .ok (.invokevirtual 25, 3) := by decide +kernel
theorem dX2_remember_49 : dec mX2_remember 49 = .ok (.invokestatic 29, 3) := by decide +kernel
theorem dX2_remember_52 : dec mX2_remember 52 = .ok (.aload_n 0, 1) := by decide +kernel
theorem dX2_remember_53 : dec mX2_remember 53 = .ok (.dup, 1) := by decide +kernel
theorem dX2_remember_54 : dec mX2_remember 54 = .ok (.getfield 18, 3) := by decide +kernel
theorem dX2_remember_57 : dec mX2_remember 57 = .ok (.iconst 1, 1) := by decide +kernel
theorem dX2_remember_58 : dec mX2_remember 58 = .ok (.iadd, 1) := by decide +kernel
theorem dX2_remember_59 : dec mX2_remember 59 = .ok (.putfield 18, 3) := by decide +kernel
theorem dX2_remember_62 : dec mX2_remember 62 = .ok (.return_, 1) := by decide +kernel
theorem dX2_takeLast_0 : dec mX2_takeLast 0 = .ok (.aload_n 0, 1) := by decide +kernel
theorem dX2_takeLast_1 : dec mX2_takeLast 1 = .ok (.getfield 18, 3) := by decide +kernel
theorem dX2_takeLast_4 : dec mX2_takeLast 4 = .ok (.ifCond .ne 5, 3) := by decide +kernel
theorem dX2_takeLast_7 : dec mX2_takeLast 7 = .ok (.aconst_null, 1) := by decide +kernel
theorem dX2_takeLast_8 : dec mX2_takeLast 8 = .ok (.areturn, 1) := by decide +kernel
theorem dX2_takeLast_9 : dec mX2_takeLast 9 = .ok (.aload_n 0, 1) := by decide +kernel
theorem dX2_takeLast_10 : dec mX2_takeLast 10 = .ok (.dup, 1) := by decide +kernel
theorem dX2_takeLast_11 : dec mX2_takeLast 11 = .ok (.getfield 18, 3) := by decide +kernel
theorem dX2_takeLast_14 : dec mX2_takeLast 14 = .ok (.iconst 1, 1) := by decide +kernel
theorem dX2_takeLast_15 : dec mX2_takeLast 15 = .ok (.isub, 1) := by decide +kernel
theorem dX2_takeLast_16 : dec mX2_takeLast 16 = .ok (.putfield 18, 3) := by decide +kernel
theorem dX2_takeLast_19 : dec mX2_takeLast 19 = .ok (.aload_n 0, 1) := by decide +kernel
theorem dX2_takeLast_20 : dec mX2_takeLast 20 = .ok (.aload_n 0, 1) := by decide +kernel
theorem dX2_takeLast_21 : dec mX2_takeLast 21 = .ok (.getfield 22, 3) := by decide +kernel
theorem dX2_takeLast_24 : dec mX2_takeLast 24 = .ok (.aload_n 0, 1) := by decide +kernel
theorem dX2_takeLast_25 : dec mX2_takeLast 25 = .ok (.getfield 18, 3) := by decide +kernel
theorem dX2_takeLast_28 : dec mX2_takeLast 28 = .ok (.iadd, 1) := by decide +kernel
theorem dX2_takeLast_29 : dec mX2_takeLast 29 = .ok (.bipush 14, 2) := by decide +kernel
theorem dX2_takeLast_31 : dec mX2_takeLast 31 = .ok (.irem, 1) := by decide +kernel
theorem dX2_takeLast_32 : dec mX2_takeLast 32 = .ok (.invokevirtual 25, 3) := by decide +kernel
theorem dX2_takeLast_35 : dec mX2_takeLast 35 = .ok (.areturn, 1) := by decide +kernel
theorem dX2_stateAt_0 : dec mX2_stateAt 0 = .ok (.iload_n 1, 1) := by decide +kernel
theorem dX2_stateAt_1 : dec mX2_stateAt 1 = .ok (.ifCond .lt 21, 3) := by decide +kernel
theorem dX2_stateAt_4 : dec mX2_stateAt 4 = .ok (.iload_n 1, 1) := by decide +kernel
theorem dX2_stateAt_5 : dec mX2_stateAt 5 = .ok (.aload_n 0, 1) := by decide +kernel
theorem dX2_stateAt_6 : dec mX2_stateAt 6 = .ok (.getfield 11, 3) := by decide +kernel
theorem dX2_stateAt_9 : dec mX2_stateAt 9 = .ok (.arraylength, 1) := by decide +kernel
theorem dX2_stateAt_10 : dec mX2_stateAt 10 = .ok (.if_icmp .ge 12, 3) := by decide +kernel
theorem dX2_stateAt_13 : dec mX2_stateAt 13 = .ok (.aload_n 0, 1) := by decide +kernel
theorem dX2_stateAt_14 : dec mX2_stateAt 14 = .ok (.getfield 11, 3) := by decide +kernel
theorem dX2_stateAt_17 : dec mX2_stateAt 17 = .ok (.iload_n 1, 1) := by decide +kernel
theorem dX2_stateAt_18 : dec mX2_stateAt 18 = .ok (.aaload, 1) := by decide +kernel
theorem dX2_stateAt_19 : dec mX2_stateAt 19 = .ok (.goto 4, 3) := by decide +kernel
theorem dX2_stateAt_22 : dec mX2_stateAt 22 = .ok (.aconst_null, 1) := by decide +kernel
theorem dX2_stateAt_23 : dec mX2_stateAt 23 = .ok (.areturn, 1) := by decide +kernel
theorem dX3_init_0 : dec mX3_init 0 = .ok (.aload_n 0, 1) := by decide +kernel
theorem dX3_init_1 : dec mX3_init 1 = .ok (.invokespecial 3, 3) := by decide +kernel
theorem dX3_init_4 : dec mX3_init 4 = .ok (.aload_n 0, 1) := by decide +kernel
theorem dX3_init_5 : dec mX3_init 5 = .ok (.bipush 56, 2) := by decide +kernel
theorem dX3_init_7 : dec mX3_init 7 = .ok (.newarray .int, 2) := by decide +kernel
theorem dX3_init_9 : dec mX3_init 9 = .ok (.putfield 9, 3) := by decide +kernel
theorem dX3_init_12 : dec mX3_init 12 = .ok (.aload_n 0, 1) := by decide +kernel
theorem dX3_init_13 : dec mX3_init 13 = .ok (.bipush 56, 2) := by decide +kernel
theorem dX3_init_15 : dec mX3_init 15 = .ok (.newarray .int, 2) := by decide +kernel
theorem dX3_init_17 : dec mX3_init 17 = .ok (.putfield 15, 3) := by decide +kernel
theorem dX3_init_20 : dec mX3_init 20 = .ok (.aload_n 0, 1) := by decide +kernel
theorem dX3_init_21 : dec mX3_init 21 = .ok (.bipush 56, 2) := by decide +kernel
theorem dX3_init_23 : dec mX3_init 23 = .ok (.newarray .int, 2) := by decide +kernel
theorem dX3_init_25 : dec mX3_init 25 = .ok (.putfield 18, 3) := by decide +kernel
theorem dX3_init_28 : dec mX3_init 28 = .ok (.aload_n 0, 1) := by decide +kernel
theorem dX3_init_29 : dec mX3_init 29 = .ok (.bipush 56, 2) := by decide +kernel
theorem dX3_init_31 : dec mX3_init 31 = .ok (.newarray .int, 2) := by decide +kernel
theorem dX3_init_33 : dec mX3_init 33 = .ok (.putfield 21, 3) := by decide +kernel
theorem dX3_init_36 : dec mX3_init 36 = .ok (.aload_n 0, 1) := by decide +kernel
theorem dX3_init_37 : dec mX3_init 37 = .ok (.bipush 56, 2) := by decide +kernel
theorem dX3_init_39 : dec mX3_init 39 = .ok (.newarray .int, 2) := by decide +kernel
theorem dX3_init_41 : dec mX3_init 41 = .ok (.putfield 24, 3) := by decide +kernel
theorem dX3_init_44 : dec mX3_init 44 = .ok (.aload_n 0, 1) := by decide +kernel
theorem dX3_init_45 : dec mX3_init 45 = .ok (.bipush 56, 2) := by decide +kernel
theorem dX3_init_47 : dec mX3_init 47 = .ok (.newarray .int, 2) := by decide +kernel
theorem dX3_init_49 : dec mX3_init 49 = .ok (.putfield 27, 3) := by decide +kernel
theorem dX3_init_52 : dec mX3_init 52 = .ok (.return_, 1) := by decide +kernel
theorem dX3_findIn_0 : dec mX3_findIn 0 = .ok (.aload_n 0, 1) := by decide +kernel
theorem dX3_findIn_1 : dec mX3_findIn 1 = .ok (.iconst (-1), 1) := by decide +kernel
theorem dX3_findIn_2 : dec mX3_findIn 2 = .ok (.putfield 30, 3) := by decide +kernel
theorem dX3_findIn_5 : dec mX3_findIn 5 = .ok (.aload_n 0, 1) := by decide +kernel
theorem dX3_findIn_6 : dec mX3_findIn 6 = .ok (.iconst 0, 1) := by decide +kernel
theorem dX3_findIn_7 : dec mX3_findIn 7 = .ok (.putfield 34, 3) := by decide +kernel
theorem dX3_findIn_10 : dec mX3_findIn 10 = .ok (.aload_n 0, 1) := by decide +kernel
theorem dX3_findIn_11 : dec mX3_findIn 11 = .ok (.aload_n 1, 1) := by decide +kernel
theorem dX3_findIn_12 : dec mX3_findIn 12 = .ok (.invokevirtual 37, 3) := by decide +kernel
theorem dX3_findIn_15 : dec mX3_findIn 15 = .ok (.iconst 0, 1) := by decide +kernel
theorem dX3_findIn_16 : dec mX3_findIn 16 = .ok (.istore_n 2, 1) := by decide +kernel
theorem dX3_findIn_17 : dec mX3_findIn 17 = .ok (.iload_n 2, 1) := by decide +kernel
theorem dX3_findIn_18 : dec mX3_findIn 18 = .ok (.aload_n 1, 1) := by decide +kernel
theorem dX3_findIn_19 : dec mX3_findIn 19 = .ok (.getfield 41, 3) := by decide +kernel
theorem dX3_findIn_22 : dec mX3_findIn 22 = .ok (.if_icmp .ge 27, 3) := by decide +kernel
theorem dX3_findIn_25 : dec mX3_findIn 25 = .ok (.aload_n 1, 1) := by decide +kernel
theorem dX3_findIn_26 : dec mX3_findIn 26 = .ok (.iload_n 2, 1) := by decide +kernel
theorem dX3_findIn_27 : dec mX3_findIn 27 = .ok (.invokevirtual 46, 3) := by decide +kernel
theorem dX3_findIn_30 : dec mX3_findIn 30 = .ok (.ifCond .ne 13, 3) := by decide +kernel
theorem dX3_findIn_33 : dec mX3_findIn 33 = .ok (.aload_n 0, 1) := by decide +kernel
theorem dX3_findIn_34 : dec mX3_findIn 34 = .ok (.iload_n 2, 1) := by decide +kernel
theorem dX3_findIn_35 : dec mX3_findIn 35 = .ok (.aload_n 1, 1) := by decide +kernel
theorem dX3_findIn_36 : dec mX3_findIn 36 = .ok (.iload_n 2, 1) := by decide +kernel
theorem dX3_findIn_37 : dec mX3_findIn 37 = .ok (.invokevirtual 50, 3) := by decide +kernel
theorem dX3_findIn_40 : dec mX3_findIn 40 = .ok (.invokevirtual 54, 3) := by decide +kernel
theorem dX3_findIn_43 : dec mX3_findIn 43 = .ok (.iinc 2 1, 3) := by decide +kernel
theorem dX3_findIn_46 : dec mX3_findIn 46 = .ok (.goto (-29), 3) := by decide +kernel
theorem dX3_findIn_49 : dec mX3_findIn 49 = .ok (.iconst 0, 1) := by decide +kernel
theorem dX3_findIn_50 : dec mX3_findIn 50 = .ok (.istore_n 2, 1) := by decide +kernel
theorem dX3_findIn_51 : dec mX3_findIn 51 = .ok (.iload_n 2, 1) := by decide +kernel
theorem dX3_findIn_52 : dec mX3_findIn 52 = .ok (.aload_n 1, 1) := by decide +kernel
theorem dX3_findIn_53 : dec mX3_findIn 53 = .ok (.getfield 41, 3) := by decide +kernel
theorem dX3_findIn_56 : dec mX3_findIn 56 = .ok (.if_icmp .ge 26, 3) := by decide +kernel
theorem dX3_findIn_59 : dec mX3_findIn 59 = .ok (.aload_n 1, 1) := by decide +kernel
theorem dX3_findIn_60 : dec mX3_findIn 60 = .ok (.iload_n 2, 1) := by decide +kernel
theorem dX3_findIn_61 : dec mX3_findIn 61 = .ok (.invokevirtual 46, 3) := by decide +kernel
theorem dX3_findIn_64 : dec mX3_findIn 64 = .ok (.ifCond .ne 12, 3) := by decide +kernel
theorem dX3_findIn_67 : dec mX3_findIn 67 = .ok (.aload_n 0, 1) := by decide +kernel
theorem dX3_findIn_68 : dec mX3_findIn 68 = .ok (.iload_n 2, 1) := by decide +kernel
theorem dX3_findIn_69 : dec mX3_findIn 69 = .ok (.aload_n 1, 1) := by decide +kernel
theorem dX3_findIn_70 : dec mX3_findIn 70 = .ok (.getfield 41, 3) := by decide +kernel
theorem dX3_findIn_73 : dec mX3_findIn 73 = .ok (.invokevirtual 58, 3) := by decide +kernel
theorem dX3_findIn_76 : dec mX3_findIn 76 = .ok (.iinc 2 1, 3) := by decide +kernel
theorem dX3_findIn_79 : dec mX3_findIn 79 = .ok (.goto (-28), 3) := by decide +kernel
theorem dX3_findIn_82 : dec mX3_findIn 82 = .ok (.iconst 0, 1) := by decide +kernel
theorem dX3_findIn_83 : dec mX3_findIn 83 = .ok (.istore_n 2, 1) := by decide +kernel
theorem dX3_findIn_84 : dec mX3_findIn 84 = .ok (.iload_n 2, 1) := by decide +kernel
theorem dX3_findIn_85 : dec mX3_findIn 85 = .ok (.aload_n 1, 1) := by decide +kernel
theorem dX3_findIn_86 : dec mX3_findIn 86 = .ok (.getfield 41, 3) := by decide +kernel
theorem dX3_findIn_89 : dec mX3_findIn 89 = .ok (.if_icmp .ge 61, 3) := by decide +kernel
theorem dX3_findIn_92 : dec mX3_findIn 92 = .ok (.aload_n 1, 1) := by decide +kernel
theorem dX3_findIn_93 : dec mX3_findIn 93 = .ok (.iload_n 2, 1) := by decide +kernel
theorem dX3_findIn_94 : dec mX3_findIn 94 = .ok (.invokevirtual 61, 3) := by decide +kernel
theorem dX3_findIn_97 : dec mX3_findIn 97 = .ok (.istore_n 3, 1) := by decide +kernel
theorem dX3_findIn_98 : dec mX3_findIn 98 = .ok (.iload_n 3, 1) := by decide +kernel
theorem dX3_findIn_99 : dec mX3_findIn 99 = .ok (.iconst (-1), 1) := by decide +kernel
theorem dX3_findIn_100 : dec mX3_findIn 100 = .ok (.if_icmp .eq 44, 3) := by decide +kernel
theorem dX3_findIn_103 : dec mX3_findIn 103 = .ok (.aload_n 1, 1) := by decide +kernel
theorem dX3_findIn_104 : dec mX3_findIn 104 = .ok (.iload_n 2, 1) := by decide +kernel
theorem dX3_findIn_105 : dec mX3_findIn 105 = .ok (.invokevirtual 46, 3) := by decide +kernel
theorem dX3_findIn_108 : dec mX3_findIn 108 = .ok (.ifCond .ne 36, 3) := by decide +kernel
theorem dX3_findIn_111 : dec mX3_findIn 111 = .ok (.aload_n 1, 1) := by decide +kernel
theorem dX3_findIn_112 : dec mX3_findIn 112 = .ok (.iload_n 3, 1) := by decide +kernel
theorem dX3_findIn_113 : dec mX3_findIn 113 = .ok (.invokevirtual 46, 3) := by decide +kernel
theorem dX3_findIn_116 : dec mX3_findIn 116 = .ok (.ifCond .ne 28, 3) := by decide +kernel
theorem dX3_findIn_119 : dec mX3_findIn 119 = .ok (.aload_n 0, 1) := by decide +kernel
theorem dX3_findIn_120 : dec mX3_findIn 120 = .ok (.sipush 20000, 3) := by decide +kernel
theorem dX3_findIn_123 : dec mX3_findIn 123 = .ok (.aload_n 1, 1) := by decide +kernel
theorem dX3_findIn_124 : dec mX3_findIn 124 = .ok (.getfield 64, 3) := by decide +kernel
theorem dX3_findIn_127 : dec mX3_findIn 127 = .ok (.getfield 68, 3) := by decide +kernel
theorem dX3_findIn_130 : dec mX3_findIn 130 = .ok (.iload_n 2, 1) := by decide +kernel
theorem dX3_findIn_131 : dec mX3_findIn 131 = .ok (.invokestatic 73, 3) := by decide +kernel
theorem dX3_findIn_134 : dec mX3_findIn 134 = .ok (.iadd, 1) := by decide +kernel
theorem dX3_findIn_135 : dec mX3_findIn 135 = .ok (.aload_n 1, 1) := by decide +kernel
theorem dX3_findIn_136 : dec mX3_findIn 136 = .ok (.iload_n 2, 1) := by decide +kernel
theorem dX3_findIn_137 : dec mX3_findIn 137 = .ok (.iload_n 3, 1) := by decide +kernel
theorem dX3_findIn_138 : dec mX3_findIn 138 = .ok (.invokevirtual 77, 3) := by decide +kernel
theorem dX3_findIn_141 : dec mX3_findIn 141 = .ok (.invokevirtual 54, 3) := by decide +kernel
theorem dX3_findIn_144 : dec mX3_findIn 144 = .ok (.iinc 2 1, 3) := by decide +kernel
theorem dX3_findIn_147 : dec mX3_findIn 147 = .ok (.goto (-63), 3) := by decide +kernel
theorem dX3_findIn_150 : dec mX3_findIn 150 = .ok (.return_, 1) := by decide +kernel
theorem dX3_fillRows_0 : dec mX3_fillRows 0 = .ok (.aload_n 1, 1) := by decide +kernel
theorem dX3_fillRows_1 : dec mX3_fillRows 1 = .ok (.getfield 64, 3) := by decide +kernel
theorem dX3_fillRows_4 : dec mX3_fillRows 4 = .ok (.astore_n 2, 1) := by decide +kernel
theorem dX3_fillRows_5 : dec mX3_fillRows 5 = .ok (.iconst 0, 1) := by decide +kernel
theorem dX3_fillRows_6 : dec mX3_fillRows 6 = .ok (.istore_n 3, 1) := by decide +kernel
theorem dX3_fillRows_7 : dec mX3_fillRows 7 = .ok (.iload_n 3, 1) := by decide +kernel
theorem dX3_fillRows_8 : dec mX3_fillRows 8 = .ok (.aload_n 1, 1) := by decide +kernel
theorem dX3_fillRows_9 : dec mX3_fillRows 9 = .ok (.getfield 41, 3) := by decide +kernel
theorem dX3_fillRows_12 : dec mX3_fillRows 12 = .ok (.if_icmp .ge 136, 3) := by decide +kernel
theorem dX3_fillRows_15 : dec mX3_fillRows 15 = .ok (.aload_n 2, 1) := by decide +kernel
theorem dX3_fillRows_16 : dec mX3_fillRows 16 = .ok (.getfield 81, 3) := by decide +kernel
theorem dX3_fillRows_19 : dec mX3_fillRows 19 = .ok (.iload_n 3, 1) := by decide +kernel
theorem dX3_fillRows_20 : dec mX3_fillRows 20 = .ok (.invokestatic 73, 3) := by decide +kernel
theorem dX3_fillRows_23 : dec mX3_fillRows 23 = .ok (.istore 4, 2) := by decide +kernel
theorem dX3_fillRows_25 : dec mX3_fillRows 25 = .ok (.aload_n 0, 1) := by decide +kernel
theorem dX3_fillRows_26 : dec mX3_fillRows 26 = .ok (.getfield 9, 3) := by decide +kernel
theorem dX3_fillRows_29 : dec mX3_fillRows 29 = .ok (.iload_n 3, 1) := by decide +kernel
theorem dX3_fillRows_30 : dec mX3_fillRows 30 = .ok (.aload_n 2, 1) := by decide +kernel
theorem dX3_fillRows_31 : dec mX3_fillRows 31 = .ok (.getfield 84, 3) := by decide +kernel
theorem dX3_fillRows_34 : dec mX3_fillRows 34 = .ok (.iload_n 3, 1) := by decide +kernel
theorem dX3_fillRows_35 : dec mX3_fillRows 35 = .ok (.invokestatic 73, 3) := by decide +kernel
theorem dX3_fillRows_38 : dec mX3_fillRows 38 = .ok (.invokestatic 85, 3) := by decide +kernel
theorem dX3_fillRows_41 : dec mX3_fillRows 41 = .ok (.aload_n 0, 1) := by decide +kernel
theorem dX3_fillRows_42 : dec mX3_fillRows 42 = .ok (.getfield 15, 3) := by decide +kernel
theorem dX3_fillRows_45 : dec mX3_fillRows 45 = .ok (.iload_n 3, 1) := by decide +kernel
theorem dX3_fillRows_46 : dec mX3_fillRows 46 = .ok (.aload_n 2, 1) := by decide +kernel
theorem dX3_fillRows_47 : dec mX3_fillRows 47 = .ok (.getfield 89, 3) := by decide +kernel
theorem dX3_fillRows_50 : dec mX3_fillRows 50 = .ok (.aload_n 2, 1) := by decide +kernel
theorem dX3_fillRows_51 : dec mX3_fillRows 51 = .ok (.getfield 68, 3) := by decide +kernel
theorem dX3_fillRows_54 : dec mX3_fillRows 54 = .ok (.iload_n 3, 1) := by decide +kernel
theorem dX3_fillRows_55 : dec mX3_fillRows 55 = .ok (.invokestatic 73, 3) := by decide +kernel
theorem dX3_fillRows_58 : dec mX3_fillRows 58 = .ok (.invokestatic 73, 3) := by decide +kernel
theorem dX3_fillRows_61 : dec mX3_fillRows 61 = .ok (.invokestatic 85, 3) := by decide +kernel
theorem dX3_fillRows_64 : dec mX3_fillRows 64 = .ok (.aload_n 0, 1) := by decide +kernel
theorem dX3_fillRows_65 : dec mX3_fillRows 65 = .ok (.getfield 18, 3) := by decide +kernel
theorem dX3_fillRows_68 : dec mX3_fillRows 68 = .ok (.iload_n 3, 1) := by decide +kernel
theorem dX3_fillRows_69 : dec mX3_fillRows 69 = .ok (.aload_n 2, 1) := by decide +kernel
theorem dX3_fillRows_70 : dec mX3_fillRows 70 = .ok (.getfield 89, 3) := by decide +kernel
theorem dX3_fillRows_73 : dec mX3_fillRows 73 = .ok (.aload_n 2, 1) := by decide +kernel
theorem dX3_fillRows_74 : dec mX3_fillRows 74 = .ok (.getfield 92, 3) := by decide +kernel
theorem dX3_fillRows_77 : dec mX3_fillRows 77 = .ok (.iload_n 3, 1) := by decide +kernel
theorem dX3_fillRows_78 : dec mX3_fillRows 78 = .ok (.invokestatic 73, 3) := by decide +kernel
theorem dX3_fillRows_81 : dec mX3_fillRows 81 = .ok (.invokestatic 73, 3) := by decide +kernel
theorem dX3_fillRows_84 : dec mX3_fillRows 84 = .ok (.invokestatic 85, 3) := by decide +kernel
theorem dX3_fillRows_87 : dec mX3_fillRows 87 = .ok (.aload_n 0, 1) := by decide +kernel
theorem dX3_fillRows_88 : dec mX3_fillRows 88 = .ok (.getfield 21, 3) := by decide +kernel
theorem dX3_fillRows_91 : dec mX3_fillRows 91 = .ok (.iload_n 3, 1) := by decide +kernel
theorem dX3_fillRows_92 : dec mX3_fillRows 92 = .ok (.aload_n 1, 1) := by decide +kernel
theorem dX3_fillRows_93 : dec mX3_fillRows 93 = .ok (.getfield 95, 3) := by decide +kernel
theorem dX3_fillRows_96 : dec mX3_fillRows 96 = .ok (.iload 4, 2) := by decide +kernel
theorem dX3_fillRows_98 : dec mX3_fillRows 98 = .ok (.invokestatic 73, 3) := by decide +kernel
theorem dX3_fillRows_101 : dec mX3_fillRows 101 = .ok (.invokestatic 85, 3) := by decide +kernel
theorem dX3_fillRows_104 : dec mX3_fillRows 104 = .ok (.aload_n 0, 1) := by decide +kernel
theorem dX3_fillRows_105 : dec mX3_fillRows 105 = .ok (.getfield 24, 3) := by decide +kernel
theorem dX3_fillRows_108 : dec mX3_fillRows 108 = .ok (.iload_n 3, 1) := by decide +kernel
theorem dX3_fillRows_109 : dec mX3_fillRows 109 = .ok (.aload_n 1, 1) := by decide +kernel
theorem dX3_fillRows_110 : dec mX3_fillRows 110 = .ok (.getfield 98, 3) := by decide +kernel
theorem dX3_fillRows_113 : dec mX3_fillRows 113 = .ok (.iload 4, 2) := by decide +kernel
theorem dX3_fillRows_115 : dec mX3_fillRows 115 = .ok (.invokestatic 73, 3) := by decide +kernel
theorem dX3_fillRows_118 : dec mX3_fillRows 118 = .ok (.invokestatic 85, 3) := by decide +kernel
theorem dX3_fillRows_121 : dec mX3_fillRows 121 = .ok (.aload_n 0, 1) := by decide +kernel
theorem dX3_fillRows_122 : dec mX3_fillRows 122 = .ok (.getfield 27, 3) := by decide +kernel
theorem dX3_fillRows_125 : dec mX3_fillRows 125 = .ok (.iload_n 3, 1) := by decide +kernel
theorem dX3_fillRows_126 : dec mX3_fillRows 126 = .ok (.aload_n 1, 1) := by decide +kernel
theorem dX3_fillRows_127 : dec mX3_fillRows 127 = .ok (.iload_n 3, 1) := by decide +kernel
theorem dX3_fillRows_128 : dec mX3_fillRows 128 = .ok (.aload_n 2, 1) := by decide +kernel
theorem dX3_fillRows_129 : dec mX3_fillRows 129 = .ok (.getfield 101, 3) := by decide +kernel
theorem dX3_fillRows_132 : dec mX3_fillRows 132 = .ok (.iload_n 3, 1) := by decide +kernel
theorem dX3_fillRows_133 : dec mX3_fillRows 133 = .ok (.invokestatic 73, 3) := by decide +kernel
theorem dX3_fillRows_136 : dec mX3_fillRows 136 = .ok (.invokevirtual 104, 3) := by decide +kernel
theorem dX3_fillRows_139 : dec mX3_fillRows 139 = .ok (.invokestatic 85, 3) := by decide +kernel
theorem dX3_fillRows_142 : dec mX3_fillRows 142 = .ok (.iinc 3 1, 3) := by decide +kernel
theorem dX3_fillRows_145 : dec mX3_fillRows 145 = .ok (.goto (-138), 3) := by decide +kernel
theorem dX3_fillRows_148 : dec mX3_fillRows 148 = .ok (.return_, 1) := by decide +kernel
theorem dX3_offerSwapsOf_0 : dec mX3_offerSwapsOf 0 = .ok (.sipush 10000, 3) := by decide +kernel
theorem dX3_offerSwapsOf_3 : dec mX3_offerSwapsOf 3 = .ok (.bipush 100, 2) := by decide +kernel
theorem dX3_offerSwapsOf_5 : dec mX3_offerSwapsOf 5 = .ok (.iload_n 1, 1) := by decide +kernel
theorem dX3_offerSwapsOf_6 : dec mX3_offerSwapsOf 6 = .ok (.imul, 1) := by decide +kernel
theorem dX3_offerSwapsOf_7 : dec mX3_offerSwapsOf 7 = .ok (.iadd, 1) := by decide +kernel
theorem dX3_offerSwapsOf_8 : dec mX3_offerSwapsOf 8 = .ok (.istore_n 3, 1) := by decide +kernel
theorem dX3_offerSwapsOf_9 : dec mX3_offerSwapsOf 9 = .ok (.aload_n 0, 1) := by decide +kernel
theorem dX3_offerSwapsOf_10 : dec mX3_offerSwapsOf 10 = .ok (.getfield 15, 3) := by decide +kernel
theorem dX3_offerSwapsOf_13 : dec mX3_offerSwapsOf 13 = .ok (.iload_n 1, 1) := by decide +kernel
theorem dX3_offerSwapsOf_14 : dec mX3_offerSwapsOf 14 = .ok (.invokestatic 73, 3) := by decide +kernel
theorem dX3_offerSwapsOf_17 : dec mX3_offerSwapsOf 17 = .ok (.istore 4, 2) := by decide +kernel
theorem dX3_offerSwapsOf_19 : dec mX3_offerSwapsOf 19 = .ok (.aload_n 0, 1) := by decide +kernel
theorem dX3_offerSwapsOf_20 : dec mX3_offerSwapsOf 20 = .ok (.getfield 18, 3) := by decide +kernel
theorem dX3_offerSwapsOf_23 : dec mX3_offerSwapsOf 23 = .ok (.iload_n 1, 1) := by decide +kernel
theorem dX3_offerSwapsOf_24 : dec mX3_offerSwapsOf 24 = .ok (.invokestatic 73, 3) := by decide +kernel
theorem dX3_offerSwapsOf_27 : dec mX3_offerSwapsOf 27 = .ok (.istore 5, 2) := by decide +kernel
theorem dX3_offerSwapsOf_29 : dec mX3_offerSwapsOf 29 = .ok (.aload_n 0, 1) := by decide +kernel
theorem dX3_offerSwapsOf_30 : dec mX3_offerSwapsOf 30 = .ok (.getfield 21, 3) := by decide +kernel
theorem dX3_offerSwapsOf_33 : dec mX3_offerSwapsOf 33 = .ok (.iload_n 1, 1) := by decide +kernel
theorem dX3_offerSwapsOf_34 : dec mX3_offerSwapsOf 34 = .ok (.invokestatic 73, 3) := by decide +kernel
theorem dX3_offerSwapsOf_37 : dec mX3_offerSwapsOf 37 = .ok (.istore 6, 2) := by decide +kernel
theorem dX3_offerSwapsOf_39 : dec mX3_offerSwapsOf 39 = .ok (.aload_n 0, 1) := by decide +kernel
theorem dX3_offerSwapsOf_40 : dec mX3_offerSwapsOf 40 = .ok (.getfield 24, 3) := by decide +kernel
theorem dX3_offerSwapsOf_43 : dec mX3_offerSwapsOf 43 = .ok (.iload_n 1, 1) := by decide +kernel
theorem dX3_offerSwapsOf_44 : dec mX3_offerSwapsOf 44 = .ok (.invokestatic 73, 3) := by decide +kernel
theorem dX3_offerSwapsOf_47 : dec mX3_offerSwapsOf 47 = .ok (.istore 7, 2) := by decide +kernel
theorem dX3_offerSwapsOf_49 : dec mX3_offerSwapsOf 49 = .ok (.aload_n 0, 1) := by decide +kernel
theorem dX3_offerSwapsOf_50 : dec mX3_offerSwapsOf 50 = .ok (.getfield 27, 3) := by decide +kernel
theorem dX3_offerSwapsOf_53 : dec mX3_offerSwapsOf 53 = .ok (.iload_n 1, 1) := by decide +kernel
theorem dX3_offerSwapsOf_54 : dec mX3_offerSwapsOf 54 = .ok (.invokestatic 73, 3) := by decide +kernel
theorem dX3_offerSwapsOf_57 : dec mX3_offerSwapsOf 57 = .ok (.istore 8, 2) := by decide +kernel
theorem dX3_offerSwapsOf_59 : dec mX3_offerSwapsOf 59 = .ok (.iload_n 1, 1) := by decide +kernel
theorem dX3_offerSwapsOf_60 : dec mX3_offerSwapsOf 60 = .ok (.iconst 0, 1) := by decide +kernel
theorem dX3_offerSwapsOf_61 : dec mX3_offerSwapsOf 61 = .ok (.invokestatic 107, 3) := by decide +kernel
theorem dX3_offerSwapsOf_64 : dec mX3_offerSwapsOf 64 = .ok (.iconst 1, 1) := by decide +kernel
theorem dX3_offerSwapsOf_65 : dec mX3_offerSwapsOf 65 = .ok (.iadd, 1) := by decide +kernel
theorem dX3_offerSwapsOf_66 : dec mX3_offerSwapsOf 66 = .ok (.istore 9, 2) := by decide +kernel
theorem dX3_offerSwapsOf_68 : dec mX3_offerSwapsOf 68 = .ok (.iload 9, 2) := by decide +kernel
theorem dX3_offerSwapsOf_70 : dec mX3_offerSwapsOf 70 = .ok (.iload_n 2, 1) := by decide +kernel
theorem dX3_offerSwapsOf_71 : dec mX3_offerSwapsOf 71 = .ok (.if_icmp .ge 92, 3) := by decide +kernel
theorem dX3_offerSwapsOf_74 : dec mX3_offerSwapsOf 74 = .ok (.iload 9, 2) := by decide +kernel
theorem dX3_offerSwapsOf_76 : dec mX3_offerSwapsOf 76 = .ok (.bipush 56, 2) := by decide +kernel
theorem dX3_offerSwapsOf_78 : dec mX3_offerSwapsOf 78 = .ok (.if_icmp .ge 85, 3) := by decide +kernel
theorem dX3_offerSwapsOf_81 : dec mX3_offerSwapsOf 81 = .ok (.aload_n 0, 1) := by decide +kernel
theorem dX3_offerSwapsOf_82 : dec mX3_offerSwapsOf 82 = .ok (.getfield 9, 3) := by decide +kernel
theorem dX3_offerSwapsOf_85 : dec mX3_offerSwapsOf 85 = .ok (.iload 9, 2) := by decide +kernel
theorem dX3_offerSwapsOf_87 : dec mX3_offerSwapsOf 87 = .ok (.iaload, 1) := by decide +kernel
theorem dX3_offerSwapsOf_88 : dec mX3_offerSwapsOf 88 = .ok (.ifCond .ne 69, 3) := by decide +kernel
theorem dX3_offerSwapsOf_91 : dec mX3_offerSwapsOf 91 = .ok (.iload 4, 2) := by decide +kernel
theorem dX3_offerSwapsOf_93 : dec mX3_offerSwapsOf 93 = .ok (.iload 5, 2) := by decide +kernel
theorem dX3_offerSwapsOf_95 : dec mX3_offerSwapsOf 95 = .ok (.aload_n 0, 1) := by decide +kernel
theorem dX3_offerSwapsOf_96 : dec mX3_offerSwapsOf 96 = .ok (.getfield 21, 3) := by decide +kernel
theorem dX3_offerSwapsOf_99 : dec mX3_offerSwapsOf 99 = .ok (.iload 9, 2) := by decide +kernel
theorem dX3_offerSwapsOf_101 : dec mX3_offerSwapsOf 101 = .ok (.iaload, 1) := by decide +kernel
theorem dX3_offerSwapsOf_102 : dec mX3_offerSwapsOf 102 = .ok (.aload_n 0, 1) := by decide +kernel
theorem dX3_offerSwapsOf_103 : dec mX3_offerSwapsOf 103 = .ok (.getfield 24, 3) := by decide +kernel
theorem dX3_offerSwapsOf_106 : dec mX3_offerSwapsOf 106 = .ok (.iload 9, 2) := by decide +kernel
theorem dX3_offerSwapsOf_108 : dec mX3_offerSwapsOf 108 = .ok (.iaload, 1) := by decide +kernel
theorem dX3_offerSwapsOf_109 : dec mX3_offerSwapsOf 109 = .ok (.invokestatic 112, 3) := by decide +kernel
theorem dX3_offerSwapsOf_112 : dec mX3_offerSwapsOf 112 = .ok (.aload_n 0, 1) := by decide +kernel
theorem dX3_offerSwapsOf_113 : dec mX3_offerSwapsOf 113 = .ok (.getfield 15, 3) := by decide +kernel
theorem dX3_offerSwapsOf_116 : dec mX3_offerSwapsOf 116 = .ok (.iload 9, 2) := by decide +kernel
theorem dX3_offerSwapsOf_118 : dec mX3_offerSwapsOf 118 = .ok (.iaload, 1) := by decide +kernel
theorem dX3_offerSwapsOf_119 : dec mX3_offerSwapsOf 119 = .ok (.aload_n 0, 1) := by decide +kernel
theorem dX3_offerSwapsOf_120 : dec mX3_offerSwapsOf 120 = .ok (.getfield 18, 3) := by decide +kernel
theorem dX3_offerSwapsOf_123 : dec mX3_offerSwapsOf 123 = .ok (.iload 9, 2) := by decide +kernel
theorem dX3_offerSwapsOf_125 : dec mX3_offerSwapsOf 125 = .ok (.iaload, 1) := by decide +kernel
theorem dX3_offerSwapsOf_126 : dec mX3_offerSwapsOf 126 = .ok (.iload 6, 2) := by decide +kernel
theorem dX3_offerSwapsOf_128 : dec mX3_offerSwapsOf 128 = .ok (.iload 7, 2) := by decide +kernel
theorem dX3_offerSwapsOf_130 : dec mX3_offerSwapsOf 130 = .ok (.invokestatic 112, 3) := by decide +kernel
theorem dX3_offerSwapsOf_133 : dec mX3_offerSwapsOf 133 = .ok (.iadd, 1) := by decide +kernel
theorem dX3_offerSwapsOf_134 : dec mX3_offerSwapsOf 134 = .ok (.istore 10, 2) := by decide +kernel
theorem dX3_offerSwapsOf_136 : dec mX3_offerSwapsOf 136 = .ok (.aload_n 0, 1) := by decide +kernel
theorem dX3_offerSwapsOf_137 : dec mX3_offerSwapsOf 137 = .ok (.iload_n 3, 1) := by decide +kernel
theorem dX3_offerSwapsOf_138 : dec mX3_offerSwapsOf 138 = .ok (.iload 9, 2) := by decide +kernel
theorem dX3_offerSwapsOf_140 : dec mX3_offerSwapsOf 140 = .ok (.iadd, 1) := by decide +kernel
theorem dX3_offerSwapsOf_141 : dec mX3_offerSwapsOf 141 = .ok (.iload 8, 2) := by decide +kernel
theorem dX3_offerSwapsOf_143 : dec mX3_offerSwapsOf 143 = .ok (.aload_n 0, 1) := by decide +kernel
theorem dX3_offerSwapsOf_144 : dec mX3_offerSwapsOf 144 = .ok (.getfield 27, 3) := by decide +kernel
theorem dX3_offerSwapsOf_147 : dec mX3_offerSwapsOf 147 = .ok (.iload 9, 2) := by decide +kernel
theorem dX3_offerSwapsOf_149 : dec mX3_offerSwapsOf 149 = .ok (.iaload, 1) := by decide +kernel
theorem dX3_offerSwapsOf_150 : dec mX3_offerSwapsOf 150 = .ok (.iadd, 1) := by decide +kernel
theorem dX3_offerSwapsOf_151 : dec mX3_offerSwapsOf 151 = .ok (.iload 10, 2) := by decide +kernel
theorem dX3_offerSwapsOf_153 : dec mX3_offerSwapsOf 153 = .ok (.isub, 1) := by decide +kernel
theorem dX3_offerSwapsOf_154 : dec mX3_offerSwapsOf 154 = .ok (.invokevirtual 54, 3) := by decide +kernel
theorem dX3_offerSwapsOf_157 : dec mX3_offerSwapsOf 157 = .ok (.iinc 9 1, 3) := by decide +kernel
theorem dX3_offerSwapsOf_160 : dec mX3_offerSwapsOf 160 = .ok (.goto (-92), 3) := by decide +kernel
theorem dX3_offerSwapsOf_163 : dec mX3_offerSwapsOf 163 = .ok (.return_, 1) := by decide +kernel
theorem dX3_offer_0 : dec mX3_offer 0 = .ok (.aload_n 0, 1) := by decide +kernel
theorem dX3_offer_1 : dec mX3_offer 1 = .ok (.getfield 30, 3) := by decide +kernel
theorem dX3_offer_4 : dec mX3_offer 4 = .ok (.iconst (-1), 1) := by decide +kernel
theorem dX3_offer_5 : dec mX3_offer 5 = .ok (.if_icmp .eq 11, 3) := by decide +kernel
theorem dX3_offer_8 : dec mX3_offer 8 = .ok (.iload_n 2, 1) := by decide +kernel
theorem dX3_offer_9 : dec mX3_offer 9 = .ok (.aload_n 0, 1) := by decide +kernel
theorem dX3_offer_10 : dec mX3_offer 10 = .ok (.getfield 34, 3) := by decide +kernel
theorem dX3_offer_13 : dec mX3_offer 13 = .ok (.if_icmp .le 13, 3) := by decide +kernel
theorem dX3_offer_16 : dec mX3_offer 16 = .ok (.aload_n 0, 1) := by decide +kernel
theorem dX3_offer_17 : dec mX3_offer 17 = .ok (.iload_n 1, 1) := by decide +kernel
theorem dX3_offer_18 : dec mX3_offer 18 = .ok (.putfield 30, 3) := by decide +kernel
theorem dX3_offer_21 : dec mX3_offer 21 = .ok (.aload_n 0, 1) := by decide +kernel
theorem dX3_offer_22 : dec mX3_offer 22 = .ok (.iload_n 2, 1) := by decide +kernel
theorem dX3_offer_23 : dec mX3_offer 23 = .ok (.putfield 34, 3) := by decide +kernel
theorem dX3_offer_26 : dec mX3_offer 26 = .ok (.return_, 1) := by decide +kernel
theorem dX4_init_0 : dec mX4_init 0 = .ok (.aload_n 0, 1) := by decide +kernel
theorem dX4_init_1 : dec mX4_init 1 = .ok (.invokespecial 3, 3) := by decide +kernel
theorem dX4_init_4 : dec mX4_init 4 = .ok (.aload_n 0, 1) := by decide +kernel
theorem dX4_init_5 : dec mX4_init 5 = .ok (.iconst 2, 1) := by decide +kernel
theorem dX4_init_6 : dec mX4_init 6 = .ok (.anewarray 9, 3) := by decide +kernel
theorem dX4_init_9 : dec mX4_init 9 = .ok (.putfield 11, 3) := by decide +kernel
theorem dX4_init_12 : dec mX4_init 12 = .ok (.aload_n 0, 1) := by decide +kernel
theorem dX4_init_13 : dec mX4_init 13 = .ok (.iconst 2, 1) := by decide +kernel
theorem dX4_init_14 : dec mX4_init 14 = .ok (.newarray .boolean, 2) := by decide +kernel
theorem dX4_init_16 : dec mX4_init 16 = .ok (.putfield 17, 3) := by decide +kernel
theorem dX4_init_19 : dec mX4_init 19 = .ok (.iconst 0, 1) := by decide +kernel
theorem dX4_init_20 : dec mX4_init 20 = .ok (.istore_n 1, 1) := by decide +kernel
theorem dX4_init_21 : dec mX4_init 21 = .ok (.iload_n 1, 1) := by decide +kernel
theorem dX4_init_22 : dec mX4_init 22 = .ok (.iconst 2, 1) := by decide +kernel
theorem dX4_init_23 : dec mX4_init 23 = .ok (.if_icmp .ge 22, 3) := by decide +kernel
theorem dX4_init_26 : dec mX4_init 26 = .ok (.aload_n 0, 1) := by decide +kernel
theorem dX4_init_27 : dec mX4_init 27 = .ok (.getfield 11, 3) := by decide +kernel
theorem dX4_init_30 : dec mX4_init 30 = .ok (.iload_n 1, 1) := by decide +kernel
theorem dX4_init_31 : dec mX4_init 31 = .ok (.new 9, 3) := by decide +kernel
theorem dX4_init_34 : dec mX4_init 34 = .ok (.dup, 1) := by decide +kernel
theorem dX4_init_35 : dec mX4_init 35 = .ok (.invokespecial 21, 3) := by decide +kernel
theorem dX4_init_38 : dec mX4_init 38 = .ok (.aastore, 1) := by decide +kernel
theorem dX4_init_39 : dec mX4_init 39 = .ok (.iinc 1 1, 3) := by decide +kernel
theorem dX4_init_42 : dec mX4_init 42 = .ok (.goto (-21), 3) := by decide +kernel
theorem dX4_init_45 : dec mX4_init 45 = .ok (.return_, 1) := by decide +kernel
theorem dX4_clear_0 : dec mX4_clear 0 = .ok (.iconst 0, 1) := by decide +kernel
theorem dX4_clear_1 : dec mX4_clear 1 = .ok (.istore_n 1, 1) := by decide +kernel
theorem dX4_clear_2 : dec mX4_clear 2 = .ok (.iload_n 1, 1) := by decide +kernel
theorem dX4_clear_3 : dec mX4_clear 3 = .ok (.iconst 2, 1) := by decide +kernel
theorem dX4_clear_4 : dec mX4_clear 4 = .ok (.if_icmp .ge 16, 3) := by decide +kernel
theorem dX4_clear_7 : dec mX4_clear 7 = .ok (.aload_n 0, 1) := by decide +kernel
theorem dX4_clear_8 : dec mX4_clear 8 = .ok (.getfield 17, 3) := by decide +kernel
theorem dX4_clear_11 : dec mX4_clear 11 = .ok (.iload_n 1, 1) := by decide +kernel
theorem dX4_clear_12 : dec mX4_clear 12 = .ok (.iconst 0, 1) := by decide +kernel
theorem dX4_clear_13 : dec mX4_clear 13 = .ok (.bastore, 1) := by decide +kernel
theorem dX4_clear_14 : dec mX4_clear 14 = .ok (.iinc 1 1, 3) := by decide +kernel
theorem dX4_clear_17 : dec mX4_clear 17 = .ok (.goto (-15), 3) := by decide +kernel
theorem dX4_clear_20 : dec mX4_clear 20 = .ok (.return_, 1) := by decide +kernel
theorem dX4_isFilled_0 : dec mX4_isFilled 0 = .ok (.iload_n 1, 1) := by decide +kernel
theorem dX4_isFilled_1 : dec mX4_isFilled 1 = .ok (.ifCond .lt 25, 3) := by decide +kernel
theorem dX4_isFilled_4 : dec mX4_isFilled 4 = .ok (.iload_n 1, 1) := by decide +kernel
theorem dX4_isFilled_5 : dec mX4_isFilled 5 = .ok (.aload_n 0, 1) := by decide +kernel
theorem dX4_isFilled_6 : dec mX4_isFilled 6 = .ok (.getfield 17, 3) := by decide +kernel
theorem dX4_isFilled_9 : dec mX4_isFilled 9 = .ok (.arraylength, 1) := by decide +kernel
theorem dX4_isFilled_10 : dec mX4_isFilled 10 = .ok (.if_icmp .ge 16, 3) := by decide +kernel
theorem dX4_isFilled_13 : dec mX4_isFilled 13 = .ok (.aload_n 0, 1) := by decide +kernel
theorem dX4_isFilled_14 : dec mX4_isFilled 14 = .ok (.getfield 17, 3) := by decide +kernel
theorem dX4_isFilled_17 : dec mX4_isFilled 17 = .ok (.iload_n 1, 1) := by decide +kernel
theorem dX4_isFilled_18 : dec mX4_isFilled 18 = .ok (.baload, 1) := by decide +kernel
theorem dX4_isFilled_19 : dec mX4_isFilled 19 = .ok (.ifCond .eq 7, 3) := by decide +kernel
theorem dX4_isFilled_22 : dec mX4_isFilled 22 = .ok (.iconst 1, 1) := by decide +kernel
theorem dX4_isFilled_23 : dec mX4_isFilled 23 = .ok (.goto 4, 3) := by decide +kernel
theorem dX4_isFilled_26 : dec mX4_isFilled 26 = .ok (.iconst 0, 1) := by decide +kernel
theorem dX4_isFilled_27 : dec mX4_isFilled 27 = .ok (.ireturn, 1) := by decide +kernel
theorem dX4_keep_0 : dec mX4_keep 0 = .ok (.iload_n 1, 1) := by decide +kernel
theorem dX4_keep_1 : dec mX4_keep 1 = .ok (.ifCond .lt 28, 3) := by decide +kernel
theorem dX4_keep_4 : dec mX4_keep 4 = .ok (.iload_n 1, 1) := by decide +kernel
theorem dX4_keep_5 : dec mX4_keep 5 = .ok (.aload_n 0, 1) := by decide +kernel
theorem dX4_keep_6 : dec mX4_keep 6 = .ok (.getfield 17, 3) := by decide +kernel
theorem dX4_keep_9 : dec mX4_keep 9 = .ok (.arraylength, 1) := by decide +kernel
theorem dX4_keep_10 : dec mX4_keep 10 = .ok (.if_icmp .ge 19, 3) := by decide +kernel
theorem dX4_keep_13 : dec mX4_keep 13 = .ok (.aload_n 2, 1) := by decide +kernel
theorem dX4_keep_14 : dec mX4_keep 14 = .ok (.aload_n 0, 1) := by decide +kernel
theorem dX4_keep_15 : dec mX4_keep 15 = .ok (.iload_n 1, 1) := by decide +kernel
theorem dX4_keep_16 : dec mX4_keep 16 = .ok (.invokevirtual 22, 3) := by decide +kernel
theorem dX4_keep_19 : dec mX4_keep 19 = .ok (.invokestatic 26, 3) := by decide +kernel
theorem dX4_keep_22 : dec mX4_keep 22 = .ok (.aload_n 0, 1) := by decide +kernel
theorem dX4_keep_23 : dec mX4_keep 23 = .ok (.getfield 17, 3) := by decide +kernel
theorem dX4_keep_26 : dec mX4_keep 26 = .ok (.iload_n 1, 1) := by decide +kernel
theorem dX4_keep_27 : dec mX4_keep 27 = .ok (.iconst 1, 1) := by decide +kernel
theorem dX4_keep_28 : dec mX4_keep 28 = .ok (.bastore, 1) := by decide +kernel
theorem dX4_keep_29 : dec mX4_keep 29 = .ok (.return_, 1) := by decide +kernel
theorem dX4_in_0 : dec mX4_in 0 = .ok (.iload_n 1, 1) := by decide +kernel
theorem dX4_in_1 : dec mX4_in 1 = .ok (.ifCond .lt 21, 3) := by decide +kernel
theorem dX4_in_4 : dec mX4_in 4 = .ok (.iload_n 1, 1) := by decide +kernel
theorem dX4_in_5 : dec mX4_in 5 = .ok (.aload_n 0, 1) := by decide +kernel
theorem dX4_in_6 : dec mX4_in 6 = .ok (.getfield 11, 3) := by decide +kernel
theorem dX4_in_9 : dec mX4_in 9 = .ok (.arraylength, 1) := by decide +kernel
theorem dX4_in_10 : dec mX4_in 10 = .ok (.if_icmp .ge 12, 3) := by decide +kernel
theorem dX4_in_13 : dec mX4_in 13 = .ok (.aload_n 0, 1) := by decide +kernel
theorem dX4_in_14 : dec mX4_in 14 = .ok (.getfield 11, 3) := by decide +kernel
theorem dX4_in_17 : dec mX4_in 17 = .ok (.iload_n 1, 1) := by decide +kernel
theorem dX4_in_18 : dec mX4_in 18 = .ok (.aaload, 1) := by decide +kernel
theorem dX4_in_19 : dec mX4_in 19 = .ok (.goto 4, 3) := by decide +kernel
theorem dX4_in_22 : dec mX4_in 22 = .ok (.aconst_null, 1) := by decide +kernel
theorem dX4_in_23 : dec mX4_in 23 = .ok (.areturn, 1) := by decide +kernel
theorem dX5_init_0 : dec mX5_init 0 = .ok (.aload_n 0, 1) := by decide +kernel
theorem dX5_init_1 : dec mX5_init 1 = .ok (.invokespecial 3, 3) := by decide +kernel
theorem dX5_init_4 : dec mX5_init 4 = .ok (.aload_n 0, 1) := by decide +kernel
theorem dX5_init_5 : dec mX5_init 5 = .ok (.bipush 112, 2) := by decide +kernel
theorem dX5_init_7 : dec mX5_init 7 = .ok (.newarray .int, 2) := by decide +kernel
theorem dX5_init_9 : dec mX5_init 9 = .ok (.putfield 9, 3) := by decide +kernel
theorem dX5_init_12 : dec mX5_init 12 = .ok (.aload_n 0, 1) := by decide +kernel
theorem dX5_init_13 : dec mX5_init 13 = .ok (.bipush 56, 2) := by decide +kernel
theorem dX5_init_15 : dec mX5_init 15 = .ok (.newarray .int, 2) := by decide +kernel
theorem dX5_init_17 : dec mX5_init 17 = .ok (.putfield 15, 3) := by decide +kernel
theorem dX5_init_20 : dec mX5_init 20 = .ok (.aload_n 0, 1) := by decide +kernel
theorem dX5_init_21 : dec mX5_init 21 = .ok (.bipush 56, 2) := by decide +kernel
theorem dX5_init_23 : dec mX5_init 23 = .ok (.newarray .int, 2) := by decide +kernel
theorem dX5_init_25 : dec mX5_init 25 = .ok (.putfield 18, 3) := by decide +kernel
theorem dX5_init_28 : dec mX5_init 28 = .ok (.aload_n 0, 1) := by decide +kernel
theorem dX5_init_29 : dec mX5_init 29 = .ok (.bipush 56, 2) := by decide +kernel
theorem dX5_init_31 : dec mX5_init 31 = .ok (.newarray .int, 2) := by decide +kernel
theorem dX5_init_33 : dec mX5_init 33 = .ok (.putfield 21, 3) := by decide +kernel
theorem dX5_init_36 : dec mX5_init 36 = .ok (.aload_n 0, 1) := by decide +kernel
theorem dX5_init_37 : dec mX5_init 37 = .ok (.bipush 56, 2) := by decide +kernel
theorem dX5_init_39 : dec mX5_init 39 = .ok (.newarray .int, 2) := by decide +kernel
theorem dX5_init_41 : dec mX5_init 41 = .ok (.putfield 24, 3) := by decide +kernel
theorem dX5_init_44 : dec mX5_init 44 = .ok (.aload_n 0, 1) := by decide +kernel
theorem dX5_init_45 : dec mX5_init 45 = .ok (.bipush 56, 2) := by decide +kernel
theorem dX5_init_47 : dec mX5_init 47 = .ok (.newarray .int, 2) := by decide +kernel
theorem dX5_init_49 : dec mX5_init 49 = .ok (.putfield 27, 3) := by decide +kernel
theorem dX5_init_52 : dec mX5_init 52 = .ok (.return_, 1) := by decide +kernel
theorem dX5_copy_0 : dec mX5_copy 0 = .ok (.aload_n 0, 1) := by decide +kernel
theorem dX5_copy_1 : dec mX5_copy 1 = .ok (.ifnull 7, 3) := by decide +kernel
theorem dX5_copy_4 : dec mX5_copy 4 = .ok (.aload_n 1, 1) := by decide +kernel
theorem dX5_copy_5 : dec mX5_copy 5 = .ok (.ifnonnull 4, 3) := by decide +kernel
theorem dX5_copy_8 : dec mX5_copy 8 = .ok (.return_, 1) := by decide +kernel
theorem dX5_copy_9 : dec mX5_copy 9 = .ok (.aload_n 1, 1) := by decide +kernel
theorem dX5_copy_10 : dec mX5_copy 10 = .ok (.aload_n 0, 1) := by decide +kernel
theorem dX5_copy_11 : dec mX5_copy 11 = .ok (.getfield 30, 3) := by decide +kernel
theorem dX5_copy_14 : dec mX5_copy 14 = .ok (.putfield 30, 3) := by decide +kernel
theorem dX5_copy_17 : dec mX5_copy 17 = .ok (.aload_n 1, 1) := by decide +kernel
theorem dX5_copy_18 : dec mX5_copy 18 = .ok (.aload_n 0, 1) := by decide +kernel
theorem dX5_copy_19 : dec mX5_copy 19 = .ok (.getfield 34, 3) := by decide +kernel
theorem dX5_copy_22 : dec mX5_copy 22 = .ok (.putfield 34, 3) := by decide +kernel
theorem dX5_copy_25 : dec mX5_copy 25 = .ok (.aload_n 1, 1) := by decide +kernel
theorem dX5_copy_26 : dec mX5_copy 26 = .ok (.aload_n 0, 1) := by decide +kernel
theorem dX5_copy_27 : dec mX5_copy 27 = .ok (.getfield 37, 3) := by decide +kernel
theorem dX5_copy_30 : dec mX5_copy 30 = .ok (.putfield 37, 3) := by decide +kernel
theorem dX5_copy_33 : dec mX5_copy 33 = .ok (.aload_n 0, 1) := by decide +kernel
theorem dX5_copy_34 : dec mX5_copy 34 = .ok (.getfield 9, 3) := by decide +kernel
theorem dX5_copy_37 : dec mX5_copy 37 = .ok (.iconst 0, 1) := by decide +kernel
theorem dX5_copy_38 : dec mX5_copy 38 = .ok (.aload_n 1, 1) := by decide +kernel
theorem dX5_copy_39 : dec mX5_copy 39 = .ok (.getfield 9, 3) := by decide +kernel
theorem dX5_copy_42 : dec mX5_copy 42 = .ok (.iconst 0, 1) := by decide +kernel
theorem dX5_copy_43 : dec mX5_copy 43 = .ok (.bipush 112, 2) := by decide +kernel
theorem dX5_copy_45 : dec mX5_copy 45 = .ok (.invokestatic 40, 3) := by decide +kernel
theorem dX5_copy_48 : dec mX5_copy 48 = .ok (.aload_n 0, 1) := by decide +kernel
theorem dX5_copy_49 : dec mX5_copy 49 = .ok (.getfield 15, 3) := by decide +kernel
theorem dX5_copy_52 : dec mX5_copy 52 = .ok (.iconst 0, 1) := by decide +kernel
theorem dX5_copy_53 : dec mX5_copy 53 = .ok (.aload_n 1, 1) := by decide +kernel
theorem dX5_copy_54 : dec mX5_copy 54 = .ok (.getfield 15, 3) := by decide +kernel
theorem dX5_copy_57 : dec mX5_copy 57 = .ok (.iconst 0, 1) := by decide +kernel
theorem dX5_copy_58 : dec mX5_copy 58 = .ok (.bipush 56, 2) := by decide +kernel
theorem dX5_copy_60 : dec mX5_copy 60 = .ok (.invokestatic 40, 3) := by decide +kernel
theorem dX5_copy_63 : dec mX5_copy 63 = .ok (.aload_n 0, 1) := by decide +kernel
theorem dX5_copy_64 : dec mX5_copy 64 = .ok (.getfield 18, 3) := by decide +kernel
theorem dX5_copy_67 : dec mX5_copy 67 = .ok (.iconst 0, 1) := by decide +kernel
theorem dX5_copy_68 : dec mX5_copy 68 = .ok (.aload_n 1, 1) := by decide +kernel
theorem dX5_copy_69 : dec mX5_copy 69 = .ok (.getfield 18, 3) := by decide +kernel
theorem dX5_copy_72 : dec mX5_copy 72 = .ok (.iconst 0, 1) := by decide +kernel
theorem dX5_copy_73 : dec mX5_copy 73 = .ok (.bipush 56, 2) := by decide +kernel
theorem dX5_copy_75 : dec mX5_copy 75 = .ok (.invokestatic 40, 3) := by decide +kernel
theorem dX5_copy_78 : dec mX5_copy 78 = .ok (.aload_n 0, 1) := by decide +kernel
theorem dX5_copy_79 : dec mX5_copy 79 = .ok (.getfield 21, 3) := by decide +kernel
theorem dX5_copy_82 : dec mX5_copy 82 = .ok (.iconst 0, 1) := by decide +kernel
theorem dX5_copy_83 : dec mX5_copy 83 = .ok (.aload_n 1, 1) := by decide +kernel
theorem dX5_copy_84 : dec mX5_copy 84 = .ok (.getfield 21, 3) := by decide +kernel
theorem dX5_copy_87 : dec mX5_copy 87 = .ok (.iconst 0, 1) := by decide +kernel
theorem dX5_copy_88 : dec mX5_copy 88 = .ok (.bipush 56, 2) := by decide +kernel
theorem dX5_copy_90 : dec mX5_copy 90 = .ok (.invokestatic 40, 3) := by decide +kernel
theorem dX5_copy_93 : dec mX5_copy 93 = .ok (.aload_n 0, 1) := by decide +kernel
theorem dX5_copy_94 : dec mX5_copy 94 = .ok (.getfield 24, 3) := by decide +kernel
theorem dX5_copy_97 : dec mX5_copy 97 = .ok (.iconst 0, 1) := by decide +kernel
theorem dX5_copy_98 : dec mX5_copy 98 = .ok (.aload_n 1, 1) := by decide +kernel
theorem dX5_copy_99 : dec mX5_copy 99 = .ok (.getfield 24, 3) := by decide +kernel
theorem dX5_copy_102 : dec mX5_copy 102 = .ok (.iconst 0, 1) := by decide +kernel
theorem dX5_copy_103 : dec mX5_copy 103 = .ok (.bipush 56, 2) := by decide +kernel
theorem dX5_copy_105 : dec mX5_copy 105 = .ok (.invokestatic 40, 3) := by decide +kernel
theorem dX5_copy_108 : dec mX5_copy 108 = .ok (.aload_n 0, 1) := by decide +kernel
theorem dX5_copy_109 : dec mX5_copy 109 = .ok (.getfield 27, 3) := by decide +kernel
theorem dX5_copy_112 : dec mX5_copy 112 = .ok (.iconst 0, 1) := by decide +kernel
theorem dX5_copy_113 : dec mX5_copy 113 = .ok (.aload_n 1, 1) := by decide +kernel
theorem dX5_copy_114 : dec mX5_copy 114 = .ok (.getfield 27, 3) := by decide +kernel
theorem dX5_copy_117 : dec mX5_copy 117 = .ok (.iconst 0, 1) := by decide +kernel
theorem dX5_copy_118 : dec mX5_copy 118 = .ok (.bipush 56, 2) := by decide +kernel
theorem dX5_copy_120 : dec mX5_copy 120 = .ok (.invokestatic 40, 3) := by decide +kernel
theorem dX5_copy_123 : dec mX5_copy 123 = .ok (.return_, 1) := by decide +kernel
