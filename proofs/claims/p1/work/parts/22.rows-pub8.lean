theorem dX0_clear_0 : decode cX0_clear 0 = .ok (.aload_n 0, 1) := by decide +kernel
theorem dX0_clear_1 : decode cX0_clear 1 = .ok (.iconst 0, 1) := by decide +kernel
theorem dX0_clear_2 : decode cX0_clear 2 = .ok (.putfield 9, 3) := by decide +kernel
theorem dX0_clear_5 : decode cX0_clear 5 = .ok (.aload_n 0, 1) := by decide +kernel
theorem dX0_clear_6 : decode cX0_clear 6 = .ok (.iconst 0, 1) := by decide +kernel
theorem dX0_clear_7 : decode cX0_clear 7 = .ok (.putfield 15, 3) := by decide +kernel
theorem dX0_clear_10 : decode cX0_clear 10 = .ok (.aload_n 0, 1) := by decide +kernel
theorem dX0_clear_11 : decode cX0_clear 11 = .ok (.iconst 0, 1) := by decide +kernel
theorem dX0_clear_12 : decode cX0_clear 12 = .ok (.putfield 18, 3) := by decide +kernel
theorem dX0_clear_15 : decode cX0_clear 15 = .ok (.aload_n 0, 1) := by decide +kernel
theorem dX0_clear_16 : decode cX0_clear 16 = .ok (.iconst 0, 1) := by decide +kernel
theorem dX0_clear_17 : decode cX0_clear 17 = .ok (.putfield 21, 3) := by decide +kernel
theorem dX0_clear_20 : decode cX0_clear 20 = .ok (.aload_n 0, 1) := by decide +kernel
theorem dX0_clear_21 : decode cX0_clear 21 = .ok (.iconst 0, 1) := by decide +kernel
theorem dX0_clear_22 : decode cX0_clear 22 = .ok (.putfield 24, 3) := by decide +kernel
theorem dX0_clear_25 : decode cX0_clear 25 = .ok (.aload_n 0, 1) := by decide +kernel
theorem dX0_clear_26 : decode cX0_clear 26 = .ok (.iconst 0, 1) := by decide +kernel
theorem dX0_clear_27 : decode cX0_clear 27 = .ok (.putfield 27, 3) := by decide +kernel
theorem dX0_clear_30 : decode cX0_clear 30 = .ok (.aload_n 0, 1) := by decide +kernel
theorem dX0_clear_31 : decode cX0_clear 31 = .ok (.iconst 0, 1) := by decide +kernel
theorem dX0_clear_32 : decode cX0_clear 32 = .ok (.putfield 30, 3) := by decide +kernel
theorem dX0_clear_35 : decode cX0_clear 35 = .ok (.aload_n 0, 1) := by decide +kernel
theorem dX0_clear_36 : decode cX0_clear 36 = .ok (.iconst 0, 1) := by decide +kernel
theorem dX0_clear_37 : decode cX0_clear 37 = .ok (.putfield 33, 3) := by decide +kernel
theorem dX0_clear_40 : decode cX0_clear 40 = .ok (.aload_n 0, 1) := by decide +kernel
theorem dX0_clear_41 : decode cX0_clear 41 = .ok (.iconst 0, 1) := by decide +kernel
theorem dX0_clear_42 : decode cX0_clear 42 = .ok (.putfield 36, 3) := by decide +kernel
theorem dX0_clear_45 : decode cX0_clear 45 = .ok (.aload_n 0, 1) := by decide +kernel
theorem dX0_clear_46 : decode cX0_clear 46 = .ok (.iconst 0, 1) := by decide +kernel
theorem dX0_clear_47 : decode cX0_clear 47 = .ok (.putfield 39, 3) := by decide +kernel
theorem dX0_clear_50 : decode cX0_clear 50 = .ok (.return_, 1) := by decide +kernel
theorem dX0_copyOf_0 : decode cX0_copyOf 0 = .ok (.aload_n 0, 1) := by decide +kernel
theorem dX0_copyOf_1 : decode cX0_copyOf 1 = .ok (.aload_n 1, 1) := by decide +kernel
theorem dX0_copyOf_2 : decode cX0_copyOf 2 = .ok (.getfield 9, 3) := by decide +kernel
theorem dX0_copyOf_5 : decode cX0_copyOf 5 = .ok (.putfield 9, 3) := by decide +kernel
theorem dX0_copyOf_8 : decode cX0_copyOf 8 = .ok (.aload_n 0, 1) := by decide +kernel
theorem dX0_copyOf_9 : decode cX0_copyOf 9 = .ok (.aload_n 1, 1) := by decide +kernel
theorem dX0_copyOf_10 : decode cX0_copyOf 10 = .ok (.getfield 15, 3) := by decide +kernel
theorem dX0_copyOf_13 : decode cX0_copyOf 13 = .ok (.putfield 15, 3) := by decide +kernel
theorem dX0_copyOf_16 : decode cX0_copyOf 16 = .ok (.aload_n 0, 1) := by decide +kernel
theorem dX0_copyOf_17 : decode cX0_copyOf 17 = .ok (.aload_n 1, 1) := by decide +kernel
theorem dX0_copyOf_18 : decode cX0_copyOf 18 = .ok (.getfield 18, 3) := by decide +kernel
theorem dX0_copyOf_21 : decode cX0_copyOf 21 = .ok (.putfield 18, 3) := by decide +kernel
theorem dX0_copyOf_24 : decode cX0_copyOf 24 = .ok (.aload_n 0, 1) := by decide +kernel
theorem dX0_copyOf_25 : decode cX0_copyOf 25 = .ok (.aload_n 1, 1) := by decide +kernel
theorem dX0_copyOf_26 : decode cX0_copyOf 26 = .ok (.getfield 21, 3) := by decide +kernel
theorem dX0_copyOf_29 : decode cX0_copyOf 29 = .ok (.putfield 21, 3) := by decide +kernel
theorem dX0_copyOf_32 : decode cX0_copyOf 32 = .ok (.aload_n 0, 1) := by decide +kernel
theorem dX0_copyOf_33 : decode cX0_copyOf 33 = .ok (.aload_n 1, 1) := by decide +kernel
theorem dX0_copyOf_34 : decode cX0_copyOf 34 = .ok (.getfield 24, 3) := by decide +kernel
theorem dX0_copyOf_37 : decode cX0_copyOf 37 = .ok (.putfield 24, 3) := by decide +kernel
theorem dX0_copyOf_40 : decode cX0_copyOf 40 = .ok (.aload_n 0, 1) := by decide +kernel
theorem dX0_copyOf_41 : decode cX0_copyOf 41 = .ok (.aload_n 1, 1) := by decide +kernel
theorem dX0_copyOf_42 : decode cX0_copyOf 42 = .ok (.getfield 27, 3) := by decide +kernel
theorem dX0_copyOf_45 : decode cX0_copyOf 45 = .ok (.putfield 27, 3) := by decide +kernel
theorem dX0_copyOf_48 : decode cX0_copyOf 48 = .ok (.aload_n 0, 1) := by decide +kernel
theorem dX0_copyOf_49 : decode cX0_copyOf 49 = .ok (.aload_n 1, 1) := by decide +kernel
theorem dX0_copyOf_50 : decode cX0_copyOf 50 = .ok (.getfield 30, 3) := by decide +kernel
theorem dX0_copyOf_53 : decode cX0_copyOf 53 = .ok (.putfield 30, 3) := by decide +kernel
theorem dX0_copyOf_56 : decode cX0_copyOf 56 = .ok (.aload_n 0, 1) := by decide +kernel
theorem dX0_copyOf_57 : decode cX0_copyOf 57 = .ok (.aload_n 1, 1) := by decide +kernel
theorem dX0_copyOf_58 : decode cX0_copyOf 58 = .ok (.getfield 33, 3) := by decide +kernel
theorem dX0_copyOf_61 : decode cX0_copyOf 61 = .ok (.putfield 33, 3) := by decide +kernel
theorem dX0_copyOf_64 : decode cX0_copyOf 64 = .ok (.aload_n 0, 1) := by decide +kernel
theorem dX0_copyOf_65 : decode cX0_copyOf 65 = .ok (.aload_n 1, 1) := by decide +kernel
theorem dX0_copyOf_66 : decode cX0_copyOf 66 = .ok (.getfield 36, 3) := by decide +kernel
theorem dX0_copyOf_69 : decode cX0_copyOf 69 = .ok (.putfield 36, 3) := by decide +kernel
theorem dX0_copyOf_72 : decode cX0_copyOf 72 = .ok (.aload_n 0, 1) := by decide +kernel
theorem dX0_copyOf_73 : decode cX0_copyOf 73 = .ok (.aload_n 1, 1) := by decide +kernel
theorem dX0_copyOf_74 : decode cX0_copyOf 74 = .ok (.getfield 39, 3) := by decide +kernel
theorem dX0_copyOf_77 : decode cX0_copyOf 77 = .ok (.putfield 39, 3) := by decide +kernel
theorem dX0_copyOf_80 : decode cX0_copyOf 80 = .ok (.aload_n 1, 1) := by decide +kernel
theorem dX0_copyOf_81 : decode cX0_copyOf 81 = .ok (.getfield 42, 3) := by decide +kernel
theorem dX0_copyOf_84 : decode cX0_copyOf 84 = .ok (.iconst 0, 1) := by decide +kernel
theorem dX0_copyOf_85 : decode cX0_copyOf 85 = .ok (.aload_n 0, 1) := by decide +kernel
theorem dX0_copyOf_86 : decode cX0_copyOf 86 = .ok (.getfield 42, 3) := by decide +kernel
theorem dX0_copyOf_89 : decode cX0_copyOf 89 = .ok (.iconst 0, 1) := by decide +kernel
theorem dX0_copyOf_90 : decode cX0_copyOf 90 = .ok (.aload_n 0, 1) := by decide +kernel
theorem dX0_copyOf_91 : decode cX0_copyOf 91 = .ok (.getfield 42, 3) := by decide +kernel
theorem dX0_copyOf_94 : decode cX0_copyOf 94 = .ok (.arraylength, 1) := by decide +kernel
theorem dX0_copyOf_95 : decode cX0_copyOf 95 = .ok (.invokestatic 58, 3) := by decide +kernel
theorem dX0_copyOf_98 : decode cX0_copyOf 98 = .ok (.aload_n 1, 1) := by decide +kernel
theorem dX0_copyOf_99 : decode cX0_copyOf 99 = .ok (.getfield 46, 3) := by decide +kernel
theorem dX0_copyOf_102 : decode cX0_copyOf 102 = .ok (.iconst 0, 1) := by decide +kernel
theorem dX0_copyOf_103 : decode cX0_copyOf 103 = .ok (.aload_n 0, 1) := by decide +kernel
theorem dX0_copyOf_104 : decode cX0_copyOf 104 = .ok (.getfield 46, 3) := by decide +kernel
theorem dX0_copyOf_107 : decode cX0_copyOf 107 = .ok (.iconst 0, 1) := by decide +kernel
theorem dX0_copyOf_108 : decode cX0_copyOf 108 = .ok (.aload_n 0, 1) := by decide +kernel
theorem dX0_copyOf_109 : decode cX0_copyOf 109 = .ok (.getfield 46, 3) := by decide +kernel
theorem dX0_copyOf_112 : decode cX0_copyOf 112 = .ok (.arraylength, 1) := by decide +kernel
theorem dX0_copyOf_113 : decode cX0_copyOf 113 = .ok (.invokestatic 58, 3) := by decide +kernel
theorem dX0_copyOf_116 : decode cX0_copyOf 116 = .ok (.aload_n 1, 1) := by decide +kernel
theorem dX0_copyOf_117 : decode cX0_copyOf 117 = .ok (.getfield 49, 3) := by decide +kernel
theorem dX0_copyOf_120 : decode cX0_copyOf 120 = .ok (.iconst 0, 1) := by decide +kernel
theorem dX0_copyOf_121 : decode cX0_copyOf 121 = .ok (.aload_n 0, 1) := by decide +kernel
theorem dX0_copyOf_122 : decode cX0_copyOf 122 = .ok (.getfield 49, 3) := by decide +kernel
theorem dX0_copyOf_125 : decode cX0_copyOf 125 = .ok (.iconst 0, 1) := by decide +kernel
theorem dX0_copyOf_126 : decode cX0_copyOf 126 = .ok (.aload_n 0, 1) := by decide +kernel
theorem dX0_copyOf_127 : decode cX0_copyOf 127 = .ok (.getfield 49, 3) := by decide +kernel
theorem dX0_copyOf_130 : decode cX0_copyOf 130 = .ok (.arraylength, 1) := by decide +kernel
theorem dX0_copyOf_131 : decode cX0_copyOf 131 = .ok (.invokestatic 58, 3) := by decide +kernel
theorem dX0_copyOf_134 : decode cX0_copyOf 134 = .ok (.aload_n 1, 1) := by decide +kernel
theorem dX0_copyOf_135 : decode cX0_copyOf 135 = .ok (.getfield 52, 3) := by decide +kernel
theorem dX0_copyOf_138 : decode cX0_copyOf 138 = .ok (.iconst 0, 1) := by decide +kernel
theorem dX0_copyOf_139 : decode cX0_copyOf 139 = .ok (.aload_n 0, 1) := by decide +kernel
theorem dX0_copyOf_140 : decode cX0_copyOf 140 = .ok (.getfield 52, 3) := by decide +kernel
theorem dX0_copyOf_143 : decode cX0_copyOf 143 = .ok (.iconst 0, 1) := by decide +kernel
theorem dX0_copyOf_144 : decode cX0_copyOf 144 = .ok (.aload_n 0, 1) := by decide +kernel
theorem dX0_copyOf_145 : decode cX0_copyOf 145 = .ok (.getfield 52, 3) := by decide +kernel
theorem dX0_copyOf_148 : decode cX0_copyOf 148 = .ok (.arraylength, 1) := by decide +kernel
theorem dX0_copyOf_149 : decode cX0_copyOf 149 = .ok (.invokestatic 58, 3) := by decide +kernel
theorem dX0_copyOf_152 : decode cX0_copyOf 152 = .ok (.aload_n 1, 1) := by decide +kernel
theorem dX0_copyOf_153 : decode cX0_copyOf 153 = .ok (.getfield 55, 3) := by decide +kernel
theorem dX0_copyOf_156 : decode cX0_copyOf 156 = .ok (.iconst 0, 1) := by decide +kernel
theorem dX0_copyOf_157 : decode cX0_copyOf 157 = .ok (.aload_n 0, 1) := by decide +kernel
theorem dX0_copyOf_158 : decode cX0_copyOf 158 = .ok (.getfield 55, 3) := by decide +kernel
theorem dX0_copyOf_161 : decode cX0_copyOf 161 = .ok (.iconst 0, 1) := by decide +kernel
theorem dX0_copyOf_162 : decode cX0_copyOf 162 = .ok (.aload_n 0, 1) := by decide +kernel
theorem dX0_copyOf_163 : decode cX0_copyOf 163 = .ok (.getfield 55, 3) := by decide +kernel
theorem dX0_copyOf_166 : decode cX0_copyOf 166 = .ok (.arraylength, 1) := by decide +kernel
theorem dX0_copyOf_167 : decode cX0_copyOf 167 = .ok (.invokestatic 58, 3) := by decide +kernel
theorem dX0_copyOf_170 : decode cX0_copyOf 170 = .ok (.return_, 1) := by decide +kernel
theorem dX2_asTold_0 : decode cX2_asTold 0 = .ok (.aload_n 0, 1) := by decide +kernel
theorem dX2_asTold_1 : decode cX2_asTold 1 = .ok (.getfield 12, 3) := by decide +kernel
theorem dX2_asTold_4 : decode cX2_asTold 4 = .ok (.aload_n 0, 1) := by decide +kernel
theorem dX2_asTold_5 : decode cX2_asTold 5 = .ok (.getfield 49, 3) := by decide +kernel
theorem dX2_asTold_8 : decode cX2_asTold 8 = .ok (.aload_n 0, 1) := by decide +kernel
theorem dX2_asTold_9 : decode cX2_asTold 9 = .ok (.getfield 53, 3) := by decide +kernel
theorem dX2_asTold_12 : decode cX2_asTold 12 = .ok (.aload_n 0, 1) := by decide +kernel
theorem dX2_asTold_13 : decode cX2_asTold 13 = .ok (.getfield 49, 3) := by decide +kernel
theorem dX2_asTold_16 : decode cX2_asTold 16 = .ok (.getfield 57, 3) := by decide +kernel
theorem dX2_asTold_19 : decode cX2_asTold 19 = .ok (.invokevirtual 62, 3) := by decide +kernel
theorem dX2_asTold_22 : decode cX2_asTold 22 = .ok (.aload_n 0, 1) := by decide +kernel
theorem dX2_asTold_23 : decode cX2_asTold 23 = .ok (.aload_n 0, 1) := by decide +kernel
theorem dX2_asTold_24 : decode cX2_asTold 24 = .ok (.getfield 49, 3) := by decide +kernel
theorem dX2_asTold_27 : decode cX2_asTold 27 = .ok (.getfield 66, 3) := by decide +kernel
theorem dX2_asTold_30 : decode cX2_asTold 30 = .ok (.aload_n 0, 1) := by decide +kernel
theorem dX2_asTold_31 : decode cX2_asTold 31 = .ok (.getfield 49, 3) := by decide +kernel
theorem dX2_asTold_34 : decode cX2_asTold 34 = .ok (.getfield 69, 3) := by decide +kernel
theorem dX2_asTold_37 : decode cX2_asTold 37 = .ok (.invokevirtual 72, 3) := by decide +kernel
theorem dX2_asTold_40 : decode cX2_asTold 40 = .ok (.return_, 1) := by decide +kernel
theorem dX2_suppose_0 : decode cX2_suppose 0 = .ok (.aload_n 0, 1) := by decide +kernel
theorem dX2_suppose_1 : decode cX2_suppose 1 = .ok (.iload_n 1, 1) := by decide +kernel
theorem dX2_suppose_2 : decode cX2_suppose 2 = .ok (.putfield 18, 3) := by decide +kernel
theorem dX2_suppose_5 : decode cX2_suppose 5 = .ok (.aload_n 0, 1) := by decide +kernel
theorem dX2_suppose_6 : decode cX2_suppose 6 = .ok (.iload_n 2, 1) := by decide +kernel
theorem dX2_suppose_7 : decode cX2_suppose 7 = .ok (.putfield 22, 3) := by decide +kernel
theorem dX2_suppose_10 : decode cX2_suppose 10 = .ok (.aload_n 0, 1) := by decide +kernel
theorem dX2_suppose_11 : decode cX2_suppose 11 = .ok (.getfield 53, 3) := by decide +kernel
theorem dX2_suppose_14 : decode cX2_suppose 14 = .ok (.getfield 76, 3) := by decide +kernel
theorem dX2_suppose_17 : decode cX2_suppose 17 = .ok (.lstore_n 3, 1) := by decide +kernel
theorem dX2_suppose_18 : decode cX2_suppose 18 = .ok (.iconst 0, 1) := by decide +kernel
theorem dX2_suppose_19 : decode cX2_suppose 19 = .ok (.istore 5, 2) := by decide +kernel
theorem dX2_suppose_21 : decode cX2_suppose 21 = .ok (.iload 5, 2) := by decide +kernel
theorem dX2_suppose_23 : decode cX2_suppose 23 = .ok (.aload_n 0, 1) := by decide +kernel
theorem dX2_suppose_24 : decode cX2_suppose 24 = .ok (.getfield 49, 3) := by decide +kernel
theorem dX2_suppose_27 : decode cX2_suppose 27 = .ok (.getfield 81, 3) := by decide +kernel
theorem dX2_suppose_30 : decode cX2_suppose 30 = .ok (.if_icmp .ge 31, 3) := by decide +kernel
theorem dX2_suppose_61 : decode cX2_suppose 61 = .ok (.aload_n 0, 1) := by decide +kernel
theorem dX2_suppose_62 : decode cX2_suppose 62 = .ok (.lload_n 3, 1) := by decide +kernel
theorem dX2_suppose_63 : decode cX2_suppose 63 = .ok (.putfield 25, 3) := by decide +kernel
theorem dX2_suppose_66 : decode cX2_suppose 66 = .ok (.return_, 1) := by decide +kernel
theorem dX3_fill_0 : decode cX3_fill 0 = .ok (.iconst 0, 1) := by decide +kernel
theorem dX3_fill_1 : decode cX3_fill 1 = .ok (.istore 4, 2) := by decide +kernel
theorem dX3_fill_3 : decode cX3_fill 3 = .ok (.iload 4, 2) := by decide +kernel
theorem dX3_fill_5 : decode cX3_fill 5 = .ok (.aload_n 1, 1) := by decide +kernel
theorem dX3_fill_6 : decode cX3_fill 6 = .ok (.getfield 15, 3) := by decide +kernel
theorem dX3_fill_9 : decode cX3_fill 9 = .ok (.if_icmp .ge 30, 3) := by decide +kernel
theorem dX3_fill_39 : decode cX3_fill 39 = .ok (.return_, 1) := by decide +kernel
theorem dX4_next_0 : decode cX4_next 0 = .ok (.aload_n 0, 1) := by decide +kernel
theorem dX4_next_1 : decode cX4_next 1 = .ok (.getfield 18, 3) := by decide +kernel
theorem dX4_next_4 : decode cX4_next 4 = .ok (.aload_n 0, 1) := by decide +kernel
theorem dX4_next_5 : decode cX4_next 5 = .ok (.getfield 33, 3) := by decide +kernel
theorem dX4_next_8 : decode cX4_next 8 = .ok (.getfield 196, 3) := by decide +kernel
theorem dX4_next_11 : decode cX4_next 11 = .ok (.if_icmp .ge 50, 3) := by decide +kernel
theorem dX4_next_61 : decode cX4_next 61 = .ok (.aload_n 0, 1) := by decide +kernel
theorem dX4_next_62 : decode cX4_next 62 = .ok (.aload_n 0, 1) := by decide +kernel
theorem dX4_next_63 : decode cX4_next 63 = .ok (.getfield 18, 3) := by decide +kernel
theorem dX4_next_66 : decode cX4_next 66 = .ok (.putfield 15, 3) := by decide +kernel
theorem dX4_next_69 : decode cX4_next 69 = .ok (.aload_n 0, 1) := by decide +kernel
theorem dX4_next_70 : decode cX4_next 70 = .ok (.iconst 0, 1) := by decide +kernel
theorem dX4_next_71 : decode cX4_next 71 = .ok (.putfield 21, 3) := by decide +kernel
theorem dX4_next_74 : decode cX4_next 74 = .ok (.aload_n 0, 1) := by decide +kernel
theorem dX4_next_75 : decode cX4_next 75 = .ok (.getfield 18, 3) := by decide +kernel
theorem dX4_next_78 : decode cX4_next 78 = .ok (.aload_n 0, 1) := by decide +kernel
theorem dX4_next_79 : decode cX4_next 79 = .ok (.getfield 33, 3) := by decide +kernel
theorem dX4_next_82 : decode cX4_next 82 = .ok (.getfield 196, 3) := by decide +kernel
theorem dX4_next_85 : decode cX4_next 85 = .ok (.if_icmp .lt 9, 3) := by decide +kernel
theorem dX4_next_88 : decode cX4_next 88 = .ok (.aload_n 0, 1) := by decide +kernel
theorem dX4_next_89 : decode cX4_next 89 = .ok (.iconst 0, 1) := by decide +kernel
theorem dX4_next_90 : decode cX4_next 90 = .ok (.putfield 11, 3) := by decide +kernel
theorem dX4_next_93 : decode cX4_next 93 = .ok (.return_, 1) := by decide +kernel
theorem dX4_readTape_0 : decode cX4_readTape 0 = .ok (.aload_n 0, 1) := by decide +kernel
theorem dX4_readTape_1 : decode cX4_readTape 1 = .ok (.getfield 37, 3) := by decide +kernel
theorem dX4_readTape_4 : decode cX4_readTape 4 = .ok (.invokevirtual 41, 3) := by decide +kernel
theorem dX4_readTape_7 : decode cX4_readTape 7 = .ok (.aload_n 0, 1) := by decide +kernel
theorem dX4_readTape_8 : decode cX4_readTape 8 = .ok (.iconst 0, 1) := by decide +kernel
theorem dX4_readTape_9 : decode cX4_readTape 9 = .ok (.putfield 27, 3) := by decide +kernel
theorem dX4_readTape_12 : decode cX4_readTape 12 = .ok (.aload_n 0, 1) := by decide +kernel
theorem dX4_readTape_13 : decode cX4_readTape 13 = .ok (.iconst (-1), 1) := by decide +kernel
theorem dX4_readTape_14 : decode cX4_readTape 14 = .ok (.putfield 30, 3) := by decide +kernel
theorem dX4_readTape_17 : decode cX4_readTape 17 = .ok (.aload_n 0, 1) := by decide +kernel
theorem dX4_readTape_18 : decode cX4_readTape 18 = .ok (.iconst 0, 1) := by decide +kernel
theorem dX4_readTape_19 : decode cX4_readTape 19 = .ok (.putfield 18, 3) := by decide +kernel
theorem dX4_readTape_22 : decode cX4_readTape 22 = .ok (.aload_n 0, 1) := by decide +kernel
theorem dX4_readTape_23 : decode cX4_readTape 23 = .ok (.invokevirtual 46, 3) := by decide +kernel
theorem dX4_readTape_26 : decode cX4_readTape 26 = .ok (.iconst 0, 1) := by decide +kernel
theorem dX4_readTape_27 : decode cX4_readTape 27 = .ok (.istore_n 1, 1) := by decide +kernel
theorem dX4_readTape_28 : decode cX4_readTape 28 = .ok (.iload_n 1, 1) := by decide +kernel
theorem dX4_readTape_29 : decode cX4_readTape 29 = .ok (.sipush 400, 3) := by decide +kernel
theorem dX4_readTape_32 : decode cX4_readTape 32 = .ok (.if_icmp .ge 25, 3) := by decide +kernel
theorem dX4_readTape_35 : decode cX4_readTape 35 = .ok (.aload_n 0, 1) := by decide +kernel
theorem dX4_readTape_36 : decode cX4_readTape 36 = .ok (.getfield 11, 3) := by decide +kernel
theorem dX4_readTape_39 : decode cX4_readTape 39 = .ok (.ifCond .eq 18, 3) := by decide +kernel
theorem dX4_readTape_57 : decode cX4_readTape 57 = .ok (.iconst 1, 1) := by decide +kernel
theorem dX4_readTape_58 : decode cX4_readTape 58 = .ok (.ireturn, 1) := by decide +kernel
theorem dX5_renew_0 : decode cX5_renew 0 = .ok (.aload_n 0, 1) := by decide +kernel
theorem dX5_renew_1 : decode cX5_renew 1 = .ok (.iconst 1, 1) := by decide +kernel
theorem dX5_renew_2 : decode cX5_renew 2 = .ok (.putfield 9, 3) := by decide +kernel
theorem dX5_renew_5 : decode cX5_renew 5 = .ok (.aload_n 0, 1) := by decide +kernel
theorem dX5_renew_6 : decode cX5_renew 6 = .ok (.iload_n 1, 1) := by decide +kernel
theorem dX5_renew_7 : decode cX5_renew 7 = .ok (.putfield 15, 3) := by decide +kernel
theorem dX5_renew_10 : decode cX5_renew 10 = .ok (.aload_n 0, 1) := by decide +kernel
theorem dX5_renew_11 : decode cX5_renew 11 = .ok (.iload_n 2, 1) := by decide +kernel
theorem dX5_renew_12 : decode cX5_renew 12 = .ok (.putfield 19, 3) := by decide +kernel
theorem dX5_renew_15 : decode cX5_renew 15 = .ok (.iconst 0, 1) := by decide +kernel
theorem dX5_renew_16 : decode cX5_renew 16 = .ok (.istore_n 3, 1) := by decide +kernel
theorem dX5_renew_17 : decode cX5_renew 17 = .ok (.iload_n 3, 1) := by decide +kernel
theorem dX5_renew_18 : decode cX5_renew 18 = .ok (.bipush 60, 2) := by decide +kernel
theorem dX5_renew_20 : decode cX5_renew 20 = .ok (.if_icmp .ge 16, 3) := by decide +kernel
theorem dX5_renew_23 : decode cX5_renew 23 = .ok (.aload_n 0, 1) := by decide +kernel
theorem dX5_renew_24 : decode cX5_renew 24 = .ok (.getfield 22, 3) := by decide +kernel
theorem dX5_renew_27 : decode cX5_renew 27 = .ok (.iload_n 3, 1) := by decide +kernel
theorem dX5_renew_28 : decode cX5_renew 28 = .ok (.lconst 0, 1) := by decide +kernel
theorem dX5_renew_29 : decode cX5_renew 29 = .ok (.lastore, 1) := by decide +kernel
theorem dX5_renew_30 : decode cX5_renew 30 = .ok (.iinc 3 1, 3) := by decide +kernel
theorem dX5_renew_33 : decode cX5_renew 33 = .ok (.goto (-16), 3) := by decide +kernel
theorem dX5_renew_36 : decode cX5_renew 36 = .ok (.return_, 1) := by decide +kernel
theorem dX6_load_0 : decode cX6_load 0 = .ok (.aload_n 0, 1) := by decide +kernel
theorem dX6_load_1 : decode cX6_load 1 = .ok (.iconst 0, 1) := by decide +kernel
theorem dX6_load_2 : decode cX6_load 2 = .ok (.putfield 9, 3) := by decide +kernel
theorem dX6_load_5 : decode cX6_load 5 = .ok (.aload_n 0, 1) := by decide +kernel
theorem dX6_load_6 : decode cX6_load 6 = .ok (.lconst 0, 1) := by decide +kernel
theorem dX6_load_7 : decode cX6_load 7 = .ok (.putfield 21, 3) := by decide +kernel
theorem dX6_load_10 : decode cX6_load 10 = .ok (.aload_n 0, 1) := by decide +kernel
theorem dX6_load_11 : decode cX6_load 11 = .ok (.aload_n 1, 1) := by decide +kernel
theorem dX6_load_12 : decode cX6_load 12 = .ok (.getfield 39, 3) := by decide +kernel
theorem dX6_load_15 : decode cX6_load 15 = .ok (.putfield 15, 3) := by decide +kernel
theorem dX6_load_18 : decode cX6_load 18 = .ok (.aload_n 0, 1) := by decide +kernel
theorem dX6_load_19 : decode cX6_load 19 = .ok (.aload_n 1, 1) := by decide +kernel
theorem dX6_load_20 : decode cX6_load 20 = .ok (.getfield 42, 3) := by decide +kernel
theorem dX6_load_23 : decode cX6_load 23 = .ok (.putfield 18, 3) := by decide +kernel
theorem dX6_load_26 : decode cX6_load 26 = .ok (.aload_n 1, 1) := by decide +kernel
theorem dX6_load_27 : decode cX6_load 27 = .ok (.getfield 43, 3) := by decide +kernel
theorem dX6_load_30 : decode cX6_load 30 = .ok (.ifCond .eq 11, 3) := by decide +kernel
theorem dX6_load_41 : decode cX6_load 41 = .ok (.return_, 1) := by decide +kernel
theorem dX7_put_0 : decode cX7_put 0 = .ok (.bipush 24, 2) := by decide +kernel
theorem dX7_put_2 : decode cX7_put 2 = .ok (.istore_n 2, 1) := by decide +kernel
theorem dX7_put_3 : decode cX7_put 3 = .ok (.iload_n 2, 1) := by decide +kernel
theorem dX7_put_4 : decode cX7_put 4 = .ok (.ifCond .lt 42, 3) := by decide +kernel
theorem dX7_put_7 : decode cX7_put 7 = .ok (.aload_n 0, 1) := by decide +kernel
theorem dX7_put_8 : decode cX7_put 8 = .ok (.getfield 15, 3) := by decide +kernel
theorem dX7_put_11 : decode cX7_put 11 = .ok (.sipush 400, 3) := by decide +kernel
theorem dX7_put_14 : decode cX7_put 14 = .ok (.if_icmp .ge 26, 3) := by decide +kernel
theorem dX7_put_17 : decode cX7_put 17 = .ok (.aload_n 0, 1) := by decide +kernel
theorem dX7_put_18 : decode cX7_put 18 = .ok (.getfield 9, 3) := by decide +kernel
theorem dX7_put_21 : decode cX7_put 21 = .ok (.aload_n 0, 1) := by decide +kernel
theorem dX7_put_22 : decode cX7_put 22 = .ok (.getfield 15, 3) := by decide +kernel
theorem dX7_put_25 : decode cX7_put 25 = .ok (.iload_n 1, 1) := by decide +kernel
theorem dX7_put_26 : decode cX7_put 26 = .ok (.iload_n 2, 1) := by decide +kernel
theorem dX7_put_27 : decode cX7_put 27 = .ok (.ishr, 1) := by decide +kernel
theorem dX7_put_28 : decode cX7_put 28 = .ok (.i2b, 1) := by decide +kernel
theorem dX7_put_29 : decode cX7_put 29 = .ok (.bastore, 1) := by decide +kernel
theorem dX7_put_30 : decode cX7_put 30 = .ok (.aload_n 0, 1) := by decide +kernel
theorem dX7_put_31 : decode cX7_put 31 = .ok (.dup, 1) := by decide +kernel
theorem dX7_put_32 : decode cX7_put 32 = .ok (.getfield 15, 3) := by decide +kernel
theorem dX7_put_35 : decode cX7_put 35 = .ok (.iconst 1, 1) := by decide +kernel
theorem dX7_put_36 : decode cX7_put 36 = .ok (.iadd, 1) := by decide +kernel
theorem dX7_put_37 : decode cX7_put 37 = .ok (.putfield 15, 3) := by decide +kernel
theorem dX7_put_40 : decode cX7_put 40 = .ok (.iinc 2 (-8), 3) := by decide +kernel
theorem dX7_put_43 : decode cX7_put 43 = .ok (.goto (-40), 3) := by decide +kernel
theorem dX7_put_46 : decode cX7_put 46 = .ok (.return_, 1) := by decide +kernel
theorem dX8_back_0 : decode cX8_back 0 = .ok (.iload_n 1, 1) := by decide +kernel
theorem dX8_back_1 : decode cX8_back 1 = .ok (.ifCond .lt 8, 3) := by decide +kernel
theorem dX8_back_4 : decode cX8_back 4 = .ok (.iload_n 1, 1) := by decide +kernel
theorem dX8_back_5 : decode cX8_back 5 = .ok (.iconst 3, 1) := by decide +kernel
theorem dX8_back_6 : decode cX8_back 6 = .ok (.if_icmp .lt 6, 3) := by decide +kernel
theorem dX8_back_9 : decode cX8_back 9 = .ok (.bipush (-2), 2) := by decide +kernel
theorem dX8_back_11 : decode cX8_back 11 = .ok (.ireturn, 1) := by decide +kernel
theorem dX8_back_12 : decode cX8_back 12 = .ok (.aload_n 0, 1) := by decide +kernel
theorem dX8_back_13 : decode cX8_back 13 = .ok (.getfield 64, 3) := by decide +kernel
theorem dX8_back_16 : decode cX8_back 16 = .ok (.iload_n 1, 1) := by decide +kernel
theorem dX8_back_17 : decode cX8_back 17 = .ok (.baload, 1) := by decide +kernel
theorem dX8_back_18 : decode cX8_back 18 = .ok (.ifCond .ne 6, 3) := by decide +kernel
theorem dX8_back_21 : decode cX8_back 21 = .ok (.bipush (-6), 2) := by decide +kernel
theorem dX8_back_23 : decode cX8_back 23 = .ok (.ireturn, 1) := by decide +kernel
theorem dX8_base_0 : decode cX8_base 0 = .ok (.aload_n 0, 1) := by decide +kernel
theorem dX8_base_1 : decode cX8_base 1 = .ok (.getfield 31, 3) := by decide +kernel
theorem dX8_base_4 : decode cX8_base 4 = .ok (.invokevirtual 83, 3) := by decide +kernel
theorem dX8_base_7 : decode cX8_base 7 = .ok (.istore_n 1, 1) := by decide +kernel
theorem dX8_base_8 : decode cX8_base 8 = .ok (.aload_n 0, 1) := by decide +kernel
theorem dX8_base_9 : decode cX8_base 9 = .ok (.getfield 10, 3) := by decide +kernel
theorem dX8_base_12 : decode cX8_base 12 = .ok (.iconst 0, 1) := by decide +kernel
theorem dX8_base_13 : decode cX8_base 13 = .ok (.putfield 75, 3) := by decide +kernel
theorem dX8_base_16 : decode cX8_base 16 = .ok (.iload_n 1, 1) := by decide +kernel
theorem dX8_base_17 : decode cX8_base 17 = .ok (.ifCond .ne 6, 3) := by decide +kernel
theorem dX8_base_23 : decode cX8_base 23 = .ok (.aload_n 0, 1) := by decide +kernel
theorem dX8_base_24 : decode cX8_base 24 = .ok (.aload_n 0, 1) := by decide +kernel
theorem dX8_base_25 : decode cX8_base 25 = .ok (.getfield 19, 3) := by decide +kernel
theorem dX8_base_28 : decode cX8_base 28 = .ok (.invokevirtual 87, 3) := by decide +kernel
theorem dX8_base_31 : decode cX8_base 31 = .ok (.aload_n 0, 1) := by decide +kernel
theorem dX8_base_32 : decode cX8_base 32 = .ok (.getfield 23, 3) := by decide +kernel
theorem dX8_base_35 : decode cX8_base 35 = .ok (.getfield 91, 3) := by decide +kernel
theorem dX8_base_38 : decode cX8_base 38 = .ok (.ireturn, 1) := by decide +kernel
theorem dX8_become_0 : decode cX8_become 0 = .ok (.aload_n 0, 1) := by decide +kernel
theorem dX8_become_1 : decode cX8_become 1 = .ok (.getfield 23, 3) := by decide +kernel
theorem dX8_become_4 : decode cX8_become 4 = .ok (.aload_n 1, 1) := by decide +kernel
theorem dX8_become_5 : decode cX8_become 5 = .ok (.invokevirtual 323, 3) := by decide +kernel
theorem dX8_become_8 : decode cX8_become 8 = .ok (.aload_n 0, 1) := by decide +kernel
theorem dX8_become_9 : decode cX8_become 9 = .ok (.getfield 38, 3) := by decide +kernel
theorem dX8_become_12 : decode cX8_become 12 = .ok (.aload_n 0, 1) := by decide +kernel
theorem dX8_become_13 : decode cX8_become 13 = .ok (.getfield 23, 3) := by decide +kernel
theorem dX8_become_16 : decode cX8_become 16 = .ok (.invokevirtual 357, 3) := by decide +kernel
theorem dX8_become_19 : decode cX8_become 19 = .ok (.aload_n 0, 1) := by decide +kernel
theorem dX8_become_20 : decode cX8_become 20 = .ok (.getfield 47, 3) := by decide +kernel
theorem dX8_become_23 : decode cX8_become 23 = .ok (.invokevirtual 310, 3) := by decide +kernel
theorem dX8_become_26 : decode cX8_become 26 = .ok (.return_, 1) := by decide +kernel
theorem dX8_count_0 : decode cX8_count 0 = .ok (.iload_n 1, 1) := by decide +kernel
theorem dX8_count_1 : decode cX8_count 1 = .ok (.tableswitch 132 0 9 #[55, 63, 71, 79, 87, 95, 103, 111, 119, 127], 55) := by decide +kernel
theorem dX8_count_56 : decode cX8_count 56 = .ok (.aload_n 0, 1) := by decide +kernel
theorem dX8_count_57 : decode cX8_count 57 = .ok (.getfield 23, 3) := by decide +kernel
theorem dX8_count_60 : decode cX8_count 60 = .ok (.getfield 313, 3) := by decide +kernel
theorem dX8_count_63 : decode cX8_count 63 = .ok (.ireturn, 1) := by decide +kernel
theorem dX8_count_64 : decode cX8_count 64 = .ok (.aload_n 0, 1) := by decide +kernel
theorem dX8_count_65 : decode cX8_count 65 = .ok (.getfield 23, 3) := by decide +kernel
theorem dX8_count_68 : decode cX8_count 68 = .ok (.getfield 257, 3) := by decide +kernel
theorem dX8_count_71 : decode cX8_count 71 = .ok (.ireturn, 1) := by decide +kernel
theorem dX8_count_72 : decode cX8_count 72 = .ok (.aload_n 0, 1) := by decide +kernel
theorem dX8_count_73 : decode cX8_count 73 = .ok (.getfield 23, 3) := by decide +kernel
theorem dX8_count_76 : decode cX8_count 76 = .ok (.getfield 316, 3) := by decide +kernel
theorem dX8_count_79 : decode cX8_count 79 = .ok (.ireturn, 1) := by decide +kernel
theorem dX8_count_80 : decode cX8_count 80 = .ok (.aload_n 0, 1) := by decide +kernel
theorem dX8_count_81 : decode cX8_count 81 = .ok (.getfield 23, 3) := by decide +kernel
theorem dX8_count_84 : decode cX8_count 84 = .ok (.getfield 158, 3) := by decide +kernel
theorem dX8_count_87 : decode cX8_count 87 = .ok (.ireturn, 1) := by decide +kernel
theorem dX8_count_88 : decode cX8_count 88 = .ok (.aload_n 0, 1) := by decide +kernel
theorem dX8_count_89 : decode cX8_count 89 = .ok (.getfield 23, 3) := by decide +kernel
theorem dX8_count_92 : decode cX8_count 92 = .ok (.getfield 164, 3) := by decide +kernel
theorem dX8_count_95 : decode cX8_count 95 = .ok (.ireturn, 1) := by decide +kernel
theorem dX8_count_96 : decode cX8_count 96 = .ok (.aload_n 0, 1) := by decide +kernel
theorem dX8_count_97 : decode cX8_count 97 = .ok (.getfield 23, 3) := by decide +kernel
theorem dX8_count_100 : decode cX8_count 100 = .ok (.getfield 183, 3) := by decide +kernel
theorem dX8_count_103 : decode cX8_count 103 = .ok (.ireturn, 1) := by decide +kernel
theorem dX8_count_104 : decode cX8_count 104 = .ok (.aload_n 0, 1) := by decide +kernel
theorem dX8_count_105 : decode cX8_count 105 = .ok (.getfield 23, 3) := by decide +kernel
theorem dX8_count_108 : decode cX8_count 108 = .ok (.getfield 304, 3) := by decide +kernel
theorem dX8_count_111 : decode cX8_count 111 = .ok (.ireturn, 1) := by decide +kernel
theorem dX8_count_112 : decode cX8_count 112 = .ok (.aload_n 0, 1) := by decide +kernel
theorem dX8_count_113 : decode cX8_count 113 = .ok (.getfield 23, 3) := by decide +kernel
theorem dX8_count_116 : decode cX8_count 116 = .ok (.getfield 91, 3) := by decide +kernel
theorem dX8_count_119 : decode cX8_count 119 = .ok (.ireturn, 1) := by decide +kernel
theorem dX8_count_120 : decode cX8_count 120 = .ok (.aload_n 0, 1) := by decide +kernel
theorem dX8_count_121 : decode cX8_count 121 = .ok (.getfield 10, 3) := by decide +kernel
theorem dX8_count_124 : decode cX8_count 124 = .ok (.getfield 75, 3) := by decide +kernel
theorem dX8_count_127 : decode cX8_count 127 = .ok (.ireturn, 1) := by decide +kernel
theorem dX8_count_128 : decode cX8_count 128 = .ok (.aload_n 0, 1) := by decide +kernel
theorem dX8_count_129 : decode cX8_count 129 = .ok (.invokevirtual 319, 3) := by decide +kernel
theorem dX8_count_132 : decode cX8_count 132 = .ok (.ireturn, 1) := by decide +kernel
theorem dX8_count_133 : decode cX8_count 133 = .ok (.iconst (-1), 1) := by decide +kernel
theorem dX8_count_134 : decode cX8_count 134 = .ok (.ireturn, 1) := by decide +kernel
theorem dX8_end_0 : decode cX8_end 0 = .ok (.iload_n 1, 1) := by decide +kernel
theorem dX8_end_1 : decode cX8_end 1 = .ok (.ifCond .lt 14, 3) := by decide +kernel
theorem dX8_end_4 : decode cX8_end 4 = .ok (.iload_n 1, 1) := by decide +kernel
theorem dX8_end_5 : decode cX8_end 5 = .ok (.aload_n 0, 1) := by decide +kernel
theorem dX8_end_6 : decode cX8_end 6 = .ok (.getfield 10, 3) := by decide +kernel
theorem dX8_end_9 : decode cX8_end 9 = .ok (.getfield 75, 3) := by decide +kernel
theorem dX8_end_12 : decode cX8_end 12 = .ok (.if_icmp .le 5, 3) := by decide +kernel
theorem dX8_end_15 : decode cX8_end 15 = .ok (.iconst (-1), 1) := by decide +kernel
theorem dX8_end_16 : decode cX8_end 16 = .ok (.ireturn, 1) := by decide +kernel
theorem dX8_end_17 : decode cX8_end 17 = .ok (.aload_n 0, 1) := by decide +kernel
theorem dX8_end_18 : decode cX8_end 18 = .ok (.getfield 10, 3) := by decide +kernel
theorem dX8_end_21 : decode cX8_end 21 = .ok (.iload_n 1, 1) := by decide +kernel
theorem dX8_end_22 : decode cX8_end 22 = .ok (.putfield 75, 3) := by decide +kernel
theorem dX8_end_25 : decode cX8_end 25 = .ok (.iload_n 1, 1) := by decide +kernel
theorem dX8_end_26 : decode cX8_end 26 = .ok (.ireturn, 1) := by decide +kernel
theorem dX8_fault_0 : decode cX8_fault 0 = .ok (.iload_n 1, 1) := by decide +kernel
theorem dX8_fault_1 : decode cX8_fault 1 = .ok (.lookupswitch 43 #[(0, 27), (1, 35)], 27) := by decide +kernel
theorem dX8_fault_28 : decode cX8_fault 28 = .ok (.aload_n 0, 1) := by decide +kernel
theorem dX8_fault_29 : decode cX8_fault 29 = .ok (.getfield 31, 3) := by decide +kernel
theorem dX8_fault_32 : decode cX8_fault 32 = .ok (.getfield 94, 3) := by decide +kernel
theorem dX8_fault_35 : decode cX8_fault 35 = .ok (.ireturn, 1) := by decide +kernel
theorem dX8_fault_36 : decode cX8_fault 36 = .ok (.aload_n 0, 1) := by decide +kernel
theorem dX8_fault_37 : decode cX8_fault 37 = .ok (.getfield 31, 3) := by decide +kernel
theorem dX8_fault_40 : decode cX8_fault 40 = .ok (.getfield 97, 3) := by decide +kernel
theorem dX8_fault_43 : decode cX8_fault 43 = .ok (.ireturn, 1) := by decide +kernel
theorem dX8_fault_44 : decode cX8_fault 44 = .ok (.iconst (-1), 1) := by decide +kernel
theorem dX8_fault_45 : decode cX8_fault 45 = .ok (.ireturn, 1) := by decide +kernel
theorem dX8_feed_0 : decode cX8_feed 0 = .ok (.aload_n 0, 1) := by decide +kernel
theorem dX8_feed_1 : decode cX8_feed 1 = .ok (.getfield 10, 3) := by decide +kernel
theorem dX8_feed_4 : decode cX8_feed 4 = .ok (.getfield 75, 3) := by decide +kernel
theorem dX8_feed_7 : decode cX8_feed 7 = .ok (.bipush 20, 2) := by decide +kernel
theorem dX8_feed_9 : decode cX8_feed 9 = .ok (.iadd, 1) := by decide +kernel
theorem dX8_feed_10 : decode cX8_feed 10 = .ok (.sipush 400, 3) := by decide +kernel
theorem dX8_feed_13 : decode cX8_feed 13 = .ok (.if_icmp .le 5, 3) := by decide +kernel
theorem dX8_feed_18 : decode cX8_feed 18 = .ok (.aload_n 0, 1) := by decide +kernel
theorem dX8_feed_19 : decode cX8_feed 19 = .ok (.getfield 10, 3) := by decide +kernel
theorem dX8_feed_22 : decode cX8_feed 22 = .ok (.iload_n 1, 1) := by decide +kernel
theorem dX8_feed_23 : decode cX8_feed 23 = .ok (.invokevirtual 79, 3) := by decide +kernel
theorem dX8_feed_26 : decode cX8_feed 26 = .ok (.aload_n 0, 1) := by decide +kernel
theorem dX8_feed_27 : decode cX8_feed 27 = .ok (.getfield 10, 3) := by decide +kernel
theorem dX8_feed_30 : decode cX8_feed 30 = .ok (.iload_n 2, 1) := by decide +kernel
theorem dX8_feed_31 : decode cX8_feed 31 = .ok (.invokevirtual 79, 3) := by decide +kernel
theorem dX8_feed_34 : decode cX8_feed 34 = .ok (.aload_n 0, 1) := by decide +kernel
theorem dX8_feed_35 : decode cX8_feed 35 = .ok (.getfield 10, 3) := by decide +kernel
theorem dX8_feed_38 : decode cX8_feed 38 = .ok (.iload_n 3, 1) := by decide +kernel
theorem dX8_feed_39 : decode cX8_feed 39 = .ok (.invokevirtual 79, 3) := by decide +kernel
theorem dX8_feed_42 : decode cX8_feed 42 = .ok (.aload_n 0, 1) := by decide +kernel
theorem dX8_feed_43 : decode cX8_feed 43 = .ok (.getfield 10, 3) := by decide +kernel
theorem dX8_feed_46 : decode cX8_feed 46 = .ok (.iload 4, 2) := by decide +kernel
theorem dX8_feed_48 : decode cX8_feed 48 = .ok (.invokevirtual 79, 3) := by decide +kernel
theorem dX8_feed_51 : decode cX8_feed 51 = .ok (.aload_n 0, 1) := by decide +kernel
theorem dX8_feed_52 : decode cX8_feed 52 = .ok (.getfield 10, 3) := by decide +kernel
theorem dX8_feed_55 : decode cX8_feed 55 = .ok (.iload 5, 2) := by decide +kernel
theorem dX8_feed_57 : decode cX8_feed 57 = .ok (.invokevirtual 79, 3) := by decide +kernel
theorem dX8_feed_60 : decode cX8_feed 60 = .ok (.aload_n 0, 1) := by decide +kernel
theorem dX8_feed_61 : decode cX8_feed 61 = .ok (.getfield 10, 3) := by decide +kernel
theorem dX8_feed_64 : decode cX8_feed 64 = .ok (.getfield 75, 3) := by decide +kernel
theorem dX8_feed_67 : decode cX8_feed 67 = .ok (.ireturn, 1) := by decide +kernel
theorem dX8_image_0 : decode cX8_image 0 = .ok (.iload_n 1, 1) := by decide +kernel
theorem dX8_image_1 : decode cX8_image 1 = .ok (.ifCond .lt 8, 3) := by decide +kernel
theorem dX8_image_4 : decode cX8_image 4 = .ok (.iload_n 1, 1) := by decide +kernel
theorem dX8_image_5 : decode cX8_image 5 = .ok (.iconst 3, 1) := by decide +kernel
theorem dX8_image_6 : decode cX8_image 6 = .ok (.if_icmp .lt 6, 3) := by decide +kernel
theorem dX8_image_9 : decode cX8_image 9 = .ok (.bipush (-2), 2) := by decide +kernel
theorem dX8_image_11 : decode cX8_image 11 = .ok (.ireturn, 1) := by decide +kernel
theorem dX8_image_12 : decode cX8_image 12 = .ok (.aload_n 0, 1) := by decide +kernel
theorem dX8_image_13 : decode cX8_image 13 = .ok (.getfield 60, 3) := by decide +kernel
theorem dX8_image_16 : decode cX8_image 16 = .ok (.iload_n 1, 1) := by decide +kernel
theorem dX8_image_17 : decode cX8_image 17 = .ok (.aaload, 1) := by decide +kernel
theorem dX8_image_18 : decode cX8_image 18 = .ok (.aload_n 0, 1) := by decide +kernel
theorem dX8_image_19 : decode cX8_image 19 = .ok (.getfield 23, 3) := by decide +kernel
theorem dX8_image_22 : decode cX8_image 22 = .ok (.invokevirtual 323, 3) := by decide +kernel
theorem dX8_image_25 : decode cX8_image 25 = .ok (.aload_n 0, 1) := by decide +kernel
theorem dX8_image_26 : decode cX8_image 26 = .ok (.getfield 64, 3) := by decide +kernel
theorem dX8_image_29 : decode cX8_image 29 = .ok (.iload_n 1, 1) := by decide +kernel
theorem dX8_image_30 : decode cX8_image 30 = .ok (.iconst 1, 1) := by decide +kernel
theorem dX8_image_31 : decode cX8_image 31 = .ok (.bastore, 1) := by decide +kernel
theorem dX8_image_32 : decode cX8_image 32 = .ok (.iconst 0, 1) := by decide +kernel
theorem dX8_image_33 : decode cX8_image 33 = .ok (.ireturn, 1) := by decide +kernel
theorem dX8_paste_0 : decode cX8_paste 0 = .ok (.aload_n 0, 1) := by decide +kernel
theorem dX8_paste_1 : decode cX8_paste 1 = .ok (.iload_n 1, 1) := by decide +kernel
theorem dX8_paste_2 : decode cX8_paste 2 = .ok (.invokevirtual 326, 3) := by decide +kernel
theorem dX8_paste_5 : decode cX8_paste 5 = .ok (.ifCond .ne 11, 3) := by decide +kernel
theorem dX8_paste_8 : decode cX8_paste 8 = .ok (.aload_n 0, 1) := by decide +kernel
theorem dX8_paste_9 : decode cX8_paste 9 = .ok (.iload_n 3, 1) := by decide +kernel
theorem dX8_paste_10 : decode cX8_paste 10 = .ok (.invokevirtual 326, 3) := by decide +kernel
theorem dX8_paste_13 : decode cX8_paste 13 = .ok (.ifCond .eq 6, 3) := by decide +kernel
theorem dX8_paste_16 : decode cX8_paste 16 = .ok (.bipush (-2), 2) := by decide +kernel
theorem dX8_paste_18 : decode cX8_paste 18 = .ok (.ireturn, 1) := by decide +kernel
theorem dX8_paste_19 : decode cX8_paste 19 = .ok (.aload_n 0, 1) := by decide +kernel
theorem dX8_paste_20 : decode cX8_paste 20 = .ok (.getfield 70, 3) := by decide +kernel
theorem dX8_paste_23 : decode cX8_paste 23 = .ok (.iload_n 1, 1) := by decide +kernel
theorem dX8_paste_24 : decode cX8_paste 24 = .ok (.aaload, 1) := by decide +kernel
theorem dX8_paste_25 : decode cX8_paste 25 = .ok (.astore 6, 2) := by decide +kernel
theorem dX8_paste_27 : decode cX8_paste 27 = .ok (.aload_n 0, 1) := by decide +kernel
theorem dX8_paste_28 : decode cX8_paste 28 = .ok (.getfield 70, 3) := by decide +kernel
theorem dX8_paste_31 : decode cX8_paste 31 = .ok (.iload_n 3, 1) := by decide +kernel
theorem dX8_paste_32 : decode cX8_paste 32 = .ok (.aaload, 1) := by decide +kernel
theorem dX8_paste_33 : decode cX8_paste 33 = .ok (.astore 7, 2) := by decide +kernel
theorem dX8_paste_35 : decode cX8_paste 35 = .ok (.aload 6, 2) := by decide +kernel
theorem dX8_paste_37 : decode cX8_paste 37 = .ok (.getfield 333, 3) := by decide +kernel
theorem dX8_paste_40 : decode cX8_paste 40 = .ok (.ifCond .eq 11, 3) := by decide +kernel
theorem dX8_paste_51 : decode cX8_paste 51 = .ok (.bipush (-6), 2) := by decide +kernel
theorem dX8_paste_53 : decode cX8_paste 53 = .ok (.ireturn, 1) := by decide +kernel
theorem dX8_row_0 : decode cX8_row 0 = .ok (.aload_n 0, 1) := by decide +kernel
theorem dX8_row_1 : decode cX8_row 1 = .ok (.iload_n 1, 1) := by decide +kernel
theorem dX8_row_2 : decode cX8_row 2 = .ok (.invokevirtual 326, 3) := by decide +kernel
theorem dX8_row_5 : decode cX8_row 5 = .ok (.ifCond .ne 18, 3) := by decide +kernel
theorem dX8_row_8 : decode cX8_row 8 = .ok (.iload_n 2, 1) := by decide +kernel
theorem dX8_row_9 : decode cX8_row 9 = .ok (.ifCond .lt 14, 3) := by decide +kernel
theorem dX8_row_12 : decode cX8_row 12 = .ok (.iload_n 2, 1) := by decide +kernel
theorem dX8_row_13 : decode cX8_row 13 = .ok (.iconst 4, 1) := by decide +kernel
theorem dX8_row_14 : decode cX8_row 14 = .ok (.if_icmp .ge 9, 3) := by decide +kernel
theorem dX8_row_17 : decode cX8_row 17 = .ok (.iload_n 3, 1) := by decide +kernel
theorem dX8_row_18 : decode cX8_row 18 = .ok (.bipush 60, 2) := by decide +kernel
theorem dX8_row_20 : decode cX8_row 20 = .ok (.if_icmp .le 6, 3) := by decide +kernel
theorem dX8_row_23 : decode cX8_row 23 = .ok (.bipush (-2), 2) := by decide +kernel
theorem dX8_row_25 : decode cX8_row 25 = .ok (.ireturn, 1) := by decide +kernel
theorem dX8_row_26 : decode cX8_row 26 = .ok (.iload_n 3, 1) := by decide +kernel
theorem dX8_row_27 : decode cX8_row 27 = .ok (.ifCond .ge 6, 3) := by decide +kernel
theorem dX8_row_30 : decode cX8_row 30 = .ok (.bipush (-3), 2) := by decide +kernel
theorem dX8_row_32 : decode cX8_row 32 = .ok (.ireturn, 1) := by decide +kernel
theorem dX8_row_33 : decode cX8_row 33 = .ok (.aload_n 0, 1) := by decide +kernel
theorem dX8_row_34 : decode cX8_row 34 = .ok (.getfield 70, 3) := by decide +kernel
theorem dX8_row_37 : decode cX8_row 37 = .ok (.iload_n 1, 1) := by decide +kernel
theorem dX8_row_38 : decode cX8_row 38 = .ok (.aaload, 1) := by decide +kernel
theorem dX8_row_39 : decode cX8_row 39 = .ok (.iload_n 2, 1) := by decide +kernel
theorem dX8_row_40 : decode cX8_row 40 = .ok (.iload_n 3, 1) := by decide +kernel
theorem dX8_row_41 : decode cX8_row 41 = .ok (.invokevirtual 329, 3) := by decide +kernel
theorem dX8_row_44 : decode cX8_row 44 = .ok (.iconst 0, 1) := by decide +kernel
theorem dX8_row_45 : decode cX8_row 45 = .ok (.ireturn, 1) := by decide +kernel
theorem dX8_slotsInUse_0 : decode cX8_slotsInUse 0 = .ok (.iconst 0, 1) := by decide +kernel
theorem dX8_slotsInUse_1 : decode cX8_slotsInUse 1 = .ok (.istore_n 1, 1) := by decide +kernel
theorem dX8_slotsInUse_2 : decode cX8_slotsInUse 2 = .ok (.iconst 0, 1) := by decide +kernel
theorem dX8_slotsInUse_3 : decode cX8_slotsInUse 3 = .ok (.istore_n 2, 1) := by decide +kernel
theorem dX8_slotsInUse_4 : decode cX8_slotsInUse 4 = .ok (.iload_n 2, 1) := by decide +kernel
theorem dX8_slotsInUse_5 : decode cX8_slotsInUse 5 = .ok (.iconst 4, 1) := by decide +kernel
theorem dX8_slotsInUse_6 : decode cX8_slotsInUse 6 = .ok (.if_icmp .ge 24, 3) := by decide +kernel
theorem dX8_slotsInUse_9 : decode cX8_slotsInUse 9 = .ok (.aload_n 0, 1) := by decide +kernel
theorem dX8_slotsInUse_10 : decode cX8_slotsInUse 10 = .ok (.getfield 70, 3) := by decide +kernel
theorem dX8_slotsInUse_13 : decode cX8_slotsInUse 13 = .ok (.iload_n 2, 1) := by decide +kernel
theorem dX8_slotsInUse_14 : decode cX8_slotsInUse 14 = .ok (.aaload, 1) := by decide +kernel
theorem dX8_slotsInUse_15 : decode cX8_slotsInUse 15 = .ok (.getfield 333, 3) := by decide +kernel
theorem dX8_slotsInUse_18 : decode cX8_slotsInUse 18 = .ok (.ifCond .eq 6, 3) := by decide +kernel
theorem dX8_slotsInUse_24 : decode cX8_slotsInUse 24 = .ok (.iinc 2 1, 3) := by decide +kernel
theorem dX8_slotsInUse_27 : decode cX8_slotsInUse 27 = .ok (.goto (-23), 3) := by decide +kernel
theorem dX8_slotsInUse_30 : decode cX8_slotsInUse 30 = .ok (.iload_n 1, 1) := by decide +kernel
theorem dX8_slotsInUse_31 : decode cX8_slotsInUse 31 = .ok (.ireturn, 1) := by decide +kernel
theorem dX8_write_0 : decode cX8_write 0 = .ok (.aload_n 0, 1) := by decide +kernel
theorem dX8_write_1 : decode cX8_write 1 = .ok (.iload_n 1, 1) := by decide +kernel
theorem dX8_write_2 : decode cX8_write 2 = .ok (.invokevirtual 326, 3) := by decide +kernel
theorem dX8_write_5 : decode cX8_write 5 = .ok (.ifCond .eq 6, 3) := by decide +kernel
theorem dX8_write_8 : decode cX8_write 8 = .ok (.bipush (-2), 2) := by decide +kernel
theorem dX8_write_10 : decode cX8_write 10 = .ok (.ireturn, 1) := by decide +kernel
theorem dX8_write_11 : decode cX8_write 11 = .ok (.aload_n 0, 1) := by decide +kernel
theorem dX8_write_12 : decode cX8_write 12 = .ok (.getfield 70, 3) := by decide +kernel
theorem dX8_write_15 : decode cX8_write 15 = .ok (.iload_n 1, 1) := by decide +kernel
theorem dX8_write_16 : decode cX8_write 16 = .ok (.aaload, 1) := by decide +kernel
theorem dX8_write_17 : decode cX8_write 17 = .ok (.astore 5, 2) := by decide +kernel
theorem dX8_write_19 : decode cX8_write 19 = .ok (.aload 5, 2) := by decide +kernel
theorem dX8_write_21 : decode cX8_write 21 = .ok (.getfield 333, 3) := by decide +kernel
theorem dX8_write_24 : decode cX8_write 24 = .ok (.ifCond .ne 6, 3) := by decide +kernel
theorem dX8_write_27 : decode cX8_write 27 = .ok (.bipush (-6), 2) := by decide +kernel
theorem dX8_write_29 : decode cX8_write 29 = .ok (.ireturn, 1) := by decide +kernel
theorem iuX0_clear_X0 : ∀ w ∈ u_ws RX0 TX0 15, w ∈ W_X0_clear := fun w h => List.mem_cons_of_mem _ (List.mem_append_right _ (h))
theorem iuX0_copyOf_X0 : ∀ w ∈ u_ws RX0 TX0 15, w ∈ W_X0_copyOf := fun w h => List.mem_cons_of_mem _ (List.mem_append_right _ (h))
theorem iuX2_asTold_X0 : ∀ w ∈ u_ws RX0 TX0 15, w ∈ W_X2_asTold := fun w h => List.mem_cons_of_mem _ (List.mem_append_right _ (List.mem_append_right _ (List.mem_append_left _ (h))))
theorem iuX2_asTold_X2 : ∀ w ∈ u_ws RX2 TX2 12, w ∈ W_X2_asTold := fun w h => List.mem_cons_of_mem _ (List.mem_append_right _ (List.mem_append_left _ (h)))
theorem iuX2_suppose_X0 : ∀ w ∈ u_ws RX0 TX0 15, w ∈ W_X2_suppose := fun w h => List.mem_cons_of_mem _ (List.mem_append_right _ (List.mem_append_right _ (List.mem_append_right _ (h))))
theorem iuX2_suppose_X2 : ∀ w ∈ u_ws RX2 TX2 12, w ∈ W_X2_suppose := fun w h => List.mem_cons_of_mem _ (List.mem_append_right _ (List.mem_append_left _ (h)))
theorem iuX2_suppose_X6 : ∀ w ∈ u_ws RX6 TX6 8, w ∈ W_X2_suppose := fun w h => List.mem_cons_of_mem _ (List.mem_append_right _ (List.mem_append_right _ (List.mem_append_left _ (h))))
theorem iuX3_fill_X0 : ∀ w ∈ u_ws RX0 TX0 15, w ∈ W_X3_fill := fun w h => List.mem_cons_of_mem _ (List.mem_append_right _ (List.mem_append_left _ (h)))
theorem iuX4_next_X4 : ∀ w ∈ u_ws RX4 TX4 9, w ∈ W_X4_next := fun w h => List.mem_cons_of_mem _ (List.mem_append_right _ (List.mem_append_left _ (h)))
theorem iuX4_next_X7 : ∀ w ∈ u_ws RX7 TX7 2, w ∈ W_X4_next := fun w h => List.mem_cons_of_mem _ (List.mem_append_right _ (List.mem_append_right _ (List.mem_append_left _ (h))))
theorem iuX4_readTape_X4 : ∀ w ∈ u_ws RX4 TX4 9, w ∈ W_X4_readTape := fun w h => List.mem_cons_of_mem _ (List.mem_append_right _ (List.mem_append_left _ (h)))
theorem iuX5_renew_X5 : ∀ w ∈ u_ws RX5 TX5 4, w ∈ W_X5_renew := fun w h => List.mem_cons_of_mem _ (List.mem_append_right _ (h))
theorem iuX6_load_X0 : ∀ w ∈ u_ws RX0 TX0 15, w ∈ W_X6_load := fun w h => List.mem_cons_of_mem _ (List.mem_append_right _ (List.mem_append_right _ (List.mem_append_left _ (h))))
theorem iuX6_load_X6 : ∀ w ∈ u_ws RX6 TX6 8, w ∈ W_X6_load := fun w h => List.mem_cons_of_mem _ (List.mem_append_right _ (List.mem_append_left _ (h)))
theorem iuX7_put_X7 : ∀ w ∈ u_ws RX7 TX7 2, w ∈ W_X7_put := fun w h => List.mem_cons_of_mem _ (List.mem_append_right _ (h))
theorem iuX8_back_X8 : ∀ w ∈ u_ws RX8 TX8 10, w ∈ W_X8_back := fun w h => List.mem_cons_of_mem _ (List.mem_append_right _ (List.mem_append_left _ (h)))
theorem iuX8_base_X0 : ∀ w ∈ u_ws RX0 TX0 15, w ∈ W_X8_base := fun w h => List.mem_cons_of_mem _ (List.mem_append_right _ (List.mem_append_right _ (List.mem_append_right _ (List.mem_append_left _ (h)))))
theorem iuX8_base_X7 : ∀ w ∈ u_ws RX7 TX7 2, w ∈ W_X8_base := fun w h => List.mem_cons_of_mem _ (List.mem_append_right _ (List.mem_append_right _ (List.mem_append_left _ (h))))
theorem iuX8_base_X8 : ∀ w ∈ u_ws RX8 TX8 10, w ∈ W_X8_base := fun w h => List.mem_cons_of_mem _ (List.mem_append_right _ (List.mem_append_left _ (h)))
theorem iuX8_become_X8 : ∀ w ∈ u_ws RX8 TX8 10, w ∈ W_X8_become := fun w h => List.mem_cons_of_mem _ (List.mem_append_right _ (List.mem_append_left _ (h)))
theorem iuX8_count_X0 : ∀ w ∈ u_ws RX0 TX0 15, w ∈ W_X8_count := fun w h => List.mem_cons_of_mem _ (List.mem_append_right _ (List.mem_append_right _ (List.mem_append_left _ (h))))
theorem iuX8_count_X7 : ∀ w ∈ u_ws RX7 TX7 2, w ∈ W_X8_count := fun w h => List.mem_cons_of_mem _ (List.mem_append_right _ (List.mem_append_right _ (List.mem_append_right _ (List.mem_append_left _ (h)))))
theorem iuX8_count_X8 : ∀ w ∈ u_ws RX8 TX8 10, w ∈ W_X8_count := fun w h => List.mem_cons_of_mem _ (List.mem_append_right _ (List.mem_append_left _ (h)))
theorem iuX8_end_X7 : ∀ w ∈ u_ws RX7 TX7 2, w ∈ W_X8_end := fun w h => List.mem_cons_of_mem _ (List.mem_append_right _ (List.mem_append_right _ (h)))
theorem iuX8_end_X8 : ∀ w ∈ u_ws RX8 TX8 10, w ∈ W_X8_end := fun w h => List.mem_cons_of_mem _ (List.mem_append_right _ (List.mem_append_left _ (h)))
theorem iuX8_fault_X4 : ∀ w ∈ u_ws RX4 TX4 9, w ∈ W_X8_fault := fun w h => List.mem_cons_of_mem _ (List.mem_append_right _ (List.mem_append_right _ (h)))
theorem iuX8_fault_X8 : ∀ w ∈ u_ws RX8 TX8 10, w ∈ W_X8_fault := fun w h => List.mem_cons_of_mem _ (List.mem_append_right _ (List.mem_append_left _ (h)))
theorem iuX8_feed_X7 : ∀ w ∈ u_ws RX7 TX7 2, w ∈ W_X8_feed := fun w h => List.mem_cons_of_mem _ (List.mem_append_right _ (List.mem_append_right _ (List.mem_append_left _ (h))))
theorem iuX8_feed_X8 : ∀ w ∈ u_ws RX8 TX8 10, w ∈ W_X8_feed := fun w h => List.mem_cons_of_mem _ (List.mem_append_right _ (List.mem_append_left _ (h)))
theorem iuX8_image_X8 : ∀ w ∈ u_ws RX8 TX8 10, w ∈ W_X8_image := fun w h => List.mem_cons_of_mem _ (List.mem_append_right _ (List.mem_append_left _ (h)))
theorem iuX8_paste_X5 : ∀ w ∈ u_ws RX5 TX5 4, w ∈ W_X8_paste := fun w h => List.mem_cons_of_mem _ (List.mem_append_right _ (List.mem_append_right _ (List.mem_append_left _ (h))))
theorem iuX8_paste_X8 : ∀ w ∈ u_ws RX8 TX8 10, w ∈ W_X8_paste := fun w h => List.mem_cons_of_mem _ (List.mem_append_right _ (List.mem_append_left _ (h)))
theorem iuX8_row_X8 : ∀ w ∈ u_ws RX8 TX8 10, w ∈ W_X8_row := fun w h => List.mem_cons_of_mem _ (List.mem_append_right _ (List.mem_append_left _ (h)))
theorem iuX8_slotsInUse_X5 : ∀ w ∈ u_ws RX5 TX5 4, w ∈ W_X8_slotsInUse := fun w h => List.mem_cons_of_mem _ (List.mem_append_right _ (List.mem_append_right _ (h)))
theorem iuX8_slotsInUse_X8 : ∀ w ∈ u_ws RX8 TX8 10, w ∈ W_X8_slotsInUse := fun w h => List.mem_cons_of_mem _ (List.mem_append_right _ (List.mem_append_left _ (h)))
theorem iuX8_write_X5 : ∀ w ∈ u_ws RX5 TX5 4, w ∈ W_X8_write := fun w h => List.mem_cons_of_mem _ (List.mem_append_right _ (List.mem_append_right _ (List.mem_append_left _ (h))))
theorem iuX8_write_X8 : ∀ w ∈ u_ws RX8 TX8 10, w ∈ W_X8_write := fun w h => List.mem_cons_of_mem _ (List.mem_append_right _ (List.mem_append_left _ (h)))
theorem gw_X2_asTold_X3_fill : GoodIn W_X2_asTold W_X3_fill := fun w h => ⟨List.mem_cons_of_mem _ (List.mem_append_right _ (List.mem_append_right _ (List.mem_append_right _ (List.mem_append_left _ (h))))), (wI_X3_fill w h).2⟩
theorem gc_X2_asTold_62_X3_fill : GoodIn W_X2_asTold (wsV RX2 62 RX3 yX3_fill W_X3_fill) := goodIn_app (goodIn_sub (List.forall_mem_cons.mpr ⟨List.mem_cons_of_mem _ (List.mem_append_left _ (List.mem_of_getElem? (i := 4) rfl)), List.forall_mem_cons.mpr ⟨List.mem_cons_of_mem _ (List.mem_append_left _ (List.mem_of_getElem? (i := 5) rfl)), List.forall_mem_cons.mpr ⟨List.mem_cons_of_mem _ (List.mem_append_left _ (List.mem_of_getElem? (i := 6) rfl)), List.forall_mem_cons.mpr ⟨List.mem_cons_of_mem _ (List.mem_append_left _ (List.mem_of_getElem? (i := 7) rfl)), fun _ h => absurd h List.not_mem_nil⟩⟩⟩⟩) (by decide +kernel)) gw_X2_asTold_X3_fill
theorem gw_X2_asTold_X2_suppose : GoodIn W_X2_asTold W_X2_suppose := fun w h => ⟨List.mem_cons_of_mem _ (List.mem_append_right _ (List.mem_append_right _ (List.mem_append_right _ (List.mem_append_right _ (h))))), (wI_X2_suppose w h).2⟩
theorem gc_X2_asTold_72_X2_suppose : GoodIn W_X2_asTold (wsV RX2 72 RX2 yX2_suppose W_X2_suppose) := goodIn_app (goodIn_sub (List.forall_mem_cons.mpr ⟨List.mem_cons_of_mem _ (List.mem_append_left _ (List.mem_of_getElem? (i := 10) rfl)), List.forall_mem_cons.mpr ⟨List.mem_cons_of_mem _ (List.mem_append_left _ (List.mem_of_getElem? (i := 11) rfl)), List.forall_mem_cons.mpr ⟨List.mem_cons_of_mem _ (List.mem_append_left _ (List.mem_of_getElem? (i := 12) rfl)), List.forall_mem_cons.mpr ⟨List.mem_cons_of_mem _ (List.mem_append_left _ (List.mem_of_getElem? (i := 13) rfl)), fun _ h => absurd h List.not_mem_nil⟩⟩⟩⟩) (by decide +kernel)) gw_X2_asTold_X2_suppose
theorem gw_X4_readTape_X0_clear : GoodIn W_X4_readTape W_X0_clear := fun w h => ⟨List.mem_cons_of_mem _ (List.mem_append_right _ (List.mem_append_right _ (List.mem_append_left _ (h)))), (wI_X0_clear w h).2⟩
theorem gc_X4_readTape_41_X0_clear : GoodIn W_X4_readTape (wsV RX4 41 RX0 yX0_clear W_X0_clear) := goodIn_app (goodIn_sub (List.forall_mem_cons.mpr ⟨List.mem_cons_of_mem _ (List.mem_append_left _ (List.mem_of_getElem? (i := 1) rfl)), List.forall_mem_cons.mpr ⟨List.mem_cons_of_mem _ (List.mem_append_left _ (List.mem_of_getElem? (i := 2) rfl)), List.forall_mem_cons.mpr ⟨List.mem_cons_of_mem _ (List.mem_append_left _ (List.mem_of_getElem? (i := 3) rfl)), List.forall_mem_cons.mpr ⟨List.mem_cons_of_mem _ (List.mem_append_left _ (List.mem_of_getElem? (i := 4) rfl)), fun _ h => absurd h List.not_mem_nil⟩⟩⟩⟩) (by decide +kernel)) gw_X4_readTape_X0_clear
theorem gw_X4_readTape_X4_next : GoodIn W_X4_readTape W_X4_next := fun w h => ⟨List.mem_cons_of_mem _ (List.mem_append_right _ (List.mem_append_right _ (List.mem_append_right _ (List.mem_append_left _ (h))))), (wI_X4_next w h).2⟩
theorem gc_X4_readTape_46_X4_next : GoodIn W_X4_readTape (wsV RX4 46 RX4 yX4_next W_X4_next) := goodIn_app (goodIn_sub (List.forall_mem_cons.mpr ⟨List.mem_cons_of_mem _ (List.mem_append_left _ (List.mem_of_getElem? (i := 8) rfl)), List.forall_mem_cons.mpr ⟨List.mem_cons_of_mem _ (List.mem_append_left _ (List.mem_of_getElem? (i := 9) rfl)), List.forall_mem_cons.mpr ⟨List.mem_cons_of_mem _ (List.mem_append_left _ (List.mem_of_getElem? (i := 10) rfl)), List.forall_mem_cons.mpr ⟨List.mem_cons_of_mem _ (List.mem_append_left _ (List.mem_of_getElem? (i := 11) rfl)), fun _ h => absurd h List.not_mem_nil⟩⟩⟩⟩) (by decide +kernel)) gw_X4_readTape_X4_next
theorem gw_X8_base_X4_readTape : GoodIn W_X8_base W_X4_readTape := fun w h => ⟨List.mem_cons_of_mem _ (List.mem_append_right _ (List.mem_append_right _ (List.mem_append_right _ (List.mem_append_right _ (List.mem_append_left _ (h)))))), (wI_X4_readTape w h).2⟩
theorem gc_X8_base_83_X4_readTape : GoodIn W_X8_base (wsV RX8 83 RX4 yX4_readTape W_X4_readTape) := goodIn_app (goodIn_sub (List.forall_mem_cons.mpr ⟨List.mem_cons_of_mem _ (List.mem_append_left _ (List.mem_of_getElem? (i := 1) rfl)), List.forall_mem_cons.mpr ⟨List.mem_cons_of_mem _ (List.mem_append_left _ (List.mem_of_getElem? (i := 2) rfl)), List.forall_mem_cons.mpr ⟨List.mem_cons_of_mem _ (List.mem_append_left _ (List.mem_of_getElem? (i := 3) rfl)), List.forall_mem_cons.mpr ⟨List.mem_cons_of_mem _ (List.mem_append_left _ (List.mem_of_getElem? (i := 4) rfl)), fun _ h => absurd h List.not_mem_nil⟩⟩⟩⟩) (by decide +kernel)) gw_X8_base_X4_readTape
theorem gw_X8_base_X8_become : GoodIn W_X8_base W_X8_become := fun w h => ⟨List.mem_cons_of_mem _ (List.mem_append_right _ (List.mem_append_right _ (List.mem_append_right _ (List.mem_append_right _ (List.mem_append_right _ (h)))))), (wI_X8_become w h).2⟩
theorem gc_X8_base_87_X8_become : GoodIn W_X8_base (wsV RX8 87 RX8 yX8_become W_X8_become) := goodIn_app (goodIn_sub (List.forall_mem_cons.mpr ⟨List.mem_cons_of_mem _ (List.mem_append_left _ (List.mem_of_getElem? (i := 8) rfl)), List.forall_mem_cons.mpr ⟨List.mem_cons_of_mem _ (List.mem_append_left _ (List.mem_of_getElem? (i := 9) rfl)), List.forall_mem_cons.mpr ⟨List.mem_cons_of_mem _ (List.mem_append_left _ (List.mem_of_getElem? (i := 10) rfl)), List.forall_mem_cons.mpr ⟨List.mem_cons_of_mem _ (List.mem_append_left _ (List.mem_of_getElem? (i := 11) rfl)), fun _ h => absurd h List.not_mem_nil⟩⟩⟩⟩) (by decide +kernel)) gw_X8_base_X8_become
theorem gw_X8_become_X2_asTold : GoodIn W_X8_become W_X2_asTold := fun w h => ⟨List.mem_cons_of_mem _ (List.mem_append_right _ (List.mem_append_right _ (List.mem_append_right _ (List.mem_append_right _ (h))))), (wI_X2_asTold w h).2⟩
theorem gc_X8_become_310_X2_asTold : GoodIn W_X8_become (wsV RX8 310 RX2 yX2_asTold W_X2_asTold) := goodIn_app (goodIn_sub (List.forall_mem_cons.mpr ⟨List.mem_cons_of_mem _ (List.mem_append_left _ (List.mem_of_getElem? (i := 11) rfl)), List.forall_mem_cons.mpr ⟨List.mem_cons_of_mem _ (List.mem_append_left _ (List.mem_of_getElem? (i := 12) rfl)), List.forall_mem_cons.mpr ⟨List.mem_cons_of_mem _ (List.mem_append_left _ (List.mem_of_getElem? (i := 13) rfl)), List.forall_mem_cons.mpr ⟨List.mem_cons_of_mem _ (List.mem_append_left _ (List.mem_of_getElem? (i := 14) rfl)), fun _ h => absurd h List.not_mem_nil⟩⟩⟩⟩) (by decide +kernel)) gw_X8_become_X2_asTold
theorem gw_X8_become_X0_copyOf : GoodIn W_X8_become W_X0_copyOf := fun w h => ⟨List.mem_cons_of_mem _ (List.mem_append_right _ (List.mem_append_right _ (List.mem_append_left _ (h)))), (wI_X0_copyOf w h).2⟩
theorem gc_X8_become_323_X0_copyOf : GoodIn W_X8_become (wsV RX8 323 RX0 yX0_copyOf W_X0_copyOf) := goodIn_app (goodIn_sub (List.forall_mem_cons.mpr ⟨List.mem_cons_of_mem _ (List.mem_append_left _ (List.mem_of_getElem? (i := 1) rfl)), List.forall_mem_cons.mpr ⟨List.mem_cons_of_mem _ (List.mem_append_left _ (List.mem_of_getElem? (i := 2) rfl)), List.forall_mem_cons.mpr ⟨List.mem_cons_of_mem _ (List.mem_append_left _ (List.mem_of_getElem? (i := 3) rfl)), List.forall_mem_cons.mpr ⟨List.mem_cons_of_mem _ (List.mem_append_left _ (List.mem_of_getElem? (i := 4) rfl)), fun _ h => absurd h List.not_mem_nil⟩⟩⟩⟩) (by decide +kernel)) gw_X8_become_X0_copyOf
theorem gw_X8_become_X6_load : GoodIn W_X8_become W_X6_load := fun w h => ⟨List.mem_cons_of_mem _ (List.mem_append_right _ (List.mem_append_right _ (List.mem_append_right _ (List.mem_append_left _ (h))))), (wI_X6_load w h).2⟩
theorem gc_X8_become_357_X6_load : GoodIn W_X8_become (wsV RX8 357 RX6 yX6_load W_X6_load) := goodIn_app (goodIn_sub (List.forall_mem_cons.mpr ⟨List.mem_cons_of_mem _ (List.mem_append_left _ (List.mem_of_getElem? (i := 6) rfl)), List.forall_mem_cons.mpr ⟨List.mem_cons_of_mem _ (List.mem_append_left _ (List.mem_of_getElem? (i := 7) rfl)), List.forall_mem_cons.mpr ⟨List.mem_cons_of_mem _ (List.mem_append_left _ (List.mem_of_getElem? (i := 8) rfl)), List.forall_mem_cons.mpr ⟨List.mem_cons_of_mem _ (List.mem_append_left _ (List.mem_of_getElem? (i := 9) rfl)), fun _ h => absurd h List.not_mem_nil⟩⟩⟩⟩) (by decide +kernel)) gw_X8_become_X6_load
theorem gw_X8_count_X8_slotsInUse : GoodIn W_X8_count W_X8_slotsInUse := fun w h => ⟨List.mem_cons_of_mem _ (List.mem_append_right _ (List.mem_append_right _ (List.mem_append_right _ (List.mem_append_right _ (h))))), (wI_X8_slotsInUse w h).2⟩
theorem gc_X8_count_319_X8_slotsInUse : GoodIn W_X8_count (wsV RX8 319 RX8 yX8_slotsInUse W_X8_slotsInUse) := goodIn_app (goodIn_sub (List.forall_mem_cons.mpr ⟨List.mem_cons_of_mem _ (List.mem_append_left _ (List.mem_of_getElem? (i := 11) rfl)), List.forall_mem_cons.mpr ⟨List.mem_cons_of_mem _ (List.mem_append_left _ (List.mem_of_getElem? (i := 12) rfl)), List.forall_mem_cons.mpr ⟨List.mem_cons_of_mem _ (List.mem_append_left _ (List.mem_of_getElem? (i := 13) rfl)), List.forall_mem_cons.mpr ⟨List.mem_cons_of_mem _ (List.mem_append_left _ (List.mem_of_getElem? (i := 14) rfl)), fun _ h => absurd h List.not_mem_nil⟩⟩⟩⟩) (by decide +kernel)) gw_X8_count_X8_slotsInUse
theorem gw_X8_feed_X7_put : GoodIn W_X8_feed W_X7_put := fun w h => ⟨List.mem_cons_of_mem _ (List.mem_append_right _ (List.mem_append_right _ (List.mem_append_right _ (h)))), (wI_X7_put w h).2⟩
theorem gc_X8_feed_79_X7_put : GoodIn W_X8_feed (wsV RX8 79 RX7 yX7_put W_X7_put) := goodIn_app (goodIn_sub (List.forall_mem_cons.mpr ⟨List.mem_cons_of_mem _ (List.mem_append_left _ (List.mem_of_getElem? (i := 2) rfl)), List.forall_mem_cons.mpr ⟨List.mem_cons_of_mem _ (List.mem_append_left _ (List.mem_of_getElem? (i := 3) rfl)), List.forall_mem_cons.mpr ⟨List.mem_cons_of_mem _ (List.mem_append_left _ (List.mem_of_getElem? (i := 4) rfl)), List.forall_mem_cons.mpr ⟨List.mem_cons_of_mem _ (List.mem_append_left _ (List.mem_of_getElem? (i := 5) rfl)), fun _ h => absurd h List.not_mem_nil⟩⟩⟩⟩) (by decide +kernel)) gw_X8_feed_X7_put
theorem gw_X8_image_X0_copyOf : GoodIn W_X8_image W_X0_copyOf := fun w h => ⟨List.mem_cons_of_mem _ (List.mem_append_right _ (List.mem_append_right _ (h))), (wI_X0_copyOf w h).2⟩
theorem gc_X8_image_323_X0_copyOf : GoodIn W_X8_image (wsV RX8 323 RX0 yX0_copyOf W_X0_copyOf) := goodIn_app (goodIn_sub (List.forall_mem_cons.mpr ⟨List.mem_cons_of_mem _ (List.mem_append_left _ (List.mem_of_getElem? (i := 2) rfl)), List.forall_mem_cons.mpr ⟨List.mem_cons_of_mem _ (List.mem_append_left _ (List.mem_of_getElem? (i := 3) rfl)), List.forall_mem_cons.mpr ⟨List.mem_cons_of_mem _ (List.mem_append_left _ (List.mem_of_getElem? (i := 4) rfl)), List.forall_mem_cons.mpr ⟨List.mem_cons_of_mem _ (List.mem_append_left _ (List.mem_of_getElem? (i := 5) rfl)), fun _ h => absurd h List.not_mem_nil⟩⟩⟩⟩) (by decide +kernel)) gw_X8_image_X0_copyOf
theorem gw_X8_paste_X8_noSlot : GoodIn W_X8_paste W_X8_noSlot := fun w h => ⟨List.mem_cons_of_mem _ (List.mem_append_right _ (List.mem_append_right _ (List.mem_append_right _ (List.mem_append_left _ (h))))), (wI_X8_noSlot w h).2⟩
theorem gc_X8_paste_326_X8_noSlot : GoodIn W_X8_paste (wsV RX8 326 RX8 yX8_noSlot W_X8_noSlot) := goodIn_app (goodIn_sub (List.forall_mem_cons.mpr ⟨List.mem_cons_of_mem _ (List.mem_append_left _ (List.mem_of_getElem? (i := 0) rfl)), List.forall_mem_cons.mpr ⟨List.mem_cons_of_mem _ (List.mem_append_left _ (List.mem_of_getElem? (i := 1) rfl)), List.forall_mem_cons.mpr ⟨List.mem_cons_of_mem _ (List.mem_append_left _ (List.mem_of_getElem? (i := 2) rfl)), List.forall_mem_cons.mpr ⟨List.mem_cons_of_mem _ (List.mem_append_left _ (List.mem_of_getElem? (i := 3) rfl)), fun _ h => absurd h List.not_mem_nil⟩⟩⟩⟩) (by decide +kernel)) gw_X8_paste_X8_noSlot
theorem gw_X8_row_X8_noSlot : GoodIn W_X8_row W_X8_noSlot := fun w h => ⟨List.mem_cons_of_mem _ (List.mem_append_right _ (List.mem_append_right _ (List.mem_append_left _ (h)))), (wI_X8_noSlot w h).2⟩
theorem gc_X8_row_326_X8_noSlot : GoodIn W_X8_row (wsV RX8 326 RX8 yX8_noSlot W_X8_noSlot) := goodIn_app (goodIn_sub (List.forall_mem_cons.mpr ⟨List.mem_cons_of_mem _ (List.mem_append_left _ (List.mem_of_getElem? (i := 0) rfl)), List.forall_mem_cons.mpr ⟨List.mem_cons_of_mem _ (List.mem_append_left _ (List.mem_of_getElem? (i := 1) rfl)), List.forall_mem_cons.mpr ⟨List.mem_cons_of_mem _ (List.mem_append_left _ (List.mem_of_getElem? (i := 2) rfl)), List.forall_mem_cons.mpr ⟨List.mem_cons_of_mem _ (List.mem_append_left _ (List.mem_of_getElem? (i := 3) rfl)), fun _ h => absurd h List.not_mem_nil⟩⟩⟩⟩) (by decide +kernel)) gw_X8_row_X8_noSlot
theorem gw_X8_row_X5_renew : GoodIn W_X8_row W_X5_renew := fun w h => ⟨List.mem_cons_of_mem _ (List.mem_append_right _ (List.mem_append_right _ (List.mem_append_right _ (h)))), (wI_X5_renew w h).2⟩
theorem gc_X8_row_329_X5_renew : GoodIn W_X8_row (wsV RX8 329 RX5 yX5_renew W_X5_renew) := goodIn_app (goodIn_sub (List.forall_mem_cons.mpr ⟨List.mem_cons_of_mem _ (List.mem_append_left _ (List.mem_of_getElem? (i := 5) rfl)), List.forall_mem_cons.mpr ⟨List.mem_cons_of_mem _ (List.mem_append_left _ (List.mem_of_getElem? (i := 6) rfl)), List.forall_mem_cons.mpr ⟨List.mem_cons_of_mem _ (List.mem_append_left _ (List.mem_of_getElem? (i := 7) rfl)), List.forall_mem_cons.mpr ⟨List.mem_cons_of_mem _ (List.mem_append_left _ (List.mem_of_getElem? (i := 8) rfl)), fun _ h => absurd h List.not_mem_nil⟩⟩⟩⟩) (by decide +kernel)) gw_X8_row_X5_renew
theorem gw_X8_write_X8_noSlot : GoodIn W_X8_write W_X8_noSlot := fun w h => ⟨List.mem_cons_of_mem _ (List.mem_append_right _ (List.mem_append_right _ (List.mem_append_right _ (List.mem_append_left _ (h))))), (wI_X8_noSlot w h).2⟩
theorem gc_X8_write_326_X8_noSlot : GoodIn W_X8_write (wsV RX8 326 RX8 yX8_noSlot W_X8_noSlot) := goodIn_app (goodIn_sub (List.forall_mem_cons.mpr ⟨List.mem_cons_of_mem _ (List.mem_append_left _ (List.mem_of_getElem? (i := 0) rfl)), List.forall_mem_cons.mpr ⟨List.mem_cons_of_mem _ (List.mem_append_left _ (List.mem_of_getElem? (i := 1) rfl)), List.forall_mem_cons.mpr ⟨List.mem_cons_of_mem _ (List.mem_append_left _ (List.mem_of_getElem? (i := 2) rfl)), List.forall_mem_cons.mpr ⟨List.mem_cons_of_mem _ (List.mem_append_left _ (List.mem_of_getElem? (i := 3) rfl)), fun _ h => absurd h List.not_mem_nil⟩⟩⟩⟩) (by decide +kernel)) gw_X8_write_X8_noSlot
