theorem dX6_cellsApart_0 : decode cX6_cellsApart 0 = .ok (.iconst 0, 1) := by decide +kernel
theorem dX6_cellsApart_1 : decode cX6_cellsApart 1 = .ok (.istore_n 3, 1) := by decide +kernel
theorem dX6_cellsApart_2 : decode cX6_cellsApart 2 = .ok (.iconst 0, 1) := by decide +kernel
theorem dX6_cellsApart_3 : decode cX6_cellsApart 3 = .ok (.istore 4, 2) := by decide +kernel
theorem dX6_cellsApart_5 : decode cX6_cellsApart 5 = .ok (.iload 4, 2) := by decide +kernel
theorem dX6_cellsApart_7 : decode cX6_cellsApart 7 = .ok (.aload_n 0, 1) := by decide +kernel
theorem dX6_cellsApart_8 : decode cX6_cellsApart 8 = .ok (.getfield 15, 3) := by decide +kernel
theorem dX6_cellsApart_11 : decode cX6_cellsApart 11 = .ok (.if_icmp .ge 29, 3) := by decide +kernel
theorem dX6_cellsApart_14 : decode cX6_cellsApart 14 = .ok (.aload_n 0, 1) := by decide +kernel
theorem dX6_cellsApart_15 : decode cX6_cellsApart 15 = .ok (.iload_n 1, 1) := by decide +kernel
theorem dX6_cellsApart_16 : decode cX6_cellsApart 16 = .ok (.iload 4, 2) := by decide +kernel
theorem dX6_cellsApart_18 : decode cX6_cellsApart 18 = .ok (.invokevirtual 76, 3) := by decide +kernel
theorem dX6_cellsApart_21 : decode cX6_cellsApart 21 = .ok (.aload_n 0, 1) := by decide +kernel
theorem dX6_cellsApart_22 : decode cX6_cellsApart 22 = .ok (.iload_n 2, 1) := by decide +kernel
theorem dX6_cellsApart_23 : decode cX6_cellsApart 23 = .ok (.iload 4, 2) := by decide +kernel
theorem dX6_cellsApart_25 : decode cX6_cellsApart 25 = .ok (.invokevirtual 76, 3) := by decide +kernel
theorem dX6_cellsApart_28 : decode cX6_cellsApart 28 = .ok (.if_icmp .eq 6, 3) := by decide +kernel
theorem dX6_cellsApart_31 : decode cX6_cellsApart 31 = .ok (.iinc 3 1, 3) := by decide +kernel
theorem dX6_cellsApart_34 : decode cX6_cellsApart 34 = .ok (.iinc 4 1, 3) := by decide +kernel
theorem dX6_cellsApart_37 : decode cX6_cellsApart 37 = .ok (.goto (-32), 3) := by decide +kernel
theorem dX6_cellsApart_40 : decode cX6_cellsApart 40 = .ok (.iload_n 3, 1) := by decide +kernel
theorem dX6_cellsApart_41 : decode cX6_cellsApart 41 = .ok (.ireturn, 1) := by decide +kernel
theorem dX6_digit_0 : decode cX6_digit 0 = .ok (.iload_n 1, 1) := by decide +kernel
theorem dX6_digit_1 : decode cX6_digit 1 = .ok (.ifCond .lt 9, 3) := by decide +kernel
theorem dX6_digit_4 : decode cX6_digit 4 = .ok (.iload_n 1, 1) := by decide +kernel
theorem dX6_digit_5 : decode cX6_digit 5 = .ok (.bipush 64, 2) := by decide +kernel
theorem dX6_digit_7 : decode cX6_digit 7 = .ok (.if_icmp .lt 5, 3) := by decide +kernel
theorem dX6_digit_10 : decode cX6_digit 10 = .ok (.iconst 0, 1) := by decide +kernel
theorem dX6_digit_11 : decode cX6_digit 11 = .ok (.ireturn, 1) := by decide +kernel
theorem dX6_digit_12 : decode cX6_digit 12 = .ok (.aload_n 0, 1) := by decide +kernel
theorem dX6_digit_13 : decode cX6_digit 13 = .ok (.getfield 29, 3) := by decide +kernel
theorem dX6_digit_16 : decode cX6_digit 16 = .ok (.iload_n 1, 1) := by decide +kernel
theorem dX6_digit_17 : decode cX6_digit 17 = .ok (.iaload, 1) := by decide +kernel
theorem dX6_digit_18 : decode cX6_digit 18 = .ok (.bipush 6, 2) := by decide +kernel
theorem dX6_digit_20 : decode cX6_digit 20 = .ok (.iload_n 2, 1) := by decide +kernel
theorem dX6_digit_21 : decode cX6_digit 21 = .ok (.imul, 1) := by decide +kernel
theorem dX6_digit_22 : decode cX6_digit 22 = .ok (.ishr, 1) := by decide +kernel
theorem dX6_digit_23 : decode cX6_digit 23 = .ok (.iconst 3, 1) := by decide +kernel
theorem dX6_digit_24 : decode cX6_digit 24 = .ok (.iand, 1) := by decide +kernel
theorem dX6_digit_25 : decode cX6_digit 25 = .ok (.ireturn, 1) := by decide +kernel
theorem dX6_holdersOf_0 : decode cX6_holdersOf 0 = .ok (.lconst 0, 1) := by decide +kernel
theorem dX6_holdersOf_1 : decode cX6_holdersOf 1 = .ok (.lstore_n 3, 1) := by decide +kernel
theorem dX6_holdersOf_2 : decode cX6_holdersOf 2 = .ok (.iconst 0, 1) := by decide +kernel
theorem dX6_holdersOf_3 : decode cX6_holdersOf 3 = .ok (.istore 5, 2) := by decide +kernel
theorem dX6_holdersOf_5 : decode cX6_holdersOf 5 = .ok (.iload 5, 2) := by decide +kernel
theorem dX6_holdersOf_7 : decode cX6_holdersOf 7 = .ok (.aload_n 0, 1) := by decide +kernel
theorem dX6_holdersOf_8 : decode cX6_holdersOf 8 = .ok (.getfield 9, 3) := by decide +kernel
theorem dX6_holdersOf_11 : decode cX6_holdersOf 11 = .ok (.if_icmp .ge 27, 3) := by decide +kernel
theorem dX6_holdersOf_14 : decode cX6_holdersOf 14 = .ok (.aload_n 0, 1) := by decide +kernel
theorem dX6_holdersOf_15 : decode cX6_holdersOf 15 = .ok (.aload_n 1, 1) := by decide +kernel
theorem dX6_holdersOf_16 : decode cX6_holdersOf 16 = .ok (.iload_n 2, 1) := by decide +kernel
theorem dX6_holdersOf_17 : decode cX6_holdersOf 17 = .ok (.iload 5, 2) := by decide +kernel
theorem dX6_holdersOf_19 : decode cX6_holdersOf 19 = .ok (.invokevirtual 72, 3) := by decide +kernel
theorem dX6_holdersOf_22 : decode cX6_holdersOf 22 = .ok (.ifCond .eq 10, 3) := by decide +kernel
theorem dX6_holdersOf_25 : decode cX6_holdersOf 25 = .ok (.lload_n 3, 1) := by decide +kernel
theorem dX6_holdersOf_26 : decode cX6_holdersOf 26 = .ok (.lconst 1, 1) := by decide +kernel
theorem dX6_holdersOf_27 : decode cX6_holdersOf 27 = .ok (.iload 5, 2) := by decide +kernel
theorem dX6_holdersOf_29 : decode cX6_holdersOf 29 = .ok (.lshl, 1) := by decide +kernel
theorem dX6_holdersOf_30 : decode cX6_holdersOf 30 = .ok (.lor, 1) := by decide +kernel
theorem dX6_holdersOf_31 : decode cX6_holdersOf 31 = .ok (.lstore_n 3, 1) := by decide +kernel
theorem dX6_holdersOf_32 : decode cX6_holdersOf 32 = .ok (.iinc 5 1, 3) := by decide +kernel
theorem dX6_holdersOf_35 : decode cX6_holdersOf 35 = .ok (.goto (-30), 3) := by decide +kernel
theorem dX6_holdersOf_38 : decode cX6_holdersOf 38 = .ok (.lload_n 3, 1) := by decide +kernel
theorem dX6_holdersOf_39 : decode cX6_holdersOf 39 = .ok (.lreturn, 1) := by decide +kernel
theorem dX6_holdsRow_0 : decode cX6_holdsRow 0 = .ok (.aload_n 0, 1) := by decide +kernel
theorem dX6_holdsRow_1 : decode cX6_holdsRow 1 = .ok (.iload_n 3, 1) := by decide +kernel
theorem dX6_holdsRow_2 : decode cX6_holdsRow 2 = .ok (.aload_n 1, 1) := by decide +kernel
theorem dX6_holdsRow_3 : decode cX6_holdsRow 3 = .ok (.iload_n 2, 1) := by decide +kernel
theorem dX6_holdsRow_4 : decode cX6_holdsRow 4 = .ok (.iconst 1, 1) := by decide +kernel
theorem dX6_holdsRow_5 : decode cX6_holdsRow 5 = .ok (.iadd, 1) := by decide +kernel
theorem dX6_holdsRow_6 : decode cX6_holdsRow 6 = .ok (.iaload, 1) := by decide +kernel
theorem dX6_holdsRow_7 : decode cX6_holdsRow 7 = .ok (.invokevirtual 76, 3) := by decide +kernel
theorem dX6_holdsRow_10 : decode cX6_holdsRow 10 = .ok (.istore 4, 2) := by decide +kernel
theorem dX6_holdsRow_12 : decode cX6_holdsRow 12 = .ok (.aload_n 1, 1) := by decide +kernel
theorem dX6_holdsRow_13 : decode cX6_holdsRow 13 = .ok (.iload_n 2, 1) := by decide +kernel
theorem dX6_holdsRow_14 : decode cX6_holdsRow 14 = .ok (.iconst 2, 1) := by decide +kernel
theorem dX6_holdsRow_15 : decode cX6_holdsRow 15 = .ok (.iadd, 1) := by decide +kernel
theorem dX6_holdsRow_16 : decode cX6_holdsRow 16 = .ok (.iaload, 1) := by decide +kernel
theorem dX6_holdsRow_17 : decode cX6_holdsRow 17 = .ok (.istore 5, 2) := by decide +kernel
theorem dX6_holdsRow_19 : decode cX6_holdsRow 19 = .ok (.aload_n 1, 1) := by decide +kernel
theorem dX6_holdsRow_20 : decode cX6_holdsRow 20 = .ok (.iload_n 2, 1) := by decide +kernel
theorem dX6_holdsRow_21 : decode cX6_holdsRow 21 = .ok (.iconst 3, 1) := by decide +kernel
theorem dX6_holdsRow_22 : decode cX6_holdsRow 22 = .ok (.iadd, 1) := by decide +kernel
theorem dX6_holdsRow_23 : decode cX6_holdsRow 23 = .ok (.iaload, 1) := by decide +kernel
theorem dX6_holdsRow_24 : decode cX6_holdsRow 24 = .ok (.istore 6, 2) := by decide +kernel
theorem dX6_holdsRow_26 : decode cX6_holdsRow 26 = .ok (.aload_n 1, 1) := by decide +kernel
theorem dX6_holdsRow_27 : decode cX6_holdsRow 27 = .ok (.iload_n 2, 1) := by decide +kernel
theorem dX6_holdsRow_28 : decode cX6_holdsRow 28 = .ok (.iaload, 1) := by decide +kernel
theorem dX6_holdsRow_29 : decode cX6_holdsRow 29 = .ok (.tableswitch 118 0 4 #[35, 48, 61, 79, 100], 35) := by decide +kernel
theorem dX6_holdsRow_64 : decode cX6_holdsRow 64 = .ok (.iload 4, 2) := by decide +kernel
theorem dX6_holdsRow_66 : decode cX6_holdsRow 66 = .ok (.iload 5, 2) := by decide +kernel
theorem dX6_holdsRow_68 : decode cX6_holdsRow 68 = .ok (.if_icmp .gt 7, 3) := by decide +kernel
theorem dX6_holdsRow_71 : decode cX6_holdsRow 71 = .ok (.iconst 1, 1) := by decide +kernel
theorem dX6_holdsRow_72 : decode cX6_holdsRow 72 = .ok (.goto 4, 3) := by decide +kernel
theorem dX6_holdsRow_75 : decode cX6_holdsRow 75 = .ok (.iconst 0, 1) := by decide +kernel
theorem dX6_holdsRow_76 : decode cX6_holdsRow 76 = .ok (.ireturn, 1) := by decide +kernel
theorem dX6_holdsRow_77 : decode cX6_holdsRow 77 = .ok (.iload 4, 2) := by decide +kernel
theorem dX6_holdsRow_79 : decode cX6_holdsRow 79 = .ok (.iload 5, 2) := by decide +kernel
theorem dX6_holdsRow_81 : decode cX6_holdsRow 81 = .ok (.if_icmp .lt 7, 3) := by decide +kernel
theorem dX6_holdsRow_84 : decode cX6_holdsRow 84 = .ok (.iconst 1, 1) := by decide +kernel
theorem dX6_holdsRow_85 : decode cX6_holdsRow 85 = .ok (.goto 4, 3) := by decide +kernel
theorem dX6_holdsRow_88 : decode cX6_holdsRow 88 = .ok (.iconst 0, 1) := by decide +kernel
theorem dX6_holdsRow_89 : decode cX6_holdsRow 89 = .ok (.ireturn, 1) := by decide +kernel
theorem dX6_holdsRow_90 : decode cX6_holdsRow 90 = .ok (.iload 4, 2) := by decide +kernel
theorem dX6_holdsRow_92 : decode cX6_holdsRow 92 = .ok (.aload_n 0, 1) := by decide +kernel
theorem dX6_holdsRow_93 : decode cX6_holdsRow 93 = .ok (.iload_n 3, 1) := by decide +kernel
theorem dX6_holdsRow_94 : decode cX6_holdsRow 94 = .ok (.iload 5, 2) := by decide +kernel
theorem dX6_holdsRow_96 : decode cX6_holdsRow 96 = .ok (.invokevirtual 76, 3) := by decide +kernel
theorem dX6_holdsRow_99 : decode cX6_holdsRow 99 = .ok (.if_icmp .eq 7, 3) := by decide +kernel
theorem dX6_holdsRow_102 : decode cX6_holdsRow 102 = .ok (.iconst 1, 1) := by decide +kernel
theorem dX6_holdsRow_103 : decode cX6_holdsRow 103 = .ok (.goto 4, 3) := by decide +kernel
theorem dX6_holdsRow_106 : decode cX6_holdsRow 106 = .ok (.iconst 0, 1) := by decide +kernel
theorem dX6_holdsRow_107 : decode cX6_holdsRow 107 = .ok (.ireturn, 1) := by decide +kernel
theorem dX6_holdsRow_108 : decode cX6_holdsRow 108 = .ok (.iload 4, 2) := by decide +kernel
theorem dX6_holdsRow_110 : decode cX6_holdsRow 110 = .ok (.aload_n 0, 1) := by decide +kernel
theorem dX6_holdsRow_111 : decode cX6_holdsRow 111 = .ok (.iload_n 3, 1) := by decide +kernel
theorem dX6_holdsRow_112 : decode cX6_holdsRow 112 = .ok (.iload 5, 2) := by decide +kernel
theorem dX6_holdsRow_114 : decode cX6_holdsRow 114 = .ok (.invokevirtual 76, 3) := by decide +kernel
theorem dX6_holdsRow_117 : decode cX6_holdsRow 117 = .ok (.iadd, 1) := by decide +kernel
theorem dX6_holdsRow_118 : decode cX6_holdsRow 118 = .ok (.iload 6, 2) := by decide +kernel
theorem dX6_holdsRow_120 : decode cX6_holdsRow 120 = .ok (.if_icmp .gt 7, 3) := by decide +kernel
theorem dX6_holdsRow_123 : decode cX6_holdsRow 123 = .ok (.iconst 1, 1) := by decide +kernel
theorem dX6_holdsRow_124 : decode cX6_holdsRow 124 = .ok (.goto 4, 3) := by decide +kernel
theorem dX6_holdsRow_127 : decode cX6_holdsRow 127 = .ok (.iconst 0, 1) := by decide +kernel
theorem dX6_holdsRow_128 : decode cX6_holdsRow 128 = .ok (.ireturn, 1) := by decide +kernel
theorem dX6_holdsRow_129 : decode cX6_holdsRow 129 = .ok (.iload 4, 2) := by decide +kernel
theorem dX6_holdsRow_131 : decode cX6_holdsRow 131 = .ok (.aload_n 0, 1) := by decide +kernel
theorem dX6_holdsRow_132 : decode cX6_holdsRow 132 = .ok (.iload_n 3, 1) := by decide +kernel
theorem dX6_holdsRow_133 : decode cX6_holdsRow 133 = .ok (.iload 5, 2) := by decide +kernel
theorem dX6_holdsRow_135 : decode cX6_holdsRow 135 = .ok (.invokevirtual 76, 3) := by decide +kernel
theorem dX6_holdsRow_138 : decode cX6_holdsRow 138 = .ok (.if_icmp .gt 7, 3) := by decide +kernel
theorem dX6_holdsRow_141 : decode cX6_holdsRow 141 = .ok (.iconst 1, 1) := by decide +kernel
theorem dX6_holdsRow_142 : decode cX6_holdsRow 142 = .ok (.goto 4, 3) := by decide +kernel
theorem dX6_holdsRow_145 : decode cX6_holdsRow 145 = .ok (.iconst 0, 1) := by decide +kernel
theorem dX6_holdsRow_146 : decode cX6_holdsRow 146 = .ok (.ireturn, 1) := by decide +kernel
theorem dX6_holdsRow_147 : decode cX6_holdsRow 147 = .ok (.iload 4, 2) := by decide +kernel
theorem dX6_holdsRow_149 : decode cX6_holdsRow 149 = .ok (.iload 5, 2) := by decide +kernel
theorem dX6_holdsRow_151 : decode cX6_holdsRow 151 = .ok (.if_icmp .lt 18, 3) := by decide +kernel
theorem dX6_holdsRow_154 : decode cX6_holdsRow 154 = .ok (.aload_n 0, 1) := by decide +kernel
theorem dX6_holdsRow_155 : decode cX6_holdsRow 155 = .ok (.iload_n 3, 1) := by decide +kernel
theorem dX6_holdsRow_156 : decode cX6_holdsRow 156 = .ok (.iload 6, 2) := by decide +kernel
theorem dX6_holdsRow_158 : decode cX6_holdsRow 158 = .ok (.invokevirtual 76, 3) := by decide +kernel
theorem dX6_holdsRow_161 : decode cX6_holdsRow 161 = .ok (.aload_n 1, 1) := by decide +kernel
theorem dX6_holdsRow_162 : decode cX6_holdsRow 162 = .ok (.iload_n 2, 1) := by decide +kernel
theorem dX6_holdsRow_163 : decode cX6_holdsRow 163 = .ok (.iconst 4, 1) := by decide +kernel
theorem dX6_holdsRow_164 : decode cX6_holdsRow 164 = .ok (.iadd, 1) := by decide +kernel
theorem dX6_holdsRow_165 : decode cX6_holdsRow 165 = .ok (.iaload, 1) := by decide +kernel
theorem dX6_holdsRow_166 : decode cX6_holdsRow 166 = .ok (.if_icmp .lt 7, 3) := by decide +kernel
theorem dX6_holdsRow_169 : decode cX6_holdsRow 169 = .ok (.iconst 1, 1) := by decide +kernel
theorem dX6_holdsRow_170 : decode cX6_holdsRow 170 = .ok (.goto 4, 3) := by decide +kernel
theorem dX6_holdsRow_173 : decode cX6_holdsRow 173 = .ok (.iconst 0, 1) := by decide +kernel
theorem dX6_holdsRow_174 : decode cX6_holdsRow 174 = .ok (.ireturn, 1) := by decide +kernel
theorem dX6_load_0 : decode cX6_load 0 = .ok (.aload_n 0, 1) := by decide +kernel
theorem dX6_load_1 : decode cX6_load 1 = .ok (.iconst 0, 1) := by decide +kernel
theorem dX6_load_2 : decode cX6_load 2 = .ok (.putfield 9, 3) := by decide +kernel
theorem dX6_load_5 : decode cX6_load 5 = .ok (.aload_n 0, 1) := by decide +kernel
theorem dX6_load_6 : decode cX6_load 6 = .ok (.lconst 0, 1) := by decide +kernel
theorem dX6_load_7 : decode cX6_load 7 = .ok (.putfield 21, 3) := by decide +kernel
theorem dX6_load_10 : decode cX6_load 10 = .ok (.aload_n 0, 1) := by decide +kernel
theorem dX6_load_11 : decode cX6_load 11 = .ok (.aload_n 1, 1) := by decide +kernel
theorem dX6_load_12 : decode cX6_load 12 = .ok (.getfield 39, 3) := by decide +kernel
theorem dX6_load_15 : decode cX6_load 15 = .ok (.putfield 15, 3) := by decide +kernel
theorem dX6_load_18 : decode cX6_load 18 = .ok (.aload_n 0, 1) := by decide +kernel
theorem dX6_load_19 : decode cX6_load 19 = .ok (.aload_n 1, 1) := by decide +kernel
theorem dX6_load_20 : decode cX6_load 20 = .ok (.getfield 42, 3) := by decide +kernel
theorem dX6_load_23 : decode cX6_load 23 = .ok (.putfield 18, 3) := by decide +kernel
theorem dX6_load_26 : decode cX6_load 26 = .ok (.aload_n 1, 1) := by decide +kernel
theorem dX6_load_27 : decode cX6_load 27 = .ok (.getfield 43, 3) := by decide +kernel
theorem dX6_load_30 : decode cX6_load 30 = .ok (.ifCond .eq 11, 3) := by decide +kernel
theorem dX6_load_33 : decode cX6_load 33 = .ok (.aload_n 0, 1) := by decide +kernel
theorem dX6_load_34 : decode cX6_load 34 = .ok (.getfield 18, 3) := by decide +kernel
theorem dX6_load_37 : decode cX6_load 37 = .ok (.iconst 1, 1) := by decide +kernel
theorem dX6_load_38 : decode cX6_load 38 = .ok (.if_icmp .ge 4, 3) := by decide +kernel
theorem dX6_load_41 : decode cX6_load 41 = .ok (.return_, 1) := by decide +kernel
theorem dX6_load_42 : decode cX6_load 42 = .ok (.iconst 1, 1) := by decide +kernel
theorem dX6_load_43 : decode cX6_load 43 = .ok (.istore_n 2, 1) := by decide +kernel
theorem dX6_load_44 : decode cX6_load 44 = .ok (.iconst 0, 1) := by decide +kernel
theorem dX6_load_45 : decode cX6_load 45 = .ok (.istore_n 3, 1) := by decide +kernel
theorem dX6_load_46 : decode cX6_load 46 = .ok (.iload_n 3, 1) := by decide +kernel
theorem dX6_load_47 : decode cX6_load 47 = .ok (.aload_n 0, 1) := by decide +kernel
theorem dX6_load_48 : decode cX6_load 48 = .ok (.getfield 15, 3) := by decide +kernel
theorem dX6_load_51 : decode cX6_load 51 = .ok (.if_icmp .ge 25, 3) := by decide +kernel
theorem dX6_load_54 : decode cX6_load 54 = .ok (.aload_n 0, 1) := by decide +kernel
theorem dX6_load_55 : decode cX6_load 55 = .ok (.getfield 25, 3) := by decide +kernel
theorem dX6_load_58 : decode cX6_load 58 = .ok (.iload_n 3, 1) := by decide +kernel
theorem dX6_load_59 : decode cX6_load 59 = .ok (.iload_n 2, 1) := by decide +kernel
theorem dX6_load_60 : decode cX6_load 60 = .ok (.iastore, 1) := by decide +kernel
theorem dX6_load_61 : decode cX6_load 61 = .ok (.iload_n 2, 1) := by decide +kernel
theorem dX6_load_62 : decode cX6_load 62 = .ok (.aload_n 0, 1) := by decide +kernel
theorem dX6_load_63 : decode cX6_load 63 = .ok (.getfield 18, 3) := by decide +kernel
theorem dX6_load_66 : decode cX6_load 66 = .ok (.iconst 1, 1) := by decide +kernel
theorem dX6_load_67 : decode cX6_load 67 = .ok (.iadd, 1) := by decide +kernel
theorem dX6_load_68 : decode cX6_load 68 = .ok (.imul, 1) := by decide +kernel
theorem dX6_load_69 : decode cX6_load 69 = .ok (.istore_n 2, 1) := by decide +kernel
theorem dX6_load_70 : decode cX6_load 70 = .ok (.iinc 3 1, 3) := by decide +kernel
theorem dX6_load_73 : decode cX6_load 73 = .ok (.goto (-27), 3) := by decide +kernel
theorem dX6_load_76 : decode cX6_load 76 = .ok (.aload_n 0, 1) := by decide +kernel
theorem dX6_load_77 : decode cX6_load 77 = .ok (.iload_n 2, 1) := by decide +kernel
theorem dX6_load_78 : decode cX6_load 78 = .ok (.putfield 9, 3) := by decide +kernel
theorem dX6_load_81 : decode cX6_load 81 = .ok (.aload_n 0, 1) := by decide +kernel
theorem dX6_load_82 : decode cX6_load 82 = .ok (.aload_n 0, 1) := by decide +kernel
theorem dX6_load_83 : decode cX6_load 83 = .ok (.getfield 9, 3) := by decide +kernel
theorem dX6_load_86 : decode cX6_load 86 = .ok (.bipush 64, 2) := by decide +kernel
theorem dX6_load_88 : decode cX6_load 88 = .ok (.if_icmp .lt 9, 3) := by decide +kernel
theorem dX6_load_91 : decode cX6_load 91 = .ok (.ldc2_w 46, 3) := by decide +kernel
theorem dX6_load_94 : decode cX6_load 94 = .ok (.goto 11, 3) := by decide +kernel
theorem dX6_load_97 : decode cX6_load 97 = .ok (.lconst 1, 1) := by decide +kernel
theorem dX6_load_98 : decode cX6_load 98 = .ok (.aload_n 0, 1) := by decide +kernel
theorem dX6_load_99 : decode cX6_load 99 = .ok (.getfield 9, 3) := by decide +kernel
theorem dX6_load_102 : decode cX6_load 102 = .ok (.lshl, 1) := by decide +kernel
theorem dX6_load_103 : decode cX6_load 103 = .ok (.lconst 1, 1) := by decide +kernel
theorem dX6_load_104 : decode cX6_load 104 = .ok (.lsub, 1) := by decide +kernel
theorem dX6_load_105 : decode cX6_load 105 = .ok (.putfield 21, 3) := by decide +kernel
theorem dX6_load_108 : decode cX6_load 108 = .ok (.iconst 0, 1) := by decide +kernel
theorem dX6_load_109 : decode cX6_load 109 = .ok (.istore_n 3, 1) := by decide +kernel
theorem dX6_load_110 : decode cX6_load 110 = .ok (.iload_n 3, 1) := by decide +kernel
theorem dX6_load_111 : decode cX6_load 111 = .ok (.aload_n 0, 1) := by decide +kernel
theorem dX6_load_112 : decode cX6_load 112 = .ok (.getfield 9, 3) := by decide +kernel
theorem dX6_load_115 : decode cX6_load 115 = .ok (.if_icmp .ge 20, 3) := by decide +kernel
theorem dX6_load_118 : decode cX6_load 118 = .ok (.aload_n 0, 1) := by decide +kernel
theorem dX6_load_119 : decode cX6_load 119 = .ok (.getfield 29, 3) := by decide +kernel
theorem dX6_load_122 : decode cX6_load 122 = .ok (.iload_n 3, 1) := by decide +kernel
theorem dX6_load_123 : decode cX6_load 123 = .ok (.aload_n 0, 1) := by decide +kernel
theorem dX6_load_124 : decode cX6_load 124 = .ok (.iload_n 3, 1) := by decide +kernel
theorem dX6_load_125 : decode cX6_load 125 = .ok (.invokevirtual 48, 3) := by decide +kernel
theorem dX6_load_128 : decode cX6_load 128 = .ok (.iastore, 1) := by decide +kernel
theorem dX6_load_129 : decode cX6_load 129 = .ok (.iinc 3 1, 3) := by decide +kernel
theorem dX6_load_132 : decode cX6_load 132 = .ok (.goto (-22), 3) := by decide +kernel
theorem dX6_load_135 : decode cX6_load 135 = .ok (.iconst 0, 1) := by decide +kernel
theorem dX6_load_136 : decode cX6_load 136 = .ok (.istore_n 3, 1) := by decide +kernel
theorem dX6_load_137 : decode cX6_load 137 = .ok (.iload_n 3, 1) := by decide +kernel
theorem dX6_load_138 : decode cX6_load 138 = .ok (.aload_n 1, 1) := by decide +kernel
theorem dX6_load_139 : decode cX6_load 139 = .ok (.getfield 52, 3) := by decide +kernel
theorem dX6_load_142 : decode cX6_load 142 = .ok (.if_icmp .ge 26, 3) := by decide +kernel
theorem dX6_load_145 : decode cX6_load 145 = .ok (.aload_n 0, 1) := by decide +kernel
theorem dX6_load_146 : decode cX6_load 146 = .ok (.getfield 32, 3) := by decide +kernel
theorem dX6_load_149 : decode cX6_load 149 = .ok (.iload_n 3, 1) := by decide +kernel
theorem dX6_load_150 : decode cX6_load 150 = .ok (.aload_n 0, 1) := by decide +kernel
theorem dX6_load_151 : decode cX6_load 151 = .ok (.aload_n 1, 1) := by decide +kernel
theorem dX6_load_152 : decode cX6_load 152 = .ok (.getfield 55, 3) := by decide +kernel
theorem dX6_load_155 : decode cX6_load 155 = .ok (.iload_n 3, 1) := by decide +kernel
theorem dX6_load_156 : decode cX6_load 156 = .ok (.iconst 5, 1) := by decide +kernel
theorem dX6_load_157 : decode cX6_load 157 = .ok (.imul, 1) := by decide +kernel
theorem dX6_load_158 : decode cX6_load 158 = .ok (.invokevirtual 58, 3) := by decide +kernel
theorem dX6_load_161 : decode cX6_load 161 = .ok (.lastore, 1) := by decide +kernel
theorem dX6_load_162 : decode cX6_load 162 = .ok (.iinc 3 1, 3) := by decide +kernel
theorem dX6_load_165 : decode cX6_load 165 = .ok (.goto (-28), 3) := by decide +kernel
theorem dX6_load_168 : decode cX6_load 168 = .ok (.iconst 0, 1) := by decide +kernel
theorem dX6_load_169 : decode cX6_load 169 = .ok (.istore_n 3, 1) := by decide +kernel
theorem dX6_load_170 : decode cX6_load 170 = .ok (.iload_n 3, 1) := by decide +kernel
theorem dX6_load_171 : decode cX6_load 171 = .ok (.aload_n 1, 1) := by decide +kernel
theorem dX6_load_172 : decode cX6_load 172 = .ok (.getfield 62, 3) := by decide +kernel
theorem dX6_load_175 : decode cX6_load 175 = .ok (.if_icmp .ge 52, 3) := by decide +kernel
theorem dX6_load_178 : decode cX6_load 178 = .ok (.iconst 0, 1) := by decide +kernel
theorem dX6_load_179 : decode cX6_load 179 = .ok (.istore 4, 2) := by decide +kernel
theorem dX6_load_181 : decode cX6_load 181 = .ok (.iload 4, 2) := by decide +kernel
theorem dX6_load_183 : decode cX6_load 183 = .ok (.aload_n 0, 1) := by decide +kernel
theorem dX6_load_184 : decode cX6_load 184 = .ok (.getfield 9, 3) := by decide +kernel
theorem dX6_load_187 : decode cX6_load 187 = .ok (.if_icmp .ge 34, 3) := by decide +kernel
theorem dX6_load_190 : decode cX6_load 190 = .ok (.aload_n 0, 1) := by decide +kernel
theorem dX6_load_191 : decode cX6_load 191 = .ok (.getfield 36, 3) := by decide +kernel
theorem dX6_load_194 : decode cX6_load 194 = .ok (.iload_n 3, 1) := by decide +kernel
theorem dX6_load_195 : decode cX6_load 195 = .ok (.bipush 64, 2) := by decide +kernel
theorem dX6_load_197 : decode cX6_load 197 = .ok (.imul, 1) := by decide +kernel
theorem dX6_load_198 : decode cX6_load 198 = .ok (.iload 4, 2) := by decide +kernel
theorem dX6_load_200 : decode cX6_load 200 = .ok (.iadd, 1) := by decide +kernel
theorem dX6_load_201 : decode cX6_load 201 = .ok (.aload_n 0, 1) := by decide +kernel
theorem dX6_load_202 : decode cX6_load 202 = .ok (.aload_n 1, 1) := by decide +kernel
theorem dX6_load_203 : decode cX6_load 203 = .ok (.getfield 65, 3) := by decide +kernel
theorem dX6_load_206 : decode cX6_load 206 = .ok (.iload_n 3, 1) := by decide +kernel
theorem dX6_load_207 : decode cX6_load 207 = .ok (.iconst 4, 1) := by decide +kernel
theorem dX6_load_208 : decode cX6_load 208 = .ok (.imul, 1) := by decide +kernel
theorem dX6_load_209 : decode cX6_load 209 = .ok (.iload 4, 2) := by decide +kernel
theorem dX6_load_211 : decode cX6_load 211 = .ok (.invokevirtual 68, 3) := by decide +kernel
theorem dX6_load_214 : decode cX6_load 214 = .ok (.iastore, 1) := by decide +kernel
theorem dX6_load_215 : decode cX6_load 215 = .ok (.iinc 4 1, 3) := by decide +kernel
theorem dX6_load_218 : decode cX6_load 218 = .ok (.goto (-37), 3) := by decide +kernel
theorem dX6_load_221 : decode cX6_load 221 = .ok (.iinc 3 1, 3) := by decide +kernel
theorem dX6_load_224 : decode cX6_load 224 = .ok (.goto (-54), 3) := by decide +kernel
theorem dX6_load_227 : decode cX6_load 227 = .ok (.return_, 1) := by decide +kernel
theorem dX6_packedOf_0 : decode cX6_packedOf 0 = .ok (.iconst 0, 1) := by decide +kernel
theorem dX6_packedOf_1 : decode cX6_packedOf 1 = .ok (.istore_n 2, 1) := by decide +kernel
theorem dX6_packedOf_2 : decode cX6_packedOf 2 = .ok (.iload_n 1, 1) := by decide +kernel
theorem dX6_packedOf_3 : decode cX6_packedOf 3 = .ok (.istore_n 3, 1) := by decide +kernel
theorem dX6_packedOf_4 : decode cX6_packedOf 4 = .ok (.iconst 0, 1) := by decide +kernel
theorem dX6_packedOf_5 : decode cX6_packedOf 5 = .ok (.istore 4, 2) := by decide +kernel
theorem dX6_packedOf_7 : decode cX6_packedOf 7 = .ok (.iload 4, 2) := by decide +kernel
theorem dX6_packedOf_9 : decode cX6_packedOf 9 = .ok (.aload_n 0, 1) := by decide +kernel
theorem dX6_packedOf_10 : decode cX6_packedOf 10 = .ok (.getfield 15, 3) := by decide +kernel
theorem dX6_packedOf_13 : decode cX6_packedOf 13 = .ok (.if_icmp .ge 35, 3) := by decide +kernel
theorem dX6_packedOf_16 : decode cX6_packedOf 16 = .ok (.iload_n 2, 1) := by decide +kernel
theorem dX6_packedOf_17 : decode cX6_packedOf 17 = .ok (.iload_n 3, 1) := by decide +kernel
theorem dX6_packedOf_18 : decode cX6_packedOf 18 = .ok (.aload_n 0, 1) := by decide +kernel
theorem dX6_packedOf_19 : decode cX6_packedOf 19 = .ok (.getfield 18, 3) := by decide +kernel
theorem dX6_packedOf_22 : decode cX6_packedOf 22 = .ok (.iconst 1, 1) := by decide +kernel
theorem dX6_packedOf_23 : decode cX6_packedOf 23 = .ok (.iadd, 1) := by decide +kernel
theorem dX6_packedOf_24 : decode cX6_packedOf 24 = .ok (.irem, 1) := by decide +kernel
theorem dX6_packedOf_25 : decode cX6_packedOf 25 = .ok (.bipush 6, 2) := by decide +kernel
theorem dX6_packedOf_27 : decode cX6_packedOf 27 = .ok (.iload 4, 2) := by decide +kernel
theorem dX6_packedOf_29 : decode cX6_packedOf 29 = .ok (.imul, 1) := by decide +kernel
theorem dX6_packedOf_30 : decode cX6_packedOf 30 = .ok (.ishl, 1) := by decide +kernel
theorem dX6_packedOf_31 : decode cX6_packedOf 31 = .ok (.ior, 1) := by decide +kernel
theorem dX6_packedOf_32 : decode cX6_packedOf 32 = .ok (.istore_n 2, 1) := by decide +kernel
theorem dX6_packedOf_33 : decode cX6_packedOf 33 = .ok (.iload_n 3, 1) := by decide +kernel
theorem dX6_packedOf_34 : decode cX6_packedOf 34 = .ok (.aload_n 0, 1) := by decide +kernel
theorem dX6_packedOf_35 : decode cX6_packedOf 35 = .ok (.getfield 18, 3) := by decide +kernel
theorem dX6_packedOf_38 : decode cX6_packedOf 38 = .ok (.iconst 1, 1) := by decide +kernel
theorem dX6_packedOf_39 : decode cX6_packedOf 39 = .ok (.iadd, 1) := by decide +kernel
theorem dX6_packedOf_40 : decode cX6_packedOf 40 = .ok (.idiv, 1) := by decide +kernel
theorem dX6_packedOf_41 : decode cX6_packedOf 41 = .ok (.istore_n 3, 1) := by decide +kernel
theorem dX6_packedOf_42 : decode cX6_packedOf 42 = .ok (.iinc 4 1, 3) := by decide +kernel
theorem dX6_packedOf_45 : decode cX6_packedOf 45 = .ok (.goto (-38), 3) := by decide +kernel
theorem dX6_packedOf_48 : decode cX6_packedOf 48 = .ok (.iload_n 2, 1) := by decide +kernel
theorem dX6_packedOf_49 : decode cX6_packedOf 49 = .ok (.ireturn, 1) := by decide +kernel
theorem dX6_resultOf_0 : decode cX6_resultOf 0 = .ok (.aload_n 1, 1) := by decide +kernel
theorem dX6_resultOf_1 : decode cX6_resultOf 1 = .ok (.iload_n 2, 1) := by decide +kernel
theorem dX6_resultOf_2 : decode cX6_resultOf 2 = .ok (.iconst 1, 1) := by decide +kernel
theorem dX6_resultOf_3 : decode cX6_resultOf 3 = .ok (.iadd, 1) := by decide +kernel
theorem dX6_resultOf_4 : decode cX6_resultOf 4 = .ok (.iaload, 1) := by decide +kernel
theorem dX6_resultOf_5 : decode cX6_resultOf 5 = .ok (.istore 4, 2) := by decide +kernel
theorem dX6_resultOf_7 : decode cX6_resultOf 7 = .ok (.aload_n 1, 1) := by decide +kernel
theorem dX6_resultOf_8 : decode cX6_resultOf 8 = .ok (.iload_n 2, 1) := by decide +kernel
theorem dX6_resultOf_9 : decode cX6_resultOf 9 = .ok (.iconst 2, 1) := by decide +kernel
theorem dX6_resultOf_10 : decode cX6_resultOf 10 = .ok (.iadd, 1) := by decide +kernel
theorem dX6_resultOf_11 : decode cX6_resultOf 11 = .ok (.iaload, 1) := by decide +kernel
theorem dX6_resultOf_12 : decode cX6_resultOf 12 = .ok (.istore 5, 2) := by decide +kernel
theorem dX6_resultOf_14 : decode cX6_resultOf 14 = .ok (.aload_n 1, 1) := by decide +kernel
theorem dX6_resultOf_15 : decode cX6_resultOf 15 = .ok (.iload_n 2, 1) := by decide +kernel
theorem dX6_resultOf_16 : decode cX6_resultOf 16 = .ok (.iaload, 1) := by decide +kernel
theorem dX6_resultOf_17 : decode cX6_resultOf 17 = .ok (.tableswitch 66 0 2 #[27, 37, 48], 27) := by decide +kernel
theorem dX6_resultOf_44 : decode cX6_resultOf 44 = .ok (.aload_n 0, 1) := by decide +kernel
theorem dX6_resultOf_45 : decode cX6_resultOf 45 = .ok (.iload_n 3, 1) := by decide +kernel
theorem dX6_resultOf_46 : decode cX6_resultOf 46 = .ok (.iload 4, 2) := by decide +kernel
theorem dX6_resultOf_48 : decode cX6_resultOf 48 = .ok (.iload 5, 2) := by decide +kernel
theorem dX6_resultOf_50 : decode cX6_resultOf 50 = .ok (.invokevirtual 80, 3) := by decide +kernel
theorem dX6_resultOf_53 : decode cX6_resultOf 53 = .ok (.ireturn, 1) := by decide +kernel
theorem dX6_resultOf_54 : decode cX6_resultOf 54 = .ok (.aload_n 0, 1) := by decide +kernel
theorem dX6_resultOf_55 : decode cX6_resultOf 55 = .ok (.iload_n 3, 1) := by decide +kernel
theorem dX6_resultOf_56 : decode cX6_resultOf 56 = .ok (.iload 4, 2) := by decide +kernel
theorem dX6_resultOf_58 : decode cX6_resultOf 58 = .ok (.iload 5, 2) := by decide +kernel
theorem dX6_resultOf_60 : decode cX6_resultOf 60 = .ok (.ineg, 1) := by decide +kernel
theorem dX6_resultOf_61 : decode cX6_resultOf 61 = .ok (.invokevirtual 80, 3) := by decide +kernel
theorem dX6_resultOf_64 : decode cX6_resultOf 64 = .ok (.ireturn, 1) := by decide +kernel
theorem dX6_resultOf_65 : decode cX6_resultOf 65 = .ok (.aload_n 0, 1) := by decide +kernel
theorem dX6_resultOf_66 : decode cX6_resultOf 66 = .ok (.iload_n 3, 1) := by decide +kernel
theorem dX6_resultOf_67 : decode cX6_resultOf 67 = .ok (.iload 4, 2) := by decide +kernel
theorem dX6_resultOf_69 : decode cX6_resultOf 69 = .ok (.iload 5, 2) := by decide +kernel
theorem dX6_resultOf_71 : decode cX6_resultOf 71 = .ok (.aload_n 0, 1) := by decide +kernel
theorem dX6_resultOf_72 : decode cX6_resultOf 72 = .ok (.iload_n 3, 1) := by decide +kernel
theorem dX6_resultOf_73 : decode cX6_resultOf 73 = .ok (.iload 4, 2) := by decide +kernel
theorem dX6_resultOf_75 : decode cX6_resultOf 75 = .ok (.invokevirtual 76, 3) := by decide +kernel
theorem dX6_resultOf_78 : decode cX6_resultOf 78 = .ok (.isub, 1) := by decide +kernel
theorem dX6_resultOf_79 : decode cX6_resultOf 79 = .ok (.invokevirtual 80, 3) := by decide +kernel
theorem dX6_resultOf_82 : decode cX6_resultOf 82 = .ok (.ireturn, 1) := by decide +kernel
theorem dX6_resultOf_83 : decode cX6_resultOf 83 = .ok (.aload_n 0, 1) := by decide +kernel
theorem dX6_resultOf_84 : decode cX6_resultOf 84 = .ok (.iload_n 3, 1) := by decide +kernel
theorem dX6_resultOf_85 : decode cX6_resultOf 85 = .ok (.iload 4, 2) := by decide +kernel
theorem dX6_resultOf_87 : decode cX6_resultOf 87 = .ok (.aload_n 1, 1) := by decide +kernel
theorem dX6_resultOf_88 : decode cX6_resultOf 88 = .ok (.iload_n 2, 1) := by decide +kernel
theorem dX6_resultOf_89 : decode cX6_resultOf 89 = .ok (.iconst 3, 1) := by decide +kernel
theorem dX6_resultOf_90 : decode cX6_resultOf 90 = .ok (.iadd, 1) := by decide +kernel
theorem dX6_resultOf_91 : decode cX6_resultOf 91 = .ok (.iaload, 1) := by decide +kernel
theorem dX6_resultOf_92 : decode cX6_resultOf 92 = .ok (.ineg, 1) := by decide +kernel
theorem dX6_resultOf_93 : decode cX6_resultOf 93 = .ok (.invokevirtual 80, 3) := by decide +kernel
theorem dX6_resultOf_96 : decode cX6_resultOf 96 = .ok (.istore 6, 2) := by decide +kernel
theorem dX6_resultOf_98 : decode cX6_resultOf 98 = .ok (.iload 6, 2) := by decide +kernel
theorem dX6_resultOf_100 : decode cX6_resultOf 100 = .ok (.iconst (-1), 1) := by decide +kernel
theorem dX6_resultOf_101 : decode cX6_resultOf 101 = .ok (.if_icmp .ne 7, 3) := by decide +kernel
theorem dX6_resultOf_104 : decode cX6_resultOf 104 = .ok (.iconst (-1), 1) := by decide +kernel
theorem dX6_resultOf_105 : decode cX6_resultOf 105 = .ok (.goto 16, 3) := by decide +kernel
theorem dX6_resultOf_108 : decode cX6_resultOf 108 = .ok (.aload_n 0, 1) := by decide +kernel
theorem dX6_resultOf_109 : decode cX6_resultOf 109 = .ok (.iload 6, 2) := by decide +kernel
theorem dX6_resultOf_111 : decode cX6_resultOf 111 = .ok (.iload 5, 2) := by decide +kernel
theorem dX6_resultOf_113 : decode cX6_resultOf 113 = .ok (.aload_n 1, 1) := by decide +kernel
theorem dX6_resultOf_114 : decode cX6_resultOf 114 = .ok (.iload_n 2, 1) := by decide +kernel
theorem dX6_resultOf_115 : decode cX6_resultOf 115 = .ok (.iconst 3, 1) := by decide +kernel
theorem dX6_resultOf_116 : decode cX6_resultOf 116 = .ok (.iadd, 1) := by decide +kernel
theorem dX6_resultOf_117 : decode cX6_resultOf 117 = .ok (.iaload, 1) := by decide +kernel
theorem dX6_resultOf_118 : decode cX6_resultOf 118 = .ok (.invokevirtual 80, 3) := by decide +kernel
theorem dX6_resultOf_121 : decode cX6_resultOf 121 = .ok (.ireturn, 1) := by decide +kernel
theorem dX6_shifted_0 : decode cX6_shifted 0 = .ok (.iload_n 2, 1) := by decide +kernel
theorem dX6_shifted_1 : decode cX6_shifted 1 = .ok (.ifCond .lt 11, 3) := by decide +kernel
theorem dX6_shifted_4 : decode cX6_shifted 4 = .ok (.iload_n 2, 1) := by decide +kernel
theorem dX6_shifted_5 : decode cX6_shifted 5 = .ok (.aload_n 0, 1) := by decide +kernel
theorem dX6_shifted_6 : decode cX6_shifted 6 = .ok (.getfield 15, 3) := by decide +kernel
theorem dX6_shifted_9 : decode cX6_shifted 9 = .ok (.if_icmp .lt 5, 3) := by decide +kernel
theorem dX6_shifted_12 : decode cX6_shifted 12 = .ok (.iconst (-1), 1) := by decide +kernel
theorem dX6_shifted_13 : decode cX6_shifted 13 = .ok (.ireturn, 1) := by decide +kernel
theorem dX6_shifted_14 : decode cX6_shifted 14 = .ok (.aload_n 0, 1) := by decide +kernel
theorem dX6_shifted_15 : decode cX6_shifted 15 = .ok (.iload_n 1, 1) := by decide +kernel
theorem dX6_shifted_16 : decode cX6_shifted 16 = .ok (.iload_n 2, 1) := by decide +kernel
theorem dX6_shifted_17 : decode cX6_shifted 17 = .ok (.invokevirtual 76, 3) := by decide +kernel
theorem dX6_shifted_20 : decode cX6_shifted 20 = .ok (.iload_n 3, 1) := by decide +kernel
theorem dX6_shifted_21 : decode cX6_shifted 21 = .ok (.iadd, 1) := by decide +kernel
theorem dX6_shifted_22 : decode cX6_shifted 22 = .ok (.istore 4, 2) := by decide +kernel
theorem dX6_shifted_24 : decode cX6_shifted 24 = .ok (.iload 4, 2) := by decide +kernel
theorem dX6_shifted_26 : decode cX6_shifted 26 = .ok (.ifCond .lt 12, 3) := by decide +kernel
theorem dX6_shifted_29 : decode cX6_shifted 29 = .ok (.iload 4, 2) := by decide +kernel
theorem dX6_shifted_31 : decode cX6_shifted 31 = .ok (.aload_n 0, 1) := by decide +kernel
theorem dX6_shifted_32 : decode cX6_shifted 32 = .ok (.getfield 18, 3) := by decide +kernel
theorem dX6_shifted_35 : decode cX6_shifted 35 = .ok (.if_icmp .le 7, 3) := by decide +kernel
theorem dX6_shifted_38 : decode cX6_shifted 38 = .ok (.iconst (-1), 1) := by decide +kernel
theorem dX6_shifted_39 : decode cX6_shifted 39 = .ok (.goto 13, 3) := by decide +kernel
theorem dX6_shifted_42 : decode cX6_shifted 42 = .ok (.iload_n 1, 1) := by decide +kernel
theorem dX6_shifted_43 : decode cX6_shifted 43 = .ok (.iload_n 3, 1) := by decide +kernel
theorem dX6_shifted_44 : decode cX6_shifted 44 = .ok (.aload_n 0, 1) := by decide +kernel
theorem dX6_shifted_45 : decode cX6_shifted 45 = .ok (.getfield 25, 3) := by decide +kernel
theorem dX6_shifted_48 : decode cX6_shifted 48 = .ok (.iload_n 2, 1) := by decide +kernel
theorem dX6_shifted_49 : decode cX6_shifted 49 = .ok (.iaload, 1) := by decide +kernel
theorem dX6_shifted_50 : decode cX6_shifted 50 = .ok (.imul, 1) := by decide +kernel
theorem dX6_shifted_51 : decode cX6_shifted 51 = .ok (.iadd, 1) := by decide +kernel
theorem dX6_shifted_52 : decode cX6_shifted 52 = .ok (.ireturn, 1) := by decide +kernel
theorem iuX6_cellsApart_X6 : ∀ w ∈ u_ws RX6 TX6 8, w ∈ W_X6_cellsApart := fun w h => List.mem_cons_of_mem _ (List.mem_append_right _ (List.mem_append_left _ (h)))
theorem iuX6_digit_X6 : ∀ w ∈ u_ws RX6 TX6 8, w ∈ W_X6_digit := fun w h => List.mem_cons_of_mem _ (List.mem_append_right _ (h))
theorem iuX6_holdersOf_X6 : ∀ w ∈ u_ws RX6 TX6 8, w ∈ W_X6_holdersOf := fun w h => List.mem_cons_of_mem _ (List.mem_append_right _ (List.mem_append_left _ (h)))
theorem iuX6_load_X0 : ∀ w ∈ u_ws RX0 TX0 15, w ∈ W_X6_load := fun w h => List.mem_cons_of_mem _ (List.mem_append_right _ (List.mem_append_right _ (List.mem_append_left _ (h))))
theorem iuX6_load_X6 : ∀ w ∈ u_ws RX6 TX6 8, w ∈ W_X6_load := fun w h => List.mem_cons_of_mem _ (List.mem_append_right _ (List.mem_append_left _ (h)))
theorem iuX6_packedOf_X6 : ∀ w ∈ u_ws RX6 TX6 8, w ∈ W_X6_packedOf := fun w h => List.mem_cons_of_mem _ (List.mem_append_right _ (h))
theorem iuX6_shifted_X6 : ∀ w ∈ u_ws RX6 TX6 8, w ∈ W_X6_shifted := fun w h => List.mem_cons_of_mem _ (List.mem_append_right _ (List.mem_append_left _ (h)))
theorem gw_X6_cellsApart_X6_digit : GoodIn W_X6_cellsApart W_X6_digit := fun w h => ⟨List.mem_cons_of_mem _ (List.mem_append_right _ (List.mem_append_right _ (h))), (wI_X6_digit w h).2⟩
theorem gc_X6_cellsApart_76_X6_digit : GoodIn W_X6_cellsApart (wsV RX6 76 RX6 yX6_digit W_X6_digit) := goodIn_app (goodIn_sub (List.forall_mem_cons.mpr ⟨List.mem_cons_of_mem _ (List.mem_append_left _ (List.mem_of_getElem? (i := 1) rfl)), List.forall_mem_cons.mpr ⟨List.mem_cons_of_mem _ (List.mem_append_left _ (List.mem_of_getElem? (i := 2) rfl)), List.forall_mem_cons.mpr ⟨List.mem_cons_of_mem _ (List.mem_append_left _ (List.mem_of_getElem? (i := 3) rfl)), List.forall_mem_cons.mpr ⟨List.mem_cons_of_mem _ (List.mem_append_left _ (List.mem_of_getElem? (i := 4) rfl)), fun _ h => absurd h List.not_mem_nil⟩⟩⟩⟩) (by decide +kernel)) gw_X6_cellsApart_X6_digit
theorem gw_X6_holdersOf_X6_holdsRow : GoodIn W_X6_holdersOf W_X6_holdsRow := fun w h => ⟨List.mem_cons_of_mem _ (List.mem_append_right _ (List.mem_append_right _ (h))), (wI_X6_holdsRow w h).2⟩
theorem gc_X6_holdersOf_72_X6_holdsRow : GoodIn W_X6_holdersOf (wsV RX6 72 RX6 yX6_holdsRow W_X6_holdsRow) := goodIn_app (goodIn_sub (List.forall_mem_cons.mpr ⟨List.mem_cons_of_mem _ (List.mem_append_left _ (List.mem_of_getElem? (i := 1) rfl)), List.forall_mem_cons.mpr ⟨List.mem_cons_of_mem _ (List.mem_append_left _ (List.mem_of_getElem? (i := 2) rfl)), List.forall_mem_cons.mpr ⟨List.mem_cons_of_mem _ (List.mem_append_left _ (List.mem_of_getElem? (i := 3) rfl)), List.forall_mem_cons.mpr ⟨List.mem_cons_of_mem _ (List.mem_append_left _ (List.mem_of_getElem? (i := 4) rfl)), fun _ h => absurd h List.not_mem_nil⟩⟩⟩⟩) (by decide +kernel)) gw_X6_holdersOf_X6_holdsRow
theorem gw_X6_holdsRow_X6_digit : GoodIn W_X6_holdsRow W_X6_digit := fun w h => ⟨List.mem_cons_of_mem _ (List.mem_append_right _ (h)), (wI_X6_digit w h).2⟩
theorem gc_X6_holdsRow_76_X6_digit : GoodIn W_X6_holdsRow (wsV RX6 76 RX6 yX6_digit W_X6_digit) := goodIn_app (goodIn_sub (List.forall_mem_cons.mpr ⟨List.mem_cons_of_mem _ (List.mem_append_left _ (List.mem_of_getElem? (i := 0) rfl)), List.forall_mem_cons.mpr ⟨List.mem_cons_of_mem _ (List.mem_append_left _ (List.mem_of_getElem? (i := 1) rfl)), List.forall_mem_cons.mpr ⟨List.mem_cons_of_mem _ (List.mem_append_left _ (List.mem_of_getElem? (i := 2) rfl)), List.forall_mem_cons.mpr ⟨List.mem_cons_of_mem _ (List.mem_append_left _ (List.mem_of_getElem? (i := 3) rfl)), fun _ h => absurd h List.not_mem_nil⟩⟩⟩⟩) (by decide +kernel)) gw_X6_holdsRow_X6_digit
theorem gw_X6_load_X6_packedOf : GoodIn W_X6_load W_X6_packedOf := fun w h => ⟨List.mem_cons_of_mem _ (List.mem_append_right _ (List.mem_append_right _ (List.mem_append_right _ (List.mem_append_left _ (h))))), (wI_X6_packedOf w h).2⟩
theorem gc_X6_load_48_X6_packedOf : GoodIn W_X6_load (wsV RX6 48 RX6 yX6_packedOf W_X6_packedOf) := goodIn_app (goodIn_sub (List.forall_mem_cons.mpr ⟨List.mem_cons_of_mem _ (List.mem_append_left _ (List.mem_of_getElem? (i := 10) rfl)), List.forall_mem_cons.mpr ⟨List.mem_cons_of_mem _ (List.mem_append_left _ (List.mem_of_getElem? (i := 11) rfl)), List.forall_mem_cons.mpr ⟨List.mem_cons_of_mem _ (List.mem_append_left _ (List.mem_of_getElem? (i := 12) rfl)), List.forall_mem_cons.mpr ⟨List.mem_cons_of_mem _ (List.mem_append_left _ (List.mem_of_getElem? (i := 13) rfl)), fun _ h => absurd h List.not_mem_nil⟩⟩⟩⟩) (by decide +kernel)) gw_X6_load_X6_packedOf
theorem gw_X6_load_X6_holdersOf : GoodIn W_X6_load W_X6_holdersOf := fun w h => ⟨List.mem_cons_of_mem _ (List.mem_append_right _ (List.mem_append_right _ (List.mem_append_right _ (List.mem_append_right _ (List.mem_append_left _ (h)))))), (wI_X6_holdersOf w h).2⟩
theorem gc_X6_load_58_X6_holdersOf : GoodIn W_X6_load (wsV RX6 58 RX6 yX6_holdersOf W_X6_holdersOf) := goodIn_app (goodIn_sub (List.forall_mem_cons.mpr ⟨List.mem_cons_of_mem _ (List.mem_append_left _ (List.mem_of_getElem? (i := 17) rfl)), List.forall_mem_cons.mpr ⟨List.mem_cons_of_mem _ (List.mem_append_left _ (List.mem_of_getElem? (i := 18) rfl)), List.forall_mem_cons.mpr ⟨List.mem_cons_of_mem _ (List.mem_append_left _ (List.mem_of_getElem? (i := 19) rfl)), List.forall_mem_cons.mpr ⟨List.mem_cons_of_mem _ (List.mem_append_left _ (List.mem_of_getElem? (i := 13) rfl)), fun _ h => absurd h List.not_mem_nil⟩⟩⟩⟩) (by decide +kernel)) gw_X6_load_X6_holdersOf
theorem gw_X6_load_X6_resultOf : GoodIn W_X6_load W_X6_resultOf := fun w h => ⟨List.mem_cons_of_mem _ (List.mem_append_right _ (List.mem_append_right _ (List.mem_append_right _ (List.mem_append_right _ (List.mem_append_right _ (h)))))), (wI_X6_resultOf w h).2⟩
theorem gc_X6_load_68_X6_resultOf : GoodIn W_X6_load (wsV RX6 68 RX6 yX6_resultOf W_X6_resultOf) := goodIn_app (goodIn_sub (List.forall_mem_cons.mpr ⟨List.mem_cons_of_mem _ (List.mem_append_left _ (List.mem_of_getElem? (i := 23) rfl)), List.forall_mem_cons.mpr ⟨List.mem_cons_of_mem _ (List.mem_append_left _ (List.mem_of_getElem? (i := 24) rfl)), List.forall_mem_cons.mpr ⟨List.mem_cons_of_mem _ (List.mem_append_left _ (List.mem_of_getElem? (i := 25) rfl)), List.forall_mem_cons.mpr ⟨List.mem_cons_of_mem _ (List.mem_append_left _ (List.mem_of_getElem? (i := 13) rfl)), fun _ h => absurd h List.not_mem_nil⟩⟩⟩⟩) (by decide +kernel)) gw_X6_load_X6_resultOf
theorem gw_X6_resultOf_X6_digit : GoodIn W_X6_resultOf W_X6_digit := fun w h => ⟨List.mem_cons_of_mem _ (List.mem_append_right _ (List.mem_append_right _ (h))), (wI_X6_digit w h).2⟩
theorem gc_X6_resultOf_76_X6_digit : GoodIn W_X6_resultOf (wsV RX6 76 RX6 yX6_digit W_X6_digit) := goodIn_app (goodIn_sub (List.forall_mem_cons.mpr ⟨List.mem_cons_of_mem _ (List.mem_append_left _ (List.mem_of_getElem? (i := 4) rfl)), List.forall_mem_cons.mpr ⟨List.mem_cons_of_mem _ (List.mem_append_left _ (List.mem_of_getElem? (i := 5) rfl)), List.forall_mem_cons.mpr ⟨List.mem_cons_of_mem _ (List.mem_append_left _ (List.mem_of_getElem? (i := 6) rfl)), List.forall_mem_cons.mpr ⟨List.mem_cons_of_mem _ (List.mem_append_left _ (List.mem_of_getElem? (i := 3) rfl)), fun _ h => absurd h List.not_mem_nil⟩⟩⟩⟩) (by decide +kernel)) gw_X6_resultOf_X6_digit
theorem gw_X6_resultOf_X6_shifted : GoodIn W_X6_resultOf W_X6_shifted := fun w h => ⟨List.mem_cons_of_mem _ (List.mem_append_right _ (List.mem_append_left _ (h))), (wI_X6_shifted w h).2⟩
theorem gc_X6_resultOf_80_X6_shifted : GoodIn W_X6_resultOf (wsV RX6 80 RX6 yX6_shifted W_X6_shifted) := goodIn_app (goodIn_sub (List.forall_mem_cons.mpr ⟨List.mem_cons_of_mem _ (List.mem_append_left _ (List.mem_of_getElem? (i := 0) rfl)), List.forall_mem_cons.mpr ⟨List.mem_cons_of_mem _ (List.mem_append_left _ (List.mem_of_getElem? (i := 1) rfl)), List.forall_mem_cons.mpr ⟨List.mem_cons_of_mem _ (List.mem_append_left _ (List.mem_of_getElem? (i := 2) rfl)), List.forall_mem_cons.mpr ⟨List.mem_cons_of_mem _ (List.mem_append_left _ (List.mem_of_getElem? (i := 3) rfl)), fun _ h => absurd h List.not_mem_nil⟩⟩⟩⟩) (by decide +kernel)) gw_X6_resultOf_X6_shifted
theorem gw_X6_shifted_X6_digit : GoodIn W_X6_shifted W_X6_digit := fun w h => ⟨List.mem_cons_of_mem _ (List.mem_append_right _ (List.mem_append_right _ (h))), (wI_X6_digit w h).2⟩
theorem gc_X6_shifted_76_X6_digit : GoodIn W_X6_shifted (wsV RX6 76 RX6 yX6_digit W_X6_digit) := goodIn_app (goodIn_sub (List.forall_mem_cons.mpr ⟨List.mem_cons_of_mem _ (List.mem_append_left _ (List.mem_of_getElem? (i := 1) rfl)), List.forall_mem_cons.mpr ⟨List.mem_cons_of_mem _ (List.mem_append_left _ (List.mem_of_getElem? (i := 2) rfl)), List.forall_mem_cons.mpr ⟨List.mem_cons_of_mem _ (List.mem_append_left _ (List.mem_of_getElem? (i := 3) rfl)), List.forall_mem_cons.mpr ⟨List.mem_cons_of_mem _ (List.mem_append_left _ (List.mem_of_getElem? (i := 4) rfl)), fun _ h => absurd h List.not_mem_nil⟩⟩⟩⟩) (by decide +kernel)) gw_X6_shifted_X6_digit
