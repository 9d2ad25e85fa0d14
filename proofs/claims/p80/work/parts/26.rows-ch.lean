theorem dX0_act_0 : decode cX0_act 0 = .ok (.aload_n 0, 1) := by decide +kernel
theorem dX0_act_1 : decode cX0_act 1 = .ok (.getfield 33, 3) := by decide +kernel
theorem dX0_act_4 : decode cX0_act 4 = .ok (.ifCond .lt 12, 3) := by decide +kernel
theorem dX0_act_7 : decode cX0_act 7 = .ok (.aload_n 0, 1) := by decide +kernel
theorem dX0_act_8 : decode cX0_act 8 = .ok (.getfield 33, 3) := by decide +kernel
theorem dX0_act_11 : decode cX0_act 11 = .ok (.bipush 20, 2) := by decide +kernel
theorem dX0_act_13 : decode cX0_act 13 = .ok (.if_icmp .lt 4, 3) := by decide +kernel
theorem dX0_act_16 : decode cX0_act 16 = .ok (.return_, 1) := by decide +kernel
theorem dX0_act_17 : decode cX0_act 17 = .ok (.aload_n 0, 1) := by decide +kernel
theorem dX0_act_18 : decode cX0_act 18 = .ok (.getfield 52, 3) := by decide +kernel
theorem dX0_act_21 : decode cX0_act 21 = .ok (.aload_n 0, 1) := by decide +kernel
theorem dX0_act_22 : decode cX0_act 22 = .ok (.getfield 33, 3) := by decide +kernel
theorem dX0_act_25 : decode cX0_act 25 = .ok (.aload_n 0, 1) := by decide +kernel
theorem dX0_act_26 : decode cX0_act 26 = .ok (.getfield 36, 3) := by decide +kernel
theorem dX0_act_29 : decode cX0_act 29 = .ok (.iastore, 1) := by decide +kernel
theorem dX0_act_30 : decode cX0_act 30 = .ok (.aload_n 0, 1) := by decide +kernel
theorem dX0_act_31 : decode cX0_act 31 = .ok (.getfield 55, 3) := by decide +kernel
theorem dX0_act_34 : decode cX0_act 34 = .ok (.aload_n 0, 1) := by decide +kernel
theorem dX0_act_35 : decode cX0_act 35 = .ok (.getfield 33, 3) := by decide +kernel
theorem dX0_act_38 : decode cX0_act 38 = .ok (.aload_n 0, 1) := by decide +kernel
theorem dX0_act_39 : decode cX0_act 39 = .ok (.getfield 39, 3) := by decide +kernel
theorem dX0_act_42 : decode cX0_act 42 = .ok (.iastore, 1) := by decide +kernel
theorem dX0_act_43 : decode cX0_act 43 = .ok (.aload_n 0, 1) := by decide +kernel
theorem dX0_act_44 : decode cX0_act 44 = .ok (.dup, 1) := by decide +kernel
theorem dX0_act_45 : decode cX0_act 45 = .ok (.getfield 33, 3) := by decide +kernel
theorem dX0_act_48 : decode cX0_act 48 = .ok (.iconst 1, 1) := by decide +kernel
theorem dX0_act_49 : decode cX0_act 49 = .ok (.iadd, 1) := by decide +kernel
theorem dX0_act_50 : decode cX0_act 50 = .ok (.putfield 33, 3) := by decide +kernel
theorem dX0_act_53 : decode cX0_act 53 = .ok (.aload_n 0, 1) := by decide +kernel
theorem dX0_act_54 : decode cX0_act 54 = .ok (.iload_n 1, 1) := by decide +kernel
theorem dX0_act_55 : decode cX0_act 55 = .ok (.putfield 36, 3) := by decide +kernel
theorem dX0_act_58 : decode cX0_act 58 = .ok (.aload_n 0, 1) := by decide +kernel
theorem dX0_act_59 : decode cX0_act 59 = .ok (.iload_n 2, 1) := by decide +kernel
theorem dX0_act_60 : decode cX0_act 60 = .ok (.putfield 39, 3) := by decide +kernel
theorem dX0_act_63 : decode cX0_act 63 = .ok (.return_, 1) := by decide +kernel
theorem dX0_clear_0 : decode cX0_clear 0 = .ok (.aload_n 0, 1) := by decide +kernel
theorem dX0_clear_1 : decode cX0_clear 1 = .ok (.iconst 0, 1) := by decide +kernel
theorem dX0_clear_2 : decode cX0_clear 2 = .ok (.putfield 9, 3) := by decide +kernel
theorem dX0_clear_5 : decode cX0_clear 5 = .ok (.aload_n 0, 1) := by decide +kernel
theorem dX0_clear_6 : decode cX0_clear 6 = .ok (.iconst 0, 1) := by decide +kernel
theorem dX0_clear_7 : decode cX0_clear 7 = .ok (.putfield 15, 3) := by decide +kernel
theorem dX0_clear_10 : decode cX0_clear 10 = .ok (.aload_n 0, 1) := by decide +kernel
theorem dX0_clear_11 : decode cX0_clear 11 = .ok (.iconst 0, 1) := by decide +kernel
theorem dX0_clear_12 : decode cX0_clear 12 = .ok (.putfield 18, 3) := by decide +kernel
theorem dX0_clear_15 : decode cX0_clear 15 = .ok (.aload_n 0, 1) := by decide +kernel
theorem dX0_clear_16 : decode cX0_clear 16 = .ok (.iconst 0, 1) := by decide +kernel
theorem dX0_clear_17 : decode cX0_clear 17 = .ok (.putfield 21, 3) := by decide +kernel
theorem dX0_clear_20 : decode cX0_clear 20 = .ok (.aload_n 0, 1) := by decide +kernel
theorem dX0_clear_21 : decode cX0_clear 21 = .ok (.iconst 0, 1) := by decide +kernel
theorem dX0_clear_22 : decode cX0_clear 22 = .ok (.putfield 24, 3) := by decide +kernel
theorem dX0_clear_25 : decode cX0_clear 25 = .ok (.aload_n 0, 1) := by decide +kernel
theorem dX0_clear_26 : decode cX0_clear 26 = .ok (.iconst 0, 1) := by decide +kernel
theorem dX0_clear_27 : decode cX0_clear 27 = .ok (.putfield 27, 3) := by decide +kernel
theorem dX0_clear_30 : decode cX0_clear 30 = .ok (.aload_n 0, 1) := by decide +kernel
theorem dX0_clear_31 : decode cX0_clear 31 = .ok (.iconst 0, 1) := by decide +kernel
theorem dX0_clear_32 : decode cX0_clear 32 = .ok (.putfield 30, 3) := by decide +kernel
theorem dX0_clear_35 : decode cX0_clear 35 = .ok (.aload_n 0, 1) := by decide +kernel
theorem dX0_clear_36 : decode cX0_clear 36 = .ok (.iconst 0, 1) := by decide +kernel
theorem dX0_clear_37 : decode cX0_clear 37 = .ok (.putfield 33, 3) := by decide +kernel
theorem dX0_clear_40 : decode cX0_clear 40 = .ok (.aload_n 0, 1) := by decide +kernel
theorem dX0_clear_41 : decode cX0_clear 41 = .ok (.iconst 0, 1) := by decide +kernel
theorem dX0_clear_42 : decode cX0_clear 42 = .ok (.putfield 36, 3) := by decide +kernel
theorem dX0_clear_45 : decode cX0_clear 45 = .ok (.aload_n 0, 1) := by decide +kernel
theorem dX0_clear_46 : decode cX0_clear 46 = .ok (.iconst 0, 1) := by decide +kernel
theorem dX0_clear_47 : decode cX0_clear 47 = .ok (.putfield 39, 3) := by decide +kernel
theorem dX0_clear_50 : decode cX0_clear 50 = .ok (.return_, 1) := by decide +kernel
theorem dX0_copyOf_0 : decode cX0_copyOf 0 = .ok (.aload_n 0, 1) := by decide +kernel
theorem dX0_copyOf_1 : decode cX0_copyOf 1 = .ok (.aload_n 1, 1) := by decide +kernel
theorem dX0_copyOf_2 : decode cX0_copyOf 2 = .ok (.getfield 9, 3) := by decide +kernel
theorem dX0_copyOf_5 : decode cX0_copyOf 5 = .ok (.putfield 9, 3) := by decide +kernel
theorem dX0_copyOf_8 : decode cX0_copyOf 8 = .ok (.aload_n 0, 1) := by decide +kernel
theorem dX0_copyOf_9 : decode cX0_copyOf 9 = .ok (.aload_n 1, 1) := by decide +kernel
theorem dX0_copyOf_10 : decode cX0_copyOf 10 = .ok (.getfield 15, 3) := by decide +kernel
theorem dX0_copyOf_13 : decode cX0_copyOf 13 = .ok (.putfield 15, 3) := by decide +kernel
theorem dX0_copyOf_16 : decode cX0_copyOf 16 = .ok (.aload_n 0, 1) := by decide +kernel
theorem dX0_copyOf_17 : decode cX0_copyOf 17 = .ok (.aload_n 1, 1) := by decide +kernel
theorem dX0_copyOf_18 : decode cX0_copyOf 18 = .ok (.getfield 18, 3) := by decide +kernel
theorem dX0_copyOf_21 : decode cX0_copyOf 21 = .ok (.putfield 18, 3) := by decide +kernel
theorem dX0_copyOf_24 : decode cX0_copyOf 24 = .ok (.aload_n 0, 1) := by decide +kernel
theorem dX0_copyOf_25 : decode cX0_copyOf 25 = .ok (.aload_n 1, 1) := by decide +kernel
theorem dX0_copyOf_26 : decode cX0_copyOf 26 = .ok (.getfield 21, 3) := by decide +kernel
theorem dX0_copyOf_29 : decode cX0_copyOf 29 = .ok (.putfield 21, 3) := by decide +kernel
theorem dX0_copyOf_32 : decode cX0_copyOf 32 = .ok (.aload_n 0, 1) := by decide +kernel
theorem dX0_copyOf_33 : decode cX0_copyOf 33 = .ok (.aload_n 1, 1) := by decide +kernel
theorem dX0_copyOf_34 : decode cX0_copyOf 34 = .ok (.getfield 24, 3) := by decide +kernel
theorem dX0_copyOf_37 : decode cX0_copyOf 37 = .ok (.putfield 24, 3) := by decide +kernel
theorem dX0_copyOf_40 : decode cX0_copyOf 40 = .ok (.aload_n 0, 1) := by decide +kernel
theorem dX0_copyOf_41 : decode cX0_copyOf 41 = .ok (.aload_n 1, 1) := by decide +kernel
theorem dX0_copyOf_42 : decode cX0_copyOf 42 = .ok (.getfield 27, 3) := by decide +kernel
theorem dX0_copyOf_45 : decode cX0_copyOf 45 = .ok (.putfield 27, 3) := by decide +kernel
theorem dX0_copyOf_48 : decode cX0_copyOf 48 = .ok (.aload_n 0, 1) := by decide +kernel
theorem dX0_copyOf_49 : decode cX0_copyOf 49 = .ok (.aload_n 1, 1) := by decide +kernel
theorem dX0_copyOf_50 : decode cX0_copyOf 50 = .ok (.getfield 30, 3) := by decide +kernel
theorem dX0_copyOf_53 : decode cX0_copyOf 53 = .ok (.putfield 30, 3) := by decide +kernel
theorem dX0_copyOf_56 : decode cX0_copyOf 56 = .ok (.aload_n 0, 1) := by decide +kernel
theorem dX0_copyOf_57 : decode cX0_copyOf 57 = .ok (.aload_n 1, 1) := by decide +kernel
theorem dX0_copyOf_58 : decode cX0_copyOf 58 = .ok (.getfield 33, 3) := by decide +kernel
theorem dX0_copyOf_61 : decode cX0_copyOf 61 = .ok (.putfield 33, 3) := by decide +kernel
theorem dX0_copyOf_64 : decode cX0_copyOf 64 = .ok (.aload_n 0, 1) := by decide +kernel
theorem dX0_copyOf_65 : decode cX0_copyOf 65 = .ok (.aload_n 1, 1) := by decide +kernel
theorem dX0_copyOf_66 : decode cX0_copyOf 66 = .ok (.getfield 36, 3) := by decide +kernel
theorem dX0_copyOf_69 : decode cX0_copyOf 69 = .ok (.putfield 36, 3) := by decide +kernel
theorem dX0_copyOf_72 : decode cX0_copyOf 72 = .ok (.aload_n 0, 1) := by decide +kernel
theorem dX0_copyOf_73 : decode cX0_copyOf 73 = .ok (.aload_n 1, 1) := by decide +kernel
theorem dX0_copyOf_74 : decode cX0_copyOf 74 = .ok (.getfield 39, 3) := by decide +kernel
theorem dX0_copyOf_77 : decode cX0_copyOf 77 = .ok (.putfield 39, 3) := by decide +kernel
theorem dX0_copyOf_80 : decode cX0_copyOf 80 = .ok (.aload_n 1, 1) := by decide +kernel
theorem dX0_copyOf_81 : decode cX0_copyOf 81 = .ok (.getfield 42, 3) := by decide +kernel
theorem dX0_copyOf_84 : decode cX0_copyOf 84 = .ok (.iconst 0, 1) := by decide +kernel
theorem dX0_copyOf_85 : decode cX0_copyOf 85 = .ok (.aload_n 0, 1) := by decide +kernel
theorem dX0_copyOf_86 : decode cX0_copyOf 86 = .ok (.getfield 42, 3) := by decide +kernel
theorem dX0_copyOf_89 : decode cX0_copyOf 89 = .ok (.iconst 0, 1) := by decide +kernel
theorem dX0_copyOf_90 : decode cX0_copyOf 90 = .ok (.aload_n 0, 1) := by decide +kernel
theorem dX0_copyOf_91 : decode cX0_copyOf 91 = .ok (.getfield 42, 3) := by decide +kernel
theorem dX0_copyOf_94 : decode cX0_copyOf 94 = .ok (.arraylength, 1) := by decide +kernel
theorem dX0_copyOf_95 : decode cX0_copyOf 95 = .ok (.invokestatic 58, 3) := by decide +kernel
theorem dX0_copyOf_98 : decode cX0_copyOf 98 = .ok (.aload_n 1, 1) := by decide +kernel
theorem dX0_copyOf_99 : decode cX0_copyOf 99 = .ok (.getfield 46, 3) := by decide +kernel
theorem dX0_copyOf_102 : decode cX0_copyOf 102 = .ok (.iconst 0, 1) := by decide +kernel
theorem dX0_copyOf_103 : decode cX0_copyOf 103 = .ok (.aload_n 0, 1) := by decide +kernel
theorem dX0_copyOf_104 : decode cX0_copyOf 104 = .ok (.getfield 46, 3) := by decide +kernel
theorem dX0_copyOf_107 : decode cX0_copyOf 107 = .ok (.iconst 0, 1) := by decide +kernel
theorem dX0_copyOf_108 : decode cX0_copyOf 108 = .ok (.aload_n 0, 1) := by decide +kernel
theorem dX0_copyOf_109 : decode cX0_copyOf 109 = .ok (.getfield 46, 3) := by decide +kernel
theorem dX0_copyOf_112 : decode cX0_copyOf 112 = .ok (.arraylength, 1) := by decide +kernel
theorem dX0_copyOf_113 : decode cX0_copyOf 113 = .ok (.invokestatic 58, 3) := by decide +kernel
theorem dX0_copyOf_116 : decode cX0_copyOf 116 = .ok (.aload_n 1, 1) := by decide +kernel
theorem dX0_copyOf_117 : decode cX0_copyOf 117 = .ok (.getfield 49, 3) := by decide +kernel
theorem dX0_copyOf_120 : decode cX0_copyOf 120 = .ok (.iconst 0, 1) := by decide +kernel
theorem dX0_copyOf_121 : decode cX0_copyOf 121 = .ok (.aload_n 0, 1) := by decide +kernel
theorem dX0_copyOf_122 : decode cX0_copyOf 122 = .ok (.getfield 49, 3) := by decide +kernel
theorem dX0_copyOf_125 : decode cX0_copyOf 125 = .ok (.iconst 0, 1) := by decide +kernel
theorem dX0_copyOf_126 : decode cX0_copyOf 126 = .ok (.aload_n 0, 1) := by decide +kernel
theorem dX0_copyOf_127 : decode cX0_copyOf 127 = .ok (.getfield 49, 3) := by decide +kernel
theorem dX0_copyOf_130 : decode cX0_copyOf 130 = .ok (.arraylength, 1) := by decide +kernel
theorem dX0_copyOf_131 : decode cX0_copyOf 131 = .ok (.invokestatic 58, 3) := by decide +kernel
theorem dX0_copyOf_134 : decode cX0_copyOf 134 = .ok (.aload_n 1, 1) := by decide +kernel
theorem dX0_copyOf_135 : decode cX0_copyOf 135 = .ok (.getfield 52, 3) := by decide +kernel
theorem dX0_copyOf_138 : decode cX0_copyOf 138 = .ok (.iconst 0, 1) := by decide +kernel
theorem dX0_copyOf_139 : decode cX0_copyOf 139 = .ok (.aload_n 0, 1) := by decide +kernel
theorem dX0_copyOf_140 : decode cX0_copyOf 140 = .ok (.getfield 52, 3) := by decide +kernel
theorem dX0_copyOf_143 : decode cX0_copyOf 143 = .ok (.iconst 0, 1) := by decide +kernel
theorem dX0_copyOf_144 : decode cX0_copyOf 144 = .ok (.aload_n 0, 1) := by decide +kernel
theorem dX0_copyOf_145 : decode cX0_copyOf 145 = .ok (.getfield 52, 3) := by decide +kernel
theorem dX0_copyOf_148 : decode cX0_copyOf 148 = .ok (.arraylength, 1) := by decide +kernel
theorem dX0_copyOf_149 : decode cX0_copyOf 149 = .ok (.invokestatic 58, 3) := by decide +kernel
theorem dX0_copyOf_152 : decode cX0_copyOf 152 = .ok (.aload_n 1, 1) := by decide +kernel
theorem dX0_copyOf_153 : decode cX0_copyOf 153 = .ok (.getfield 55, 3) := by decide +kernel
theorem dX0_copyOf_156 : decode cX0_copyOf 156 = .ok (.iconst 0, 1) := by decide +kernel
theorem dX0_copyOf_157 : decode cX0_copyOf 157 = .ok (.aload_n 0, 1) := by decide +kernel
theorem dX0_copyOf_158 : decode cX0_copyOf 158 = .ok (.getfield 55, 3) := by decide +kernel
theorem dX0_copyOf_161 : decode cX0_copyOf 161 = .ok (.iconst 0, 1) := by decide +kernel
theorem dX0_copyOf_162 : decode cX0_copyOf 162 = .ok (.aload_n 0, 1) := by decide +kernel
theorem dX0_copyOf_163 : decode cX0_copyOf 163 = .ok (.getfield 55, 3) := by decide +kernel
theorem dX0_copyOf_166 : decode cX0_copyOf 166 = .ok (.arraylength, 1) := by decide +kernel
theorem dX0_copyOf_167 : decode cX0_copyOf 167 = .ok (.invokestatic 58, 3) := by decide +kernel
theorem dX0_copyOf_170 : decode cX0_copyOf 170 = .ok (.return_, 1) := by decide +kernel
theorem dX0_takeBackTo_0 : decode cX0_takeBackTo 0 = .ok (.iload_n 1, 1) := by decide +kernel
theorem dX0_takeBackTo_1 : decode cX0_takeBackTo 1 = .ok (.ifCond .lt 11, 3) := by decide +kernel
theorem dX0_takeBackTo_4 : decode cX0_takeBackTo 4 = .ok (.iload_n 1, 1) := by decide +kernel
theorem dX0_takeBackTo_5 : decode cX0_takeBackTo 5 = .ok (.aload_n 0, 1) := by decide +kernel
theorem dX0_takeBackTo_6 : decode cX0_takeBackTo 6 = .ok (.getfield 33, 3) := by decide +kernel
theorem dX0_takeBackTo_9 : decode cX0_takeBackTo 9 = .ok (.if_icmp .lt 4, 3) := by decide +kernel
theorem dX0_takeBackTo_12 : decode cX0_takeBackTo 12 = .ok (.return_, 1) := by decide +kernel
theorem dX0_takeBackTo_13 : decode cX0_takeBackTo 13 = .ok (.aload_n 0, 1) := by decide +kernel
theorem dX0_takeBackTo_14 : decode cX0_takeBackTo 14 = .ok (.aload_n 0, 1) := by decide +kernel
theorem dX0_takeBackTo_15 : decode cX0_takeBackTo 15 = .ok (.getfield 52, 3) := by decide +kernel
theorem dX0_takeBackTo_18 : decode cX0_takeBackTo 18 = .ok (.iload_n 1, 1) := by decide +kernel
theorem dX0_takeBackTo_19 : decode cX0_takeBackTo 19 = .ok (.iaload, 1) := by decide +kernel
theorem dX0_takeBackTo_20 : decode cX0_takeBackTo 20 = .ok (.putfield 36, 3) := by decide +kernel
theorem dX0_takeBackTo_23 : decode cX0_takeBackTo 23 = .ok (.aload_n 0, 1) := by decide +kernel
theorem dX0_takeBackTo_24 : decode cX0_takeBackTo 24 = .ok (.aload_n 0, 1) := by decide +kernel
theorem dX0_takeBackTo_25 : decode cX0_takeBackTo 25 = .ok (.getfield 55, 3) := by decide +kernel
theorem dX0_takeBackTo_28 : decode cX0_takeBackTo 28 = .ok (.iload_n 1, 1) := by decide +kernel
theorem dX0_takeBackTo_29 : decode cX0_takeBackTo 29 = .ok (.iaload, 1) := by decide +kernel
theorem dX0_takeBackTo_30 : decode cX0_takeBackTo 30 = .ok (.putfield 39, 3) := by decide +kernel
theorem dX0_takeBackTo_33 : decode cX0_takeBackTo 33 = .ok (.aload_n 0, 1) := by decide +kernel
theorem dX0_takeBackTo_34 : decode cX0_takeBackTo 34 = .ok (.iload_n 1, 1) := by decide +kernel
theorem dX0_takeBackTo_35 : decode cX0_takeBackTo 35 = .ok (.putfield 33, 3) := by decide +kernel
theorem dX0_takeBackTo_38 : decode cX0_takeBackTo 38 = .ok (.return_, 1) := by decide +kernel
theorem dX1_draw_0 : decode cX1_draw 0 = .ok (.lload_n 1, 1) := by decide +kernel
theorem dX1_draw_1 : decode cX1_draw 1 = .ok (.lstore_n 3, 1) := by decide +kernel
theorem dX1_draw_2 : decode cX1_draw 2 = .ok (.iconst 0, 1) := by decide +kernel
theorem dX1_draw_3 : decode cX1_draw 3 = .ok (.istore 5, 2) := by decide +kernel
theorem dX1_draw_5 : decode cX1_draw 5 = .ok (.iconst 0, 1) := by decide +kernel
theorem dX1_draw_6 : decode cX1_draw 6 = .ok (.istore 6, 2) := by decide +kernel
theorem dX1_draw_8 : decode cX1_draw 8 = .ok (.iload 6, 2) := by decide +kernel
theorem dX1_draw_10 : decode cX1_draw 10 = .ok (.aload_n 0, 1) := by decide +kernel
theorem dX1_draw_11 : decode cX1_draw 11 = .ok (.getfield 16, 3) := by decide +kernel
theorem dX1_draw_14 : decode cX1_draw 14 = .ok (.getfield 24, 3) := by decide +kernel
theorem dX1_draw_17 : decode cX1_draw 17 = .ok (.if_icmp .ge 53, 3) := by decide +kernel
theorem dX1_draw_20 : decode cX1_draw 20 = .ok (.ldc2_w 85, 3) := by decide +kernel
theorem dX1_draw_23 : decode cX1_draw 23 = .ok (.lload_n 3, 1) := by decide +kernel
theorem dX1_draw_24 : decode cX1_draw 24 = .ok (.lmul, 1) := by decide +kernel
theorem dX1_draw_25 : decode cX1_draw 25 = .ok (.ldc2_w 87, 3) := by decide +kernel
theorem dX1_draw_28 : decode cX1_draw 28 = .ok (.ladd, 1) := by decide +kernel
theorem dX1_draw_29 : decode cX1_draw 29 = .ok (.ldc2_w 89, 3) := by decide +kernel
theorem dX1_draw_32 : decode cX1_draw 32 = .ok (.lrem, 1) := by decide +kernel
theorem dX1_draw_33 : decode cX1_draw 33 = .ok (.lstore_n 3, 1) := by decide +kernel
theorem dX1_draw_34 : decode cX1_draw 34 = .ok (.lload_n 3, 1) := by decide +kernel
theorem dX1_draw_35 : decode cX1_draw 35 = .ok (.ldc2_w 91, 3) := by decide +kernel
theorem dX1_draw_38 : decode cX1_draw 38 = .ok (.ldiv, 1) := by decide +kernel
theorem dX1_draw_39 : decode cX1_draw 39 = .ok (.ldc2_w 93, 3) := by decide +kernel
theorem dX1_draw_42 : decode cX1_draw 42 = .ok (.lrem, 1) := by decide +kernel
theorem dX1_draw_43 : decode cX1_draw 43 = .ok (.aload_n 0, 1) := by decide +kernel
theorem dX1_draw_44 : decode cX1_draw 44 = .ok (.getfield 16, 3) := by decide +kernel
theorem dX1_draw_47 : decode cX1_draw 47 = .ok (.getfield 82, 3) := by decide +kernel
theorem dX1_draw_50 : decode cX1_draw 50 = .ok (.i2l, 1) := by decide +kernel
theorem dX1_draw_51 : decode cX1_draw 51 = .ok (.lcmp, 1) := by decide +kernel
theorem dX1_draw_52 : decode cX1_draw 52 = .ok (.ifCond .ge 12, 3) := by decide +kernel
theorem dX1_draw_55 : decode cX1_draw 55 = .ok (.iload 5, 2) := by decide +kernel
theorem dX1_draw_57 : decode cX1_draw 57 = .ok (.iconst 1, 1) := by decide +kernel
theorem dX1_draw_58 : decode cX1_draw 58 = .ok (.iload 6, 2) := by decide +kernel
theorem dX1_draw_60 : decode cX1_draw 60 = .ok (.ishl, 1) := by decide +kernel
theorem dX1_draw_61 : decode cX1_draw 61 = .ok (.ior, 1) := by decide +kernel
theorem dX1_draw_62 : decode cX1_draw 62 = .ok (.istore 5, 2) := by decide +kernel
theorem dX1_draw_64 : decode cX1_draw 64 = .ok (.iinc 6 1, 3) := by decide +kernel
theorem dX1_draw_67 : decode cX1_draw 67 = .ok (.goto (-59), 3) := by decide +kernel
theorem dX1_draw_70 : decode cX1_draw 70 = .ok (.iload 5, 2) := by decide +kernel
theorem dX1_draw_72 : decode cX1_draw 72 = .ok (.ireturn, 1) := by decide +kernel
theorem dX1_factorial_0 : decode cX1_factorial 0 = .ok (.lconst 1, 1) := by decide +kernel
theorem dX1_factorial_1 : decode cX1_factorial 1 = .ok (.lstore_n 1, 1) := by decide +kernel
theorem dX1_factorial_2 : decode cX1_factorial 2 = .ok (.iconst 2, 1) := by decide +kernel
theorem dX1_factorial_3 : decode cX1_factorial 3 = .ok (.istore_n 3, 1) := by decide +kernel
theorem dX1_factorial_4 : decode cX1_factorial 4 = .ok (.iload_n 3, 1) := by decide +kernel
theorem dX1_factorial_5 : decode cX1_factorial 5 = .ok (.iload_n 0, 1) := by decide +kernel
theorem dX1_factorial_6 : decode cX1_factorial 6 = .ok (.if_icmp .gt 14, 3) := by decide +kernel
theorem dX1_factorial_9 : decode cX1_factorial 9 = .ok (.lload_n 1, 1) := by decide +kernel
theorem dX1_factorial_10 : decode cX1_factorial 10 = .ok (.iload_n 3, 1) := by decide +kernel
theorem dX1_factorial_11 : decode cX1_factorial 11 = .ok (.i2l, 1) := by decide +kernel
theorem dX1_factorial_12 : decode cX1_factorial 12 = .ok (.lmul, 1) := by decide +kernel
theorem dX1_factorial_13 : decode cX1_factorial 13 = .ok (.lstore_n 1, 1) := by decide +kernel
theorem dX1_factorial_14 : decode cX1_factorial 14 = .ok (.iinc 3 1, 3) := by decide +kernel
theorem dX1_factorial_17 : decode cX1_factorial 17 = .ok (.goto (-13), 3) := by decide +kernel
theorem dX1_factorial_20 : decode cX1_factorial 20 = .ok (.lload_n 1, 1) := by decide +kernel
theorem dX1_factorial_21 : decode cX1_factorial 21 = .ok (.lreturn, 1) := by decide +kernel
theorem dX1_gain_0 : decode cX1_gain 0 = .ok (.aload_n 0, 1) := by decide +kernel
theorem dX1_gain_1 : decode cX1_gain 1 = .ok (.getfield 16, 3) := by decide +kernel
theorem dX1_gain_4 : decode cX1_gain 4 = .ok (.getfield 37, 3) := by decide +kernel
theorem dX1_gain_7 : decode cX1_gain 7 = .ok (.iload_n 2, 1) := by decide +kernel
theorem dX1_gain_8 : decode cX1_gain 8 = .ok (.iload_n 1, 1) := by decide +kernel
theorem dX1_gain_9 : decode cX1_gain 9 = .ok (.ishl, 1) := by decide +kernel
theorem dX1_gain_10 : decode cX1_gain 10 = .ok (.ior, 1) := by decide +kernel
theorem dX1_gain_11 : decode cX1_gain 11 = .ok (.iload 4, 2) := by decide +kernel
theorem dX1_gain_13 : decode cX1_gain 13 = .ok (.iload_n 3, 1) := by decide +kernel
theorem dX1_gain_14 : decode cX1_gain 14 = .ok (.ishl, 1) := by decide +kernel
theorem dX1_gain_15 : decode cX1_gain 15 = .ok (.ior, 1) := by decide +kernel
theorem dX1_gain_16 : decode cX1_gain 16 = .ok (.istore 5, 2) := by decide +kernel
theorem dX1_gain_18 : decode cX1_gain 18 = .ok (.aload_n 0, 1) := by decide +kernel
theorem dX1_gain_19 : decode cX1_gain 19 = .ok (.getfield 20, 3) := by decide +kernel
theorem dX1_gain_22 : decode cX1_gain 22 = .ok (.iload_n 1, 1) := by decide +kernel
theorem dX1_gain_23 : decode cX1_gain 23 = .ok (.invokevirtual 65, 3) := by decide +kernel
theorem dX1_gain_26 : decode cX1_gain 26 = .ok (.aload_n 0, 1) := by decide +kernel
theorem dX1_gain_27 : decode cX1_gain 27 = .ok (.getfield 20, 3) := by decide +kernel
theorem dX1_gain_30 : decode cX1_gain 30 = .ok (.aload_n 0, 1) := by decide +kernel
theorem dX1_gain_31 : decode cX1_gain 31 = .ok (.getfield 16, 3) := by decide +kernel
theorem dX1_gain_34 : decode cX1_gain 34 = .ok (.getfield 30, 3) := by decide +kernel
theorem dX1_gain_37 : decode cX1_gain 37 = .ok (.iload 5, 2) := by decide +kernel
theorem dX1_gain_39 : decode cX1_gain 39 = .ok (.invokevirtual 40, 3) := by decide +kernel
theorem dX1_gain_42 : decode cX1_gain 42 = .ok (.isub, 1) := by decide +kernel
theorem dX1_gain_43 : decode cX1_gain 43 = .ok (.iconst 2, 1) := by decide +kernel
theorem dX1_gain_44 : decode cX1_gain 44 = .ok (.iload_n 2, 1) := by decide +kernel
theorem dX1_gain_45 : decode cX1_gain 45 = .ok (.imul, 1) := by decide +kernel
theorem dX1_gain_46 : decode cX1_gain 46 = .ok (.isub, 1) := by decide +kernel
theorem dX1_gain_47 : decode cX1_gain 47 = .ok (.ireturn, 1) := by decide +kernel
theorem dX1_lowest_0 : decode cX1_lowest 0 = .ok (.lload_n 0, 1) := by decide +kernel
theorem dX1_lowest_1 : decode cX1_lowest 1 = .ok (.invokestatic 59, 3) := by decide +kernel
theorem dX1_lowest_4 : decode cX1_lowest 4 = .ok (.lstore 5, 2) := by decide +kernel
theorem dX1_lowest_6 : decode cX1_lowest 6 = .ok (.lload_n 2, 1) := by decide +kernel
theorem dX1_lowest_7 : decode cX1_lowest 7 = .ok (.lstore 7, 2) := by decide +kernel
theorem dX1_lowest_9 : decode cX1_lowest 9 = .ok (.iconst 0, 1) := by decide +kernel
theorem dX1_lowest_10 : decode cX1_lowest 10 = .ok (.istore 9, 2) := by decide +kernel
theorem dX1_lowest_12 : decode cX1_lowest 12 = .ok (.iload 9, 2) := by decide +kernel
theorem dX1_lowest_14 : decode cX1_lowest 14 = .ok (.sipush 200, 3) := by decide +kernel
theorem dX1_lowest_17 : decode cX1_lowest 17 = .ok (.if_icmp .ge 31, 3) := by decide +kernel
theorem dX1_lowest_20 : decode cX1_lowest 20 = .ok (.lload 7, 2) := by decide +kernel
theorem dX1_lowest_22 : decode cX1_lowest 22 = .ok (.lconst 0, 1) := by decide +kernel
theorem dX1_lowest_23 : decode cX1_lowest 23 = .ok (.lcmp, 1) := by decide +kernel
theorem dX1_lowest_24 : decode cX1_lowest 24 = .ok (.ifCond .eq 24, 3) := by decide +kernel
theorem dX1_lowest_27 : decode cX1_lowest 27 = .ok (.lload 5, 2) := by decide +kernel
theorem dX1_lowest_29 : decode cX1_lowest 29 = .ok (.lload 7, 2) := by decide +kernel
theorem dX1_lowest_31 : decode cX1_lowest 31 = .ok (.lrem, 1) := by decide +kernel
theorem dX1_lowest_32 : decode cX1_lowest 32 = .ok (.lstore 10, 2) := by decide +kernel
theorem dX1_lowest_34 : decode cX1_lowest 34 = .ok (.lload 7, 2) := by decide +kernel
theorem dX1_lowest_36 : decode cX1_lowest 36 = .ok (.lstore 5, 2) := by decide +kernel
theorem dX1_lowest_38 : decode cX1_lowest 38 = .ok (.lload 10, 2) := by decide +kernel
theorem dX1_lowest_40 : decode cX1_lowest 40 = .ok (.lstore 7, 2) := by decide +kernel
theorem dX1_lowest_42 : decode cX1_lowest 42 = .ok (.iinc 9 1, 3) := by decide +kernel
theorem dX1_lowest_45 : decode cX1_lowest 45 = .ok (.goto (-33), 3) := by decide +kernel
theorem dX1_lowest_48 : decode cX1_lowest 48 = .ok (.lload 5, 2) := by decide +kernel
theorem dX1_lowest_50 : decode cX1_lowest 50 = .ok (.lconst 0, 1) := by decide +kernel
theorem dX1_lowest_51 : decode cX1_lowest 51 = .ok (.lcmp, 1) := by decide +kernel
theorem dX1_lowest_52 : decode cX1_lowest 52 = .ok (.ifCond .ne 14, 3) := by decide +kernel
theorem dX1_lowest_55 : decode cX1_lowest 55 = .ok (.iload 4, 2) := by decide +kernel
theorem dX1_lowest_57 : decode cX1_lowest 57 = .ok (.ifCond .ne 7, 3) := by decide +kernel
theorem dX1_lowest_60 : decode cX1_lowest 60 = .ok (.lload_n 0, 1) := by decide +kernel
theorem dX1_lowest_61 : decode cX1_lowest 61 = .ok (.goto 4, 3) := by decide +kernel
theorem dX1_lowest_64 : decode cX1_lowest 64 = .ok (.lload_n 2, 1) := by decide +kernel
theorem dX1_lowest_65 : decode cX1_lowest 65 = .ok (.lreturn, 1) := by decide +kernel
theorem dX1_lowest_66 : decode cX1_lowest 66 = .ok (.iload 4, 2) := by decide +kernel
theorem dX1_lowest_68 : decode cX1_lowest 68 = .ok (.ifCond .ne 10, 3) := by decide +kernel
theorem dX1_lowest_71 : decode cX1_lowest 71 = .ok (.lload_n 0, 1) := by decide +kernel
theorem dX1_lowest_72 : decode cX1_lowest 72 = .ok (.lload 5, 2) := by decide +kernel
theorem dX1_lowest_74 : decode cX1_lowest 74 = .ok (.ldiv, 1) := by decide +kernel
theorem dX1_lowest_75 : decode cX1_lowest 75 = .ok (.goto 7, 3) := by decide +kernel
theorem dX1_lowest_78 : decode cX1_lowest 78 = .ok (.lload_n 2, 1) := by decide +kernel
theorem dX1_lowest_79 : decode cX1_lowest 79 = .ok (.lload 5, 2) := by decide +kernel
theorem dX1_lowest_81 : decode cX1_lowest 81 = .ok (.ldiv, 1) := by decide +kernel
theorem dX1_lowest_82 : decode cX1_lowest 82 = .ok (.lreturn, 1) := by decide +kernel
theorem dX1_meanOfValids_0 : decode cX1_meanOfValids 0 = .ok (.lconst 0, 1) := by decide +kernel
theorem dX1_meanOfValids_1 : decode cX1_meanOfValids 1 = .ok (.lstore_n 2, 1) := by decide +kernel
theorem dX1_meanOfValids_2 : decode cX1_meanOfValids 2 = .ok (.iconst 0, 1) := by decide +kernel
theorem dX1_meanOfValids_3 : decode cX1_meanOfValids 3 = .ok (.istore 4, 2) := by decide +kernel
theorem dX1_meanOfValids_5 : decode cX1_meanOfValids 5 = .ok (.iload 4, 2) := by decide +kernel
theorem dX1_meanOfValids_7 : decode cX1_meanOfValids 7 = .ok (.iconst 1, 1) := by decide +kernel
theorem dX1_meanOfValids_8 : decode cX1_meanOfValids 8 = .ok (.aload_n 0, 1) := by decide +kernel
theorem dX1_meanOfValids_9 : decode cX1_meanOfValids 9 = .ok (.getfield 16, 3) := by decide +kernel
theorem dX1_meanOfValids_12 : decode cX1_meanOfValids 12 = .ok (.getfield 24, 3) := by decide +kernel
theorem dX1_meanOfValids_15 : decode cX1_meanOfValids 15 = .ok (.ishl, 1) := by decide +kernel
theorem dX1_meanOfValids_16 : decode cX1_meanOfValids 16 = .ok (.if_icmp .ge 37, 3) := by decide +kernel
theorem dX1_meanOfValids_19 : decode cX1_meanOfValids 19 = .ok (.lload_n 2, 1) := by decide +kernel
theorem dX1_meanOfValids_20 : decode cX1_meanOfValids 20 = .ok (.aload_n 0, 1) := by decide +kernel
theorem dX1_meanOfValids_21 : decode cX1_meanOfValids 21 = .ok (.iload 4, 2) := by decide +kernel
theorem dX1_meanOfValids_23 : decode cX1_meanOfValids 23 = .ok (.invokevirtual 68, 3) := by decide +kernel
theorem dX1_meanOfValids_26 : decode cX1_meanOfValids 26 = .ok (.aload_n 0, 1) := by decide +kernel
theorem dX1_meanOfValids_27 : decode cX1_meanOfValids 27 = .ok (.getfield 20, 3) := by decide +kernel
theorem dX1_meanOfValids_30 : decode cX1_meanOfValids 30 = .ok (.aload_n 0, 1) := by decide +kernel
theorem dX1_meanOfValids_31 : decode cX1_meanOfValids 31 = .ok (.getfield 16, 3) := by decide +kernel
theorem dX1_meanOfValids_34 : decode cX1_meanOfValids 34 = .ok (.getfield 30, 3) := by decide +kernel
theorem dX1_meanOfValids_37 : decode cX1_meanOfValids 37 = .ok (.iload 4, 2) := by decide +kernel
theorem dX1_meanOfValids_39 : decode cX1_meanOfValids 39 = .ok (.ior, 1) := by decide +kernel
theorem dX1_meanOfValids_40 : decode cX1_meanOfValids 40 = .ok (.invokevirtual 79, 3) := by decide +kernel
theorem dX1_meanOfValids_43 : decode cX1_meanOfValids 43 = .ok (.i2l, 1) := by decide +kernel
theorem dX1_meanOfValids_44 : decode cX1_meanOfValids 44 = .ok (.lmul, 1) := by decide +kernel
theorem dX1_meanOfValids_45 : decode cX1_meanOfValids 45 = .ok (.ladd, 1) := by decide +kernel
theorem dX1_meanOfValids_46 : decode cX1_meanOfValids 46 = .ok (.lstore_n 2, 1) := by decide +kernel
theorem dX1_meanOfValids_47 : decode cX1_meanOfValids 47 = .ok (.iinc 4 1, 3) := by decide +kernel
theorem dX1_meanOfValids_50 : decode cX1_meanOfValids 50 = .ok (.goto (-45), 3) := by decide +kernel
theorem dX1_meanOfValids_53 : decode cX1_meanOfValids 53 = .ok (.lload_n 2, 1) := by decide +kernel
theorem dX1_meanOfValids_54 : decode cX1_meanOfValids 54 = .ok (.bipush 10, 2) := by decide +kernel
theorem dX1_meanOfValids_56 : decode cX1_meanOfValids 56 = .ok (.aload_n 0, 1) := by decide +kernel
theorem dX1_meanOfValids_57 : decode cX1_meanOfValids 57 = .ok (.getfield 16, 3) := by decide +kernel
theorem dX1_meanOfValids_60 : decode cX1_meanOfValids 60 = .ok (.getfield 24, 3) := by decide +kernel
theorem dX1_meanOfValids_63 : decode cX1_meanOfValids 63 = .ok (.invokestatic 75, 3) := by decide +kernel
theorem dX1_meanOfValids_66 : decode cX1_meanOfValids 66 = .ok (.iload_n 1, 1) := by decide +kernel
theorem dX1_meanOfValids_67 : decode cX1_meanOfValids 67 = .ok (.invokestatic 55, 3) := by decide +kernel
theorem dX1_meanOfValids_70 : decode cX1_meanOfValids 70 = .ok (.lreturn, 1) := by decide +kernel
theorem dX1_oddsOf_0 : decode cX1_oddsOf 0 = .ok (.iload_n 1, 1) := by decide +kernel
theorem dX1_oddsOf_1 : decode cX1_oddsOf 1 = .ok (.invokestatic 46, 3) := by decide +kernel
theorem dX1_oddsOf_4 : decode cX1_oddsOf 4 = .ok (.istore_n 2, 1) := by decide +kernel
theorem dX1_oddsOf_5 : decode cX1_oddsOf 5 = .ok (.aload_n 0, 1) := by decide +kernel
theorem dX1_oddsOf_6 : decode cX1_oddsOf 6 = .ok (.getfield 16, 3) := by decide +kernel
theorem dX1_oddsOf_9 : decode cX1_oddsOf 9 = .ok (.getfield 82, 3) := by decide +kernel
theorem dX1_oddsOf_12 : decode cX1_oddsOf 12 = .ok (.iload_n 2, 1) := by decide +kernel
theorem dX1_oddsOf_13 : decode cX1_oddsOf 13 = .ok (.invokestatic 75, 3) := by decide +kernel
theorem dX1_oddsOf_16 : decode cX1_oddsOf 16 = .ok (.bipush 10, 2) := by decide +kernel
theorem dX1_oddsOf_18 : decode cX1_oddsOf 18 = .ok (.aload_n 0, 1) := by decide +kernel
theorem dX1_oddsOf_19 : decode cX1_oddsOf 19 = .ok (.getfield 16, 3) := by decide +kernel
theorem dX1_oddsOf_22 : decode cX1_oddsOf 22 = .ok (.getfield 82, 3) := by decide +kernel
theorem dX1_oddsOf_25 : decode cX1_oddsOf 25 = .ok (.isub, 1) := by decide +kernel
theorem dX1_oddsOf_26 : decode cX1_oddsOf 26 = .ok (.aload_n 0, 1) := by decide +kernel
theorem dX1_oddsOf_27 : decode cX1_oddsOf 27 = .ok (.getfield 16, 3) := by decide +kernel
theorem dX1_oddsOf_30 : decode cX1_oddsOf 30 = .ok (.getfield 24, 3) := by decide +kernel
theorem dX1_oddsOf_33 : decode cX1_oddsOf 33 = .ok (.iload_n 2, 1) := by decide +kernel
theorem dX1_oddsOf_34 : decode cX1_oddsOf 34 = .ok (.isub, 1) := by decide +kernel
theorem dX1_oddsOf_35 : decode cX1_oddsOf 35 = .ok (.invokestatic 75, 3) := by decide +kernel
theorem dX1_oddsOf_38 : decode cX1_oddsOf 38 = .ok (.lmul, 1) := by decide +kernel
theorem dX1_oddsOf_39 : decode cX1_oddsOf 39 = .ok (.lreturn, 1) := by decide +kernel
theorem dX1_othersDropped_0 : decode cX1_othersDropped 0 = .ok (.iconst 1, 1) := by decide +kernel
theorem dX1_othersDropped_1 : decode cX1_othersDropped 1 = .ok (.aload_n 0, 1) := by decide +kernel
theorem dX1_othersDropped_2 : decode cX1_othersDropped 2 = .ok (.getfield 16, 3) := by decide +kernel
theorem dX1_othersDropped_5 : decode cX1_othersDropped 5 = .ok (.getfield 24, 3) := by decide +kernel
theorem dX1_othersDropped_8 : decode cX1_othersDropped 8 = .ok (.ishl, 1) := by decide +kernel
theorem dX1_othersDropped_9 : decode cX1_othersDropped 9 = .ok (.iconst 1, 1) := by decide +kernel
theorem dX1_othersDropped_10 : decode cX1_othersDropped 10 = .ok (.isub, 1) := by decide +kernel
theorem dX1_othersDropped_11 : decode cX1_othersDropped 11 = .ok (.istore_n 2, 1) := by decide +kernel
theorem dX1_othersDropped_12 : decode cX1_othersDropped 12 = .ok (.aload_n 0, 1) := by decide +kernel
theorem dX1_othersDropped_13 : decode cX1_othersDropped 13 = .ok (.getfield 16, 3) := by decide +kernel
theorem dX1_othersDropped_16 : decode cX1_othersDropped 16 = .ok (.getfield 30, 3) := by decide +kernel
theorem dX1_othersDropped_19 : decode cX1_othersDropped 19 = .ok (.iload_n 2, 1) := by decide +kernel
theorem dX1_othersDropped_20 : decode cX1_othersDropped 20 = .ok (.iload_n 1, 1) := by decide +kernel
theorem dX1_othersDropped_21 : decode cX1_othersDropped 21 = .ok (.iconst (-1), 1) := by decide +kernel
theorem dX1_othersDropped_22 : decode cX1_othersDropped 22 = .ok (.ixor, 1) := by decide +kernel
theorem dX1_othersDropped_23 : decode cX1_othersDropped 23 = .ok (.iand, 1) := by decide +kernel
theorem dX1_othersDropped_24 : decode cX1_othersDropped 24 = .ok (.ior, 1) := by decide +kernel
theorem dX1_othersDropped_25 : decode cX1_othersDropped 25 = .ok (.ireturn, 1) := by decide +kernel
theorem dX1_power_0 : decode cX1_power 0 = .ok (.lconst 1, 1) := by decide +kernel
theorem dX1_power_1 : decode cX1_power 1 = .ok (.lstore_n 2, 1) := by decide +kernel
theorem dX1_power_2 : decode cX1_power 2 = .ok (.iconst 0, 1) := by decide +kernel
theorem dX1_power_3 : decode cX1_power 3 = .ok (.istore 4, 2) := by decide +kernel
theorem dX1_power_5 : decode cX1_power 5 = .ok (.iload 4, 2) := by decide +kernel
theorem dX1_power_7 : decode cX1_power 7 = .ok (.iload_n 1, 1) := by decide +kernel
theorem dX1_power_8 : decode cX1_power 8 = .ok (.if_icmp .ge 14, 3) := by decide +kernel
theorem dX1_power_11 : decode cX1_power 11 = .ok (.lload_n 2, 1) := by decide +kernel
theorem dX1_power_12 : decode cX1_power 12 = .ok (.iload_n 0, 1) := by decide +kernel
theorem dX1_power_13 : decode cX1_power 13 = .ok (.i2l, 1) := by decide +kernel
theorem dX1_power_14 : decode cX1_power 14 = .ok (.lmul, 1) := by decide +kernel
theorem dX1_power_15 : decode cX1_power 15 = .ok (.lstore_n 2, 1) := by decide +kernel
theorem dX1_power_16 : decode cX1_power 16 = .ok (.iinc 4 1, 3) := by decide +kernel
theorem dX1_power_19 : decode cX1_power 19 = .ok (.goto (-14), 3) := by decide +kernel
theorem dX1_power_22 : decode cX1_power 22 = .ok (.lload_n 2, 1) := by decide +kernel
theorem dX1_power_23 : decode cX1_power 23 = .ok (.lreturn, 1) := by decide +kernel
theorem dX1_restsOf_0 : decode cX1_restsOf 0 = .ok (.iconst 0, 1) := by decide +kernel
theorem dX1_restsOf_1 : decode cX1_restsOf 1 = .ok (.istore_n 3, 1) := by decide +kernel
theorem dX1_restsOf_2 : decode cX1_restsOf 2 = .ok (.iload_n 3, 1) := by decide +kernel
theorem dX1_restsOf_3 : decode cX1_restsOf 3 = .ok (.iconst 4, 1) := by decide +kernel
theorem dX1_restsOf_4 : decode cX1_restsOf 4 = .ok (.if_icmp .ge 52, 3) := by decide +kernel
theorem dX1_restsOf_7 : decode cX1_restsOf 7 = .ok (.aload_n 0, 1) := by decide +kernel
theorem dX1_restsOf_8 : decode cX1_restsOf 8 = .ok (.getfield 16, 3) := by decide +kernel
theorem dX1_restsOf_11 : decode cX1_restsOf 11 = .ok (.getfield 37, 3) := by decide +kernel
theorem dX1_restsOf_14 : decode cX1_restsOf 14 = .ok (.iload_n 3, 1) := by decide +kernel
theorem dX1_restsOf_15 : decode cX1_restsOf 15 = .ok (.iconst 1, 1) := by decide +kernel
theorem dX1_restsOf_16 : decode cX1_restsOf 16 = .ok (.iand, 1) := by decide +kernel
theorem dX1_restsOf_17 : decode cX1_restsOf 17 = .ok (.iload_n 1, 1) := by decide +kernel
theorem dX1_restsOf_18 : decode cX1_restsOf 18 = .ok (.ishl, 1) := by decide +kernel
theorem dX1_restsOf_19 : decode cX1_restsOf 19 = .ok (.ior, 1) := by decide +kernel
theorem dX1_restsOf_20 : decode cX1_restsOf 20 = .ok (.iload_n 3, 1) := by decide +kernel
theorem dX1_restsOf_21 : decode cX1_restsOf 21 = .ok (.iconst 1, 1) := by decide +kernel
theorem dX1_restsOf_22 : decode cX1_restsOf 22 = .ok (.ishr, 1) := by decide +kernel
theorem dX1_restsOf_23 : decode cX1_restsOf 23 = .ok (.iload_n 2, 1) := by decide +kernel
theorem dX1_restsOf_24 : decode cX1_restsOf 24 = .ok (.ishl, 1) := by decide +kernel
theorem dX1_restsOf_25 : decode cX1_restsOf 25 = .ok (.ior, 1) := by decide +kernel
theorem dX1_restsOf_26 : decode cX1_restsOf 26 = .ok (.istore 4, 2) := by decide +kernel
theorem dX1_restsOf_28 : decode cX1_restsOf 28 = .ok (.aload_n 0, 1) := by decide +kernel
theorem dX1_restsOf_29 : decode cX1_restsOf 29 = .ok (.getfield 13, 3) := by decide +kernel
theorem dX1_restsOf_32 : decode cX1_restsOf 32 = .ok (.iload_n 3, 1) := by decide +kernel
theorem dX1_restsOf_33 : decode cX1_restsOf 33 = .ok (.aload_n 0, 1) := by decide +kernel
theorem dX1_restsOf_34 : decode cX1_restsOf 34 = .ok (.getfield 20, 3) := by decide +kernel
theorem dX1_restsOf_37 : decode cX1_restsOf 37 = .ok (.aload_n 0, 1) := by decide +kernel
theorem dX1_restsOf_38 : decode cX1_restsOf 38 = .ok (.getfield 16, 3) := by decide +kernel
theorem dX1_restsOf_41 : decode cX1_restsOf 41 = .ok (.getfield 30, 3) := by decide +kernel
theorem dX1_restsOf_44 : decode cX1_restsOf 44 = .ok (.iload 4, 2) := by decide +kernel
theorem dX1_restsOf_46 : decode cX1_restsOf 46 = .ok (.invokevirtual 40, 3) := by decide +kernel
theorem dX1_restsOf_49 : decode cX1_restsOf 49 = .ok (.iastore, 1) := by decide +kernel
theorem dX1_restsOf_50 : decode cX1_restsOf 50 = .ok (.iinc 3 1, 3) := by decide +kernel
theorem dX1_restsOf_53 : decode cX1_restsOf 53 = .ok (.goto (-51), 3) := by decide +kernel
theorem dX1_restsOf_56 : decode cX1_restsOf 56 = .ok (.iconst 0, 1) := by decide +kernel
theorem dX1_restsOf_57 : decode cX1_restsOf 57 = .ok (.istore_n 3, 1) := by decide +kernel
theorem dX1_restsOf_58 : decode cX1_restsOf 58 = .ok (.iconst 0, 1) := by decide +kernel
theorem dX1_restsOf_59 : decode cX1_restsOf 59 = .ok (.istore 4, 2) := by decide +kernel
theorem dX1_restsOf_61 : decode cX1_restsOf 61 = .ok (.iload 4, 2) := by decide +kernel
theorem dX1_restsOf_63 : decode cX1_restsOf 63 = .ok (.iconst 4, 1) := by decide +kernel
theorem dX1_restsOf_64 : decode cX1_restsOf 64 = .ok (.if_icmp .ge 106, 3) := by decide +kernel
theorem dX1_restsOf_67 : decode cX1_restsOf 67 = .ok (.aload_n 0, 1) := by decide +kernel
theorem dX1_restsOf_68 : decode cX1_restsOf 68 = .ok (.getfield 13, 3) := by decide +kernel
theorem dX1_restsOf_71 : decode cX1_restsOf 71 = .ok (.iload 4, 2) := by decide +kernel
theorem dX1_restsOf_73 : decode cX1_restsOf 73 = .ok (.iaload, 1) := by decide +kernel
theorem dX1_restsOf_74 : decode cX1_restsOf 74 = .ok (.iconst 2, 1) := by decide +kernel
theorem dX1_restsOf_75 : decode cX1_restsOf 75 = .ok (.iload 4, 2) := by decide +kernel
theorem dX1_restsOf_77 : decode cX1_restsOf 77 = .ok (.iconst 1, 1) := by decide +kernel
theorem dX1_restsOf_78 : decode cX1_restsOf 78 = .ok (.iand, 1) := by decide +kernel
theorem dX1_restsOf_79 : decode cX1_restsOf 79 = .ok (.imul, 1) := by decide +kernel
theorem dX1_restsOf_80 : decode cX1_restsOf 80 = .ok (.iadd, 1) := by decide +kernel
theorem dX1_restsOf_81 : decode cX1_restsOf 81 = .ok (.aload_n 0, 1) := by decide +kernel
theorem dX1_restsOf_82 : decode cX1_restsOf 82 = .ok (.getfield 13, 3) := by decide +kernel
theorem dX1_restsOf_85 : decode cX1_restsOf 85 = .ok (.iload 4, 2) := by decide +kernel
theorem dX1_restsOf_87 : decode cX1_restsOf 87 = .ok (.iconst 1, 1) := by decide +kernel
theorem dX1_restsOf_88 : decode cX1_restsOf 88 = .ok (.ixor, 1) := by decide +kernel
theorem dX1_restsOf_89 : decode cX1_restsOf 89 = .ok (.iaload, 1) := by decide +kernel
theorem dX1_restsOf_90 : decode cX1_restsOf 90 = .ok (.iconst 2, 1) := by decide +kernel
theorem dX1_restsOf_91 : decode cX1_restsOf 91 = .ok (.iload 4, 2) := by decide +kernel
theorem dX1_restsOf_93 : decode cX1_restsOf 93 = .ok (.iconst (-1), 1) := by decide +kernel
theorem dX1_restsOf_94 : decode cX1_restsOf 94 = .ok (.ixor, 1) := by decide +kernel
theorem dX1_restsOf_95 : decode cX1_restsOf 95 = .ok (.iconst 1, 1) := by decide +kernel
theorem dX1_restsOf_96 : decode cX1_restsOf 96 = .ok (.iand, 1) := by decide +kernel
theorem dX1_restsOf_97 : decode cX1_restsOf 97 = .ok (.imul, 1) := by decide +kernel
theorem dX1_restsOf_98 : decode cX1_restsOf 98 = .ok (.iadd, 1) := by decide +kernel
theorem dX1_restsOf_99 : decode cX1_restsOf 99 = .ok (.if_icmp .gt 7, 3) := by decide +kernel
theorem dX1_restsOf_102 : decode cX1_restsOf 102 = .ok (.iconst 1, 1) := by decide +kernel
theorem dX1_restsOf_103 : decode cX1_restsOf 103 = .ok (.goto 4, 3) := by decide +kernel
theorem dX1_restsOf_106 : decode cX1_restsOf 106 = .ok (.iconst 0, 1) := by decide +kernel
theorem dX1_restsOf_107 : decode cX1_restsOf 107 = .ok (.istore 5, 2) := by decide +kernel
theorem dX1_restsOf_109 : decode cX1_restsOf 109 = .ok (.aload_n 0, 1) := by decide +kernel
theorem dX1_restsOf_110 : decode cX1_restsOf 110 = .ok (.getfield 13, 3) := by decide +kernel
theorem dX1_restsOf_113 : decode cX1_restsOf 113 = .ok (.iload 4, 2) := by decide +kernel
theorem dX1_restsOf_115 : decode cX1_restsOf 115 = .ok (.iaload, 1) := by decide +kernel
theorem dX1_restsOf_116 : decode cX1_restsOf 116 = .ok (.iload 4, 2) := by decide +kernel
theorem dX1_restsOf_118 : decode cX1_restsOf 118 = .ok (.iconst 2, 1) := by decide +kernel
theorem dX1_restsOf_119 : decode cX1_restsOf 119 = .ok (.iand, 1) := by decide +kernel
theorem dX1_restsOf_120 : decode cX1_restsOf 120 = .ok (.iadd, 1) := by decide +kernel
theorem dX1_restsOf_121 : decode cX1_restsOf 121 = .ok (.aload_n 0, 1) := by decide +kernel
theorem dX1_restsOf_122 : decode cX1_restsOf 122 = .ok (.getfield 13, 3) := by decide +kernel
theorem dX1_restsOf_125 : decode cX1_restsOf 125 = .ok (.iload 4, 2) := by decide +kernel
theorem dX1_restsOf_127 : decode cX1_restsOf 127 = .ok (.iconst 2, 1) := by decide +kernel
theorem dX1_restsOf_128 : decode cX1_restsOf 128 = .ok (.ixor, 1) := by decide +kernel
theorem dX1_restsOf_129 : decode cX1_restsOf 129 = .ok (.iaload, 1) := by decide +kernel
theorem dX1_restsOf_130 : decode cX1_restsOf 130 = .ok (.iload 4, 2) := by decide +kernel
theorem dX1_restsOf_132 : decode cX1_restsOf 132 = .ok (.iconst (-1), 1) := by decide +kernel
theorem dX1_restsOf_133 : decode cX1_restsOf 133 = .ok (.ixor, 1) := by decide +kernel
theorem dX1_restsOf_134 : decode cX1_restsOf 134 = .ok (.iconst 2, 1) := by decide +kernel
theorem dX1_restsOf_135 : decode cX1_restsOf 135 = .ok (.iand, 1) := by decide +kernel
theorem dX1_restsOf_136 : decode cX1_restsOf 136 = .ok (.iadd, 1) := by decide +kernel
theorem dX1_restsOf_137 : decode cX1_restsOf 137 = .ok (.if_icmp .gt 7, 3) := by decide +kernel
theorem dX1_restsOf_140 : decode cX1_restsOf 140 = .ok (.iconst 1, 1) := by decide +kernel
theorem dX1_restsOf_141 : decode cX1_restsOf 141 = .ok (.goto 4, 3) := by decide +kernel
theorem dX1_restsOf_144 : decode cX1_restsOf 144 = .ok (.iconst 0, 1) := by decide +kernel
theorem dX1_restsOf_145 : decode cX1_restsOf 145 = .ok (.istore 6, 2) := by decide +kernel
theorem dX1_restsOf_147 : decode cX1_restsOf 147 = .ok (.iload 5, 2) := by decide +kernel
theorem dX1_restsOf_149 : decode cX1_restsOf 149 = .ok (.ifCond .eq 15, 3) := by decide +kernel
theorem dX1_restsOf_152 : decode cX1_restsOf 152 = .ok (.iload 6, 2) := by decide +kernel
theorem dX1_restsOf_154 : decode cX1_restsOf 154 = .ok (.ifCond .eq 10, 3) := by decide +kernel
theorem dX1_restsOf_157 : decode cX1_restsOf 157 = .ok (.iload_n 3, 1) := by decide +kernel
theorem dX1_restsOf_158 : decode cX1_restsOf 158 = .ok (.iconst 1, 1) := by decide +kernel
theorem dX1_restsOf_159 : decode cX1_restsOf 159 = .ok (.iload 4, 2) := by decide +kernel
theorem dX1_restsOf_161 : decode cX1_restsOf 161 = .ok (.ishl, 1) := by decide +kernel
theorem dX1_restsOf_162 : decode cX1_restsOf 162 = .ok (.ior, 1) := by decide +kernel
theorem dX1_restsOf_163 : decode cX1_restsOf 163 = .ok (.istore_n 3, 1) := by decide +kernel
theorem dX1_restsOf_164 : decode cX1_restsOf 164 = .ok (.iinc 4 1, 3) := by decide +kernel
theorem dX1_restsOf_167 : decode cX1_restsOf 167 = .ok (.goto (-106), 3) := by decide +kernel
theorem dX1_restsOf_170 : decode cX1_restsOf 170 = .ok (.iload_n 3, 1) := by decide +kernel
theorem dX1_restsOf_171 : decode cX1_restsOf 171 = .ok (.ireturn, 1) := by decide +kernel
theorem dX1_safety_0 : decode cX1_safety 0 = .ok (.lconst 0, 1) := by decide +kernel
theorem dX1_safety_1 : decode cX1_safety 1 = .ok (.lstore_n 2, 1) := by decide +kernel
theorem dX1_safety_2 : decode cX1_safety 2 = .ok (.iconst 0, 1) := by decide +kernel
theorem dX1_safety_3 : decode cX1_safety 3 = .ok (.istore 4, 2) := by decide +kernel
theorem dX1_safety_5 : decode cX1_safety 5 = .ok (.iload 4, 2) := by decide +kernel
theorem dX1_safety_7 : decode cX1_safety 7 = .ok (.iconst 1, 1) := by decide +kernel
theorem dX1_safety_8 : decode cX1_safety 8 = .ok (.aload_n 0, 1) := by decide +kernel
theorem dX1_safety_9 : decode cX1_safety 9 = .ok (.getfield 16, 3) := by decide +kernel
theorem dX1_safety_12 : decode cX1_safety 12 = .ok (.getfield 24, 3) := by decide +kernel
theorem dX1_safety_15 : decode cX1_safety 15 = .ok (.ishl, 1) := by decide +kernel
theorem dX1_safety_16 : decode cX1_safety 16 = .ok (.if_icmp .ge 50, 3) := by decide +kernel
theorem dX1_safety_19 : decode cX1_safety 19 = .ok (.aload_n 0, 1) := by decide +kernel
theorem dX1_safety_20 : decode cX1_safety 20 = .ok (.iload 4, 2) := by decide +kernel
theorem dX1_safety_22 : decode cX1_safety 22 = .ok (.invokevirtual 68, 3) := by decide +kernel
theorem dX1_safety_25 : decode cX1_safety 25 = .ok (.lconst 0, 1) := by decide +kernel
theorem dX1_safety_26 : decode cX1_safety 26 = .ok (.lcmp, 1) := by decide +kernel
theorem dX1_safety_27 : decode cX1_safety 27 = .ok (.ifCond .eq 33, 3) := by decide +kernel
theorem dX1_safety_30 : decode cX1_safety 30 = .ok (.aload_n 0, 1) := by decide +kernel
theorem dX1_safety_31 : decode cX1_safety 31 = .ok (.getfield 20, 3) := by decide +kernel
theorem dX1_safety_34 : decode cX1_safety 34 = .ok (.aload_n 0, 1) := by decide +kernel
theorem dX1_safety_35 : decode cX1_safety 35 = .ok (.getfield 16, 3) := by decide +kernel
theorem dX1_safety_38 : decode cX1_safety 38 = .ok (.getfield 30, 3) := by decide +kernel
theorem dX1_safety_41 : decode cX1_safety 41 = .ok (.iload 4, 2) := by decide +kernel
theorem dX1_safety_43 : decode cX1_safety 43 = .ok (.ior, 1) := by decide +kernel
theorem dX1_safety_44 : decode cX1_safety 44 = .ok (.iconst 1, 1) := by decide +kernel
theorem dX1_safety_45 : decode cX1_safety 45 = .ok (.invokevirtual 71, 3) := by decide +kernel
theorem dX1_safety_48 : decode cX1_safety 48 = .ok (.ifCond .eq 12, 3) := by decide +kernel
theorem dX1_safety_51 : decode cX1_safety 51 = .ok (.lload_n 2, 1) := by decide +kernel
theorem dX1_safety_52 : decode cX1_safety 52 = .ok (.aload_n 0, 1) := by decide +kernel
theorem dX1_safety_53 : decode cX1_safety 53 = .ok (.iload 4, 2) := by decide +kernel
theorem dX1_safety_55 : decode cX1_safety 55 = .ok (.invokevirtual 68, 3) := by decide +kernel
theorem dX1_safety_58 : decode cX1_safety 58 = .ok (.ladd, 1) := by decide +kernel
theorem dX1_safety_59 : decode cX1_safety 59 = .ok (.lstore_n 2, 1) := by decide +kernel
theorem dX1_safety_60 : decode cX1_safety 60 = .ok (.iinc 4 1, 3) := by decide +kernel
theorem dX1_safety_63 : decode cX1_safety 63 = .ok (.goto (-58), 3) := by decide +kernel
theorem dX1_safety_66 : decode cX1_safety 66 = .ok (.lload_n 2, 1) := by decide +kernel
theorem dX1_safety_67 : decode cX1_safety 67 = .ok (.bipush 10, 2) := by decide +kernel
theorem dX1_safety_69 : decode cX1_safety 69 = .ok (.aload_n 0, 1) := by decide +kernel
theorem dX1_safety_70 : decode cX1_safety 70 = .ok (.getfield 16, 3) := by decide +kernel
theorem dX1_safety_73 : decode cX1_safety 73 = .ok (.getfield 24, 3) := by decide +kernel
theorem dX1_safety_76 : decode cX1_safety 76 = .ok (.invokestatic 75, 3) := by decide +kernel
theorem dX1_safety_79 : decode cX1_safety 79 = .ok (.iload_n 1, 1) := by decide +kernel
theorem dX1_safety_80 : decode cX1_safety 80 = .ok (.invokestatic 55, 3) := by decide +kernel
theorem dX1_safety_83 : decode cX1_safety 83 = .ok (.lreturn, 1) := by decide +kernel
theorem dX1_shareOf_0 : decode cX1_shareOf 0 = .ok (.iconst 1, 1) := by decide +kernel
theorem dX1_shareOf_1 : decode cX1_shareOf 1 = .ok (.iload_n 1, 1) := by decide +kernel
theorem dX1_shareOf_2 : decode cX1_shareOf 2 = .ok (.ishl, 1) := by decide +kernel
theorem dX1_shareOf_3 : decode cX1_shareOf 3 = .ok (.istore_n 3, 1) := by decide +kernel
theorem dX1_shareOf_4 : decode cX1_shareOf 4 = .ok (.iconst 0, 1) := by decide +kernel
theorem dX1_shareOf_5 : decode cX1_shareOf 5 = .ok (.istore 4, 2) := by decide +kernel
theorem dX1_shareOf_7 : decode cX1_shareOf 7 = .ok (.iload 4, 2) := by decide +kernel
theorem dX1_shareOf_9 : decode cX1_shareOf 9 = .ok (.iconst 1, 1) := by decide +kernel
theorem dX1_shareOf_10 : decode cX1_shareOf 10 = .ok (.aload_n 0, 1) := by decide +kernel
theorem dX1_shareOf_11 : decode cX1_shareOf 11 = .ok (.getfield 16, 3) := by decide +kernel
theorem dX1_shareOf_14 : decode cX1_shareOf 14 = .ok (.getfield 24, 3) := by decide +kernel
theorem dX1_shareOf_17 : decode cX1_shareOf 17 = .ok (.ishl, 1) := by decide +kernel
theorem dX1_shareOf_18 : decode cX1_shareOf 18 = .ok (.if_icmp .ge 43, 3) := by decide +kernel
theorem dX1_shareOf_21 : decode cX1_shareOf 21 = .ok (.iload 4, 2) := by decide +kernel
theorem dX1_shareOf_23 : decode cX1_shareOf 23 = .ok (.bipush 32, 2) := by decide +kernel
theorem dX1_shareOf_25 : decode cX1_shareOf 25 = .ok (.if_icmp .ge 36, 3) := by decide +kernel
theorem dX1_shareOf_28 : decode cX1_shareOf 28 = .ok (.aload_n 0, 1) := by decide +kernel
theorem dX1_shareOf_29 : decode cX1_shareOf 29 = .ok (.getfield 9, 3) := by decide +kernel
theorem dX1_shareOf_32 : decode cX1_shareOf 32 = .ok (.iload 4, 2) := by decide +kernel
theorem dX1_shareOf_34 : decode cX1_shareOf 34 = .ok (.aload_n 0, 1) := by decide +kernel
theorem dX1_shareOf_35 : decode cX1_shareOf 35 = .ok (.getfield 20, 3) := by decide +kernel
theorem dX1_shareOf_38 : decode cX1_shareOf 38 = .ok (.aload_n 0, 1) := by decide +kernel
theorem dX1_shareOf_39 : decode cX1_shareOf 39 = .ok (.iload 4, 2) := by decide +kernel
theorem dX1_shareOf_41 : decode cX1_shareOf 41 = .ok (.invokevirtual 33, 3) := by decide +kernel
theorem dX1_shareOf_44 : decode cX1_shareOf 44 = .ok (.aload_n 0, 1) := by decide +kernel
theorem dX1_shareOf_45 : decode cX1_shareOf 45 = .ok (.getfield 16, 3) := by decide +kernel
theorem dX1_shareOf_48 : decode cX1_shareOf 48 = .ok (.getfield 37, 3) := by decide +kernel
theorem dX1_shareOf_51 : decode cX1_shareOf 51 = .ok (.invokevirtual 40, 3) := by decide +kernel
theorem dX1_shareOf_54 : decode cX1_shareOf 54 = .ok (.iastore, 1) := by decide +kernel
theorem dX1_shareOf_55 : decode cX1_shareOf 55 = .ok (.iinc 4 1, 3) := by decide +kernel
theorem dX1_shareOf_58 : decode cX1_shareOf 58 = .ok (.goto (-51), 3) := by decide +kernel
theorem dX1_shareOf_61 : decode cX1_shareOf 61 = .ok (.lconst 0, 1) := by decide +kernel
theorem dX1_shareOf_62 : decode cX1_shareOf 62 = .ok (.lstore 4, 2) := by decide +kernel
theorem dX1_shareOf_64 : decode cX1_shareOf 64 = .ok (.iconst 0, 1) := by decide +kernel
theorem dX1_shareOf_65 : decode cX1_shareOf 65 = .ok (.istore 6, 2) := by decide +kernel
theorem dX1_shareOf_67 : decode cX1_shareOf 67 = .ok (.iload 6, 2) := by decide +kernel
theorem dX1_shareOf_69 : decode cX1_shareOf 69 = .ok (.iconst 1, 1) := by decide +kernel
theorem dX1_shareOf_70 : decode cX1_shareOf 70 = .ok (.aload_n 0, 1) := by decide +kernel
theorem dX1_shareOf_71 : decode cX1_shareOf 71 = .ok (.getfield 16, 3) := by decide +kernel
theorem dX1_shareOf_74 : decode cX1_shareOf 74 = .ok (.getfield 24, 3) := by decide +kernel
theorem dX1_shareOf_77 : decode cX1_shareOf 77 = .ok (.ishl, 1) := by decide +kernel
theorem dX1_shareOf_78 : decode cX1_shareOf 78 = .ok (.if_icmp .ge 83, 3) := by decide +kernel
theorem dX1_shareOf_81 : decode cX1_shareOf 81 = .ok (.iload 6, 2) := by decide +kernel
theorem dX1_shareOf_83 : decode cX1_shareOf 83 = .ok (.bipush 32, 2) := by decide +kernel
theorem dX1_shareOf_85 : decode cX1_shareOf 85 = .ok (.if_icmp .ge 76, 3) := by decide +kernel
theorem dX1_shareOf_88 : decode cX1_shareOf 88 = .ok (.iload 6, 2) := by decide +kernel
theorem dX1_shareOf_90 : decode cX1_shareOf 90 = .ok (.iload_n 3, 1) := by decide +kernel
theorem dX1_shareOf_91 : decode cX1_shareOf 91 = .ok (.iand, 1) := by decide +kernel
theorem dX1_shareOf_92 : decode cX1_shareOf 92 = .ok (.ifCond .eq 63, 3) := by decide +kernel
theorem dX1_shareOf_95 : decode cX1_shareOf 95 = .ok (.iload 6, 2) := by decide +kernel
theorem dX1_shareOf_97 : decode cX1_shareOf 97 = .ok (.invokestatic 46, 3) := by decide +kernel
theorem dX1_shareOf_100 : decode cX1_shareOf 100 = .ok (.iconst 1, 1) := by decide +kernel
theorem dX1_shareOf_101 : decode cX1_shareOf 101 = .ok (.isub, 1) := by decide +kernel
theorem dX1_shareOf_102 : decode cX1_shareOf 102 = .ok (.istore 7, 2) := by decide +kernel
theorem dX1_shareOf_104 : decode cX1_shareOf 104 = .ok (.iload 7, 2) := by decide +kernel
theorem dX1_shareOf_106 : decode cX1_shareOf 106 = .ok (.invokestatic 51, 3) := by decide +kernel
theorem dX1_shareOf_109 : decode cX1_shareOf 109 = .ok (.aload_n 0, 1) := by decide +kernel
theorem dX1_shareOf_110 : decode cX1_shareOf 110 = .ok (.getfield 16, 3) := by decide +kernel
theorem dX1_shareOf_113 : decode cX1_shareOf 113 = .ok (.getfield 24, 3) := by decide +kernel
theorem dX1_shareOf_116 : decode cX1_shareOf 116 = .ok (.iconst 1, 1) := by decide +kernel
theorem dX1_shareOf_117 : decode cX1_shareOf 117 = .ok (.isub, 1) := by decide +kernel
theorem dX1_shareOf_118 : decode cX1_shareOf 118 = .ok (.iload 7, 2) := by decide +kernel
theorem dX1_shareOf_120 : decode cX1_shareOf 120 = .ok (.isub, 1) := by decide +kernel
theorem dX1_shareOf_121 : decode cX1_shareOf 121 = .ok (.invokestatic 51, 3) := by decide +kernel
theorem dX1_shareOf_124 : decode cX1_shareOf 124 = .ok (.lmul, 1) := by decide +kernel
theorem dX1_shareOf_125 : decode cX1_shareOf 125 = .ok (.lstore 8, 2) := by decide +kernel
theorem dX1_shareOf_127 : decode cX1_shareOf 127 = .ok (.lload 4, 2) := by decide +kernel
theorem dX1_shareOf_129 : decode cX1_shareOf 129 = .ok (.lload 8, 2) := by decide +kernel
theorem dX1_shareOf_131 : decode cX1_shareOf 131 = .ok (.aload_n 0, 1) := by decide +kernel
theorem dX1_shareOf_132 : decode cX1_shareOf 132 = .ok (.getfield 9, 3) := by decide +kernel
theorem dX1_shareOf_135 : decode cX1_shareOf 135 = .ok (.iload 6, 2) := by decide +kernel
theorem dX1_shareOf_137 : decode cX1_shareOf 137 = .ok (.iaload, 1) := by decide +kernel
theorem dX1_shareOf_138 : decode cX1_shareOf 138 = .ok (.aload_n 0, 1) := by decide +kernel
theorem dX1_shareOf_139 : decode cX1_shareOf 139 = .ok (.getfield 9, 3) := by decide +kernel
theorem dX1_shareOf_142 : decode cX1_shareOf 142 = .ok (.iload 6, 2) := by decide +kernel
theorem dX1_shareOf_144 : decode cX1_shareOf 144 = .ok (.iload_n 3, 1) := by decide +kernel
theorem dX1_shareOf_145 : decode cX1_shareOf 145 = .ok (.iconst (-1), 1) := by decide +kernel
theorem dX1_shareOf_146 : decode cX1_shareOf 146 = .ok (.ixor, 1) := by decide +kernel
theorem dX1_shareOf_147 : decode cX1_shareOf 147 = .ok (.iand, 1) := by decide +kernel
theorem dX1_shareOf_148 : decode cX1_shareOf 148 = .ok (.iaload, 1) := by decide +kernel
theorem dX1_shareOf_149 : decode cX1_shareOf 149 = .ok (.isub, 1) := by decide +kernel
theorem dX1_shareOf_150 : decode cX1_shareOf 150 = .ok (.i2l, 1) := by decide +kernel
theorem dX1_shareOf_151 : decode cX1_shareOf 151 = .ok (.lmul, 1) := by decide +kernel
theorem dX1_shareOf_152 : decode cX1_shareOf 152 = .ok (.ladd, 1) := by decide +kernel
theorem dX1_shareOf_153 : decode cX1_shareOf 153 = .ok (.lstore 4, 2) := by decide +kernel
theorem dX1_shareOf_155 : decode cX1_shareOf 155 = .ok (.iinc 6 1, 3) := by decide +kernel
theorem dX1_shareOf_158 : decode cX1_shareOf 158 = .ok (.goto (-91), 3) := by decide +kernel
theorem dX1_shareOf_161 : decode cX1_shareOf 161 = .ok (.lload 4, 2) := by decide +kernel
theorem dX1_shareOf_163 : decode cX1_shareOf 163 = .ok (.aload_n 0, 1) := by decide +kernel
theorem dX1_shareOf_164 : decode cX1_shareOf 164 = .ok (.getfield 16, 3) := by decide +kernel
theorem dX1_shareOf_167 : decode cX1_shareOf 167 = .ok (.getfield 24, 3) := by decide +kernel
theorem dX1_shareOf_170 : decode cX1_shareOf 170 = .ok (.invokestatic 51, 3) := by decide +kernel
theorem dX1_shareOf_173 : decode cX1_shareOf 173 = .ok (.iload_n 2, 1) := by decide +kernel
theorem dX1_shareOf_174 : decode cX1_shareOf 174 = .ok (.invokestatic 55, 3) := by decide +kernel
theorem dX1_shareOf_177 : decode cX1_shareOf 177 = .ok (.lreturn, 1) := by decide +kernel
theorem dX5_cut_0 : decode cX5_cut 0 = .ok (.aload_n 0, 1) := by decide +kernel
theorem dX5_cut_1 : decode cX5_cut 1 = .ok (.getfield 15, 3) := by decide +kernel
theorem dX5_cut_4 : decode cX5_cut 4 = .ok (.tableswitch 42 0 2 #[28, 33, 38], 28) := by decide +kernel
theorem dX5_cut_32 : decode cX5_cut 32 = .ok (.lload_n 1, 1) := by decide +kernel
theorem dX5_cut_33 : decode cX5_cut 33 = .ok (.l2i, 1) := by decide +kernel
theorem dX5_cut_34 : decode cX5_cut 34 = .ok (.i2b, 1) := by decide +kernel
theorem dX5_cut_35 : decode cX5_cut 35 = .ok (.i2l, 1) := by decide +kernel
theorem dX5_cut_36 : decode cX5_cut 36 = .ok (.lreturn, 1) := by decide +kernel
theorem dX5_cut_37 : decode cX5_cut 37 = .ok (.lload_n 1, 1) := by decide +kernel
theorem dX5_cut_38 : decode cX5_cut 38 = .ok (.l2i, 1) := by decide +kernel
theorem dX5_cut_39 : decode cX5_cut 39 = .ok (.i2s, 1) := by decide +kernel
theorem dX5_cut_40 : decode cX5_cut 40 = .ok (.i2l, 1) := by decide +kernel
theorem dX5_cut_41 : decode cX5_cut 41 = .ok (.lreturn, 1) := by decide +kernel
theorem dX5_cut_42 : decode cX5_cut 42 = .ok (.lload_n 1, 1) := by decide +kernel
theorem dX5_cut_43 : decode cX5_cut 43 = .ok (.l2i, 1) := by decide +kernel
theorem dX5_cut_44 : decode cX5_cut 44 = .ok (.i2l, 1) := by decide +kernel
theorem dX5_cut_45 : decode cX5_cut 45 = .ok (.lreturn, 1) := by decide +kernel
theorem dX5_cut_46 : decode cX5_cut 46 = .ok (.lload_n 1, 1) := by decide +kernel
theorem dX5_cut_47 : decode cX5_cut 47 = .ok (.lreturn, 1) := by decide +kernel
theorem dX5_renew_0 : decode cX5_renew 0 = .ok (.aload_n 0, 1) := by decide +kernel
theorem dX5_renew_1 : decode cX5_renew 1 = .ok (.iconst 1, 1) := by decide +kernel
theorem dX5_renew_2 : decode cX5_renew 2 = .ok (.putfield 9, 3) := by decide +kernel
theorem dX5_renew_5 : decode cX5_renew 5 = .ok (.aload_n 0, 1) := by decide +kernel
theorem dX5_renew_6 : decode cX5_renew 6 = .ok (.iload_n 1, 1) := by decide +kernel
theorem dX5_renew_7 : decode cX5_renew 7 = .ok (.putfield 15, 3) := by decide +kernel
theorem dX5_renew_10 : decode cX5_renew 10 = .ok (.aload_n 0, 1) := by decide +kernel
theorem dX5_renew_11 : decode cX5_renew 11 = .ok (.iload_n 2, 1) := by decide +kernel
theorem dX5_renew_12 : decode cX5_renew 12 = .ok (.putfield 19, 3) := by decide +kernel
theorem dX5_renew_15 : decode cX5_renew 15 = .ok (.iconst 0, 1) := by decide +kernel
theorem dX5_renew_16 : decode cX5_renew 16 = .ok (.istore_n 3, 1) := by decide +kernel
theorem dX5_renew_17 : decode cX5_renew 17 = .ok (.iload_n 3, 1) := by decide +kernel
theorem dX5_renew_18 : decode cX5_renew 18 = .ok (.bipush 60, 2) := by decide +kernel
theorem dX5_renew_20 : decode cX5_renew 20 = .ok (.if_icmp .ge 16, 3) := by decide +kernel
theorem dX5_renew_23 : decode cX5_renew 23 = .ok (.aload_n 0, 1) := by decide +kernel
theorem dX5_renew_24 : decode cX5_renew 24 = .ok (.getfield 22, 3) := by decide +kernel
theorem dX5_renew_27 : decode cX5_renew 27 = .ok (.iload_n 3, 1) := by decide +kernel
theorem dX5_renew_28 : decode cX5_renew 28 = .ok (.lconst 0, 1) := by decide +kernel
theorem dX5_renew_29 : decode cX5_renew 29 = .ok (.lastore, 1) := by decide +kernel
theorem dX5_renew_30 : decode cX5_renew 30 = .ok (.iinc 3 1, 3) := by decide +kernel
theorem dX5_renew_33 : decode cX5_renew 33 = .ok (.goto (-16), 3) := by decide +kernel
theorem dX5_renew_36 : decode cX5_renew 36 = .ok (.return_, 1) := by decide +kernel
theorem dX5_spans_0 : decode cX5_spans 0 = .ok (.iload_n 1, 1) := by decide +kernel
theorem dX5_spans_1 : decode cX5_spans 1 = .ok (.ifCond .lt 29, 3) := by decide +kernel
theorem dX5_spans_4 : decode cX5_spans 4 = .ok (.iload_n 2, 1) := by decide +kernel
theorem dX5_spans_5 : decode cX5_spans 5 = .ok (.ifCond .lt 25, 3) := by decide +kernel
theorem dX5_spans_8 : decode cX5_spans 8 = .ok (.iload_n 1, 1) := by decide +kernel
theorem dX5_spans_9 : decode cX5_spans 9 = .ok (.aload_n 0, 1) := by decide +kernel
theorem dX5_spans_10 : decode cX5_spans 10 = .ok (.getfield 19, 3) := by decide +kernel
theorem dX5_spans_13 : decode cX5_spans 13 = .ok (.if_icmp .gt 17, 3) := by decide +kernel
theorem dX5_spans_16 : decode cX5_spans 16 = .ok (.iload_n 2, 1) := by decide +kernel
theorem dX5_spans_17 : decode cX5_spans 17 = .ok (.aload_n 0, 1) := by decide +kernel
theorem dX5_spans_18 : decode cX5_spans 18 = .ok (.getfield 19, 3) := by decide +kernel
theorem dX5_spans_21 : decode cX5_spans 21 = .ok (.iload_n 1, 1) := by decide +kernel
theorem dX5_spans_22 : decode cX5_spans 22 = .ok (.isub, 1) := by decide +kernel
theorem dX5_spans_23 : decode cX5_spans 23 = .ok (.if_icmp .gt 7, 3) := by decide +kernel
theorem dX5_spans_26 : decode cX5_spans 26 = .ok (.iconst 1, 1) := by decide +kernel
theorem dX5_spans_27 : decode cX5_spans 27 = .ok (.goto 4, 3) := by decide +kernel
theorem dX5_spans_30 : decode cX5_spans 30 = .ok (.iconst 0, 1) := by decide +kernel
theorem dX5_spans_31 : decode cX5_spans 31 = .ok (.ireturn, 1) := by decide +kernel
theorem dX7_put_0 : decode cX7_put 0 = .ok (.bipush 24, 2) := by decide +kernel
theorem dX7_put_2 : decode cX7_put 2 = .ok (.istore_n 2, 1) := by decide +kernel
theorem dX7_put_3 : decode cX7_put 3 = .ok (.iload_n 2, 1) := by decide +kernel
theorem dX7_put_4 : decode cX7_put 4 = .ok (.ifCond .lt 42, 3) := by decide +kernel
theorem dX7_put_7 : decode cX7_put 7 = .ok (.aload_n 0, 1) := by decide +kernel
theorem dX7_put_8 : decode cX7_put 8 = .ok (.getfield 15, 3) := by decide +kernel
theorem dX7_put_11 : decode cX7_put 11 = .ok (.sipush 400, 3) := by decide +kernel
theorem dX7_put_14 : decode cX7_put 14 = .ok (.if_icmp .ge 26, 3) := by decide +kernel
theorem dX7_put_17 : decode cX7_put 17 = .ok (.aload_n 0, 1) := by decide +kernel
theorem dX7_put_18 : decode cX7_put 18 = .ok (.getfield 9, 3) := by decide +kernel
theorem dX7_put_21 : decode cX7_put 21 = .ok (.aload_n 0, 1) := by decide +kernel
theorem dX7_put_22 : decode cX7_put 22 = .ok (.getfield 15, 3) := by decide +kernel
theorem dX7_put_25 : decode cX7_put 25 = .ok (.iload_n 1, 1) := by decide +kernel
theorem dX7_put_26 : decode cX7_put 26 = .ok (.iload_n 2, 1) := by decide +kernel
theorem dX7_put_27 : decode cX7_put 27 = .ok (.ishr, 1) := by decide +kernel
theorem dX7_put_28 : decode cX7_put 28 = .ok (.i2b, 1) := by decide +kernel
theorem dX7_put_29 : decode cX7_put 29 = .ok (.bastore, 1) := by decide +kernel
theorem dX7_put_30 : decode cX7_put 30 = .ok (.aload_n 0, 1) := by decide +kernel
theorem dX7_put_31 : decode cX7_put 31 = .ok (.dup, 1) := by decide +kernel
theorem dX7_put_32 : decode cX7_put 32 = .ok (.getfield 15, 3) := by decide +kernel
theorem dX7_put_35 : decode cX7_put 35 = .ok (.iconst 1, 1) := by decide +kernel
theorem dX7_put_36 : decode cX7_put 36 = .ok (.iadd, 1) := by decide +kernel
theorem dX7_put_37 : decode cX7_put 37 = .ok (.putfield 15, 3) := by decide +kernel
theorem dX7_put_40 : decode cX7_put 40 = .ok (.iinc 2 (-8), 3) := by decide +kernel
theorem dX7_put_43 : decode cX7_put 43 = .ok (.goto (-40), 3) := by decide +kernel
theorem dX7_put_46 : decode cX7_put 46 = .ok (.return_, 1) := by decide +kernel
theorem iuX0_act_X0 : ∀ w ∈ u_ws RX0 TX0 15, w ∈ W_X0_act := fun w h => List.mem_cons_of_mem _ (List.mem_append_right _ (h))
theorem iuX0_clear_X0 : ∀ w ∈ u_ws RX0 TX0 15, w ∈ W_X0_clear := fun w h => List.mem_cons_of_mem _ (List.mem_append_right _ (h))
theorem iuX0_copyOf_X0 : ∀ w ∈ u_ws RX0 TX0 15, w ∈ W_X0_copyOf := fun w h => List.mem_cons_of_mem _ (List.mem_append_right _ (h))
theorem iuX0_takeBackTo_X0 : ∀ w ∈ u_ws RX0 TX0 15, w ∈ W_X0_takeBackTo := fun w h => List.mem_cons_of_mem _ (List.mem_append_right _ (h))
theorem iuX1_draw_X0 : ∀ w ∈ u_ws RX0 TX0 15, w ∈ W_X1_draw := fun w h => List.mem_cons_of_mem _ (List.mem_append_right _ (List.mem_append_right _ (h)))
theorem iuX1_draw_X1 : ∀ w ∈ u_ws RX1 TX1 4, w ∈ W_X1_draw := fun w h => List.mem_cons_of_mem _ (List.mem_append_right _ (List.mem_append_left _ (h)))
theorem iuX1_gain_X0 : ∀ w ∈ u_ws RX0 TX0 15, w ∈ W_X1_gain := fun w h => List.mem_cons_of_mem _ (List.mem_append_right _ (List.mem_append_right _ (List.mem_append_left _ (h))))
theorem iuX1_gain_X1 : ∀ w ∈ u_ws RX1 TX1 4, w ∈ W_X1_gain := fun w h => List.mem_cons_of_mem _ (List.mem_append_right _ (List.mem_append_left _ (h)))
theorem iuX1_meanOfValids_X0 : ∀ w ∈ u_ws RX0 TX0 15, w ∈ W_X1_meanOfValids := fun w h => List.mem_cons_of_mem _ (List.mem_append_right _ (List.mem_append_right _ (List.mem_append_left _ (h))))
theorem iuX1_meanOfValids_X1 : ∀ w ∈ u_ws RX1 TX1 4, w ∈ W_X1_meanOfValids := fun w h => List.mem_cons_of_mem _ (List.mem_append_right _ (List.mem_append_left _ (h)))
theorem iuX1_oddsOf_X0 : ∀ w ∈ u_ws RX0 TX0 15, w ∈ W_X1_oddsOf := fun w h => List.mem_cons_of_mem _ (List.mem_append_right _ (List.mem_append_right _ (List.mem_append_left _ (h))))
theorem iuX1_oddsOf_X1 : ∀ w ∈ u_ws RX1 TX1 4, w ∈ W_X1_oddsOf := fun w h => List.mem_cons_of_mem _ (List.mem_append_right _ (List.mem_append_left _ (h)))
theorem iuX1_othersDropped_X0 : ∀ w ∈ u_ws RX0 TX0 15, w ∈ W_X1_othersDropped := fun w h => List.mem_cons_of_mem _ (List.mem_append_right _ (List.mem_append_right _ (h)))
theorem iuX1_othersDropped_X1 : ∀ w ∈ u_ws RX1 TX1 4, w ∈ W_X1_othersDropped := fun w h => List.mem_cons_of_mem _ (List.mem_append_right _ (List.mem_append_left _ (h)))
theorem iuX1_restsOf_X0 : ∀ w ∈ u_ws RX0 TX0 15, w ∈ W_X1_restsOf := fun w h => List.mem_cons_of_mem _ (List.mem_append_right _ (List.mem_append_right _ (List.mem_append_left _ (h))))
theorem iuX1_restsOf_X1 : ∀ w ∈ u_ws RX1 TX1 4, w ∈ W_X1_restsOf := fun w h => List.mem_cons_of_mem _ (List.mem_append_right _ (List.mem_append_left _ (h)))
theorem iuX1_safety_X0 : ∀ w ∈ u_ws RX0 TX0 15, w ∈ W_X1_safety := fun w h => List.mem_cons_of_mem _ (List.mem_append_right _ (List.mem_append_right _ (List.mem_append_left _ (h))))
theorem iuX1_safety_X1 : ∀ w ∈ u_ws RX1 TX1 4, w ∈ W_X1_safety := fun w h => List.mem_cons_of_mem _ (List.mem_append_right _ (List.mem_append_left _ (h)))
theorem iuX1_shareOf_X0 : ∀ w ∈ u_ws RX0 TX0 15, w ∈ W_X1_shareOf := fun w h => List.mem_cons_of_mem _ (List.mem_append_right _ (List.mem_append_right _ (List.mem_append_left _ (h))))
theorem iuX1_shareOf_X1 : ∀ w ∈ u_ws RX1 TX1 4, w ∈ W_X1_shareOf := fun w h => List.mem_cons_of_mem _ (List.mem_append_right _ (List.mem_append_left _ (h)))
theorem iuX5_cut_X5 : ∀ w ∈ u_ws RX5 TX5 4, w ∈ W_X5_cut := fun w h => List.mem_cons_of_mem _ (List.mem_append_right _ (h))
theorem iuX5_renew_X5 : ∀ w ∈ u_ws RX5 TX5 4, w ∈ W_X5_renew := fun w h => List.mem_cons_of_mem _ (List.mem_append_right _ (h))
theorem iuX5_spans_X5 : ∀ w ∈ u_ws RX5 TX5 4, w ∈ W_X5_spans := fun w h => List.mem_cons_of_mem _ (List.mem_append_right _ (h))
theorem iuX7_put_X7 : ∀ w ∈ u_ws RX7 TX7 2, w ∈ W_X7_put := fun w h => List.mem_cons_of_mem _ (List.mem_append_right _ (h))
theorem gw_X1_gain_X2_totalWith : GoodIn W_X1_gain W_X2_totalWith := fun w h => ⟨List.mem_cons_of_mem _ (List.mem_append_right _ (List.mem_append_right _ (List.mem_append_right _ (List.mem_append_right _ (h))))), (wI_X2_totalWith w h).2⟩
theorem gc_X1_gain_40_X2_totalWith : GoodIn W_X1_gain (wsV RX1 40 RX2 yX2_totalWith W_X2_totalWith) := goodIn_app (goodIn_sub (List.forall_mem_cons.mpr ⟨List.mem_cons_of_mem _ (List.mem_append_left _ (List.mem_of_getElem? (i := 8) rfl)), List.forall_mem_cons.mpr ⟨List.mem_cons_of_mem _ (List.mem_append_left _ (List.mem_of_getElem? (i := 9) rfl)), List.forall_mem_cons.mpr ⟨List.mem_cons_of_mem _ (List.mem_append_left _ (List.mem_of_getElem? (i := 10) rfl)), List.forall_mem_cons.mpr ⟨List.mem_cons_of_mem _ (List.mem_append_left _ (List.mem_of_getElem? (i := 6) rfl)), fun _ h => absurd h List.not_mem_nil⟩⟩⟩⟩) (by decide +kernel)) gw_X1_gain_X2_totalWith
theorem gw_X1_gain_X2_worksFrom : GoodIn W_X1_gain W_X2_worksFrom := fun w h => ⟨List.mem_cons_of_mem _ (List.mem_append_right _ (List.mem_append_right _ (List.mem_append_right _ (List.mem_append_left _ (h))))), (wI_X2_worksFrom w h).2⟩
theorem gc_X1_gain_65_X2_worksFrom : GoodIn W_X1_gain (wsV RX1 65 RX2 yX2_worksFrom W_X2_worksFrom) := goodIn_app (goodIn_sub (List.forall_mem_cons.mpr ⟨List.mem_cons_of_mem _ (List.mem_append_left _ (List.mem_of_getElem? (i := 3) rfl)), List.forall_mem_cons.mpr ⟨List.mem_cons_of_mem _ (List.mem_append_left _ (List.mem_of_getElem? (i := 4) rfl)), List.forall_mem_cons.mpr ⟨List.mem_cons_of_mem _ (List.mem_append_left _ (List.mem_of_getElem? (i := 5) rfl)), List.forall_mem_cons.mpr ⟨List.mem_cons_of_mem _ (List.mem_append_left _ (List.mem_of_getElem? (i := 6) rfl)), fun _ h => absurd h List.not_mem_nil⟩⟩⟩⟩) (by decide +kernel)) gw_X1_gain_X2_worksFrom
theorem gw_X1_meanOfValids_X1_lowest : GoodIn W_X1_meanOfValids W_X1_lowest := fun w h => ⟨List.mem_cons_of_mem _ (List.mem_append_right _ (List.mem_append_right _ (List.mem_append_right _ (List.mem_append_right _ (List.mem_append_right _ (List.mem_append_right _ (h))))))), (wI_X1_lowest w h).2⟩
theorem gc_X1_meanOfValids_55_X1_lowest : GoodIn W_X1_meanOfValids (va_wsS RX1 55 yX1_lowest W_X1_lowest) := goodIn_app (goodIn_sub (List.forall_mem_cons.mpr ⟨List.mem_cons_of_mem _ (List.mem_append_left _ (List.mem_of_getElem? (i := 14) rfl)), List.forall_mem_cons.mpr ⟨List.mem_cons_of_mem _ (List.mem_append_left _ (List.mem_of_getElem? (i := 15) rfl)), List.forall_mem_cons.mpr ⟨List.mem_cons_of_mem _ (List.mem_append_left _ (List.mem_of_getElem? (i := 5) rfl)), fun _ h => absurd h List.not_mem_nil⟩⟩⟩) (by decide +kernel)) gw_X1_meanOfValids_X1_lowest
theorem gw_X1_meanOfValids_X1_power : GoodIn W_X1_meanOfValids W_X1_power := fun w h => ⟨List.mem_cons_of_mem _ (List.mem_append_right _ (List.mem_append_right _ (List.mem_append_right _ (List.mem_append_right _ (List.mem_append_right _ (List.mem_append_left _ (h))))))), (wI_X1_power w h).2⟩
theorem gc_X1_meanOfValids_75_X1_power : GoodIn W_X1_meanOfValids (va_wsS RX1 75 yX1_power W_X1_power) := goodIn_app (goodIn_sub (List.forall_mem_cons.mpr ⟨List.mem_cons_of_mem _ (List.mem_append_left _ (List.mem_of_getElem? (i := 12) rfl)), List.forall_mem_cons.mpr ⟨List.mem_cons_of_mem _ (List.mem_append_left _ (List.mem_of_getElem? (i := 13) rfl)), List.forall_mem_cons.mpr ⟨List.mem_cons_of_mem _ (List.mem_append_left _ (List.mem_of_getElem? (i := 5) rfl)), fun _ h => absurd h List.not_mem_nil⟩⟩⟩) (by decide +kernel)) gw_X1_meanOfValids_X1_power
theorem gw_X1_meanOfValids_X1_oddsOf : GoodIn W_X1_meanOfValids W_X1_oddsOf := fun w h => ⟨List.mem_cons_of_mem _ (List.mem_append_right _ (List.mem_append_right _ (List.mem_append_right _ (List.mem_append_left _ (h))))), (wI_X1_oddsOf w h).2⟩
theorem gc_X1_meanOfValids_68_X1_oddsOf : GoodIn W_X1_meanOfValids (wsV RX1 68 RX1 yX1_oddsOf W_X1_oddsOf) := goodIn_app (goodIn_sub (List.forall_mem_cons.mpr ⟨List.mem_cons_of_mem _ (List.mem_append_left _ (List.mem_of_getElem? (i := 2) rfl)), List.forall_mem_cons.mpr ⟨List.mem_cons_of_mem _ (List.mem_append_left _ (List.mem_of_getElem? (i := 3) rfl)), List.forall_mem_cons.mpr ⟨List.mem_cons_of_mem _ (List.mem_append_left _ (List.mem_of_getElem? (i := 4) rfl)), List.forall_mem_cons.mpr ⟨List.mem_cons_of_mem _ (List.mem_append_left _ (List.mem_of_getElem? (i := 5) rfl)), fun _ h => absurd h List.not_mem_nil⟩⟩⟩⟩) (by decide +kernel)) gw_X1_meanOfValids_X1_oddsOf
theorem gw_X1_meanOfValids_X2_validsWith : GoodIn W_X1_meanOfValids W_X2_validsWith := fun w h => ⟨List.mem_cons_of_mem _ (List.mem_append_right _ (List.mem_append_right _ (List.mem_append_right _ (List.mem_append_right _ (List.mem_append_left _ (h)))))), (wI_X2_validsWith w h).2⟩
theorem gc_X1_meanOfValids_79_X2_validsWith : GoodIn W_X1_meanOfValids (wsV RX1 79 RX2 yX2_validsWith W_X2_validsWith) := goodIn_app (goodIn_sub (List.forall_mem_cons.mpr ⟨List.mem_cons_of_mem _ (List.mem_append_left _ (List.mem_of_getElem? (i := 8) rfl)), List.forall_mem_cons.mpr ⟨List.mem_cons_of_mem _ (List.mem_append_left _ (List.mem_of_getElem? (i := 9) rfl)), List.forall_mem_cons.mpr ⟨List.mem_cons_of_mem _ (List.mem_append_left _ (List.mem_of_getElem? (i := 10) rfl)), List.forall_mem_cons.mpr ⟨List.mem_cons_of_mem _ (List.mem_append_left _ (List.mem_of_getElem? (i := 11) rfl)), fun _ h => absurd h List.not_mem_nil⟩⟩⟩⟩) (by decide +kernel)) gw_X1_meanOfValids_X2_validsWith
theorem gw_X1_oddsOf_J6_bitCount_0f7a4 : GoodIn W_X1_oddsOf W_J6_bitCount_0f7a4 := fun w h => ⟨List.mem_cons_of_mem _ (List.mem_append_right _ (List.mem_append_right _ (List.mem_append_right _ (List.mem_append_left _ (h))))), (wI_J6_bitCount_0f7a4 w h).2⟩
theorem gc_X1_oddsOf_46_J6_bitCount_0f7a4 : GoodIn W_X1_oddsOf (va_wsS RX1 46 yJ6_bitCount_0f7a4 W_J6_bitCount_0f7a4) := goodIn_app (goodIn_sub (List.forall_mem_cons.mpr ⟨List.mem_cons_of_mem _ (List.mem_append_left _ (List.mem_of_getElem? (i := 0) rfl)), List.forall_mem_cons.mpr ⟨List.mem_cons_of_mem _ (List.mem_append_left _ (List.mem_of_getElem? (i := 1) rfl)), List.forall_mem_cons.mpr ⟨List.mem_cons_of_mem _ (List.mem_append_left _ (List.mem_of_getElem? (i := 2) rfl)), fun _ h => absurd h List.not_mem_nil⟩⟩⟩) (by decide +kernel)) gw_X1_oddsOf_J6_bitCount_0f7a4
theorem gw_X1_oddsOf_X1_power : GoodIn W_X1_oddsOf W_X1_power := fun w h => ⟨List.mem_cons_of_mem _ (List.mem_append_right _ (List.mem_append_right _ (List.mem_append_right _ (List.mem_append_right _ (h))))), (wI_X1_power w h).2⟩
theorem gc_X1_oddsOf_75_X1_power : GoodIn W_X1_oddsOf (va_wsS RX1 75 yX1_power W_X1_power) := goodIn_app (goodIn_sub (List.forall_mem_cons.mpr ⟨List.mem_cons_of_mem _ (List.mem_append_left _ (List.mem_of_getElem? (i := 5) rfl)), List.forall_mem_cons.mpr ⟨List.mem_cons_of_mem _ (List.mem_append_left _ (List.mem_of_getElem? (i := 6) rfl)), List.forall_mem_cons.mpr ⟨List.mem_cons_of_mem _ (List.mem_append_left _ (List.mem_of_getElem? (i := 7) rfl)), fun _ h => absurd h List.not_mem_nil⟩⟩⟩) (by decide +kernel)) gw_X1_oddsOf_X1_power
theorem gw_X1_restsOf_X2_totalWith : GoodIn W_X1_restsOf W_X2_totalWith := fun w h => ⟨List.mem_cons_of_mem _ (List.mem_append_right _ (List.mem_append_right _ (List.mem_append_right _ (h)))), (wI_X2_totalWith w h).2⟩
theorem gc_X1_restsOf_40_X2_totalWith : GoodIn W_X1_restsOf (wsV RX1 40 RX2 yX2_totalWith W_X2_totalWith) := goodIn_app (goodIn_sub (List.forall_mem_cons.mpr ⟨List.mem_cons_of_mem _ (List.mem_append_left _ (List.mem_of_getElem? (i := 5) rfl)), List.forall_mem_cons.mpr ⟨List.mem_cons_of_mem _ (List.mem_append_left _ (List.mem_of_getElem? (i := 6) rfl)), List.forall_mem_cons.mpr ⟨List.mem_cons_of_mem _ (List.mem_append_left _ (List.mem_of_getElem? (i := 7) rfl)), List.forall_mem_cons.mpr ⟨List.mem_cons_of_mem _ (List.mem_append_left _ (List.mem_of_getElem? (i := 8) rfl)), fun _ h => absurd h List.not_mem_nil⟩⟩⟩⟩) (by decide +kernel)) gw_X1_restsOf_X2_totalWith
theorem gw_X1_safety_X1_lowest : GoodIn W_X1_safety W_X1_lowest := fun w h => ⟨List.mem_cons_of_mem _ (List.mem_append_right _ (List.mem_append_right _ (List.mem_append_right _ (List.mem_append_right _ (List.mem_append_right _ (List.mem_append_right _ (h))))))), (wI_X1_lowest w h).2⟩
theorem gc_X1_safety_55_X1_lowest : GoodIn W_X1_safety (va_wsS RX1 55 yX1_lowest W_X1_lowest) := goodIn_app (goodIn_sub (List.forall_mem_cons.mpr ⟨List.mem_cons_of_mem _ (List.mem_append_left _ (List.mem_of_getElem? (i := 14) rfl)), List.forall_mem_cons.mpr ⟨List.mem_cons_of_mem _ (List.mem_append_left _ (List.mem_of_getElem? (i := 15) rfl)), List.forall_mem_cons.mpr ⟨List.mem_cons_of_mem _ (List.mem_append_left _ (List.mem_of_getElem? (i := 5) rfl)), fun _ h => absurd h List.not_mem_nil⟩⟩⟩) (by decide +kernel)) gw_X1_safety_X1_lowest
theorem gw_X1_safety_X1_power : GoodIn W_X1_safety W_X1_power := fun w h => ⟨List.mem_cons_of_mem _ (List.mem_append_right _ (List.mem_append_right _ (List.mem_append_right _ (List.mem_append_right _ (List.mem_append_right _ (List.mem_append_left _ (h))))))), (wI_X1_power w h).2⟩
theorem gc_X1_safety_75_X1_power : GoodIn W_X1_safety (va_wsS RX1 75 yX1_power W_X1_power) := goodIn_app (goodIn_sub (List.forall_mem_cons.mpr ⟨List.mem_cons_of_mem _ (List.mem_append_left _ (List.mem_of_getElem? (i := 12) rfl)), List.forall_mem_cons.mpr ⟨List.mem_cons_of_mem _ (List.mem_append_left _ (List.mem_of_getElem? (i := 13) rfl)), List.forall_mem_cons.mpr ⟨List.mem_cons_of_mem _ (List.mem_append_left _ (List.mem_of_getElem? (i := 5) rfl)), fun _ h => absurd h List.not_mem_nil⟩⟩⟩) (by decide +kernel)) gw_X1_safety_X1_power
theorem gw_X1_safety_X1_oddsOf : GoodIn W_X1_safety W_X1_oddsOf := fun w h => ⟨List.mem_cons_of_mem _ (List.mem_append_right _ (List.mem_append_right _ (List.mem_append_right _ (List.mem_append_left _ (h))))), (wI_X1_oddsOf w h).2⟩
theorem gc_X1_safety_68_X1_oddsOf : GoodIn W_X1_safety (wsV RX1 68 RX1 yX1_oddsOf W_X1_oddsOf) := goodIn_app (goodIn_sub (List.forall_mem_cons.mpr ⟨List.mem_cons_of_mem _ (List.mem_append_left _ (List.mem_of_getElem? (i := 2) rfl)), List.forall_mem_cons.mpr ⟨List.mem_cons_of_mem _ (List.mem_append_left _ (List.mem_of_getElem? (i := 3) rfl)), List.forall_mem_cons.mpr ⟨List.mem_cons_of_mem _ (List.mem_append_left _ (List.mem_of_getElem? (i := 4) rfl)), List.forall_mem_cons.mpr ⟨List.mem_cons_of_mem _ (List.mem_append_left _ (List.mem_of_getElem? (i := 5) rfl)), fun _ h => absurd h List.not_mem_nil⟩⟩⟩⟩) (by decide +kernel)) gw_X1_safety_X1_oddsOf
theorem gw_X1_safety_X2_isSafeWith : GoodIn W_X1_safety W_X2_isSafeWith := fun w h => ⟨List.mem_cons_of_mem _ (List.mem_append_right _ (List.mem_append_right _ (List.mem_append_right _ (List.mem_append_right _ (List.mem_append_left _ (h)))))), (wI_X2_isSafeWith w h).2⟩
theorem gc_X1_safety_71_X2_isSafeWith : GoodIn W_X1_safety (wsV RX1 71 RX2 yX2_isSafeWith W_X2_isSafeWith) := goodIn_app (goodIn_sub (List.forall_mem_cons.mpr ⟨List.mem_cons_of_mem _ (List.mem_append_left _ (List.mem_of_getElem? (i := 8) rfl)), List.forall_mem_cons.mpr ⟨List.mem_cons_of_mem _ (List.mem_append_left _ (List.mem_of_getElem? (i := 9) rfl)), List.forall_mem_cons.mpr ⟨List.mem_cons_of_mem _ (List.mem_append_left _ (List.mem_of_getElem? (i := 10) rfl)), List.forall_mem_cons.mpr ⟨List.mem_cons_of_mem _ (List.mem_append_left _ (List.mem_of_getElem? (i := 11) rfl)), fun _ h => absurd h List.not_mem_nil⟩⟩⟩⟩) (by decide +kernel)) gw_X1_safety_X2_isSafeWith
theorem gw_X1_shareOf_J6_bitCount_0f7a4 : GoodIn W_X1_shareOf W_J6_bitCount_0f7a4 := fun w h => ⟨List.mem_cons_of_mem _ (List.mem_append_right _ (List.mem_append_right _ (List.mem_append_right _ (List.mem_append_right _ (List.mem_append_right _ (List.mem_append_left _ (h))))))), (wI_J6_bitCount_0f7a4 w h).2⟩
theorem gc_X1_shareOf_46_J6_bitCount_0f7a4 : GoodIn W_X1_shareOf (va_wsS RX1 46 yJ6_bitCount_0f7a4 W_J6_bitCount_0f7a4) := goodIn_app (goodIn_sub (List.forall_mem_cons.mpr ⟨List.mem_cons_of_mem _ (List.mem_append_left _ (List.mem_of_getElem? (i := 13) rfl)), List.forall_mem_cons.mpr ⟨List.mem_cons_of_mem _ (List.mem_append_left _ (List.mem_of_getElem? (i := 14) rfl)), List.forall_mem_cons.mpr ⟨List.mem_cons_of_mem _ (List.mem_append_left _ (List.mem_of_getElem? (i := 15) rfl)), fun _ h => absurd h List.not_mem_nil⟩⟩⟩) (by decide +kernel)) gw_X1_shareOf_J6_bitCount_0f7a4
theorem gw_X1_shareOf_X1_factorial : GoodIn W_X1_shareOf W_X1_factorial := fun w h => ⟨List.mem_cons_of_mem _ (List.mem_append_right _ (List.mem_append_right _ (List.mem_append_right _ (List.mem_append_right _ (List.mem_append_right _ (List.mem_append_right _ (List.mem_append_left _ (h)))))))), (wI_X1_factorial w h).2⟩
theorem gc_X1_shareOf_51_X1_factorial : GoodIn W_X1_shareOf (va_wsS RX1 51 yX1_factorial W_X1_factorial) := goodIn_app (goodIn_sub (List.forall_mem_cons.mpr ⟨List.mem_cons_of_mem _ (List.mem_append_left _ (List.mem_of_getElem? (i := 16) rfl)), List.forall_mem_cons.mpr ⟨List.mem_cons_of_mem _ (List.mem_append_left _ (List.mem_of_getElem? (i := 17) rfl)), List.forall_mem_cons.mpr ⟨List.mem_cons_of_mem _ (List.mem_append_left _ (List.mem_of_getElem? (i := 7) rfl)), fun _ h => absurd h List.not_mem_nil⟩⟩⟩) (by decide +kernel)) gw_X1_shareOf_X1_factorial
theorem gw_X1_shareOf_X1_lowest : GoodIn W_X1_shareOf W_X1_lowest := fun w h => ⟨List.mem_cons_of_mem _ (List.mem_append_right _ (List.mem_append_right _ (List.mem_append_right _ (List.mem_append_right _ (List.mem_append_right _ (List.mem_append_right _ (List.mem_append_right _ (h)))))))), (wI_X1_lowest w h).2⟩
theorem gc_X1_shareOf_55_X1_lowest : GoodIn W_X1_shareOf (va_wsS RX1 55 yX1_lowest W_X1_lowest) := goodIn_app (goodIn_sub (List.forall_mem_cons.mpr ⟨List.mem_cons_of_mem _ (List.mem_append_left _ (List.mem_of_getElem? (i := 18) rfl)), List.forall_mem_cons.mpr ⟨List.mem_cons_of_mem _ (List.mem_append_left _ (List.mem_of_getElem? (i := 19) rfl)), List.forall_mem_cons.mpr ⟨List.mem_cons_of_mem _ (List.mem_append_left _ (List.mem_of_getElem? (i := 7) rfl)), fun _ h => absurd h List.not_mem_nil⟩⟩⟩) (by decide +kernel)) gw_X1_shareOf_X1_lowest
theorem gw_X1_shareOf_X1_othersDropped : GoodIn W_X1_shareOf W_X1_othersDropped := fun w h => ⟨List.mem_cons_of_mem _ (List.mem_append_right _ (List.mem_append_right _ (List.mem_append_right _ (List.mem_append_left _ (h))))), (wI_X1_othersDropped w h).2⟩
theorem gc_X1_shareOf_33_X1_othersDropped : GoodIn W_X1_shareOf (wsV RX1 33 RX1 yX1_othersDropped W_X1_othersDropped) := goodIn_app (goodIn_sub (List.forall_mem_cons.mpr ⟨List.mem_cons_of_mem _ (List.mem_append_left _ (List.mem_of_getElem? (i := 4) rfl)), List.forall_mem_cons.mpr ⟨List.mem_cons_of_mem _ (List.mem_append_left _ (List.mem_of_getElem? (i := 5) rfl)), List.forall_mem_cons.mpr ⟨List.mem_cons_of_mem _ (List.mem_append_left _ (List.mem_of_getElem? (i := 6) rfl)), List.forall_mem_cons.mpr ⟨List.mem_cons_of_mem _ (List.mem_append_left _ (List.mem_of_getElem? (i := 7) rfl)), fun _ h => absurd h List.not_mem_nil⟩⟩⟩⟩) (by decide +kernel)) gw_X1_shareOf_X1_othersDropped
theorem gw_X1_shareOf_X2_totalWith : GoodIn W_X1_shareOf W_X2_totalWith := fun w h => ⟨List.mem_cons_of_mem _ (List.mem_append_right _ (List.mem_append_right _ (List.mem_append_right _ (List.mem_append_right _ (List.mem_append_left _ (h)))))), (wI_X2_totalWith w h).2⟩
theorem gc_X1_shareOf_40_X2_totalWith : GoodIn W_X1_shareOf (wsV RX1 40 RX2 yX2_totalWith W_X2_totalWith) := goodIn_app (goodIn_sub (List.forall_mem_cons.mpr ⟨List.mem_cons_of_mem _ (List.mem_append_left _ (List.mem_of_getElem? (i := 9) rfl)), List.forall_mem_cons.mpr ⟨List.mem_cons_of_mem _ (List.mem_append_left _ (List.mem_of_getElem? (i := 10) rfl)), List.forall_mem_cons.mpr ⟨List.mem_cons_of_mem _ (List.mem_append_left _ (List.mem_of_getElem? (i := 11) rfl)), List.forall_mem_cons.mpr ⟨List.mem_cons_of_mem _ (List.mem_append_left _ (List.mem_of_getElem? (i := 12) rfl)), fun _ h => absurd h List.not_mem_nil⟩⟩⟩⟩) (by decide +kernel)) gw_X1_shareOf_X2_totalWith
