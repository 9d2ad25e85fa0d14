theorem dX9_advance_0 : decode cX9_advance 0 = .ok (.aload_n 0, 1) := by decide +kernel
theorem dX9_advance_1 : decode cX9_advance 1 = .ok (.aload_n 0, 1) := by decide +kernel
theorem dX9_advance_2 : decode cX9_advance 2 = .ok (.getfield 105, 3) := by decide +kernel
theorem dX9_advance_5 : decode cX9_advance 5 = .ok (.invokevirtual 108, 3) := by decide +kernel
theorem dX9_advance_8 : decode cX9_advance 8 = .ok (.bipush 32, 2) := by decide +kernel
theorem dX9_advance_10 : decode cX9_advance 10 = .ok (.if_icmp .eq 16, 3) := by decide +kernel
theorem dX9_advance_13 : decode cX9_advance 13 = .ok (.aload_n 0, 1) := by decide +kernel
theorem dX9_advance_14 : decode cX9_advance 14 = .ok (.aload_n 0, 1) := by decide +kernel
theorem dX9_advance_15 : decode cX9_advance 15 = .ok (.getfield 105, 3) := by decide +kernel
theorem dX9_advance_18 : decode cX9_advance 18 = .ok (.invokevirtual 108, 3) := by decide +kernel
theorem dX9_advance_21 : decode cX9_advance 21 = .ok (.bipush 10, 2) := by decide +kernel
theorem dX9_advance_23 : decode cX9_advance 23 = .ok (.if_icmp .ne 16, 3) := by decide +kernel
theorem dX9_advance_26 : decode cX9_advance 26 = .ok (.aload_n 0, 1) := by decide +kernel
theorem dX9_advance_27 : decode cX9_advance 27 = .ok (.dup, 1) := by decide +kernel
theorem dX9_advance_28 : decode cX9_advance 28 = .ok (.getfield 105, 3) := by decide +kernel
theorem dX9_advance_31 : decode cX9_advance 31 = .ok (.iconst 1, 1) := by decide +kernel
theorem dX9_advance_32 : decode cX9_advance 32 = .ok (.iadd, 1) := by decide +kernel
theorem dX9_advance_33 : decode cX9_advance 33 = .ok (.putfield 105, 3) := by decide +kernel
theorem dX9_advance_36 : decode cX9_advance 36 = .ok (.goto (-36), 3) := by decide +kernel
theorem dX9_advance_39 : decode cX9_advance 39 = .ok (.aload_n 0, 1) := by decide +kernel
theorem dX9_advance_40 : decode cX9_advance 40 = .ok (.aload_n 0, 1) := by decide +kernel
theorem dX9_advance_41 : decode cX9_advance 41 = .ok (.getfield 105, 3) := by decide +kernel
theorem dX9_advance_44 : decode cX9_advance 44 = .ok (.putfield 112, 3) := by decide +kernel
theorem dX9_advance_47 : decode cX9_advance 47 = .ok (.aload_n 0, 1) := by decide +kernel
theorem dX9_advance_48 : decode cX9_advance 48 = .ok (.aload_n 0, 1) := by decide +kernel
theorem dX9_advance_49 : decode cX9_advance 49 = .ok (.getfield 105, 3) := by decide +kernel
theorem dX9_advance_52 : decode cX9_advance 52 = .ok (.invokevirtual 108, 3) := by decide +kernel
theorem dX9_advance_55 : decode cX9_advance 55 = .ok (.istore_n 1, 1) := by decide +kernel
theorem dX9_advance_56 : decode cX9_advance 56 = .ok (.iload_n 1, 1) := by decide +kernel
theorem dX9_advance_57 : decode cX9_advance 57 = .ok (.iconst (-1), 1) := by decide +kernel
theorem dX9_advance_58 : decode cX9_advance 58 = .ok (.if_icmp .ne 11, 3) := by decide +kernel
theorem dX9_advance_61 : decode cX9_advance 61 = .ok (.aload_n 0, 1) := by decide +kernel
theorem dX9_advance_62 : decode cX9_advance 62 = .ok (.iconst 0, 1) := by decide +kernel
theorem dX9_advance_63 : decode cX9_advance 63 = .ok (.putfield 115, 3) := by decide +kernel
theorem dX9_advance_66 : decode cX9_advance 66 = .ok (.goto 173, 3) := by decide +kernel
theorem dX9_advance_69 : decode cX9_advance 69 = .ok (.iload_n 1, 1) := by decide +kernel
theorem dX9_advance_70 : decode cX9_advance 70 = .ok (.i2l, 1) := by decide +kernel
theorem dX9_advance_71 : decode cX9_advance 71 = .ok (.ldc2_w 118, 3) := by decide +kernel
theorem dX9_advance_74 : decode cX9_advance 74 = .ok (.ldc2_w 120, 3) := by decide +kernel
theorem dX9_advance_77 : decode cX9_advance 77 = .ok (.invokestatic 76, 3) := by decide +kernel
theorem dX9_advance_80 : decode cX9_advance 80 = .ok (.ifCond .eq 45, 3) := by decide +kernel
theorem dX9_advance_83 : decode cX9_advance 83 = .ok (.aload_n 0, 1) := by decide +kernel
theorem dX9_advance_84 : decode cX9_advance 84 = .ok (.aload_n 0, 1) := by decide +kernel
theorem dX9_advance_85 : decode cX9_advance 85 = .ok (.getfield 105, 3) := by decide +kernel
theorem dX9_advance_88 : decode cX9_advance 88 = .ok (.invokevirtual 108, 3) := by decide +kernel
theorem dX9_advance_91 : decode cX9_advance 91 = .ok (.i2l, 1) := by decide +kernel
theorem dX9_advance_92 : decode cX9_advance 92 = .ok (.ldc2_w 118, 3) := by decide +kernel
theorem dX9_advance_95 : decode cX9_advance 95 = .ok (.ldc2_w 120, 3) := by decide +kernel
theorem dX9_advance_98 : decode cX9_advance 98 = .ok (.invokestatic 76, 3) := by decide +kernel
theorem dX9_advance_101 : decode cX9_advance 101 = .ok (.ifCond .eq 16, 3) := by decide +kernel
theorem dX9_advance_104 : decode cX9_advance 104 = .ok (.aload_n 0, 1) := by decide +kernel
theorem dX9_advance_105 : decode cX9_advance 105 = .ok (.dup, 1) := by decide +kernel
theorem dX9_advance_106 : decode cX9_advance 106 = .ok (.getfield 105, 3) := by decide +kernel
theorem dX9_advance_109 : decode cX9_advance 109 = .ok (.iconst 1, 1) := by decide +kernel
theorem dX9_advance_110 : decode cX9_advance 110 = .ok (.iadd, 1) := by decide +kernel
theorem dX9_advance_111 : decode cX9_advance 111 = .ok (.putfield 105, 3) := by decide +kernel
theorem dX9_advance_114 : decode cX9_advance 114 = .ok (.goto (-31), 3) := by decide +kernel
theorem dX9_advance_117 : decode cX9_advance 117 = .ok (.aload_n 0, 1) := by decide +kernel
theorem dX9_advance_118 : decode cX9_advance 118 = .ok (.iconst 1, 1) := by decide +kernel
theorem dX9_advance_119 : decode cX9_advance 119 = .ok (.putfield 115, 3) := by decide +kernel
theorem dX9_advance_122 : decode cX9_advance 122 = .ok (.goto 117, 3) := by decide +kernel
theorem dX9_advance_125 : decode cX9_advance 125 = .ok (.iload_n 1, 1) := by decide +kernel
theorem dX9_advance_126 : decode cX9_advance 126 = .ok (.i2l, 1) := by decide +kernel
theorem dX9_advance_127 : decode cX9_advance 127 = .ok (.ldc2_w 122, 3) := by decide +kernel
theorem dX9_advance_130 : decode cX9_advance 130 = .ok (.ldc2_w 124, 3) := by decide +kernel
theorem dX9_advance_133 : decode cX9_advance 133 = .ok (.invokestatic 76, 3) := by decide +kernel
theorem dX9_advance_136 : decode cX9_advance 136 = .ok (.ifCond .eq 78, 3) := by decide +kernel
theorem dX9_advance_139 : decode cX9_advance 139 = .ok (.aload_n 0, 1) := by decide +kernel
theorem dX9_advance_140 : decode cX9_advance 140 = .ok (.iconst 0, 1) := by decide +kernel
theorem dX9_advance_141 : decode cX9_advance 141 = .ok (.putfield 126, 3) := by decide +kernel
theorem dX9_advance_144 : decode cX9_advance 144 = .ok (.aload_n 0, 1) := by decide +kernel
theorem dX9_advance_145 : decode cX9_advance 145 = .ok (.aload_n 0, 1) := by decide +kernel
theorem dX9_advance_146 : decode cX9_advance 146 = .ok (.getfield 105, 3) := by decide +kernel
theorem dX9_advance_149 : decode cX9_advance 149 = .ok (.invokevirtual 108, 3) := by decide +kernel
theorem dX9_advance_152 : decode cX9_advance 152 = .ok (.i2l, 1) := by decide +kernel
theorem dX9_advance_153 : decode cX9_advance 153 = .ok (.ldc2_w 122, 3) := by decide +kernel
theorem dX9_advance_156 : decode cX9_advance 156 = .ok (.ldc2_w 124, 3) := by decide +kernel
theorem dX9_advance_159 : decode cX9_advance 159 = .ok (.invokestatic 76, 3) := by decide +kernel
theorem dX9_advance_162 : decode cX9_advance 162 = .ok (.ifCond .eq 44, 3) := by decide +kernel
theorem dX9_advance_165 : decode cX9_advance 165 = .ok (.aload_n 0, 1) := by decide +kernel
theorem dX9_advance_166 : decode cX9_advance 166 = .ok (.ldc 129, 2) := by decide +kernel
theorem dX9_advance_168 : decode cX9_advance 168 = .ok (.bipush 10, 2) := by decide +kernel
theorem dX9_advance_170 : decode cX9_advance 170 = .ok (.aload_n 0, 1) := by decide +kernel
theorem dX9_advance_171 : decode cX9_advance 171 = .ok (.getfield 126, 3) := by decide +kernel
theorem dX9_advance_174 : decode cX9_advance 174 = .ok (.imul, 1) := by decide +kernel
theorem dX9_advance_175 : decode cX9_advance 175 = .ok (.aload_n 0, 1) := by decide +kernel
theorem dX9_advance_176 : decode cX9_advance 176 = .ok (.aload_n 0, 1) := by decide +kernel
theorem dX9_advance_177 : decode cX9_advance 177 = .ok (.getfield 105, 3) := by decide +kernel
theorem dX9_advance_180 : decode cX9_advance 180 = .ok (.invokevirtual 108, 3) := by decide +kernel
theorem dX9_advance_183 : decode cX9_advance 183 = .ok (.iadd, 1) := by decide +kernel
theorem dX9_advance_184 : decode cX9_advance 184 = .ok (.bipush 48, 2) := by decide +kernel
theorem dX9_advance_186 : decode cX9_advance 186 = .ok (.isub, 1) := by decide +kernel
theorem dX9_advance_187 : decode cX9_advance 187 = .ok (.invokestatic 130, 3) := by decide +kernel
theorem dX9_advance_190 : decode cX9_advance 190 = .ok (.putfield 126, 3) := by decide +kernel
theorem dX9_advance_193 : decode cX9_advance 193 = .ok (.aload_n 0, 1) := by decide +kernel
theorem dX9_advance_194 : decode cX9_advance 194 = .ok (.dup, 1) := by decide +kernel
theorem dX9_advance_195 : decode cX9_advance 195 = .ok (.getfield 105, 3) := by decide +kernel
theorem dX9_advance_198 : decode cX9_advance 198 = .ok (.iconst 1, 1) := by decide +kernel
theorem dX9_advance_199 : decode cX9_advance 199 = .ok (.iadd, 1) := by decide +kernel
theorem dX9_advance_200 : decode cX9_advance 200 = .ok (.putfield 105, 3) := by decide +kernel
theorem dX9_advance_203 : decode cX9_advance 203 = .ok (.goto (-59), 3) := by decide +kernel
theorem dX9_advance_206 : decode cX9_advance 206 = .ok (.aload_n 0, 1) := by decide +kernel
theorem dX9_advance_207 : decode cX9_advance 207 = .ok (.iconst 2, 1) := by decide +kernel
theorem dX9_advance_208 : decode cX9_advance 208 = .ok (.putfield 115, 3) := by decide +kernel
theorem dX9_advance_211 : decode cX9_advance 211 = .ok (.goto 28, 3) := by decide +kernel
theorem dX9_advance_214 : decode cX9_advance 214 = .ok (.aload_n 0, 1) := by decide +kernel
theorem dX9_advance_215 : decode cX9_advance 215 = .ok (.iload_n 1, 1) := by decide +kernel
theorem dX9_advance_216 : decode cX9_advance 216 = .ok (.bipush 59, 2) := by decide +kernel
theorem dX9_advance_218 : decode cX9_advance 218 = .ok (.if_icmp .ne 7, 3) := by decide +kernel
theorem dX9_advance_221 : decode cX9_advance 221 = .ok (.iconst 3, 1) := by decide +kernel
theorem dX9_advance_222 : decode cX9_advance 222 = .ok (.goto 4, 3) := by decide +kernel
theorem dX9_advance_225 : decode cX9_advance 225 = .ok (.iconst 4, 1) := by decide +kernel
theorem dX9_advance_226 : decode cX9_advance 226 = .ok (.putfield 115, 3) := by decide +kernel
theorem dX9_advance_229 : decode cX9_advance 229 = .ok (.aload_n 0, 1) := by decide +kernel
theorem dX9_advance_230 : decode cX9_advance 230 = .ok (.dup, 1) := by decide +kernel
theorem dX9_advance_231 : decode cX9_advance 231 = .ok (.getfield 105, 3) := by decide +kernel
theorem dX9_advance_234 : decode cX9_advance 234 = .ok (.iconst 1, 1) := by decide +kernel
theorem dX9_advance_235 : decode cX9_advance 235 = .ok (.iadd, 1) := by decide +kernel
theorem dX9_advance_236 : decode cX9_advance 236 = .ok (.putfield 105, 3) := by decide +kernel
theorem dX9_advance_239 : decode cX9_advance 239 = .ok (.return_, 1) := by decide +kernel
theorem dX9_errs_0 : decode cX9_errs 0 = .ok (.aload_n 0, 1) := by decide +kernel
theorem dX9_errs_1 : decode cX9_errs 1 = .ok (.invokevirtual 139, 3) := by decide +kernel
theorem dX9_errs_4 : decode cX9_errs 4 = .ok (.ifCond .ne 4, 3) := by decide +kernel
theorem dX9_errs_7 : decode cX9_errs 7 = .ok (.return_, 1) := by decide +kernel
theorem dX9_errs_8 : decode cX9_errs 8 = .ok (.aload_n 0, 1) := by decide +kernel
theorem dX9_errs_9 : decode cX9_errs 9 = .ok (.iload_n 1, 1) := by decide +kernel
theorem dX9_errs_10 : decode cX9_errs 10 = .ok (.putfield 136, 3) := by decide +kernel
theorem dX9_errs_13 : decode cX9_errs 13 = .ok (.aload_n 0, 1) := by decide +kernel
theorem dX9_errs_14 : decode cX9_errs 14 = .ok (.aload_n 0, 1) := by decide +kernel
theorem dX9_errs_15 : decode cX9_errs 15 = .ok (.getfield 112, 3) := by decide +kernel
theorem dX9_errs_18 : decode cX9_errs 18 = .ok (.putfield 27, 3) := by decide +kernel
theorem dX9_errs_21 : decode cX9_errs 21 = .ok (.return_, 1) := by decide +kernel
theorem dX9_expects_0 : decode cX9_expects 0 = .ok (.aload_n 0, 1) := by decide +kernel
theorem dX9_expects_1 : decode cX9_expects 1 = .ok (.aload_n 1, 1) := by decide +kernel
theorem dX9_expects_2 : decode cX9_expects 2 = .ok (.invokevirtual 158, 3) := by decide +kernel
theorem dX9_expects_5 : decode cX9_expects 5 = .ok (.ifCond .ne 8, 3) := by decide +kernel
theorem dX9_expects_8 : decode cX9_expects 8 = .ok (.aload_n 0, 1) := by decide +kernel
theorem dX9_expects_9 : decode cX9_expects 9 = .ok (.iconst 1, 1) := by decide +kernel
theorem dX9_expects_10 : decode cX9_expects 10 = .ok (.invokevirtual 161, 3) := by decide +kernel
theorem dX9_expects_13 : decode cX9_expects 13 = .ok (.return_, 1) := by decide +kernel
theorem dX9_fault_0 : decode cX9_fault 0 = .ok (.iload_n 1, 1) := by decide +kernel
theorem dX9_fault_1 : decode cX9_fault 1 = .ok (.ifCond .ne 10, 3) := by decide +kernel
theorem dX9_fault_4 : decode cX9_fault 4 = .ok (.aload_n 0, 1) := by decide +kernel
theorem dX9_fault_5 : decode cX9_fault 5 = .ok (.getfield 136, 3) := by decide +kernel
theorem dX9_fault_8 : decode cX9_fault 8 = .ok (.goto 16, 3) := by decide +kernel
theorem dX9_fault_11 : decode cX9_fault 11 = .ok (.iload_n 1, 1) := by decide +kernel
theorem dX9_fault_12 : decode cX9_fault 12 = .ok (.iconst 1, 1) := by decide +kernel
theorem dX9_fault_13 : decode cX9_fault 13 = .ok (.if_icmp .ne 10, 3) := by decide +kernel
theorem dX9_fault_16 : decode cX9_fault 16 = .ok (.aload_n 0, 1) := by decide +kernel
theorem dX9_fault_17 : decode cX9_fault 17 = .ok (.getfield 27, 3) := by decide +kernel
theorem dX9_fault_20 : decode cX9_fault 20 = .ok (.goto 4, 3) := by decide +kernel
theorem dX9_fault_23 : decode cX9_fault 23 = .ok (.iconst (-1), 1) := by decide +kernel
theorem dX9_fault_24 : decode cX9_fault 24 = .ok (.ireturn, 1) := by decide +kernel
theorem dX9_good_0 : decode cX9_good 0 = .ok (.aload_n 0, 1) := by decide +kernel
theorem dX9_good_1 : decode cX9_good 1 = .ok (.getfield 136, 3) := by decide +kernel
theorem dX9_good_4 : decode cX9_good 4 = .ok (.ifCond .ne 7, 3) := by decide +kernel
theorem dX9_good_7 : decode cX9_good 7 = .ok (.iconst 1, 1) := by decide +kernel
theorem dX9_good_8 : decode cX9_good 8 = .ok (.goto 4, 3) := by decide +kernel
theorem dX9_good_11 : decode cX9_good 11 = .ok (.iconst 0, 1) := by decide +kernel
theorem dX9_good_12 : decode cX9_good 12 = .ok (.ireturn, 1) := by decide +kernel
theorem dX9_is_0 : decode cX9_is 0 = .ok (.aload_n 0, 1) := by decide +kernel
theorem dX9_is_1 : decode cX9_is 1 = .ok (.invokevirtual 139, 3) := by decide +kernel
theorem dX9_is_4 : decode cX9_is 4 = .ok (.ifCond .eq 31, 3) := by decide +kernel
theorem dX9_is_7 : decode cX9_is 7 = .ok (.aload_n 0, 1) := by decide +kernel
theorem dX9_is_8 : decode cX9_is 8 = .ok (.getfield 115, 3) := by decide +kernel
theorem dX9_is_11 : decode cX9_is 11 = .ok (.iconst 1, 1) := by decide +kernel
theorem dX9_is_12 : decode cX9_is 12 = .ok (.if_icmp .ne 23, 3) := by decide +kernel
theorem dX9_is_15 : decode cX9_is 15 = .ok (.aload_n 0, 1) := by decide +kernel
theorem dX9_is_16 : decode cX9_is 16 = .ok (.getfield 105, 3) := by decide +kernel
theorem dX9_is_19 : decode cX9_is 19 = .ok (.aload_n 0, 1) := by decide +kernel
theorem dX9_is_20 : decode cX9_is 20 = .ok (.getfield 112, 3) := by decide +kernel
theorem dX9_is_23 : decode cX9_is 23 = .ok (.isub, 1) := by decide +kernel
theorem dX9_is_24 : decode cX9_is 24 = .ok (.aload_n 1, 1) := by decide +kernel
theorem dX9_is_25 : decode cX9_is 25 = .ok (.invokevirtual 142, 3) := by decide +kernel
theorem dX9_is_28 : decode cX9_is 28 = .ok (.if_icmp .ne 7, 3) := by decide +kernel
theorem dX9_is_31 : decode cX9_is 31 = .ok (.iconst 1, 1) := by decide +kernel
theorem dX9_is_32 : decode cX9_is 32 = .ok (.goto 4, 3) := by decide +kernel
theorem dX9_is_35 : decode cX9_is 35 = .ok (.iconst 0, 1) := by decide +kernel
theorem dX9_is_36 : decode cX9_is 36 = .ok (.istore_n 2, 1) := by decide +kernel
theorem dX9_is_37 : decode cX9_is 37 = .ok (.iconst 0, 1) := by decide +kernel
theorem dX9_is_38 : decode cX9_is 38 = .ok (.istore_n 3, 1) := by decide +kernel
theorem dX9_is_39 : decode cX9_is 39 = .ok (.iload_n 3, 1) := by decide +kernel
theorem dX9_is_40 : decode cX9_is 40 = .ok (.aload_n 1, 1) := by decide +kernel
theorem dX9_is_41 : decode cX9_is 41 = .ok (.invokevirtual 142, 3) := by decide +kernel
theorem dX9_is_44 : decode cX9_is 44 = .ok (.if_icmp .ge 38, 3) := by decide +kernel
theorem dX9_is_47 : decode cX9_is 47 = .ok (.iload_n 2, 1) := by decide +kernel
theorem dX9_is_48 : decode cX9_is 48 = .ok (.ifCond .eq 34, 3) := by decide +kernel
theorem dX9_is_51 : decode cX9_is 51 = .ok (.aload_n 0, 1) := by decide +kernel
theorem dX9_is_52 : decode cX9_is 52 = .ok (.getfield 20, 3) := by decide +kernel
theorem dX9_is_55 : decode cX9_is 55 = .ok (.aload_n 0, 1) := by decide +kernel
theorem dX9_is_56 : decode cX9_is 56 = .ok (.getfield 112, 3) := by decide +kernel
theorem dX9_is_59 : decode cX9_is 59 = .ok (.iload_n 3, 1) := by decide +kernel
theorem dX9_is_60 : decode cX9_is 60 = .ok (.iadd, 1) := by decide +kernel
theorem dX9_is_61 : decode cX9_is 61 = .ok (.baload, 1) := by decide +kernel
theorem dX9_is_62 : decode cX9_is 62 = .ok (.aload_n 1, 1) := by decide +kernel
theorem dX9_is_63 : decode cX9_is 63 = .ok (.iload_n 3, 1) := by decide +kernel
theorem dX9_is_64 : decode cX9_is 64 = .ok (.invokevirtual 147, 3) := by decide +kernel
theorem dX9_is_67 : decode cX9_is 67 = .ok (.if_icmp .ne 7, 3) := by decide +kernel
theorem dX9_is_70 : decode cX9_is 70 = .ok (.iconst 1, 1) := by decide +kernel
theorem dX9_is_71 : decode cX9_is 71 = .ok (.goto 4, 3) := by decide +kernel
theorem dX9_is_74 : decode cX9_is 74 = .ok (.iconst 0, 1) := by decide +kernel
theorem dX9_is_75 : decode cX9_is 75 = .ok (.istore_n 2, 1) := by decide +kernel
theorem dX9_is_76 : decode cX9_is 76 = .ok (.iinc 3 1, 3) := by decide +kernel
theorem dX9_is_79 : decode cX9_is 79 = .ok (.goto (-40), 3) := by decide +kernel
theorem dX9_is_82 : decode cX9_is 82 = .ok (.iload_n 2, 1) := by decide +kernel
theorem dX9_is_83 : decode cX9_is 83 = .ok (.ireturn, 1) := by decide +kernel
theorem dX9_kindWord_0 : decode cX9_kindWord 0 = .ok (.aload_n 0, 1) := by decide +kernel
theorem dX9_kindWord_1 : decode cX9_kindWord 1 = .ok (.aload_n 1, 1) := by decide +kernel
theorem dX9_kindWord_2 : decode cX9_kindWord 2 = .ok (.invokevirtual 151, 3) := by decide +kernel
theorem dX9_kindWord_5 : decode cX9_kindWord 5 = .ok (.ifCond .eq 7, 3) := by decide +kernel
theorem dX9_kindWord_8 : decode cX9_kindWord 8 = .ok (.iconst 0, 1) := by decide +kernel
theorem dX9_kindWord_9 : decode cX9_kindWord 9 = .ok (.goto 67, 3) := by decide +kernel
theorem dX9_kindWord_12 : decode cX9_kindWord 12 = .ok (.aload_n 0, 1) := by decide +kernel
theorem dX9_kindWord_13 : decode cX9_kindWord 13 = .ok (.aload_n 2, 1) := by decide +kernel
theorem dX9_kindWord_14 : decode cX9_kindWord 14 = .ok (.invokevirtual 151, 3) := by decide +kernel
theorem dX9_kindWord_17 : decode cX9_kindWord 17 = .ok (.ifCond .eq 7, 3) := by decide +kernel
theorem dX9_kindWord_20 : decode cX9_kindWord 20 = .ok (.iconst 1, 1) := by decide +kernel
theorem dX9_kindWord_21 : decode cX9_kindWord 21 = .ok (.goto 55, 3) := by decide +kernel
theorem dX9_kindWord_24 : decode cX9_kindWord 24 = .ok (.aload_n 0, 1) := by decide +kernel
theorem dX9_kindWord_25 : decode cX9_kindWord 25 = .ok (.aload_n 3, 1) := by decide +kernel
theorem dX9_kindWord_26 : decode cX9_kindWord 26 = .ok (.invokevirtual 151, 3) := by decide +kernel
theorem dX9_kindWord_29 : decode cX9_kindWord 29 = .ok (.ifCond .eq 7, 3) := by decide +kernel
theorem dX9_kindWord_32 : decode cX9_kindWord 32 = .ok (.iconst 2, 1) := by decide +kernel
theorem dX9_kindWord_33 : decode cX9_kindWord 33 = .ok (.goto 43, 3) := by decide +kernel
theorem dX9_kindWord_36 : decode cX9_kindWord 36 = .ok (.aload_n 0, 1) := by decide +kernel
theorem dX9_kindWord_37 : decode cX9_kindWord 37 = .ok (.aload 4, 2) := by decide +kernel
theorem dX9_kindWord_39 : decode cX9_kindWord 39 = .ok (.invokevirtual 151, 3) := by decide +kernel
theorem dX9_kindWord_42 : decode cX9_kindWord 42 = .ok (.ifCond .eq 7, 3) := by decide +kernel
theorem dX9_kindWord_45 : decode cX9_kindWord 45 = .ok (.iconst 3, 1) := by decide +kernel
theorem dX9_kindWord_46 : decode cX9_kindWord 46 = .ok (.goto 30, 3) := by decide +kernel
theorem dX9_kindWord_49 : decode cX9_kindWord 49 = .ok (.aload_n 0, 1) := by decide +kernel
theorem dX9_kindWord_50 : decode cX9_kindWord 50 = .ok (.aload 5, 2) := by decide +kernel
theorem dX9_kindWord_52 : decode cX9_kindWord 52 = .ok (.invokevirtual 151, 3) := by decide +kernel
theorem dX9_kindWord_55 : decode cX9_kindWord 55 = .ok (.ifCond .eq 7, 3) := by decide +kernel
theorem dX9_kindWord_58 : decode cX9_kindWord 58 = .ok (.iconst 4, 1) := by decide +kernel
theorem dX9_kindWord_59 : decode cX9_kindWord 59 = .ok (.goto 17, 3) := by decide +kernel
theorem dX9_kindWord_62 : decode cX9_kindWord 62 = .ok (.aload_n 0, 1) := by decide +kernel
theorem dX9_kindWord_63 : decode cX9_kindWord 63 = .ok (.aload 6, 2) := by decide +kernel
theorem dX9_kindWord_65 : decode cX9_kindWord 65 = .ok (.invokevirtual 151, 3) := by decide +kernel
theorem dX9_kindWord_68 : decode cX9_kindWord 68 = .ok (.ifCond .eq 7, 3) := by decide +kernel
theorem dX9_kindWord_71 : decode cX9_kindWord 71 = .ok (.iconst 5, 1) := by decide +kernel
theorem dX9_kindWord_72 : decode cX9_kindWord 72 = .ok (.goto 4, 3) := by decide +kernel
theorem dX9_kindWord_75 : decode cX9_kindWord 75 = .ok (.iconst (-1), 1) := by decide +kernel
theorem dX9_kindWord_76 : decode cX9_kindWord 76 = .ok (.ireturn, 1) := by decide +kernel
theorem dX9_number_0 : decode cX9_number 0 = .ok (.aload_n 0, 1) := by decide +kernel
theorem dX9_number_1 : decode cX9_number 1 = .ok (.invokevirtual 139, 3) := by decide +kernel
theorem dX9_number_4 : decode cX9_number 4 = .ok (.ifCond .eq 16, 3) := by decide +kernel
theorem dX9_number_7 : decode cX9_number 7 = .ok (.aload_n 0, 1) := by decide +kernel
theorem dX9_number_8 : decode cX9_number 8 = .ok (.getfield 115, 3) := by decide +kernel
theorem dX9_number_11 : decode cX9_number 11 = .ok (.iconst 2, 1) := by decide +kernel
theorem dX9_number_12 : decode cX9_number 12 = .ok (.if_icmp .eq 8, 3) := by decide +kernel
theorem dX9_number_15 : decode cX9_number 15 = .ok (.aload_n 0, 1) := by decide +kernel
theorem dX9_number_16 : decode cX9_number 16 = .ok (.iconst 1, 1) := by decide +kernel
theorem dX9_number_17 : decode cX9_number 17 = .ok (.invokevirtual 161, 3) := by decide +kernel
theorem dX9_number_20 : decode cX9_number 20 = .ok (.aload_n 0, 1) := by decide +kernel
theorem dX9_number_21 : decode cX9_number 21 = .ok (.invokevirtual 139, 3) := by decide +kernel
theorem dX9_number_24 : decode cX9_number 24 = .ok (.ifCond .eq 23, 3) := by decide +kernel
theorem dX9_number_27 : decode cX9_number 27 = .ok (.aload_n 0, 1) := by decide +kernel
theorem dX9_number_28 : decode cX9_number 28 = .ok (.getfield 126, 3) := by decide +kernel
theorem dX9_number_31 : decode cX9_number 31 = .ok (.i2l, 1) := by decide +kernel
theorem dX9_number_32 : decode cX9_number 32 = .ok (.iload_n 1, 1) := by decide +kernel
theorem dX9_number_33 : decode cX9_number 33 = .ok (.i2l, 1) := by decide +kernel
theorem dX9_number_34 : decode cX9_number 34 = .ok (.iload_n 2, 1) := by decide +kernel
theorem dX9_number_35 : decode cX9_number 35 = .ok (.i2l, 1) := by decide +kernel
theorem dX9_number_36 : decode cX9_number 36 = .ok (.invokestatic 76, 3) := by decide +kernel
theorem dX9_number_39 : decode cX9_number 39 = .ok (.ifCond .ne 8, 3) := by decide +kernel
theorem dX9_number_42 : decode cX9_number 42 = .ok (.aload_n 0, 1) := by decide +kernel
theorem dX9_number_43 : decode cX9_number 43 = .ok (.iconst 2, 1) := by decide +kernel
theorem dX9_number_44 : decode cX9_number 44 = .ok (.invokevirtual 161, 3) := by decide +kernel
theorem dX9_number_47 : decode cX9_number 47 = .ok (.aload_n 0, 1) := by decide +kernel
theorem dX9_number_48 : decode cX9_number 48 = .ok (.invokevirtual 139, 3) := by decide +kernel
theorem dX9_number_51 : decode cX9_number 51 = .ok (.ifCond .ne 5, 3) := by decide +kernel
theorem dX9_number_54 : decode cX9_number 54 = .ok (.iconst 0, 1) := by decide +kernel
theorem dX9_number_55 : decode cX9_number 55 = .ok (.ireturn, 1) := by decide +kernel
theorem dX9_number_56 : decode cX9_number 56 = .ok (.aload_n 0, 1) := by decide +kernel
theorem dX9_number_57 : decode cX9_number 57 = .ok (.getfield 126, 3) := by decide +kernel
theorem dX9_number_60 : decode cX9_number 60 = .ok (.istore_n 3, 1) := by decide +kernel
theorem dX9_number_61 : decode cX9_number 61 = .ok (.aload_n 0, 1) := by decide +kernel
theorem dX9_number_62 : decode cX9_number 62 = .ok (.invokevirtual 155, 3) := by decide +kernel
theorem dX9_number_65 : decode cX9_number 65 = .ok (.iload_n 3, 1) := by decide +kernel
theorem dX9_number_66 : decode cX9_number 66 = .ok (.ireturn, 1) := by decide +kernel
theorem dX9_readCell_0 : decode cX9_readCell 0 = .ok (.aload_n 0, 1) := by decide +kernel
theorem dX9_readCell_1 : decode cX9_readCell 1 = .ok (.iconst 0, 1) := by decide +kernel
theorem dX9_readCell_2 : decode cX9_readCell 2 = .ok (.aload_n 0, 1) := by decide +kernel
theorem dX9_readCell_3 : decode cX9_readCell 3 = .ok (.getfield 31, 3) := by decide +kernel
theorem dX9_readCell_6 : decode cX9_readCell 6 = .ok (.iconst 3, 1) := by decide +kernel
theorem dX9_readCell_7 : decode cX9_readCell 7 = .ok (.iaload, 1) := by decide +kernel
theorem dX9_readCell_8 : decode cX9_readCell 8 = .ok (.iconst 1, 1) := by decide +kernel
theorem dX9_readCell_9 : decode cX9_readCell 9 = .ok (.isub, 1) := by decide +kernel
theorem dX9_readCell_10 : decode cX9_readCell 10 = .ok (.invokevirtual 169, 3) := by decide +kernel
theorem dX9_readCell_13 : decode cX9_readCell 13 = .ok (.ireturn, 1) := by decide +kernel
theorem dX9_readKind_0 : decode cX9_readKind 0 = .ok (.aload_n 0, 1) := by decide +kernel
theorem dX9_readKind_1 : decode cX9_readKind 1 = .ok (.aload_n 1, 1) := by decide +kernel
theorem dX9_readKind_2 : decode cX9_readKind 2 = .ok (.aload_n 2, 1) := by decide +kernel
theorem dX9_readKind_3 : decode cX9_readKind 3 = .ok (.aload_n 3, 1) := by decide +kernel
theorem dX9_readKind_4 : decode cX9_readKind 4 = .ok (.aload 4, 2) := by decide +kernel
theorem dX9_readKind_6 : decode cX9_readKind 6 = .ok (.aload 5, 2) := by decide +kernel
theorem dX9_readKind_8 : decode cX9_readKind 8 = .ok (.aload 6, 2) := by decide +kernel
theorem dX9_readKind_10 : decode cX9_readKind 10 = .ok (.invokevirtual 187, 3) := by decide +kernel
theorem dX9_readKind_13 : decode cX9_readKind 13 = .ok (.istore 7, 2) := by decide +kernel
theorem dX9_readKind_15 : decode cX9_readKind 15 = .ok (.iload 7, 2) := by decide +kernel
theorem dX9_readKind_17 : decode cX9_readKind 17 = .ok (.iconst (-1), 1) := by decide +kernel
theorem dX9_readKind_18 : decode cX9_readKind 18 = .ok (.if_icmp .ne 8, 3) := by decide +kernel
theorem dX9_readKind_21 : decode cX9_readKind 21 = .ok (.aload_n 0, 1) := by decide +kernel
theorem dX9_readKind_22 : decode cX9_readKind 22 = .ok (.iconst 1, 1) := by decide +kernel
theorem dX9_readKind_23 : decode cX9_readKind 23 = .ok (.invokevirtual 161, 3) := by decide +kernel
theorem dX9_readKind_26 : decode cX9_readKind 26 = .ok (.aload_n 0, 1) := by decide +kernel
theorem dX9_readKind_27 : decode cX9_readKind 27 = .ok (.invokevirtual 139, 3) := by decide +kernel
theorem dX9_readKind_30 : decode cX9_readKind 30 = .ok (.ifCond .eq 7, 3) := by decide +kernel
theorem dX9_readKind_33 : decode cX9_readKind 33 = .ok (.aload_n 0, 1) := by decide +kernel
theorem dX9_readKind_34 : decode cX9_readKind 34 = .ok (.invokevirtual 155, 3) := by decide +kernel
theorem dX9_readKind_37 : decode cX9_readKind 37 = .ok (.iconst 0, 1) := by decide +kernel
theorem dX9_readKind_38 : decode cX9_readKind 38 = .ok (.iload 7, 2) := by decide +kernel
theorem dX9_readKind_40 : decode cX9_readKind 40 = .ok (.invokestatic 191, 3) := by decide +kernel
theorem dX9_readKind_43 : decode cX9_readKind 43 = .ok (.ireturn, 1) := by decide +kernel
theorem dX9_readOther_0 : decode cX9_readOther 0 = .ok (.aload_n 0, 1) := by decide +kernel
theorem dX9_readOther_1 : decode cX9_readOther 1 = .ok (.invokevirtual 139, 3) := by decide +kernel
theorem dX9_readOther_4 : decode cX9_readOther 4 = .ok (.ifCond .eq 24, 3) := by decide +kernel
theorem dX9_readOther_7 : decode cX9_readOther 7 = .ok (.aload_n 0, 1) := by decide +kernel
theorem dX9_readOther_8 : decode cX9_readOther 8 = .ok (.getfield 115, 3) := by decide +kernel
theorem dX9_readOther_11 : decode cX9_readOther 11 = .ok (.iconst 2, 1) := by decide +kernel
theorem dX9_readOther_12 : decode cX9_readOther 12 = .ok (.if_icmp .ne 16, 3) := by decide +kernel
theorem dX9_readOther_15 : decode cX9_readOther 15 = .ok (.aload_n 0, 1) := by decide +kernel
theorem dX9_readOther_16 : decode cX9_readOther 16 = .ok (.getfield 126, 3) := by decide +kernel
theorem dX9_readOther_19 : decode cX9_readOther 19 = .ok (.iload_n 1, 1) := by decide +kernel
theorem dX9_readOther_20 : decode cX9_readOther 20 = .ok (.if_icmp .ne 8, 3) := by decide +kernel
theorem dX9_readOther_23 : decode cX9_readOther 23 = .ok (.aload_n 0, 1) := by decide +kernel
theorem dX9_readOther_24 : decode cX9_readOther 24 = .ok (.iconst 2, 1) := by decide +kernel
theorem dX9_readOther_25 : decode cX9_readOther 25 = .ok (.invokevirtual 161, 3) := by decide +kernel
theorem dX9_readOther_28 : decode cX9_readOther 28 = .ok (.aload_n 0, 1) := by decide +kernel
theorem dX9_readOther_29 : decode cX9_readOther 29 = .ok (.invokevirtual 184, 3) := by decide +kernel
theorem dX9_readOther_32 : decode cX9_readOther 32 = .ok (.ireturn, 1) := by decide +kernel
theorem dX9_see_0 : decode cX9_see 0 = .ok (.iload_n 1, 1) := by decide +kernel
theorem dX9_see_1 : decode cX9_see 1 = .ok (.aload_n 0, 1) := by decide +kernel
theorem dX9_see_2 : decode cX9_see 2 = .ok (.getfield 102, 3) := by decide +kernel
theorem dX9_see_5 : decode cX9_see 5 = .ok (.if_icmp .ge 16, 3) := by decide +kernel
theorem dX9_see_8 : decode cX9_see 8 = .ok (.aload_n 0, 1) := by decide +kernel
theorem dX9_see_9 : decode cX9_see 9 = .ok (.getfield 20, 3) := by decide +kernel
theorem dX9_see_12 : decode cX9_see 12 = .ok (.iload_n 1, 1) := by decide +kernel
theorem dX9_see_13 : decode cX9_see 13 = .ok (.baload, 1) := by decide +kernel
theorem dX9_see_14 : decode cX9_see 14 = .ok (.sipush 255, 3) := by decide +kernel
theorem dX9_see_17 : decode cX9_see 17 = .ok (.iand, 1) := by decide +kernel
theorem dX9_see_18 : decode cX9_see 18 = .ok (.goto 4, 3) := by decide +kernel
theorem dX9_see_21 : decode cX9_see 21 = .ok (.iconst (-1), 1) := by decide +kernel
theorem dX9_see_22 : decode cX9_see 22 = .ok (.ireturn, 1) := by decide +kernel
theorem dX9_takes_0 : decode cX9_takes 0 = .ok (.aload_n 0, 1) := by decide +kernel
theorem dX9_takes_1 : decode cX9_takes 1 = .ok (.aload_n 1, 1) := by decide +kernel
theorem dX9_takes_2 : decode cX9_takes 2 = .ok (.invokevirtual 151, 3) := by decide +kernel
theorem dX9_takes_5 : decode cX9_takes 5 = .ok (.istore_n 2, 1) := by decide +kernel
theorem dX9_takes_6 : decode cX9_takes 6 = .ok (.iload_n 2, 1) := by decide +kernel
theorem dX9_takes_7 : decode cX9_takes 7 = .ok (.ifCond .eq 7, 3) := by decide +kernel
theorem dX9_takes_10 : decode cX9_takes 10 = .ok (.aload_n 0, 1) := by decide +kernel
theorem dX9_takes_11 : decode cX9_takes 11 = .ok (.invokevirtual 155, 3) := by decide +kernel
theorem dX9_takes_14 : decode cX9_takes 14 = .ok (.iload_n 2, 1) := by decide +kernel
theorem dX9_takes_15 : decode cX9_takes 15 = .ok (.ireturn, 1) := by decide +kernel
theorem dX9_toldBy_0 : decode cX9_toldBy 0 = .ok (.aload_n 0, 1) := by decide +kernel
theorem dX9_toldBy_1 : decode cX9_toldBy 1 = .ok (.aload_n 1, 1) := by decide +kernel
theorem dX9_toldBy_2 : decode cX9_toldBy 2 = .ok (.invokevirtual 165, 3) := by decide +kernel
theorem dX9_toldBy_5 : decode cX9_toldBy 5 = .ok (.aload_n 0, 1) := by decide +kernel
theorem dX9_toldBy_6 : decode cX9_toldBy 6 = .ok (.iload_n 2, 1) := by decide +kernel
theorem dX9_toldBy_7 : decode cX9_toldBy 7 = .ok (.iload_n 3, 1) := by decide +kernel
theorem dX9_toldBy_8 : decode cX9_toldBy 8 = .ok (.invokevirtual 169, 3) := by decide +kernel
theorem dX9_toldBy_11 : decode cX9_toldBy 11 = .ok (.ireturn, 1) := by decide +kernel
theorem iuX9_advance_X9 : ∀ w ∈ u_ws RX9 TX9 42, w ∈ W_X9_advance := fun w h => List.mem_cons_of_mem _ (List.mem_append_right _ (List.mem_append_left _ (h)))
theorem iuX9_errs_X9 : ∀ w ∈ u_ws RX9 TX9 42, w ∈ W_X9_errs := fun w h => List.mem_cons_of_mem _ (List.mem_append_right _ (List.mem_append_left _ (h)))
theorem iuX9_fault_X9 : ∀ w ∈ u_ws RX9 TX9 42, w ∈ W_X9_fault := fun w h => List.mem_cons_of_mem _ (List.mem_append_right _ (h))
theorem iuX9_good_X9 : ∀ w ∈ u_ws RX9 TX9 42, w ∈ W_X9_good := fun w h => List.mem_cons_of_mem _ (List.mem_append_right _ (h))
theorem iuX9_is_X9 : ∀ w ∈ u_ws RX9 TX9 42, w ∈ W_X9_is := fun w h => List.mem_cons_of_mem _ (List.mem_append_right _ (List.mem_append_left _ (h)))
theorem iuX9_number_X9 : ∀ w ∈ u_ws RX9 TX9 42, w ∈ W_X9_number := fun w h => List.mem_cons_of_mem _ (List.mem_append_right _ (List.mem_append_left _ (h)))
theorem iuX9_readCell_X9 : ∀ w ∈ u_ws RX9 TX9 42, w ∈ W_X9_readCell := fun w h => List.mem_cons_of_mem _ (List.mem_append_right _ (List.mem_append_left _ (h)))
theorem iuX9_readOther_X9 : ∀ w ∈ u_ws RX9 TX9 42, w ∈ W_X9_readOther := fun w h => List.mem_cons_of_mem _ (List.mem_append_right _ (List.mem_append_left _ (h)))
theorem iuX9_see_X9 : ∀ w ∈ u_ws RX9 TX9 42, w ∈ W_X9_see := fun w h => List.mem_cons_of_mem _ (List.mem_append_right _ (h))
theorem gw_X9_advance_X9_in : GoodIn W_X9_advance W_X9_in := fun w h => ⟨List.mem_cons_of_mem _ (List.mem_append_right _ (List.mem_append_right _ (List.mem_append_right _ (h)))), (wI_X9_in w h).2⟩
theorem gc_X9_advance_76_X9_in : GoodIn W_X9_advance (va_wsS RX9 76 yX9_in W_X9_in) := goodIn_app (goodIn_sub (List.forall_mem_cons.mpr ⟨List.mem_cons_of_mem _ (List.mem_append_left _ (List.mem_of_getElem? (i := 9) rfl)), List.forall_mem_cons.mpr ⟨List.mem_cons_of_mem _ (List.mem_append_left _ (List.mem_of_getElem? (i := 10) rfl)), List.forall_mem_cons.mpr ⟨List.mem_cons_of_mem _ (List.mem_append_left _ (List.mem_of_getElem? (i := 4) rfl)), fun _ h => absurd h List.not_mem_nil⟩⟩⟩) (by decide +kernel)) gw_X9_advance_X9_in
theorem gw_X9_advance_X9_see : GoodIn W_X9_advance W_X9_see := fun w h => ⟨List.mem_cons_of_mem _ (List.mem_append_right _ (List.mem_append_right _ (List.mem_append_left _ (h)))), (wI_X9_see w h).2⟩
theorem gc_X9_advance_108_X9_see : GoodIn W_X9_advance (wsV RX9 108 RX9 yX9_see W_X9_see) := goodIn_app (goodIn_sub (List.forall_mem_cons.mpr ⟨List.mem_cons_of_mem _ (List.mem_append_left _ (List.mem_of_getElem? (i := 1) rfl)), List.forall_mem_cons.mpr ⟨List.mem_cons_of_mem _ (List.mem_append_left _ (List.mem_of_getElem? (i := 2) rfl)), List.forall_mem_cons.mpr ⟨List.mem_cons_of_mem _ (List.mem_append_left _ (List.mem_of_getElem? (i := 3) rfl)), List.forall_mem_cons.mpr ⟨List.mem_cons_of_mem _ (List.mem_append_left _ (List.mem_of_getElem? (i := 4) rfl)), fun _ h => absurd h List.not_mem_nil⟩⟩⟩⟩) (by decide +kernel)) gw_X9_advance_X9_see
theorem gw_X9_errs_X9_good : GoodIn W_X9_errs W_X9_good := fun w h => ⟨List.mem_cons_of_mem _ (List.mem_append_right _ (List.mem_append_right _ (h))), (wI_X9_good w h).2⟩
theorem gc_X9_errs_139_X9_good : GoodIn W_X9_errs (wsV RX9 139 RX9 yX9_good W_X9_good) := goodIn_app (goodIn_sub (List.forall_mem_cons.mpr ⟨List.mem_cons_of_mem _ (List.mem_append_left _ (List.mem_of_getElem? (i := 0) rfl)), List.forall_mem_cons.mpr ⟨List.mem_cons_of_mem _ (List.mem_append_left _ (List.mem_of_getElem? (i := 1) rfl)), List.forall_mem_cons.mpr ⟨List.mem_cons_of_mem _ (List.mem_append_left _ (List.mem_of_getElem? (i := 2) rfl)), List.forall_mem_cons.mpr ⟨List.mem_cons_of_mem _ (List.mem_append_left _ (List.mem_of_getElem? (i := 3) rfl)), fun _ h => absurd h List.not_mem_nil⟩⟩⟩⟩) (by decide +kernel)) gw_X9_errs_X9_good
theorem gw_X9_expects_X9_takes : GoodIn W_X9_expects W_X9_takes := fun w h => ⟨List.mem_cons_of_mem _ (List.mem_append_right _ (List.mem_append_left _ (h))), (wI_X9_takes w h).2⟩
theorem gc_X9_expects_158_X9_takes : GoodIn W_X9_expects (wsV RX9 158 RX9 yX9_takes W_X9_takes) := goodIn_app (goodIn_sub (List.forall_mem_cons.mpr ⟨List.mem_cons_of_mem _ (List.mem_append_left _ (List.mem_of_getElem? (i := 0) rfl)), List.forall_mem_cons.mpr ⟨List.mem_cons_of_mem _ (List.mem_append_left _ (List.mem_of_getElem? (i := 1) rfl)), List.forall_mem_cons.mpr ⟨List.mem_cons_of_mem _ (List.mem_append_left _ (List.mem_of_getElem? (i := 2) rfl)), List.forall_mem_cons.mpr ⟨List.mem_cons_of_mem _ (List.mem_append_left _ (List.mem_of_getElem? (i := 3) rfl)), fun _ h => absurd h List.not_mem_nil⟩⟩⟩⟩) (by decide +kernel)) gw_X9_expects_X9_takes
theorem gw_X9_expects_X9_errs : GoodIn W_X9_expects W_X9_errs := fun w h => ⟨List.mem_cons_of_mem _ (List.mem_append_right _ (List.mem_append_right _ (h))), (wI_X9_errs w h).2⟩
theorem gc_X9_expects_161_X9_errs : GoodIn W_X9_expects (wsV RX9 161 RX9 yX9_errs W_X9_errs) := goodIn_app (goodIn_sub (List.forall_mem_cons.mpr ⟨List.mem_cons_of_mem _ (List.mem_append_left _ (List.mem_of_getElem? (i := 4) rfl)), List.forall_mem_cons.mpr ⟨List.mem_cons_of_mem _ (List.mem_append_left _ (List.mem_of_getElem? (i := 5) rfl)), List.forall_mem_cons.mpr ⟨List.mem_cons_of_mem _ (List.mem_append_left _ (List.mem_of_getElem? (i := 6) rfl)), List.forall_mem_cons.mpr ⟨List.mem_cons_of_mem _ (List.mem_append_left _ (List.mem_of_getElem? (i := 3) rfl)), fun _ h => absurd h List.not_mem_nil⟩⟩⟩⟩) (by decide +kernel)) gw_X9_expects_X9_errs
theorem gw_X9_is_X9_good : GoodIn W_X9_is W_X9_good := fun w h => ⟨List.mem_cons_of_mem _ (List.mem_append_right _ (List.mem_append_right _ (List.mem_append_left _ (h)))), (wI_X9_good w h).2⟩
theorem gc_X9_is_139_X9_good : GoodIn W_X9_is (wsV RX9 139 RX9 yX9_good W_X9_good) := goodIn_app (goodIn_sub (List.forall_mem_cons.mpr ⟨List.mem_cons_of_mem _ (List.mem_append_left _ (List.mem_of_getElem? (i := 0) rfl)), List.forall_mem_cons.mpr ⟨List.mem_cons_of_mem _ (List.mem_append_left _ (List.mem_of_getElem? (i := 1) rfl)), List.forall_mem_cons.mpr ⟨List.mem_cons_of_mem _ (List.mem_append_left _ (List.mem_of_getElem? (i := 2) rfl)), List.forall_mem_cons.mpr ⟨List.mem_cons_of_mem _ (List.mem_append_left _ (List.mem_of_getElem? (i := 3) rfl)), fun _ h => absurd h List.not_mem_nil⟩⟩⟩⟩) (by decide +kernel)) gw_X9_is_X9_good
theorem gw_X9_is_J0_length_8abf5 : GoodIn W_X9_is W_J0_length_8abf5 := fun w h => ⟨List.mem_cons_of_mem _ (List.mem_append_right _ (List.mem_append_right _ (List.mem_append_right _ (List.mem_append_left _ (h))))), (wI_J0_length_8abf5 w h).2⟩
theorem gc_X9_is_142_J0_length_8abf5 : GoodIn W_X9_is (wsV RX9 142 RJ0 yJ0_length_8abf5 W_J0_length_8abf5) := goodIn_app (goodIn_sub (List.forall_mem_cons.mpr ⟨List.mem_cons_of_mem _ (List.mem_append_left _ (List.mem_of_getElem? (i := 7) rfl)), List.forall_mem_cons.mpr ⟨List.mem_cons_of_mem _ (List.mem_append_left _ (List.mem_of_getElem? (i := 8) rfl)), List.forall_mem_cons.mpr ⟨List.mem_cons_of_mem _ (List.mem_append_left _ (List.mem_of_getElem? (i := 9) rfl)), List.forall_mem_cons.mpr ⟨List.mem_cons_of_mem _ (List.mem_append_left _ (List.mem_of_getElem? (i := 10) rfl)), fun _ h => absurd h List.not_mem_nil⟩⟩⟩⟩) (by decide +kernel)) gw_X9_is_J0_length_8abf5
theorem gw_X9_is_J0_charAt_5068e : GoodIn W_X9_is W_J0_charAt_5068e := fun w h => ⟨List.mem_cons_of_mem _ (List.mem_append_right _ (List.mem_append_right _ (List.mem_append_right _ (List.mem_append_right _ (h))))), (wI_J0_charAt_5068e w h).2⟩
theorem gc_X9_is_147_J0_charAt_5068e : GoodIn W_X9_is (wsV RX9 147 RJ0 yJ0_charAt_5068e W_J0_charAt_5068e) := goodIn_app (goodIn_sub (List.forall_mem_cons.mpr ⟨List.mem_cons_of_mem _ (List.mem_append_left _ (List.mem_of_getElem? (i := 12) rfl)), List.forall_mem_cons.mpr ⟨List.mem_cons_of_mem _ (List.mem_append_left _ (List.mem_of_getElem? (i := 13) rfl)), List.forall_mem_cons.mpr ⟨List.mem_cons_of_mem _ (List.mem_append_left _ (List.mem_of_getElem? (i := 14) rfl)), List.forall_mem_cons.mpr ⟨List.mem_cons_of_mem _ (List.mem_append_left _ (List.mem_of_getElem? (i := 10) rfl)), fun _ h => absurd h List.not_mem_nil⟩⟩⟩⟩) (by decide +kernel)) gw_X9_is_J0_charAt_5068e
theorem gw_X9_kindWord_X9_is : GoodIn W_X9_kindWord W_X9_is := fun w h => ⟨List.mem_cons_of_mem _ (List.mem_append_right _ (h)), (wI_X9_is w h).2⟩
theorem gc_X9_kindWord_151_X9_is : GoodIn W_X9_kindWord (wsV RX9 151 RX9 yX9_is W_X9_is) := goodIn_app (goodIn_sub (List.forall_mem_cons.mpr ⟨List.mem_cons_of_mem _ (List.mem_append_left _ (List.mem_of_getElem? (i := 0) rfl)), List.forall_mem_cons.mpr ⟨List.mem_cons_of_mem _ (List.mem_append_left _ (List.mem_of_getElem? (i := 1) rfl)), List.forall_mem_cons.mpr ⟨List.mem_cons_of_mem _ (List.mem_append_left _ (List.mem_of_getElem? (i := 2) rfl)), List.forall_mem_cons.mpr ⟨List.mem_cons_of_mem _ (List.mem_append_left _ (List.mem_of_getElem? (i := 3) rfl)), fun _ h => absurd h List.not_mem_nil⟩⟩⟩⟩) (by decide +kernel)) gw_X9_kindWord_X9_is
theorem gw_X9_number_X9_in : GoodIn W_X9_number W_X9_in := fun w h => ⟨List.mem_cons_of_mem _ (List.mem_append_right _ (List.mem_append_right _ (List.mem_append_right _ (List.mem_append_right _ (List.mem_append_left _ (h)))))), (wI_X9_in w h).2⟩
theorem gc_X9_number_76_X9_in : GoodIn W_X9_number (va_wsS RX9 76 yX9_in W_X9_in) := goodIn_app (goodIn_sub (List.forall_mem_cons.mpr ⟨List.mem_cons_of_mem _ (List.mem_append_left _ (List.mem_of_getElem? (i := 9) rfl)), List.forall_mem_cons.mpr ⟨List.mem_cons_of_mem _ (List.mem_append_left _ (List.mem_of_getElem? (i := 10) rfl)), List.forall_mem_cons.mpr ⟨List.mem_cons_of_mem _ (List.mem_append_left _ (List.mem_of_getElem? (i := 3) rfl)), fun _ h => absurd h List.not_mem_nil⟩⟩⟩) (by decide +kernel)) gw_X9_number_X9_in
theorem gw_X9_number_X9_good : GoodIn W_X9_number W_X9_good := fun w h => ⟨List.mem_cons_of_mem _ (List.mem_append_right _ (List.mem_append_right _ (List.mem_append_left _ (h)))), (wI_X9_good w h).2⟩
theorem gc_X9_number_139_X9_good : GoodIn W_X9_number (wsV RX9 139 RX9 yX9_good W_X9_good) := goodIn_app (goodIn_sub (List.forall_mem_cons.mpr ⟨List.mem_cons_of_mem _ (List.mem_append_left _ (List.mem_of_getElem? (i := 0) rfl)), List.forall_mem_cons.mpr ⟨List.mem_cons_of_mem _ (List.mem_append_left _ (List.mem_of_getElem? (i := 1) rfl)), List.forall_mem_cons.mpr ⟨List.mem_cons_of_mem _ (List.mem_append_left _ (List.mem_of_getElem? (i := 2) rfl)), List.forall_mem_cons.mpr ⟨List.mem_cons_of_mem _ (List.mem_append_left _ (List.mem_of_getElem? (i := 3) rfl)), fun _ h => absurd h List.not_mem_nil⟩⟩⟩⟩) (by decide +kernel)) gw_X9_number_X9_good
theorem gw_X9_number_X9_advance : GoodIn W_X9_number W_X9_advance := fun w h => ⟨List.mem_cons_of_mem _ (List.mem_append_right _ (List.mem_append_right _ (List.mem_append_right _ (List.mem_append_right _ (List.mem_append_right _ (h)))))), (wI_X9_advance w h).2⟩
theorem gc_X9_number_155_X9_advance : GoodIn W_X9_number (wsV RX9 155 RX9 yX9_advance W_X9_advance) := goodIn_app (goodIn_sub (List.forall_mem_cons.mpr ⟨List.mem_cons_of_mem _ (List.mem_append_left _ (List.mem_of_getElem? (i := 11) rfl)), List.forall_mem_cons.mpr ⟨List.mem_cons_of_mem _ (List.mem_append_left _ (List.mem_of_getElem? (i := 12) rfl)), List.forall_mem_cons.mpr ⟨List.mem_cons_of_mem _ (List.mem_append_left _ (List.mem_of_getElem? (i := 13) rfl)), List.forall_mem_cons.mpr ⟨List.mem_cons_of_mem _ (List.mem_append_left _ (List.mem_of_getElem? (i := 3) rfl)), fun _ h => absurd h List.not_mem_nil⟩⟩⟩⟩) (by decide +kernel)) gw_X9_number_X9_advance
theorem gw_X9_number_X9_errs : GoodIn W_X9_number W_X9_errs := fun w h => ⟨List.mem_cons_of_mem _ (List.mem_append_right _ (List.mem_append_right _ (List.mem_append_right _ (List.mem_append_left _ (h))))), (wI_X9_errs w h).2⟩
theorem gc_X9_number_161_X9_errs : GoodIn W_X9_number (wsV RX9 161 RX9 yX9_errs W_X9_errs) := goodIn_app (goodIn_sub (List.forall_mem_cons.mpr ⟨List.mem_cons_of_mem _ (List.mem_append_left _ (List.mem_of_getElem? (i := 5) rfl)), List.forall_mem_cons.mpr ⟨List.mem_cons_of_mem _ (List.mem_append_left _ (List.mem_of_getElem? (i := 6) rfl)), List.forall_mem_cons.mpr ⟨List.mem_cons_of_mem _ (List.mem_append_left _ (List.mem_of_getElem? (i := 7) rfl)), List.forall_mem_cons.mpr ⟨List.mem_cons_of_mem _ (List.mem_append_left _ (List.mem_of_getElem? (i := 3) rfl)), fun _ h => absurd h List.not_mem_nil⟩⟩⟩⟩) (by decide +kernel)) gw_X9_number_X9_errs
theorem gw_X9_readCell_X9_number : GoodIn W_X9_readCell W_X9_number := fun w h => ⟨List.mem_cons_of_mem _ (List.mem_append_right _ (List.mem_append_right _ (h))), (wI_X9_number w h).2⟩
theorem gc_X9_readCell_169_X9_number : GoodIn W_X9_readCell (wsV RX9 169 RX9 yX9_number W_X9_number) := goodIn_app (goodIn_sub (List.forall_mem_cons.mpr ⟨List.mem_cons_of_mem _ (List.mem_append_left _ (List.mem_of_getElem? (i := 1) rfl)), List.forall_mem_cons.mpr ⟨List.mem_cons_of_mem _ (List.mem_append_left _ (List.mem_of_getElem? (i := 2) rfl)), List.forall_mem_cons.mpr ⟨List.mem_cons_of_mem _ (List.mem_append_left _ (List.mem_of_getElem? (i := 3) rfl)), List.forall_mem_cons.mpr ⟨List.mem_cons_of_mem _ (List.mem_append_left _ (List.mem_of_getElem? (i := 4) rfl)), fun _ h => absurd h List.not_mem_nil⟩⟩⟩⟩) (by decide +kernel)) gw_X9_readCell_X9_number
theorem gw_X9_readKind_X9_good : GoodIn W_X9_readKind W_X9_good := fun w h => ⟨List.mem_cons_of_mem _ (List.mem_append_right _ (List.mem_append_right _ (List.mem_append_right _ (List.mem_append_left _ (h))))), (wI_X9_good w h).2⟩
theorem gc_X9_readKind_139_X9_good : GoodIn W_X9_readKind (wsV RX9 139 RX9 yX9_good W_X9_good) := goodIn_app (goodIn_sub (List.forall_mem_cons.mpr ⟨List.mem_cons_of_mem _ (List.mem_append_left _ (List.mem_of_getElem? (i := 7) rfl)), List.forall_mem_cons.mpr ⟨List.mem_cons_of_mem _ (List.mem_append_left _ (List.mem_of_getElem? (i := 8) rfl)), List.forall_mem_cons.mpr ⟨List.mem_cons_of_mem _ (List.mem_append_left _ (List.mem_of_getElem? (i := 9) rfl)), List.forall_mem_cons.mpr ⟨List.mem_cons_of_mem _ (List.mem_append_left _ (List.mem_of_getElem? (i := 3) rfl)), fun _ h => absurd h List.not_mem_nil⟩⟩⟩⟩) (by decide +kernel)) gw_X9_readKind_X9_good
theorem gw_X9_readKind_X9_advance : GoodIn W_X9_readKind W_X9_advance := fun w h => ⟨List.mem_cons_of_mem _ (List.mem_append_right _ (List.mem_append_right _ (List.mem_append_right _ (List.mem_append_right _ (h))))), (wI_X9_advance w h).2⟩
theorem gc_X9_readKind_155_X9_advance : GoodIn W_X9_readKind (wsV RX9 155 RX9 yX9_advance W_X9_advance) := goodIn_app (goodIn_sub (List.forall_mem_cons.mpr ⟨List.mem_cons_of_mem _ (List.mem_append_left _ (List.mem_of_getElem? (i := 10) rfl)), List.forall_mem_cons.mpr ⟨List.mem_cons_of_mem _ (List.mem_append_left _ (List.mem_of_getElem? (i := 11) rfl)), List.forall_mem_cons.mpr ⟨List.mem_cons_of_mem _ (List.mem_append_left _ (List.mem_of_getElem? (i := 12) rfl)), List.forall_mem_cons.mpr ⟨List.mem_cons_of_mem _ (List.mem_append_left _ (List.mem_of_getElem? (i := 3) rfl)), fun _ h => absurd h List.not_mem_nil⟩⟩⟩⟩) (by decide +kernel)) gw_X9_readKind_X9_advance
theorem gw_X9_readKind_X9_errs : GoodIn W_X9_readKind W_X9_errs := fun w h => ⟨List.mem_cons_of_mem _ (List.mem_append_right _ (List.mem_append_right _ (List.mem_append_left _ (h)))), (wI_X9_errs w h).2⟩
theorem gc_X9_readKind_161_X9_errs : GoodIn W_X9_readKind (wsV RX9 161 RX9 yX9_errs W_X9_errs) := goodIn_app (goodIn_sub (List.forall_mem_cons.mpr ⟨List.mem_cons_of_mem _ (List.mem_append_left _ (List.mem_of_getElem? (i := 4) rfl)), List.forall_mem_cons.mpr ⟨List.mem_cons_of_mem _ (List.mem_append_left _ (List.mem_of_getElem? (i := 5) rfl)), List.forall_mem_cons.mpr ⟨List.mem_cons_of_mem _ (List.mem_append_left _ (List.mem_of_getElem? (i := 6) rfl)), List.forall_mem_cons.mpr ⟨List.mem_cons_of_mem _ (List.mem_append_left _ (List.mem_of_getElem? (i := 3) rfl)), fun _ h => absurd h List.not_mem_nil⟩⟩⟩⟩) (by decide +kernel)) gw_X9_readKind_X9_errs
theorem gw_X9_readKind_X9_kindWord : GoodIn W_X9_readKind W_X9_kindWord := fun w h => ⟨List.mem_cons_of_mem _ (List.mem_append_right _ (List.mem_append_left _ (h))), (wI_X9_kindWord w h).2⟩
theorem gc_X9_readKind_187_X9_kindWord : GoodIn W_X9_readKind (wsV RX9 187 RX9 yX9_kindWord W_X9_kindWord) := goodIn_app (goodIn_sub (List.forall_mem_cons.mpr ⟨List.mem_cons_of_mem _ (List.mem_append_left _ (List.mem_of_getElem? (i := 0) rfl)), List.forall_mem_cons.mpr ⟨List.mem_cons_of_mem _ (List.mem_append_left _ (List.mem_of_getElem? (i := 1) rfl)), List.forall_mem_cons.mpr ⟨List.mem_cons_of_mem _ (List.mem_append_left _ (List.mem_of_getElem? (i := 2) rfl)), List.forall_mem_cons.mpr ⟨List.mem_cons_of_mem _ (List.mem_append_left _ (List.mem_of_getElem? (i := 3) rfl)), fun _ h => absurd h List.not_mem_nil⟩⟩⟩⟩) (by decide +kernel)) gw_X9_readKind_X9_kindWord
theorem gw_X9_readOther_X9_good : GoodIn W_X9_readOther W_X9_good := fun w h => ⟨List.mem_cons_of_mem _ (List.mem_append_right _ (List.mem_append_right _ (List.mem_append_left _ (h)))), (wI_X9_good w h).2⟩
theorem gc_X9_readOther_139_X9_good : GoodIn W_X9_readOther (wsV RX9 139 RX9 yX9_good W_X9_good) := goodIn_app (goodIn_sub (List.forall_mem_cons.mpr ⟨List.mem_cons_of_mem _ (List.mem_append_left _ (List.mem_of_getElem? (i := 0) rfl)), List.forall_mem_cons.mpr ⟨List.mem_cons_of_mem _ (List.mem_append_left _ (List.mem_of_getElem? (i := 1) rfl)), List.forall_mem_cons.mpr ⟨List.mem_cons_of_mem _ (List.mem_append_left _ (List.mem_of_getElem? (i := 2) rfl)), List.forall_mem_cons.mpr ⟨List.mem_cons_of_mem _ (List.mem_append_left _ (List.mem_of_getElem? (i := 3) rfl)), fun _ h => absurd h List.not_mem_nil⟩⟩⟩⟩) (by decide +kernel)) gw_X9_readOther_X9_good
theorem gw_X9_readOther_X9_errs : GoodIn W_X9_readOther W_X9_errs := fun w h => ⟨List.mem_cons_of_mem _ (List.mem_append_right _ (List.mem_append_right _ (List.mem_append_right _ (List.mem_append_left _ (h))))), (wI_X9_errs w h).2⟩
theorem gc_X9_readOther_161_X9_errs : GoodIn W_X9_readOther (wsV RX9 161 RX9 yX9_errs W_X9_errs) := goodIn_app (goodIn_sub (List.forall_mem_cons.mpr ⟨List.mem_cons_of_mem _ (List.mem_append_left _ (List.mem_of_getElem? (i := 6) rfl)), List.forall_mem_cons.mpr ⟨List.mem_cons_of_mem _ (List.mem_append_left _ (List.mem_of_getElem? (i := 7) rfl)), List.forall_mem_cons.mpr ⟨List.mem_cons_of_mem _ (List.mem_append_left _ (List.mem_of_getElem? (i := 8) rfl)), List.forall_mem_cons.mpr ⟨List.mem_cons_of_mem _ (List.mem_append_left _ (List.mem_of_getElem? (i := 3) rfl)), fun _ h => absurd h List.not_mem_nil⟩⟩⟩⟩) (by decide +kernel)) gw_X9_readOther_X9_errs
theorem gw_X9_readOther_X9_readCell : GoodIn W_X9_readOther W_X9_readCell := fun w h => ⟨List.mem_cons_of_mem _ (List.mem_append_right _ (List.mem_append_right _ (List.mem_append_right _ (List.mem_append_right _ (h))))), (wI_X9_readCell w h).2⟩
theorem gc_X9_readOther_184_X9_readCell : GoodIn W_X9_readOther (wsV RX9 184 RX9 yX9_readCell W_X9_readCell) := goodIn_app (goodIn_sub (List.forall_mem_cons.mpr ⟨List.mem_cons_of_mem _ (List.mem_append_left _ (List.mem_of_getElem? (i := 9) rfl)), List.forall_mem_cons.mpr ⟨List.mem_cons_of_mem _ (List.mem_append_left _ (List.mem_of_getElem? (i := 10) rfl)), List.forall_mem_cons.mpr ⟨List.mem_cons_of_mem _ (List.mem_append_left _ (List.mem_of_getElem? (i := 11) rfl)), List.forall_mem_cons.mpr ⟨List.mem_cons_of_mem _ (List.mem_append_left _ (List.mem_of_getElem? (i := 3) rfl)), fun _ h => absurd h List.not_mem_nil⟩⟩⟩⟩) (by decide +kernel)) gw_X9_readOther_X9_readCell
theorem gw_X9_takes_X9_is : GoodIn W_X9_takes W_X9_is := fun w h => ⟨List.mem_cons_of_mem _ (List.mem_append_right _ (List.mem_append_left _ (h))), (wI_X9_is w h).2⟩
theorem gc_X9_takes_151_X9_is : GoodIn W_X9_takes (wsV RX9 151 RX9 yX9_is W_X9_is) := goodIn_app (goodIn_sub (List.forall_mem_cons.mpr ⟨List.mem_cons_of_mem _ (List.mem_append_left _ (List.mem_of_getElem? (i := 0) rfl)), List.forall_mem_cons.mpr ⟨List.mem_cons_of_mem _ (List.mem_append_left _ (List.mem_of_getElem? (i := 1) rfl)), List.forall_mem_cons.mpr ⟨List.mem_cons_of_mem _ (List.mem_append_left _ (List.mem_of_getElem? (i := 2) rfl)), List.forall_mem_cons.mpr ⟨List.mem_cons_of_mem _ (List.mem_append_left _ (List.mem_of_getElem? (i := 3) rfl)), fun _ h => absurd h List.not_mem_nil⟩⟩⟩⟩) (by decide +kernel)) gw_X9_takes_X9_is
theorem gw_X9_takes_X9_advance : GoodIn W_X9_takes W_X9_advance := fun w h => ⟨List.mem_cons_of_mem _ (List.mem_append_right _ (List.mem_append_right _ (h))), (wI_X9_advance w h).2⟩
theorem gc_X9_takes_155_X9_advance : GoodIn W_X9_takes (wsV RX9 155 RX9 yX9_advance W_X9_advance) := goodIn_app (goodIn_sub (List.forall_mem_cons.mpr ⟨List.mem_cons_of_mem _ (List.mem_append_left _ (List.mem_of_getElem? (i := 4) rfl)), List.forall_mem_cons.mpr ⟨List.mem_cons_of_mem _ (List.mem_append_left _ (List.mem_of_getElem? (i := 5) rfl)), List.forall_mem_cons.mpr ⟨List.mem_cons_of_mem _ (List.mem_append_left _ (List.mem_of_getElem? (i := 6) rfl)), List.forall_mem_cons.mpr ⟨List.mem_cons_of_mem _ (List.mem_append_left _ (List.mem_of_getElem? (i := 3) rfl)), fun _ h => absurd h List.not_mem_nil⟩⟩⟩⟩) (by decide +kernel)) gw_X9_takes_X9_advance
theorem gw_X9_toldBy_X9_expects : GoodIn W_X9_toldBy W_X9_expects := fun w h => ⟨List.mem_cons_of_mem _ (List.mem_append_right _ (List.mem_append_left _ (h))), (wI_X9_expects w h).2⟩
theorem gc_X9_toldBy_165_X9_expects : GoodIn W_X9_toldBy (wsV RX9 165 RX9 yX9_expects W_X9_expects) := goodIn_app (goodIn_sub (List.forall_mem_cons.mpr ⟨List.mem_cons_of_mem _ (List.mem_append_left _ (List.mem_of_getElem? (i := 0) rfl)), List.forall_mem_cons.mpr ⟨List.mem_cons_of_mem _ (List.mem_append_left _ (List.mem_of_getElem? (i := 1) rfl)), List.forall_mem_cons.mpr ⟨List.mem_cons_of_mem _ (List.mem_append_left _ (List.mem_of_getElem? (i := 2) rfl)), List.forall_mem_cons.mpr ⟨List.mem_cons_of_mem _ (List.mem_append_left _ (List.mem_of_getElem? (i := 3) rfl)), fun _ h => absurd h List.not_mem_nil⟩⟩⟩⟩) (by decide +kernel)) gw_X9_toldBy_X9_expects
theorem gw_X9_toldBy_X9_number : GoodIn W_X9_toldBy W_X9_number := fun w h => ⟨List.mem_cons_of_mem _ (List.mem_append_right _ (List.mem_append_right _ (h))), (wI_X9_number w h).2⟩
theorem gc_X9_toldBy_169_X9_number : GoodIn W_X9_toldBy (wsV RX9 169 RX9 yX9_number W_X9_number) := goodIn_app (goodIn_sub (List.forall_mem_cons.mpr ⟨List.mem_cons_of_mem _ (List.mem_append_left _ (List.mem_of_getElem? (i := 4) rfl)), List.forall_mem_cons.mpr ⟨List.mem_cons_of_mem _ (List.mem_append_left _ (List.mem_of_getElem? (i := 5) rfl)), List.forall_mem_cons.mpr ⟨List.mem_cons_of_mem _ (List.mem_append_left _ (List.mem_of_getElem? (i := 6) rfl)), List.forall_mem_cons.mpr ⟨List.mem_cons_of_mem _ (List.mem_append_left _ (List.mem_of_getElem? (i := 3) rfl)), fun _ h => absurd h List.not_mem_nil⟩⟩⟩⟩) (by decide +kernel)) gw_X9_toldBy_X9_number
