theorem dX9_asItIs_0 : decode cX9_asItIs 0 = .ok (.aload_n 0, 1) := by decide +kernel
theorem dX9_asItIs_1 : decode cX9_asItIs 1 = .ok (.aload_n 0, 1) := by decide +kernel
theorem dX9_asItIs_2 : decode cX9_asItIs 2 = .ok (.getfield 9, 3) := by decide +kernel
theorem dX9_asItIs_5 : decode cX9_asItIs 5 = .ok (.iconst 1, 1) := by decide +kernel
theorem dX9_asItIs_6 : decode cX9_asItIs 6 = .ok (.iaload, 1) := by decide +kernel
theorem dX9_asItIs_7 : decode cX9_asItIs 7 = .ok (.putfield 276, 3) := by decide +kernel
theorem dX9_asItIs_10 : decode cX9_asItIs 10 = .ok (.aload_n 0, 1) := by decide +kernel
theorem dX9_asItIs_11 : decode cX9_asItIs 11 = .ok (.iconst 0, 1) := by decide +kernel
theorem dX9_asItIs_12 : decode cX9_asItIs 12 = .ok (.putfield 279, 3) := by decide +kernel
theorem dX9_asItIs_15 : decode cX9_asItIs 15 = .ok (.aload_n 0, 1) := by decide +kernel
theorem dX9_asItIs_16 : decode cX9_asItIs 16 = .ok (.iconst 0, 1) := by decide +kernel
theorem dX9_asItIs_17 : decode cX9_asItIs 17 = .ok (.putfield 282, 3) := by decide +kernel
theorem dX9_asItIs_20 : decode cX9_asItIs 20 = .ok (.iconst 0, 1) := by decide +kernel
theorem dX9_asItIs_21 : decode cX9_asItIs 21 = .ok (.istore_n 1, 1) := by decide +kernel
theorem dX9_asItIs_22 : decode cX9_asItIs 22 = .ok (.iload_n 1, 1) := by decide +kernel
theorem dX9_asItIs_23 : decode cX9_asItIs 23 = .ok (.iconst 3, 1) := by decide +kernel
theorem dX9_asItIs_24 : decode cX9_asItIs 24 = .ok (.if_icmp .ge 24, 3) := by decide +kernel
theorem dX9_asItIs_27 : decode cX9_asItIs 27 = .ok (.aload_n 0, 1) := by decide +kernel
theorem dX9_asItIs_28 : decode cX9_asItIs 28 = .ok (.getfield 34, 3) := by decide +kernel
theorem dX9_asItIs_31 : decode cX9_asItIs 31 = .ok (.iload_n 1, 1) := by decide +kernel
theorem dX9_asItIs_32 : decode cX9_asItIs 32 = .ok (.aload_n 0, 1) := by decide +kernel
theorem dX9_asItIs_33 : decode cX9_asItIs 33 = .ok (.getfield 9, 3) := by decide +kernel
theorem dX9_asItIs_36 : decode cX9_asItIs 36 = .ok (.bipush 8, 2) := by decide +kernel
theorem dX9_asItIs_38 : decode cX9_asItIs 38 = .ok (.iload_n 1, 1) := by decide +kernel
theorem dX9_asItIs_39 : decode cX9_asItIs 39 = .ok (.iadd, 1) := by decide +kernel
theorem dX9_asItIs_40 : decode cX9_asItIs 40 = .ok (.iaload, 1) := by decide +kernel
theorem dX9_asItIs_41 : decode cX9_asItIs 41 = .ok (.iastore, 1) := by decide +kernel
theorem dX9_asItIs_42 : decode cX9_asItIs 42 = .ok (.iinc 1 1, 3) := by decide +kernel
theorem dX9_asItIs_45 : decode cX9_asItIs 45 = .ok (.goto (-23), 3) := by decide +kernel
theorem dX9_asItIs_48 : decode cX9_asItIs 48 = .ok (.iconst 0, 1) := by decide +kernel
theorem dX9_asItIs_49 : decode cX9_asItIs 49 = .ok (.istore_n 1, 1) := by decide +kernel
theorem dX9_asItIs_50 : decode cX9_asItIs 50 = .ok (.iload_n 1, 1) := by decide +kernel
theorem dX9_asItIs_51 : decode cX9_asItIs 51 = .ok (.aload_n 0, 1) := by decide +kernel
theorem dX9_asItIs_52 : decode cX9_asItIs 52 = .ok (.getfield 9, 3) := by decide +kernel
theorem dX9_asItIs_55 : decode cX9_asItIs 55 = .ok (.bipush 6, 2) := by decide +kernel
theorem dX9_asItIs_57 : decode cX9_asItIs 57 = .ok (.iaload, 1) := by decide +kernel
theorem dX9_asItIs_58 : decode cX9_asItIs 58 = .ok (.if_icmp .ge 88, 3) := by decide +kernel
theorem dX9_asItIs_61 : decode cX9_asItIs 61 = .ok (.aload_n 0, 1) := by decide +kernel
theorem dX9_asItIs_62 : decode cX9_asItIs 62 = .ok (.getfield 9, 3) := by decide +kernel
theorem dX9_asItIs_65 : decode cX9_asItIs 65 = .ok (.bipush 56, 2) := by decide +kernel
theorem dX9_asItIs_67 : decode cX9_asItIs 67 = .ok (.iload_n 1, 1) := by decide +kernel
theorem dX9_asItIs_68 : decode cX9_asItIs 68 = .ok (.iadd, 1) := by decide +kernel
theorem dX9_asItIs_69 : decode cX9_asItIs 69 = .ok (.iaload, 1) := by decide +kernel
theorem dX9_asItIs_70 : decode cX9_asItIs 70 = .ok (.istore_n 2, 1) := by decide +kernel
theorem dX9_asItIs_71 : decode cX9_asItIs 71 = .ok (.iload_n 2, 1) := by decide +kernel
theorem dX9_asItIs_72 : decode cX9_asItIs 72 = .ok (.sipush 300, 3) := by decide +kernel
theorem dX9_asItIs_75 : decode cX9_asItIs 75 = .ok (.if_icmp .lt 22, 3) := by decide +kernel
theorem dX9_asItIs_78 : decode cX9_asItIs 78 = .ok (.aload_n 0, 1) := by decide +kernel
theorem dX9_asItIs_79 : decode cX9_asItIs 79 = .ok (.dup, 1) := by decide +kernel
theorem dX9_asItIs_80 : decode cX9_asItIs 80 = .ok (.getfield 282, 3) := by decide +kernel
theorem dX9_asItIs_83 : decode cX9_asItIs 83 = .ok (.iconst 1, 1) := by decide +kernel
theorem dX9_asItIs_84 : decode cX9_asItIs 84 = .ok (.iload_n 2, 1) := by decide +kernel
theorem dX9_asItIs_85 : decode cX9_asItIs 85 = .ok (.sipush 300, 3) := by decide +kernel
theorem dX9_asItIs_88 : decode cX9_asItIs 88 = .ok (.isub, 1) := by decide +kernel
theorem dX9_asItIs_89 : decode cX9_asItIs 89 = .ok (.ishl, 1) := by decide +kernel
theorem dX9_asItIs_90 : decode cX9_asItIs 90 = .ok (.ior, 1) := by decide +kernel
theorem dX9_asItIs_91 : decode cX9_asItIs 91 = .ok (.putfield 282, 3) := by decide +kernel
theorem dX9_asItIs_94 : decode cX9_asItIs 94 = .ok (.goto 46, 3) := by decide +kernel
theorem dX9_asItIs_97 : decode cX9_asItIs 97 = .ok (.iload_n 2, 1) := by decide +kernel
theorem dX9_asItIs_98 : decode cX9_asItIs 98 = .ok (.sipush 200, 3) := by decide +kernel
theorem dX9_asItIs_101 : decode cX9_asItIs 101 = .ok (.if_icmp .lt 24, 3) := by decide +kernel
theorem dX9_asItIs_104 : decode cX9_asItIs 104 = .ok (.aload_n 0, 1) := by decide +kernel
theorem dX9_asItIs_105 : decode cX9_asItIs 105 = .ok (.dup, 1) := by decide +kernel
theorem dX9_asItIs_106 : decode cX9_asItIs 106 = .ok (.getfield 279, 3) := by decide +kernel
theorem dX9_asItIs_109 : decode cX9_asItIs 109 = .ok (.iconst 1, 1) := by decide +kernel
theorem dX9_asItIs_110 : decode cX9_asItIs 110 = .ok (.iload_n 2, 1) := by decide +kernel
theorem dX9_asItIs_111 : decode cX9_asItIs 111 = .ok (.sipush 200, 3) := by decide +kernel
theorem dX9_asItIs_114 : decode cX9_asItIs 114 = .ok (.isub, 1) := by decide +kernel
theorem dX9_asItIs_115 : decode cX9_asItIs 115 = .ok (.ishl, 1) := by decide +kernel
theorem dX9_asItIs_116 : decode cX9_asItIs 116 = .ok (.iconst (-1), 1) := by decide +kernel
theorem dX9_asItIs_117 : decode cX9_asItIs 117 = .ok (.ixor, 1) := by decide +kernel
theorem dX9_asItIs_118 : decode cX9_asItIs 118 = .ok (.iand, 1) := by decide +kernel
theorem dX9_asItIs_119 : decode cX9_asItIs 119 = .ok (.putfield 279, 3) := by decide +kernel
theorem dX9_asItIs_122 : decode cX9_asItIs 122 = .ok (.goto 18, 3) := by decide +kernel
theorem dX9_asItIs_125 : decode cX9_asItIs 125 = .ok (.aload_n 0, 1) := by decide +kernel
theorem dX9_asItIs_126 : decode cX9_asItIs 126 = .ok (.dup, 1) := by decide +kernel
theorem dX9_asItIs_127 : decode cX9_asItIs 127 = .ok (.getfield 279, 3) := by decide +kernel
theorem dX9_asItIs_130 : decode cX9_asItIs 130 = .ok (.iconst 1, 1) := by decide +kernel
theorem dX9_asItIs_131 : decode cX9_asItIs 131 = .ok (.iload_n 2, 1) := by decide +kernel
theorem dX9_asItIs_132 : decode cX9_asItIs 132 = .ok (.bipush 100, 2) := by decide +kernel
theorem dX9_asItIs_134 : decode cX9_asItIs 134 = .ok (.isub, 1) := by decide +kernel
theorem dX9_asItIs_135 : decode cX9_asItIs 135 = .ok (.ishl, 1) := by decide +kernel
theorem dX9_asItIs_136 : decode cX9_asItIs 136 = .ok (.ior, 1) := by decide +kernel
theorem dX9_asItIs_137 : decode cX9_asItIs 137 = .ok (.putfield 279, 3) := by decide +kernel
theorem dX9_asItIs_140 : decode cX9_asItIs 140 = .ok (.iinc 1 1, 3) := by decide +kernel
theorem dX9_asItIs_143 : decode cX9_asItIs 143 = .ok (.goto (-93), 3) := by decide +kernel
theorem dX9_asItIs_146 : decode cX9_asItIs 146 = .ok (.return_, 1) := by decide +kernel
theorem dX9_back_0 : decode cX9_back 0 = .ok (.iload_n 1, 1) := by decide +kernel
theorem dX9_back_1 : decode cX9_back 1 = .ok (.i2l, 1) := by decide +kernel
theorem dX9_back_2 : decode cX9_back 2 = .ok (.lconst 0, 1) := by decide +kernel
theorem dX9_back_3 : decode cX9_back 3 = .ok (.ldc2_w 74, 3) := by decide +kernel
theorem dX9_back_6 : decode cX9_back 6 = .ok (.invokestatic 76, 3) := by decide +kernel
theorem dX9_back_9 : decode cX9_back 9 = .ok (.ifCond .ne 6, 3) := by decide +kernel
theorem dX9_back_12 : decode cX9_back 12 = .ok (.bipush (-2), 2) := by decide +kernel
theorem dX9_back_14 : decode cX9_back 14 = .ok (.ireturn, 1) := by decide +kernel
theorem dX9_back_15 : decode cX9_back 15 = .ok (.aload_n 0, 1) := by decide +kernel
theorem dX9_back_16 : decode cX9_back 16 = .ok (.getfield 16, 3) := by decide +kernel
theorem dX9_back_19 : decode cX9_back 19 = .ok (.iload_n 1, 1) := by decide +kernel
theorem dX9_back_20 : decode cX9_back 20 = .ok (.baload, 1) := by decide +kernel
theorem dX9_back_21 : decode cX9_back 21 = .ok (.ifCond .ne 6, 3) := by decide +kernel
theorem dX9_back_24 : decode cX9_back 24 = .ok (.bipush (-6), 2) := by decide +kernel
theorem dX9_back_26 : decode cX9_back 26 = .ok (.ireturn, 1) := by decide +kernel
theorem dX9_back_27 : decode cX9_back 27 = .ok (.iconst 0, 1) := by decide +kernel
theorem dX9_back_28 : decode cX9_back 28 = .ok (.istore_n 2, 1) := by decide +kernel
theorem dX9_back_29 : decode cX9_back 29 = .ok (.iload_n 2, 1) := by decide +kernel
theorem dX9_back_30 : decode cX9_back 30 = .ok (.bipush 76, 2) := by decide +kernel
theorem dX9_back_32 : decode cX9_back 32 = .ok (.if_icmp .ge 26, 3) := by decide +kernel
theorem dX9_back_35 : decode cX9_back 35 = .ok (.aload_n 0, 1) := by decide +kernel
theorem dX9_back_36 : decode cX9_back 36 = .ok (.getfield 9, 3) := by decide +kernel
theorem dX9_back_39 : decode cX9_back 39 = .ok (.iload_n 2, 1) := by decide +kernel
theorem dX9_back_40 : decode cX9_back 40 = .ok (.aload_n 0, 1) := by decide +kernel
theorem dX9_back_41 : decode cX9_back 41 = .ok (.getfield 13, 3) := by decide +kernel
theorem dX9_back_44 : decode cX9_back 44 = .ok (.bipush 76, 2) := by decide +kernel
theorem dX9_back_46 : decode cX9_back 46 = .ok (.iload_n 1, 1) := by decide +kernel
theorem dX9_back_47 : decode cX9_back 47 = .ok (.imul, 1) := by decide +kernel
theorem dX9_back_48 : decode cX9_back 48 = .ok (.iload_n 2, 1) := by decide +kernel
theorem dX9_back_49 : decode cX9_back 49 = .ok (.iadd, 1) := by decide +kernel
theorem dX9_back_50 : decode cX9_back 50 = .ok (.iaload, 1) := by decide +kernel
theorem dX9_back_51 : decode cX9_back 51 = .ok (.iastore, 1) := by decide +kernel
theorem dX9_back_52 : decode cX9_back 52 = .ok (.iinc 2 1, 3) := by decide +kernel
theorem dX9_back_55 : decode cX9_back 55 = .ok (.goto (-26), 3) := by decide +kernel
theorem dX9_back_58 : decode cX9_back 58 = .ok (.iconst 0, 1) := by decide +kernel
theorem dX9_back_59 : decode cX9_back 59 = .ok (.ireturn, 1) := by decide +kernel
theorem dX9_brokenBy_0 : decode cX9_brokenBy 0 = .ok (.iconst 0, 1) := by decide +kernel
theorem dX9_brokenBy_1 : decode cX9_brokenBy 1 = .ok (.istore_n 2, 1) := by decide +kernel
theorem dX9_brokenBy_2 : decode cX9_brokenBy 2 = .ok (.iload_n 2, 1) := by decide +kernel
theorem dX9_brokenBy_3 : decode cX9_brokenBy 3 = .ok (.aload_n 0, 1) := by decide +kernel
theorem dX9_brokenBy_4 : decode cX9_brokenBy 4 = .ok (.invokevirtual 80, 3) := by decide +kernel
theorem dX9_brokenBy_7 : decode cX9_brokenBy 7 = .ok (.if_icmp .ge 31, 3) := by decide +kernel
theorem dX9_brokenBy_10 : decode cX9_brokenBy 10 = .ok (.aload_n 0, 1) := by decide +kernel
theorem dX9_brokenBy_11 : decode cX9_brokenBy 11 = .ok (.getfield 282, 3) := by decide +kernel
theorem dX9_brokenBy_14 : decode cX9_brokenBy 14 = .ok (.iload_n 2, 1) := by decide +kernel
theorem dX9_brokenBy_15 : decode cX9_brokenBy 15 = .ok (.invokestatic 288, 3) := by decide +kernel
theorem dX9_brokenBy_18 : decode cX9_brokenBy 18 = .ok (.ifCond .ne 14, 3) := by decide +kernel
theorem dX9_brokenBy_21 : decode cX9_brokenBy 21 = .ok (.aload_n 0, 1) := by decide +kernel
theorem dX9_brokenBy_22 : decode cX9_brokenBy 22 = .ok (.iload_n 2, 1) := by decide +kernel
theorem dX9_brokenBy_23 : decode cX9_brokenBy 23 = .ok (.iload_n 1, 1) := by decide +kernel
theorem dX9_brokenBy_24 : decode cX9_brokenBy 24 = .ok (.invokevirtual 291, 3) := by decide +kernel
theorem dX9_brokenBy_27 : decode cX9_brokenBy 27 = .ok (.ifCond .ne 5, 3) := by decide +kernel
theorem dX9_brokenBy_30 : decode cX9_brokenBy 30 = .ok (.iload_n 2, 1) := by decide +kernel
theorem dX9_brokenBy_31 : decode cX9_brokenBy 31 = .ok (.ireturn, 1) := by decide +kernel
theorem dX9_brokenBy_32 : decode cX9_brokenBy 32 = .ok (.iinc 2 1, 3) := by decide +kernel
theorem dX9_brokenBy_35 : decode cX9_brokenBy 35 = .ok (.goto (-33), 3) := by decide +kernel
theorem dX9_brokenBy_38 : decode cX9_brokenBy 38 = .ok (.iconst (-1), 1) := by decide +kernel
theorem dX9_brokenBy_39 : decode cX9_brokenBy 39 = .ok (.ireturn, 1) := by decide +kernel
theorem dX9_cell_0 : decode cX9_cell 0 = .ok (.aload_n 0, 1) := by decide +kernel
theorem dX9_cell_1 : decode cX9_cell 1 = .ok (.iload_n 1, 1) := by decide +kernel
theorem dX9_cell_2 : decode cX9_cell 2 = .ok (.invokevirtual 252, 3) := by decide +kernel
theorem dX9_cell_5 : decode cX9_cell 5 = .ok (.ifCond .eq 15, 3) := by decide +kernel
theorem dX9_cell_8 : decode cX9_cell 8 = .ok (.aload_n 0, 1) := by decide +kernel
theorem dX9_cell_9 : decode cX9_cell 9 = .ok (.getfield 9, 3) := by decide +kernel
theorem dX9_cell_12 : decode cX9_cell 12 = .ok (.bipush 8, 2) := by decide +kernel
theorem dX9_cell_14 : decode cX9_cell 14 = .ok (.iload_n 1, 1) := by decide +kernel
theorem dX9_cell_15 : decode cX9_cell 15 = .ok (.iadd, 1) := by decide +kernel
theorem dX9_cell_16 : decode cX9_cell 16 = .ok (.iaload, 1) := by decide +kernel
theorem dX9_cell_17 : decode cX9_cell 17 = .ok (.goto 5, 3) := by decide +kernel
theorem dX9_cell_20 : decode cX9_cell 20 = .ok (.bipush (-2), 2) := by decide +kernel
theorem dX9_cell_22 : decode cX9_cell 22 = .ok (.ireturn, 1) := by decide +kernel
theorem dX9_doneBy_0 : decode cX9_doneBy 0 = .ok (.aload_n 0, 1) := by decide +kernel
theorem dX9_doneBy_1 : decode cX9_doneBy 1 = .ok (.iload_n 1, 1) := by decide +kernel
theorem dX9_doneBy_2 : decode cX9_doneBy 2 = .ok (.iconst 1, 1) := by decide +kernel
theorem dX9_doneBy_3 : decode cX9_doneBy 3 = .ok (.invokevirtual 270, 3) := by decide +kernel
theorem dX9_doneBy_6 : decode cX9_doneBy 6 = .ok (.istore_n 3, 1) := by decide +kernel
theorem dX9_doneBy_7 : decode cX9_doneBy 7 = .ok (.aload_n 0, 1) := by decide +kernel
theorem dX9_doneBy_8 : decode cX9_doneBy 8 = .ok (.iload_n 1, 1) := by decide +kernel
theorem dX9_doneBy_9 : decode cX9_doneBy 9 = .ok (.iconst 2, 1) := by decide +kernel
theorem dX9_doneBy_10 : decode cX9_doneBy 10 = .ok (.invokevirtual 270, 3) := by decide +kernel
theorem dX9_doneBy_13 : decode cX9_doneBy 13 = .ok (.istore 4, 2) := by decide +kernel
theorem dX9_doneBy_15 : decode cX9_doneBy 15 = .ok (.iload_n 2, 1) := by decide +kernel
theorem dX9_doneBy_16 : decode cX9_doneBy 16 = .ok (.istore 5, 2) := by decide +kernel
theorem dX9_doneBy_18 : decode cX9_doneBy 18 = .ok (.aload_n 0, 1) := by decide +kernel
theorem dX9_doneBy_19 : decode cX9_doneBy 19 = .ok (.iload_n 1, 1) := by decide +kernel
theorem dX9_doneBy_20 : decode cX9_doneBy 20 = .ok (.iconst 0, 1) := by decide +kernel
theorem dX9_doneBy_21 : decode cX9_doneBy 21 = .ok (.invokevirtual 270, 3) := by decide +kernel
theorem dX9_doneBy_24 : decode cX9_doneBy 24 = .ok (.tableswitch 68 0 2 #[28, 41, 55], 28) := by decide +kernel
theorem dX9_doneBy_52 : decode cX9_doneBy 52 = .ok (.aload_n 0, 1) := by decide +kernel
theorem dX9_doneBy_53 : decode cX9_doneBy 53 = .ok (.iload_n 2, 1) := by decide +kernel
theorem dX9_doneBy_54 : decode cX9_doneBy 54 = .ok (.iload_n 3, 1) := by decide +kernel
theorem dX9_doneBy_55 : decode cX9_doneBy 55 = .ok (.iload 4, 2) := by decide +kernel
theorem dX9_doneBy_57 : decode cX9_doneBy 57 = .ok (.invokevirtual 299, 3) := by decide +kernel
theorem dX9_doneBy_60 : decode cX9_doneBy 60 = .ok (.istore 5, 2) := by decide +kernel
theorem dX9_doneBy_62 : decode cX9_doneBy 62 = .ok (.goto 67, 3) := by decide +kernel
theorem dX9_doneBy_65 : decode cX9_doneBy 65 = .ok (.aload_n 0, 1) := by decide +kernel
theorem dX9_doneBy_66 : decode cX9_doneBy 66 = .ok (.iload_n 2, 1) := by decide +kernel
theorem dX9_doneBy_67 : decode cX9_doneBy 67 = .ok (.iload_n 3, 1) := by decide +kernel
theorem dX9_doneBy_68 : decode cX9_doneBy 68 = .ok (.iload 4, 2) := by decide +kernel
theorem dX9_doneBy_70 : decode cX9_doneBy 70 = .ok (.ineg, 1) := by decide +kernel
theorem dX9_doneBy_71 : decode cX9_doneBy 71 = .ok (.invokevirtual 299, 3) := by decide +kernel
theorem dX9_doneBy_74 : decode cX9_doneBy 74 = .ok (.istore 5, 2) := by decide +kernel
theorem dX9_doneBy_76 : decode cX9_doneBy 76 = .ok (.goto 53, 3) := by decide +kernel
theorem dX9_doneBy_79 : decode cX9_doneBy 79 = .ok (.aload_n 0, 1) := by decide +kernel
theorem dX9_doneBy_80 : decode cX9_doneBy 80 = .ok (.iload_n 2, 1) := by decide +kernel
theorem dX9_doneBy_81 : decode cX9_doneBy 81 = .ok (.iload_n 3, 1) := by decide +kernel
theorem dX9_doneBy_82 : decode cX9_doneBy 82 = .ok (.iload 4, 2) := by decide +kernel
theorem dX9_doneBy_84 : decode cX9_doneBy 84 = .ok (.invokevirtual 295, 3) := by decide +kernel
theorem dX9_doneBy_87 : decode cX9_doneBy 87 = .ok (.istore 5, 2) := by decide +kernel
theorem dX9_doneBy_89 : decode cX9_doneBy 89 = .ok (.goto 40, 3) := by decide +kernel
theorem dX9_doneBy_92 : decode cX9_doneBy 92 = .ok (.aload_n 0, 1) := by decide +kernel
theorem dX9_doneBy_93 : decode cX9_doneBy 93 = .ok (.iload_n 2, 1) := by decide +kernel
theorem dX9_doneBy_94 : decode cX9_doneBy 94 = .ok (.iload_n 3, 1) := by decide +kernel
theorem dX9_doneBy_95 : decode cX9_doneBy 95 = .ok (.aload_n 0, 1) := by decide +kernel
theorem dX9_doneBy_96 : decode cX9_doneBy 96 = .ok (.iload_n 1, 1) := by decide +kernel
theorem dX9_doneBy_97 : decode cX9_doneBy 97 = .ok (.iconst 3, 1) := by decide +kernel
theorem dX9_doneBy_98 : decode cX9_doneBy 98 = .ok (.invokevirtual 270, 3) := by decide +kernel
theorem dX9_doneBy_101 : decode cX9_doneBy 101 = .ok (.ineg, 1) := by decide +kernel
theorem dX9_doneBy_102 : decode cX9_doneBy 102 = .ok (.invokevirtual 299, 3) := by decide +kernel
theorem dX9_doneBy_105 : decode cX9_doneBy 105 = .ok (.istore 5, 2) := by decide +kernel
theorem dX9_doneBy_107 : decode cX9_doneBy 107 = .ok (.iload 5, 2) := by decide +kernel
theorem dX9_doneBy_109 : decode cX9_doneBy 109 = .ok (.iconst (-1), 1) := by decide +kernel
theorem dX9_doneBy_110 : decode cX9_doneBy 110 = .ok (.if_icmp .eq 19, 3) := by decide +kernel
theorem dX9_doneBy_113 : decode cX9_doneBy 113 = .ok (.aload_n 0, 1) := by decide +kernel
theorem dX9_doneBy_114 : decode cX9_doneBy 114 = .ok (.iload 5, 2) := by decide +kernel
theorem dX9_doneBy_116 : decode cX9_doneBy 116 = .ok (.iload 4, 2) := by decide +kernel
theorem dX9_doneBy_118 : decode cX9_doneBy 118 = .ok (.aload_n 0, 1) := by decide +kernel
theorem dX9_doneBy_119 : decode cX9_doneBy 119 = .ok (.iload_n 1, 1) := by decide +kernel
theorem dX9_doneBy_120 : decode cX9_doneBy 120 = .ok (.iconst 3, 1) := by decide +kernel
theorem dX9_doneBy_121 : decode cX9_doneBy 121 = .ok (.invokevirtual 270, 3) := by decide +kernel
theorem dX9_doneBy_124 : decode cX9_doneBy 124 = .ok (.invokevirtual 299, 3) := by decide +kernel
theorem dX9_doneBy_127 : decode cX9_doneBy 127 = .ok (.istore 5, 2) := by decide +kernel
theorem dX9_doneBy_129 : decode cX9_doneBy 129 = .ok (.iload 5, 2) := by decide +kernel
theorem dX9_doneBy_131 : decode cX9_doneBy 131 = .ok (.iconst (-1), 1) := by decide +kernel
theorem dX9_doneBy_132 : decode cX9_doneBy 132 = .ok (.if_icmp .eq 18, 3) := by decide +kernel
theorem dX9_doneBy_135 : decode cX9_doneBy 135 = .ok (.aload_n 0, 1) := by decide +kernel
theorem dX9_doneBy_136 : decode cX9_doneBy 136 = .ok (.getfield 37, 3) := by decide +kernel
theorem dX9_doneBy_139 : decode cX9_doneBy 139 = .ok (.iload 5, 2) := by decide +kernel
theorem dX9_doneBy_141 : decode cX9_doneBy 141 = .ok (.baload, 1) := by decide +kernel
theorem dX9_doneBy_142 : decode cX9_doneBy 142 = .ok (.ifCond .eq 8, 3) := by decide +kernel
theorem dX9_doneBy_145 : decode cX9_doneBy 145 = .ok (.iload 5, 2) := by decide +kernel
theorem dX9_doneBy_147 : decode cX9_doneBy 147 = .ok (.goto 4, 3) := by decide +kernel
theorem dX9_doneBy_150 : decode cX9_doneBy 150 = .ok (.iconst (-1), 1) := by decide +kernel
theorem dX9_doneBy_151 : decode cX9_doneBy 151 = .ok (.ireturn, 1) := by decide +kernel
theorem dX9_holdsIn_0 : decode cX9_holdsIn 0 = .ok (.aload_n 0, 1) := by decide +kernel
theorem dX9_holdsIn_1 : decode cX9_holdsIn 1 = .ok (.iload_n 2, 1) := by decide +kernel
theorem dX9_holdsIn_2 : decode cX9_holdsIn 2 = .ok (.aload_n 0, 1) := by decide +kernel
theorem dX9_holdsIn_3 : decode cX9_holdsIn 3 = .ok (.iload_n 1, 1) := by decide +kernel
theorem dX9_holdsIn_4 : decode cX9_holdsIn 4 = .ok (.iconst 1, 1) := by decide +kernel
theorem dX9_holdsIn_5 : decode cX9_holdsIn 5 = .ok (.invokevirtual 261, 3) := by decide +kernel
theorem dX9_holdsIn_8 : decode cX9_holdsIn 8 = .ok (.invokevirtual 285, 3) := by decide +kernel
theorem dX9_holdsIn_11 : decode cX9_holdsIn 11 = .ok (.istore_n 3, 1) := by decide +kernel
theorem dX9_holdsIn_12 : decode cX9_holdsIn 12 = .ok (.aload_n 0, 1) := by decide +kernel
theorem dX9_holdsIn_13 : decode cX9_holdsIn 13 = .ok (.iload_n 1, 1) := by decide +kernel
theorem dX9_holdsIn_14 : decode cX9_holdsIn 14 = .ok (.iconst 2, 1) := by decide +kernel
theorem dX9_holdsIn_15 : decode cX9_holdsIn 15 = .ok (.invokevirtual 261, 3) := by decide +kernel
theorem dX9_holdsIn_18 : decode cX9_holdsIn 18 = .ok (.istore 4, 2) := by decide +kernel
theorem dX9_holdsIn_20 : decode cX9_holdsIn 20 = .ok (.aload_n 0, 1) := by decide +kernel
theorem dX9_holdsIn_21 : decode cX9_holdsIn 21 = .ok (.iload_n 1, 1) := by decide +kernel
theorem dX9_holdsIn_22 : decode cX9_holdsIn 22 = .ok (.iconst 0, 1) := by decide +kernel
theorem dX9_holdsIn_23 : decode cX9_holdsIn 23 = .ok (.invokevirtual 261, 3) := by decide +kernel
theorem dX9_holdsIn_26 : decode cX9_holdsIn 26 = .ok (.tableswitch 116 0 4 #[34, 46, 58, 75, 99], 34) := by decide +kernel
theorem dX9_holdsIn_60 : decode cX9_holdsIn 60 = .ok (.iload_n 3, 1) := by decide +kernel
theorem dX9_holdsIn_61 : decode cX9_holdsIn 61 = .ok (.iload 4, 2) := by decide +kernel
theorem dX9_holdsIn_63 : decode cX9_holdsIn 63 = .ok (.if_icmp .gt 7, 3) := by decide +kernel
theorem dX9_holdsIn_66 : decode cX9_holdsIn 66 = .ok (.iconst 1, 1) := by decide +kernel
theorem dX9_holdsIn_67 : decode cX9_holdsIn 67 = .ok (.goto 4, 3) := by decide +kernel
theorem dX9_holdsIn_70 : decode cX9_holdsIn 70 = .ok (.iconst 0, 1) := by decide +kernel
theorem dX9_holdsIn_71 : decode cX9_holdsIn 71 = .ok (.ireturn, 1) := by decide +kernel
theorem dX9_holdsIn_72 : decode cX9_holdsIn 72 = .ok (.iload_n 3, 1) := by decide +kernel
theorem dX9_holdsIn_73 : decode cX9_holdsIn 73 = .ok (.iload 4, 2) := by decide +kernel
theorem dX9_holdsIn_75 : decode cX9_holdsIn 75 = .ok (.if_icmp .lt 7, 3) := by decide +kernel
theorem dX9_holdsIn_78 : decode cX9_holdsIn 78 = .ok (.iconst 1, 1) := by decide +kernel
theorem dX9_holdsIn_79 : decode cX9_holdsIn 79 = .ok (.goto 4, 3) := by decide +kernel
theorem dX9_holdsIn_82 : decode cX9_holdsIn 82 = .ok (.iconst 0, 1) := by decide +kernel
theorem dX9_holdsIn_83 : decode cX9_holdsIn 83 = .ok (.ireturn, 1) := by decide +kernel
theorem dX9_holdsIn_84 : decode cX9_holdsIn 84 = .ok (.iload_n 3, 1) := by decide +kernel
theorem dX9_holdsIn_85 : decode cX9_holdsIn 85 = .ok (.aload_n 0, 1) := by decide +kernel
theorem dX9_holdsIn_86 : decode cX9_holdsIn 86 = .ok (.iload_n 2, 1) := by decide +kernel
theorem dX9_holdsIn_87 : decode cX9_holdsIn 87 = .ok (.iload 4, 2) := by decide +kernel
theorem dX9_holdsIn_89 : decode cX9_holdsIn 89 = .ok (.invokevirtual 285, 3) := by decide +kernel
theorem dX9_holdsIn_92 : decode cX9_holdsIn 92 = .ok (.if_icmp .eq 7, 3) := by decide +kernel
theorem dX9_holdsIn_95 : decode cX9_holdsIn 95 = .ok (.iconst 1, 1) := by decide +kernel
theorem dX9_holdsIn_96 : decode cX9_holdsIn 96 = .ok (.goto 4, 3) := by decide +kernel
theorem dX9_holdsIn_99 : decode cX9_holdsIn 99 = .ok (.iconst 0, 1) := by decide +kernel
theorem dX9_holdsIn_100 : decode cX9_holdsIn 100 = .ok (.ireturn, 1) := by decide +kernel
theorem dX9_holdsIn_101 : decode cX9_holdsIn 101 = .ok (.iload_n 3, 1) := by decide +kernel
theorem dX9_holdsIn_102 : decode cX9_holdsIn 102 = .ok (.aload_n 0, 1) := by decide +kernel
theorem dX9_holdsIn_103 : decode cX9_holdsIn 103 = .ok (.iload_n 2, 1) := by decide +kernel
theorem dX9_holdsIn_104 : decode cX9_holdsIn 104 = .ok (.iload 4, 2) := by decide +kernel
theorem dX9_holdsIn_106 : decode cX9_holdsIn 106 = .ok (.invokevirtual 285, 3) := by decide +kernel
theorem dX9_holdsIn_109 : decode cX9_holdsIn 109 = .ok (.iadd, 1) := by decide +kernel
theorem dX9_holdsIn_110 : decode cX9_holdsIn 110 = .ok (.aload_n 0, 1) := by decide +kernel
theorem dX9_holdsIn_111 : decode cX9_holdsIn 111 = .ok (.iload_n 1, 1) := by decide +kernel
theorem dX9_holdsIn_112 : decode cX9_holdsIn 112 = .ok (.iconst 3, 1) := by decide +kernel
theorem dX9_holdsIn_113 : decode cX9_holdsIn 113 = .ok (.invokevirtual 261, 3) := by decide +kernel
theorem dX9_holdsIn_116 : decode cX9_holdsIn 116 = .ok (.if_icmp .gt 7, 3) := by decide +kernel
theorem dX9_holdsIn_119 : decode cX9_holdsIn 119 = .ok (.iconst 1, 1) := by decide +kernel
theorem dX9_holdsIn_120 : decode cX9_holdsIn 120 = .ok (.goto 4, 3) := by decide +kernel
theorem dX9_holdsIn_123 : decode cX9_holdsIn 123 = .ok (.iconst 0, 1) := by decide +kernel
theorem dX9_holdsIn_124 : decode cX9_holdsIn 124 = .ok (.ireturn, 1) := by decide +kernel
theorem dX9_holdsIn_125 : decode cX9_holdsIn 125 = .ok (.iload_n 3, 1) := by decide +kernel
theorem dX9_holdsIn_126 : decode cX9_holdsIn 126 = .ok (.aload_n 0, 1) := by decide +kernel
theorem dX9_holdsIn_127 : decode cX9_holdsIn 127 = .ok (.iload_n 2, 1) := by decide +kernel
theorem dX9_holdsIn_128 : decode cX9_holdsIn 128 = .ok (.iload 4, 2) := by decide +kernel
theorem dX9_holdsIn_130 : decode cX9_holdsIn 130 = .ok (.invokevirtual 285, 3) := by decide +kernel
theorem dX9_holdsIn_133 : decode cX9_holdsIn 133 = .ok (.if_icmp .gt 7, 3) := by decide +kernel
theorem dX9_holdsIn_136 : decode cX9_holdsIn 136 = .ok (.iconst 1, 1) := by decide +kernel
theorem dX9_holdsIn_137 : decode cX9_holdsIn 137 = .ok (.goto 4, 3) := by decide +kernel
theorem dX9_holdsIn_140 : decode cX9_holdsIn 140 = .ok (.iconst 0, 1) := by decide +kernel
theorem dX9_holdsIn_141 : decode cX9_holdsIn 141 = .ok (.ireturn, 1) := by decide +kernel
theorem dX9_holdsIn_142 : decode cX9_holdsIn 142 = .ok (.iload_n 3, 1) := by decide +kernel
theorem dX9_holdsIn_143 : decode cX9_holdsIn 143 = .ok (.iload 4, 2) := by decide +kernel
theorem dX9_holdsIn_145 : decode cX9_holdsIn 145 = .ok (.if_icmp .lt 23, 3) := by decide +kernel
theorem dX9_holdsIn_148 : decode cX9_holdsIn 148 = .ok (.aload_n 0, 1) := by decide +kernel
theorem dX9_holdsIn_149 : decode cX9_holdsIn 149 = .ok (.iload_n 2, 1) := by decide +kernel
theorem dX9_holdsIn_150 : decode cX9_holdsIn 150 = .ok (.aload_n 0, 1) := by decide +kernel
theorem dX9_holdsIn_151 : decode cX9_holdsIn 151 = .ok (.iload_n 1, 1) := by decide +kernel
theorem dX9_holdsIn_152 : decode cX9_holdsIn 152 = .ok (.iconst 3, 1) := by decide +kernel
theorem dX9_holdsIn_153 : decode cX9_holdsIn 153 = .ok (.invokevirtual 261, 3) := by decide +kernel
theorem dX9_holdsIn_156 : decode cX9_holdsIn 156 = .ok (.invokevirtual 285, 3) := by decide +kernel
theorem dX9_holdsIn_159 : decode cX9_holdsIn 159 = .ok (.aload_n 0, 1) := by decide +kernel
theorem dX9_holdsIn_160 : decode cX9_holdsIn 160 = .ok (.iload_n 1, 1) := by decide +kernel
theorem dX9_holdsIn_161 : decode cX9_holdsIn 161 = .ok (.iconst 4, 1) := by decide +kernel
theorem dX9_holdsIn_162 : decode cX9_holdsIn 162 = .ok (.invokevirtual 261, 3) := by decide +kernel
theorem dX9_holdsIn_165 : decode cX9_holdsIn 165 = .ok (.if_icmp .lt 7, 3) := by decide +kernel
theorem dX9_holdsIn_168 : decode cX9_holdsIn 168 = .ok (.iconst 1, 1) := by decide +kernel
theorem dX9_holdsIn_169 : decode cX9_holdsIn 169 = .ok (.goto 4, 3) := by decide +kernel
theorem dX9_holdsIn_172 : decode cX9_holdsIn 172 = .ok (.iconst 0, 1) := by decide +kernel
theorem dX9_holdsIn_173 : decode cX9_holdsIn 173 = .ok (.ireturn, 1) := by decide +kernel
theorem dX9_image_0 : decode cX9_image 0 = .ok (.iload_n 1, 1) := by decide +kernel
theorem dX9_image_1 : decode cX9_image 1 = .ok (.i2l, 1) := by decide +kernel
theorem dX9_image_2 : decode cX9_image 2 = .ok (.lconst 0, 1) := by decide +kernel
theorem dX9_image_3 : decode cX9_image 3 = .ok (.ldc2_w 74, 3) := by decide +kernel
theorem dX9_image_6 : decode cX9_image 6 = .ok (.invokestatic 76, 3) := by decide +kernel
theorem dX9_image_9 : decode cX9_image 9 = .ok (.ifCond .ne 6, 3) := by decide +kernel
theorem dX9_image_12 : decode cX9_image 12 = .ok (.bipush (-2), 2) := by decide +kernel
theorem dX9_image_14 : decode cX9_image 14 = .ok (.ireturn, 1) := by decide +kernel
theorem dX9_image_15 : decode cX9_image 15 = .ok (.iconst 0, 1) := by decide +kernel
theorem dX9_image_16 : decode cX9_image 16 = .ok (.istore_n 2, 1) := by decide +kernel
theorem dX9_image_17 : decode cX9_image 17 = .ok (.iload_n 2, 1) := by decide +kernel
theorem dX9_image_18 : decode cX9_image 18 = .ok (.bipush 76, 2) := by decide +kernel
theorem dX9_image_20 : decode cX9_image 20 = .ok (.if_icmp .ge 26, 3) := by decide +kernel
theorem dX9_image_23 : decode cX9_image 23 = .ok (.aload_n 0, 1) := by decide +kernel
theorem dX9_image_24 : decode cX9_image 24 = .ok (.getfield 13, 3) := by decide +kernel
theorem dX9_image_27 : decode cX9_image 27 = .ok (.bipush 76, 2) := by decide +kernel
theorem dX9_image_29 : decode cX9_image 29 = .ok (.iload_n 1, 1) := by decide +kernel
theorem dX9_image_30 : decode cX9_image 30 = .ok (.imul, 1) := by decide +kernel
theorem dX9_image_31 : decode cX9_image 31 = .ok (.iload_n 2, 1) := by decide +kernel
theorem dX9_image_32 : decode cX9_image 32 = .ok (.iadd, 1) := by decide +kernel
theorem dX9_image_33 : decode cX9_image 33 = .ok (.aload_n 0, 1) := by decide +kernel
theorem dX9_image_34 : decode cX9_image 34 = .ok (.getfield 9, 3) := by decide +kernel
theorem dX9_image_37 : decode cX9_image 37 = .ok (.iload_n 2, 1) := by decide +kernel
theorem dX9_image_38 : decode cX9_image 38 = .ok (.iaload, 1) := by decide +kernel
theorem dX9_image_39 : decode cX9_image 39 = .ok (.iastore, 1) := by decide +kernel
theorem dX9_image_40 : decode cX9_image 40 = .ok (.iinc 2 1, 3) := by decide +kernel
theorem dX9_image_43 : decode cX9_image 43 = .ok (.goto (-26), 3) := by decide +kernel
theorem dX9_image_46 : decode cX9_image 46 = .ok (.aload_n 0, 1) := by decide +kernel
theorem dX9_image_47 : decode cX9_image 47 = .ok (.getfield 16, 3) := by decide +kernel
theorem dX9_image_50 : decode cX9_image 50 = .ok (.iload_n 1, 1) := by decide +kernel
theorem dX9_image_51 : decode cX9_image 51 = .ok (.iconst 1, 1) := by decide +kernel
theorem dX9_image_52 : decode cX9_image 52 = .ok (.bastore, 1) := by decide +kernel
theorem dX9_image_53 : decode cX9_image 53 = .ok (.iconst 0, 1) := by decide +kernel
theorem dX9_image_54 : decode cX9_image 54 = .ok (.ireturn, 1) := by decide +kernel
theorem dX9_op_0 : decode cX9_op 0 = .ok (.aload_n 0, 1) := by decide +kernel
theorem dX9_op_1 : decode cX9_op 1 = .ok (.iload_n 1, 1) := by decide +kernel
theorem dX9_op_2 : decode cX9_op 2 = .ok (.invokevirtual 267, 3) := by decide +kernel
theorem dX9_op_5 : decode cX9_op 5 = .ok (.ifCond .eq 15, 3) := by decide +kernel
theorem dX9_op_8 : decode cX9_op 8 = .ok (.iload_n 2, 1) := by decide +kernel
theorem dX9_op_9 : decode cX9_op 9 = .ok (.i2l, 1) := by decide +kernel
theorem dX9_op_10 : decode cX9_op 10 = .ok (.lconst 0, 1) := by decide +kernel
theorem dX9_op_11 : decode cX9_op 11 = .ok (.ldc2_w 90, 3) := by decide +kernel
theorem dX9_op_14 : decode cX9_op 14 = .ok (.invokestatic 76, 3) := by decide +kernel
theorem dX9_op_17 : decode cX9_op 17 = .ok (.ifCond .ne 6, 3) := by decide +kernel
theorem dX9_op_20 : decode cX9_op 20 = .ok (.bipush (-2), 2) := by decide +kernel
theorem dX9_op_22 : decode cX9_op 22 = .ok (.ireturn, 1) := by decide +kernel
theorem dX9_op_23 : decode cX9_op 23 = .ok (.iload_n 2, 1) := by decide +kernel
theorem dX9_op_24 : decode cX9_op 24 = .ok (.aload_n 0, 1) := by decide +kernel
theorem dX9_op_25 : decode cX9_op 25 = .ok (.iload_n 1, 1) := by decide +kernel
theorem dX9_op_26 : decode cX9_op 26 = .ok (.iconst 0, 1) := by decide +kernel
theorem dX9_op_27 : decode cX9_op 27 = .ok (.invokevirtual 270, 3) := by decide +kernel
theorem dX9_op_30 : decode cX9_op 30 = .ok (.invokestatic 273, 3) := by decide +kernel
theorem dX9_op_33 : decode cX9_op 33 = .ok (.if_icmp .gt 12, 3) := by decide +kernel
theorem dX9_op_36 : decode cX9_op 36 = .ok (.aload_n 0, 1) := by decide +kernel
theorem dX9_op_37 : decode cX9_op 37 = .ok (.iload_n 1, 1) := by decide +kernel
theorem dX9_op_38 : decode cX9_op 38 = .ok (.iload_n 2, 1) := by decide +kernel
theorem dX9_op_39 : decode cX9_op 39 = .ok (.invokevirtual 270, 3) := by decide +kernel
theorem dX9_op_42 : decode cX9_op 42 = .ok (.goto 4, 3) := by decide +kernel
theorem dX9_op_45 : decode cX9_op 45 = .ok (.iconst (-1), 1) := by decide +kernel
theorem dX9_op_46 : decode cX9_op 46 = .ok (.ireturn, 1) := by decide +kernel
theorem dX9_rule_0 : decode cX9_rule 0 = .ok (.aload_n 0, 1) := by decide +kernel
theorem dX9_rule_1 : decode cX9_rule 1 = .ok (.iload_n 1, 1) := by decide +kernel
theorem dX9_rule_2 : decode cX9_rule 2 = .ok (.invokevirtual 256, 3) := by decide +kernel
theorem dX9_rule_5 : decode cX9_rule 5 = .ok (.ifCond .eq 15, 3) := by decide +kernel
theorem dX9_rule_8 : decode cX9_rule 8 = .ok (.iload_n 2, 1) := by decide +kernel
theorem dX9_rule_9 : decode cX9_rule 9 = .ok (.i2l, 1) := by decide +kernel
theorem dX9_rule_10 : decode cX9_rule 10 = .ok (.lconst 0, 1) := by decide +kernel
theorem dX9_rule_11 : decode cX9_rule 11 = .ok (.ldc2_w 259, 3) := by decide +kernel
theorem dX9_rule_14 : decode cX9_rule 14 = .ok (.invokestatic 76, 3) := by decide +kernel
theorem dX9_rule_17 : decode cX9_rule 17 = .ok (.ifCond .ne 6, 3) := by decide +kernel
theorem dX9_rule_20 : decode cX9_rule 20 = .ok (.bipush (-2), 2) := by decide +kernel
theorem dX9_rule_22 : decode cX9_rule 22 = .ok (.ireturn, 1) := by decide +kernel
theorem dX9_rule_23 : decode cX9_rule 23 = .ok (.iload_n 2, 1) := by decide +kernel
theorem dX9_rule_24 : decode cX9_rule 24 = .ok (.aload_n 0, 1) := by decide +kernel
theorem dX9_rule_25 : decode cX9_rule 25 = .ok (.iload_n 1, 1) := by decide +kernel
theorem dX9_rule_26 : decode cX9_rule 26 = .ok (.iconst 0, 1) := by decide +kernel
theorem dX9_rule_27 : decode cX9_rule 27 = .ok (.invokevirtual 261, 3) := by decide +kernel
theorem dX9_rule_30 : decode cX9_rule 30 = .ok (.invokestatic 264, 3) := by decide +kernel
theorem dX9_rule_33 : decode cX9_rule 33 = .ok (.if_icmp .gt 12, 3) := by decide +kernel
theorem dX9_rule_36 : decode cX9_rule 36 = .ok (.aload_n 0, 1) := by decide +kernel
theorem dX9_rule_37 : decode cX9_rule 37 = .ok (.iload_n 1, 1) := by decide +kernel
theorem dX9_rule_38 : decode cX9_rule 38 = .ok (.iload_n 2, 1) := by decide +kernel
theorem dX9_rule_39 : decode cX9_rule 39 = .ok (.invokevirtual 261, 3) := by decide +kernel
theorem dX9_rule_42 : decode cX9_rule 42 = .ok (.goto 4, 3) := by decide +kernel
theorem dX9_rule_45 : decode cX9_rule 45 = .ok (.iconst (-1), 1) := by decide +kernel
theorem dX9_rule_46 : decode cX9_rule 46 = .ok (.ireturn, 1) := by decide +kernel
theorem dX9_states_0 : decode cX9_states 0 = .ok (.aload_n 0, 1) := by decide +kernel
theorem dX9_states_1 : decode cX9_states 1 = .ok (.invokevirtual 92, 3) := by decide +kernel
theorem dX9_states_4 : decode cX9_states 4 = .ok (.ifCond .eq 10, 3) := by decide +kernel
theorem dX9_states_7 : decode cX9_states 7 = .ok (.aload_n 0, 1) := by decide +kernel
theorem dX9_states_8 : decode cX9_states 8 = .ok (.invokevirtual 96, 3) := by decide +kernel
theorem dX9_states_11 : decode cX9_states 11 = .ok (.goto 5, 3) := by decide +kernel
theorem dX9_states_14 : decode cX9_states 14 = .ok (.bipush (-2), 2) := by decide +kernel
theorem dX9_states_16 : decode cX9_states 16 = .ok (.ireturn, 1) := by decide +kernel
theorem iuX9_asItIs_X9 : ∀ w ∈ u_ws RX9 TX9 42, w ∈ W_X9_asItIs := fun w h => List.mem_cons_of_mem _ (List.mem_append_right _ (h))
theorem iuX9_back_X9 : ∀ w ∈ u_ws RX9 TX9 42, w ∈ W_X9_back := fun w h => List.mem_cons_of_mem _ (List.mem_append_right _ (List.mem_append_left _ (h)))
theorem iuX9_brokenBy_X9 : ∀ w ∈ u_ws RX9 TX9 42, w ∈ W_X9_brokenBy := fun w h => List.mem_cons_of_mem _ (List.mem_append_right _ (List.mem_append_left _ (h)))
theorem iuX9_cell_X9 : ∀ w ∈ u_ws RX9 TX9 42, w ∈ W_X9_cell := fun w h => List.mem_cons_of_mem _ (List.mem_append_right _ (List.mem_append_left _ (h)))
theorem iuX9_doneBy_X9 : ∀ w ∈ u_ws RX9 TX9 42, w ∈ W_X9_doneBy := fun w h => List.mem_cons_of_mem _ (List.mem_append_right _ (List.mem_append_left _ (h)))
theorem iuX9_image_X9 : ∀ w ∈ u_ws RX9 TX9 42, w ∈ W_X9_image := fun w h => List.mem_cons_of_mem _ (List.mem_append_right _ (List.mem_append_left _ (h)))
theorem gw_X9_back_X9_in : GoodIn W_X9_back W_X9_in := fun w h => ⟨List.mem_cons_of_mem _ (List.mem_append_right _ (List.mem_append_right _ (h))), (wI_X9_in w h).2⟩
theorem gc_X9_back_76_X9_in : GoodIn W_X9_back (va_wsS RX9 76 yX9_in W_X9_in) := goodIn_app (goodIn_sub (List.forall_mem_cons.mpr ⟨List.mem_cons_of_mem _ (List.mem_append_left _ (List.mem_of_getElem? (i := 1) rfl)), List.forall_mem_cons.mpr ⟨List.mem_cons_of_mem _ (List.mem_append_left _ (List.mem_of_getElem? (i := 2) rfl)), List.forall_mem_cons.mpr ⟨List.mem_cons_of_mem _ (List.mem_append_left _ (List.mem_of_getElem? (i := 3) rfl)), fun _ h => absurd h List.not_mem_nil⟩⟩⟩) (by decide +kernel)) gw_X9_back_X9_in
theorem gw_X9_brokenBy_X9_bit : GoodIn W_X9_brokenBy W_X9_bit := fun w h => ⟨List.mem_cons_of_mem _ (List.mem_append_right _ (List.mem_append_right _ (List.mem_append_right _ (List.mem_append_left _ (h))))), (wI_X9_bit w h).2⟩
theorem gc_X9_brokenBy_288_X9_bit : GoodIn W_X9_brokenBy (va_wsS RX9 288 yX9_bit W_X9_bit) := goodIn_app (goodIn_sub (List.forall_mem_cons.mpr ⟨List.mem_cons_of_mem _ (List.mem_append_left _ (List.mem_of_getElem? (i := 5) rfl)), List.forall_mem_cons.mpr ⟨List.mem_cons_of_mem _ (List.mem_append_left _ (List.mem_of_getElem? (i := 6) rfl)), List.forall_mem_cons.mpr ⟨List.mem_cons_of_mem _ (List.mem_append_left _ (List.mem_of_getElem? (i := 3) rfl)), fun _ h => absurd h List.not_mem_nil⟩⟩⟩) (by decide +kernel)) gw_X9_brokenBy_X9_bit
theorem gw_X9_brokenBy_X9_holdsIn : GoodIn W_X9_brokenBy W_X9_holdsIn := fun w h => ⟨List.mem_cons_of_mem _ (List.mem_append_right _ (List.mem_append_right _ (List.mem_append_right _ (List.mem_append_right _ (h))))), (wI_X9_holdsIn w h).2⟩
theorem gc_X9_brokenBy_291_X9_holdsIn : GoodIn W_X9_brokenBy (wsV RX9 291 RX9 yX9_holdsIn W_X9_holdsIn) := goodIn_app (goodIn_sub (List.forall_mem_cons.mpr ⟨List.mem_cons_of_mem _ (List.mem_append_left _ (List.mem_of_getElem? (i := 7) rfl)), List.forall_mem_cons.mpr ⟨List.mem_cons_of_mem _ (List.mem_append_left _ (List.mem_of_getElem? (i := 8) rfl)), List.forall_mem_cons.mpr ⟨List.mem_cons_of_mem _ (List.mem_append_left _ (List.mem_of_getElem? (i := 9) rfl)), List.forall_mem_cons.mpr ⟨List.mem_cons_of_mem _ (List.mem_append_left _ (List.mem_of_getElem? (i := 3) rfl)), fun _ h => absurd h List.not_mem_nil⟩⟩⟩⟩) (by decide +kernel)) gw_X9_brokenBy_X9_holdsIn
theorem gw_X9_brokenBy_X9_rules : GoodIn W_X9_brokenBy W_X9_rules := fun w h => ⟨List.mem_cons_of_mem _ (List.mem_append_right _ (List.mem_append_right _ (List.mem_append_left _ (h)))), (wI_X9_rules w h).2⟩
theorem gc_X9_brokenBy_80_X9_rules : GoodIn W_X9_brokenBy (wsV RX9 80 RX9 yX9_rules W_X9_rules) := goodIn_app (goodIn_sub (List.forall_mem_cons.mpr ⟨List.mem_cons_of_mem _ (List.mem_append_left _ (List.mem_of_getElem? (i := 0) rfl)), List.forall_mem_cons.mpr ⟨List.mem_cons_of_mem _ (List.mem_append_left _ (List.mem_of_getElem? (i := 1) rfl)), List.forall_mem_cons.mpr ⟨List.mem_cons_of_mem _ (List.mem_append_left _ (List.mem_of_getElem? (i := 2) rfl)), List.forall_mem_cons.mpr ⟨List.mem_cons_of_mem _ (List.mem_append_left _ (List.mem_of_getElem? (i := 3) rfl)), fun _ h => absurd h List.not_mem_nil⟩⟩⟩⟩) (by decide +kernel)) gw_X9_brokenBy_X9_rules
theorem gw_X9_cell_X9_isCell : GoodIn W_X9_cell W_X9_isCell := fun w h => ⟨List.mem_cons_of_mem _ (List.mem_append_right _ (List.mem_append_right _ (h))), (wI_X9_isCell w h).2⟩
theorem gc_X9_cell_252_X9_isCell : GoodIn W_X9_cell (wsV RX9 252 RX9 yX9_isCell W_X9_isCell) := goodIn_app (goodIn_sub (List.forall_mem_cons.mpr ⟨List.mem_cons_of_mem _ (List.mem_append_left _ (List.mem_of_getElem? (i := 0) rfl)), List.forall_mem_cons.mpr ⟨List.mem_cons_of_mem _ (List.mem_append_left _ (List.mem_of_getElem? (i := 1) rfl)), List.forall_mem_cons.mpr ⟨List.mem_cons_of_mem _ (List.mem_append_left _ (List.mem_of_getElem? (i := 2) rfl)), List.forall_mem_cons.mpr ⟨List.mem_cons_of_mem _ (List.mem_append_left _ (List.mem_of_getElem? (i := 3) rfl)), fun _ h => absurd h List.not_mem_nil⟩⟩⟩⟩) (by decide +kernel)) gw_X9_cell_X9_isCell
theorem gw_X9_doneBy_X9_opOf : GoodIn W_X9_doneBy W_X9_opOf := fun w h => ⟨List.mem_cons_of_mem _ (List.mem_append_right _ (List.mem_append_right _ (List.mem_append_left _ (h)))), (wI_X9_opOf w h).2⟩
theorem gc_X9_doneBy_270_X9_opOf : GoodIn W_X9_doneBy (wsV RX9 270 RX9 yX9_opOf W_X9_opOf) := goodIn_app (goodIn_sub (List.forall_mem_cons.mpr ⟨List.mem_cons_of_mem _ (List.mem_append_left _ (List.mem_of_getElem? (i := 0) rfl)), List.forall_mem_cons.mpr ⟨List.mem_cons_of_mem _ (List.mem_append_left _ (List.mem_of_getElem? (i := 1) rfl)), List.forall_mem_cons.mpr ⟨List.mem_cons_of_mem _ (List.mem_append_left _ (List.mem_of_getElem? (i := 2) rfl)), List.forall_mem_cons.mpr ⟨List.mem_cons_of_mem _ (List.mem_append_left _ (List.mem_of_getElem? (i := 3) rfl)), fun _ h => absurd h List.not_mem_nil⟩⟩⟩⟩) (by decide +kernel)) gw_X9_doneBy_X9_opOf
theorem gw_X9_doneBy_X9_withValue : GoodIn W_X9_doneBy W_X9_withValue := fun w h => ⟨List.mem_cons_of_mem _ (List.mem_append_right _ (List.mem_append_right _ (List.mem_append_right _ (List.mem_append_right _ (h))))), (wI_X9_withValue w h).2⟩
theorem gc_X9_doneBy_295_X9_withValue : GoodIn W_X9_doneBy (wsV RX9 295 RX9 yX9_withValue W_X9_withValue) := goodIn_app (goodIn_sub (List.forall_mem_cons.mpr ⟨List.mem_cons_of_mem _ (List.mem_append_left _ (List.mem_of_getElem? (i := 7) rfl)), List.forall_mem_cons.mpr ⟨List.mem_cons_of_mem _ (List.mem_append_left _ (List.mem_of_getElem? (i := 8) rfl)), List.forall_mem_cons.mpr ⟨List.mem_cons_of_mem _ (List.mem_append_left _ (List.mem_of_getElem? (i := 9) rfl)), List.forall_mem_cons.mpr ⟨List.mem_cons_of_mem _ (List.mem_append_left _ (List.mem_of_getElem? (i := 3) rfl)), fun _ h => absurd h List.not_mem_nil⟩⟩⟩⟩) (by decide +kernel)) gw_X9_doneBy_X9_withValue
theorem gw_X9_doneBy_X9_added : GoodIn W_X9_doneBy W_X9_added := fun w h => ⟨List.mem_cons_of_mem _ (List.mem_append_right _ (List.mem_append_right _ (List.mem_append_right _ (List.mem_append_left _ (h))))), (wI_X9_added w h).2⟩
theorem gc_X9_doneBy_299_X9_added : GoodIn W_X9_doneBy (wsV RX9 299 RX9 yX9_added W_X9_added) := goodIn_app (goodIn_sub (List.forall_mem_cons.mpr ⟨List.mem_cons_of_mem _ (List.mem_append_left _ (List.mem_of_getElem? (i := 4) rfl)), List.forall_mem_cons.mpr ⟨List.mem_cons_of_mem _ (List.mem_append_left _ (List.mem_of_getElem? (i := 5) rfl)), List.forall_mem_cons.mpr ⟨List.mem_cons_of_mem _ (List.mem_append_left _ (List.mem_of_getElem? (i := 6) rfl)), List.forall_mem_cons.mpr ⟨List.mem_cons_of_mem _ (List.mem_append_left _ (List.mem_of_getElem? (i := 3) rfl)), fun _ h => absurd h List.not_mem_nil⟩⟩⟩⟩) (by decide +kernel)) gw_X9_doneBy_X9_added
theorem gw_X9_holdsIn_X9_ruleOf : GoodIn W_X9_holdsIn W_X9_ruleOf := fun w h => ⟨List.mem_cons_of_mem _ (List.mem_append_right _ (List.mem_append_left _ (h))), (wI_X9_ruleOf w h).2⟩
theorem gc_X9_holdsIn_261_X9_ruleOf : GoodIn W_X9_holdsIn (wsV RX9 261 RX9 yX9_ruleOf W_X9_ruleOf) := goodIn_app (goodIn_sub (List.forall_mem_cons.mpr ⟨List.mem_cons_of_mem _ (List.mem_append_left _ (List.mem_of_getElem? (i := 0) rfl)), List.forall_mem_cons.mpr ⟨List.mem_cons_of_mem _ (List.mem_append_left _ (List.mem_of_getElem? (i := 1) rfl)), List.forall_mem_cons.mpr ⟨List.mem_cons_of_mem _ (List.mem_append_left _ (List.mem_of_getElem? (i := 2) rfl)), List.forall_mem_cons.mpr ⟨List.mem_cons_of_mem _ (List.mem_append_left _ (List.mem_of_getElem? (i := 3) rfl)), fun _ h => absurd h List.not_mem_nil⟩⟩⟩⟩) (by decide +kernel)) gw_X9_holdsIn_X9_ruleOf
theorem gw_X9_holdsIn_X9_valueOf : GoodIn W_X9_holdsIn W_X9_valueOf := fun w h => ⟨List.mem_cons_of_mem _ (List.mem_append_right _ (List.mem_append_right _ (h))), (wI_X9_valueOf w h).2⟩
theorem gc_X9_holdsIn_285_X9_valueOf : GoodIn W_X9_holdsIn (wsV RX9 285 RX9 yX9_valueOf W_X9_valueOf) := goodIn_app (goodIn_sub (List.forall_mem_cons.mpr ⟨List.mem_cons_of_mem _ (List.mem_append_left _ (List.mem_of_getElem? (i := 4) rfl)), List.forall_mem_cons.mpr ⟨List.mem_cons_of_mem _ (List.mem_append_left _ (List.mem_of_getElem? (i := 5) rfl)), List.forall_mem_cons.mpr ⟨List.mem_cons_of_mem _ (List.mem_append_left _ (List.mem_of_getElem? (i := 6) rfl)), List.forall_mem_cons.mpr ⟨List.mem_cons_of_mem _ (List.mem_append_left _ (List.mem_of_getElem? (i := 3) rfl)), fun _ h => absurd h List.not_mem_nil⟩⟩⟩⟩) (by decide +kernel)) gw_X9_holdsIn_X9_valueOf
theorem gw_X9_image_X9_in : GoodIn W_X9_image W_X9_in := fun w h => ⟨List.mem_cons_of_mem _ (List.mem_append_right _ (List.mem_append_right _ (h))), (wI_X9_in w h).2⟩
theorem gc_X9_image_76_X9_in : GoodIn W_X9_image (va_wsS RX9 76 yX9_in W_X9_in) := goodIn_app (goodIn_sub (List.forall_mem_cons.mpr ⟨List.mem_cons_of_mem _ (List.mem_append_left _ (List.mem_of_getElem? (i := 1) rfl)), List.forall_mem_cons.mpr ⟨List.mem_cons_of_mem _ (List.mem_append_left _ (List.mem_of_getElem? (i := 2) rfl)), List.forall_mem_cons.mpr ⟨List.mem_cons_of_mem _ (List.mem_append_left _ (List.mem_of_getElem? (i := 3) rfl)), fun _ h => absurd h List.not_mem_nil⟩⟩⟩) (by decide +kernel)) gw_X9_image_X9_in
theorem gw_X9_op_X9_opNumbers : GoodIn W_X9_op W_X9_opNumbers := fun w h => ⟨List.mem_cons_of_mem _ (List.mem_append_right _ (List.mem_append_right _ (List.mem_append_right _ (List.mem_append_right _ (h))))), (wI_X9_opNumbers w h).2⟩
theorem gc_X9_op_273_X9_opNumbers : GoodIn W_X9_op (va_wsS RX9 273 yX9_opNumbers W_X9_opNumbers) := goodIn_app (goodIn_sub (List.forall_mem_cons.mpr ⟨List.mem_cons_of_mem _ (List.mem_append_left _ (List.mem_of_getElem? (i := 10) rfl)), List.forall_mem_cons.mpr ⟨List.mem_cons_of_mem _ (List.mem_append_left _ (List.mem_of_getElem? (i := 11) rfl)), List.forall_mem_cons.mpr ⟨List.mem_cons_of_mem _ (List.mem_append_left _ (List.mem_of_getElem? (i := 3) rfl)), fun _ h => absurd h List.not_mem_nil⟩⟩⟩) (by decide +kernel)) gw_X9_op_X9_opNumbers
theorem gw_X9_op_X9_in : GoodIn W_X9_op W_X9_in := fun w h => ⟨List.mem_cons_of_mem _ (List.mem_append_right _ (List.mem_append_right _ (List.mem_append_left _ (h)))), (wI_X9_in w h).2⟩
theorem gc_X9_op_76_X9_in : GoodIn W_X9_op (va_wsS RX9 76 yX9_in W_X9_in) := goodIn_app (goodIn_sub (List.forall_mem_cons.mpr ⟨List.mem_cons_of_mem _ (List.mem_append_left _ (List.mem_of_getElem? (i := 5) rfl)), List.forall_mem_cons.mpr ⟨List.mem_cons_of_mem _ (List.mem_append_left _ (List.mem_of_getElem? (i := 6) rfl)), List.forall_mem_cons.mpr ⟨List.mem_cons_of_mem _ (List.mem_append_left _ (List.mem_of_getElem? (i := 3) rfl)), fun _ h => absurd h List.not_mem_nil⟩⟩⟩) (by decide +kernel)) gw_X9_op_X9_in
theorem gw_X9_op_X9_isOp : GoodIn W_X9_op W_X9_isOp := fun w h => ⟨List.mem_cons_of_mem _ (List.mem_append_right _ (List.mem_append_left _ (h))), (wI_X9_isOp w h).2⟩
theorem gc_X9_op_267_X9_isOp : GoodIn W_X9_op (wsV RX9 267 RX9 yX9_isOp W_X9_isOp) := goodIn_app (goodIn_sub (List.forall_mem_cons.mpr ⟨List.mem_cons_of_mem _ (List.mem_append_left _ (List.mem_of_getElem? (i := 0) rfl)), List.forall_mem_cons.mpr ⟨List.mem_cons_of_mem _ (List.mem_append_left _ (List.mem_of_getElem? (i := 1) rfl)), List.forall_mem_cons.mpr ⟨List.mem_cons_of_mem _ (List.mem_append_left _ (List.mem_of_getElem? (i := 2) rfl)), List.forall_mem_cons.mpr ⟨List.mem_cons_of_mem _ (List.mem_append_left _ (List.mem_of_getElem? (i := 3) rfl)), fun _ h => absurd h List.not_mem_nil⟩⟩⟩⟩) (by decide +kernel)) gw_X9_op_X9_isOp
theorem gw_X9_op_X9_opOf : GoodIn W_X9_op W_X9_opOf := fun w h => ⟨List.mem_cons_of_mem _ (List.mem_append_right _ (List.mem_append_right _ (List.mem_append_right _ (List.mem_append_left _ (h))))), (wI_X9_opOf w h).2⟩
theorem gc_X9_op_270_X9_opOf : GoodIn W_X9_op (wsV RX9 270 RX9 yX9_opOf W_X9_opOf) := goodIn_app (goodIn_sub (List.forall_mem_cons.mpr ⟨List.mem_cons_of_mem _ (List.mem_append_left _ (List.mem_of_getElem? (i := 7) rfl)), List.forall_mem_cons.mpr ⟨List.mem_cons_of_mem _ (List.mem_append_left _ (List.mem_of_getElem? (i := 8) rfl)), List.forall_mem_cons.mpr ⟨List.mem_cons_of_mem _ (List.mem_append_left _ (List.mem_of_getElem? (i := 9) rfl)), List.forall_mem_cons.mpr ⟨List.mem_cons_of_mem _ (List.mem_append_left _ (List.mem_of_getElem? (i := 3) rfl)), fun _ h => absurd h List.not_mem_nil⟩⟩⟩⟩) (by decide +kernel)) gw_X9_op_X9_opOf
theorem gw_X9_rule_X9_ruleNumbers : GoodIn W_X9_rule W_X9_ruleNumbers := fun w h => ⟨List.mem_cons_of_mem _ (List.mem_append_right _ (List.mem_append_right _ (List.mem_append_right _ (List.mem_append_right _ (h))))), (wI_X9_ruleNumbers w h).2⟩
theorem gc_X9_rule_264_X9_ruleNumbers : GoodIn W_X9_rule (va_wsS RX9 264 yX9_ruleNumbers W_X9_ruleNumbers) := goodIn_app (goodIn_sub (List.forall_mem_cons.mpr ⟨List.mem_cons_of_mem _ (List.mem_append_left _ (List.mem_of_getElem? (i := 10) rfl)), List.forall_mem_cons.mpr ⟨List.mem_cons_of_mem _ (List.mem_append_left _ (List.mem_of_getElem? (i := 11) rfl)), List.forall_mem_cons.mpr ⟨List.mem_cons_of_mem _ (List.mem_append_left _ (List.mem_of_getElem? (i := 3) rfl)), fun _ h => absurd h List.not_mem_nil⟩⟩⟩) (by decide +kernel)) gw_X9_rule_X9_ruleNumbers
theorem gw_X9_rule_X9_in : GoodIn W_X9_rule W_X9_in := fun w h => ⟨List.mem_cons_of_mem _ (List.mem_append_right _ (List.mem_append_right _ (List.mem_append_left _ (h)))), (wI_X9_in w h).2⟩
theorem gc_X9_rule_76_X9_in : GoodIn W_X9_rule (va_wsS RX9 76 yX9_in W_X9_in) := goodIn_app (goodIn_sub (List.forall_mem_cons.mpr ⟨List.mem_cons_of_mem _ (List.mem_append_left _ (List.mem_of_getElem? (i := 5) rfl)), List.forall_mem_cons.mpr ⟨List.mem_cons_of_mem _ (List.mem_append_left _ (List.mem_of_getElem? (i := 6) rfl)), List.forall_mem_cons.mpr ⟨List.mem_cons_of_mem _ (List.mem_append_left _ (List.mem_of_getElem? (i := 3) rfl)), fun _ h => absurd h List.not_mem_nil⟩⟩⟩) (by decide +kernel)) gw_X9_rule_X9_in
theorem gw_X9_rule_X9_isRule : GoodIn W_X9_rule W_X9_isRule := fun w h => ⟨List.mem_cons_of_mem _ (List.mem_append_right _ (List.mem_append_left _ (h))), (wI_X9_isRule w h).2⟩
theorem gc_X9_rule_256_X9_isRule : GoodIn W_X9_rule (wsV RX9 256 RX9 yX9_isRule W_X9_isRule) := goodIn_app (goodIn_sub (List.forall_mem_cons.mpr ⟨List.mem_cons_of_mem _ (List.mem_append_left _ (List.mem_of_getElem? (i := 0) rfl)), List.forall_mem_cons.mpr ⟨List.mem_cons_of_mem _ (List.mem_append_left _ (List.mem_of_getElem? (i := 1) rfl)), List.forall_mem_cons.mpr ⟨List.mem_cons_of_mem _ (List.mem_append_left _ (List.mem_of_getElem? (i := 2) rfl)), List.forall_mem_cons.mpr ⟨List.mem_cons_of_mem _ (List.mem_append_left _ (List.mem_of_getElem? (i := 3) rfl)), fun _ h => absurd h List.not_mem_nil⟩⟩⟩⟩) (by decide +kernel)) gw_X9_rule_X9_isRule
theorem gw_X9_rule_X9_ruleOf : GoodIn W_X9_rule W_X9_ruleOf := fun w h => ⟨List.mem_cons_of_mem _ (List.mem_append_right _ (List.mem_append_right _ (List.mem_append_right _ (List.mem_append_left _ (h))))), (wI_X9_ruleOf w h).2⟩
theorem gc_X9_rule_261_X9_ruleOf : GoodIn W_X9_rule (wsV RX9 261 RX9 yX9_ruleOf W_X9_ruleOf) := goodIn_app (goodIn_sub (List.forall_mem_cons.mpr ⟨List.mem_cons_of_mem _ (List.mem_append_left _ (List.mem_of_getElem? (i := 7) rfl)), List.forall_mem_cons.mpr ⟨List.mem_cons_of_mem _ (List.mem_append_left _ (List.mem_of_getElem? (i := 8) rfl)), List.forall_mem_cons.mpr ⟨List.mem_cons_of_mem _ (List.mem_append_left _ (List.mem_of_getElem? (i := 9) rfl)), List.forall_mem_cons.mpr ⟨List.mem_cons_of_mem _ (List.mem_append_left _ (List.mem_of_getElem? (i := 3) rfl)), fun _ h => absurd h List.not_mem_nil⟩⟩⟩⟩) (by decide +kernel)) gw_X9_rule_X9_ruleOf
theorem gw_X9_states_X9_isBase : GoodIn W_X9_states W_X9_isBase := fun w h => ⟨List.mem_cons_of_mem _ (List.mem_append_right _ (List.mem_append_left _ (h))), (wI_X9_isBase w h).2⟩
theorem gc_X9_states_92_X9_isBase : GoodIn W_X9_states (wsV RX9 92 RX9 yX9_isBase W_X9_isBase) := goodIn_app (goodIn_sub (List.forall_mem_cons.mpr ⟨List.mem_cons_of_mem _ (List.mem_append_left _ (List.mem_of_getElem? (i := 0) rfl)), List.forall_mem_cons.mpr ⟨List.mem_cons_of_mem _ (List.mem_append_left _ (List.mem_of_getElem? (i := 1) rfl)), List.forall_mem_cons.mpr ⟨List.mem_cons_of_mem _ (List.mem_append_left _ (List.mem_of_getElem? (i := 2) rfl)), List.forall_mem_cons.mpr ⟨List.mem_cons_of_mem _ (List.mem_append_left _ (List.mem_of_getElem? (i := 3) rfl)), fun _ h => absurd h List.not_mem_nil⟩⟩⟩⟩) (by decide +kernel)) gw_X9_states_X9_isBase
theorem gw_X9_states_X9_stateMany : GoodIn W_X9_states W_X9_stateMany := fun w h => ⟨List.mem_cons_of_mem _ (List.mem_append_right _ (List.mem_append_right _ (h))), (wI_X9_stateMany w h).2⟩
theorem gc_X9_states_96_X9_stateMany : GoodIn W_X9_states (wsV RX9 96 RX9 yX9_stateMany W_X9_stateMany) := goodIn_app (goodIn_sub (List.forall_mem_cons.mpr ⟨List.mem_cons_of_mem _ (List.mem_append_left _ (List.mem_of_getElem? (i := 4) rfl)), List.forall_mem_cons.mpr ⟨List.mem_cons_of_mem _ (List.mem_append_left _ (List.mem_of_getElem? (i := 5) rfl)), List.forall_mem_cons.mpr ⟨List.mem_cons_of_mem _ (List.mem_append_left _ (List.mem_of_getElem? (i := 6) rfl)), List.forall_mem_cons.mpr ⟨List.mem_cons_of_mem _ (List.mem_append_left _ (List.mem_of_getElem? (i := 3) rfl)), fun _ h => absurd h List.not_mem_nil⟩⟩⟩⟩) (by decide +kernel)) gw_X9_states_X9_stateMany
