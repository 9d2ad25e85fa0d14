theorem dX9_readFirst_0 : decode cX9_readFirst 0 = .ok (.aload_n 0, 1) := by decide +kernel
theorem dX9_readFirst_1 : decode cX9_readFirst 1 = .ok (.ldc 172, 2) := by decide +kernel
theorem dX9_readFirst_3 : decode cX9_readFirst 3 = .ok (.invokevirtual 165, 3) := by decide +kernel
theorem dX9_readFirst_6 : decode cX9_readFirst 6 = .ok (.aload_n 0, 1) := by decide +kernel
theorem dX9_readFirst_7 : decode cX9_readFirst 7 = .ok (.getfield 31, 3) := by decide +kernel
theorem dX9_readFirst_10 : decode cX9_readFirst 10 = .ok (.iconst 0, 1) := by decide +kernel
theorem dX9_readFirst_11 : decode cX9_readFirst 11 = .ok (.aload_n 0, 1) := by decide +kernel
theorem dX9_readFirst_12 : decode cX9_readFirst 12 = .ok (.ldc 174, 2) := by decide +kernel
theorem dX9_readFirst_14 : decode cX9_readFirst 14 = .ok (.iconst 1, 1) := by decide +kernel
theorem dX9_readFirst_15 : decode cX9_readFirst 15 = .ok (.iconst 3, 1) := by decide +kernel
theorem dX9_readFirst_16 : decode cX9_readFirst 16 = .ok (.invokevirtual 176, 3) := by decide +kernel
theorem dX9_readFirst_19 : decode cX9_readFirst 19 = .ok (.iastore, 1) := by decide +kernel
theorem dX9_readFirst_20 : decode cX9_readFirst 20 = .ok (.aload_n 0, 1) := by decide +kernel
theorem dX9_readFirst_21 : decode cX9_readFirst 21 = .ok (.getfield 31, 3) := by decide +kernel
theorem dX9_readFirst_24 : decode cX9_readFirst 24 = .ok (.iconst 1, 1) := by decide +kernel
theorem dX9_readFirst_25 : decode cX9_readFirst 25 = .ok (.aload_n 0, 1) := by decide +kernel
theorem dX9_readFirst_26 : decode cX9_readFirst 26 = .ok (.ldc 180, 2) := by decide +kernel
theorem dX9_readFirst_28 : decode cX9_readFirst 28 = .ok (.iconst 0, 1) := by decide +kernel
theorem dX9_readFirst_29 : decode cX9_readFirst 29 = .ok (.iconst 3, 1) := by decide +kernel
theorem dX9_readFirst_30 : decode cX9_readFirst 30 = .ok (.invokevirtual 176, 3) := by decide +kernel
theorem dX9_readFirst_33 : decode cX9_readFirst 33 = .ok (.iastore, 1) := by decide +kernel
theorem dX9_readFirst_34 : decode cX9_readFirst 34 = .ok (.aload_n 0, 1) := by decide +kernel
theorem dX9_readFirst_35 : decode cX9_readFirst 35 = .ok (.getfield 31, 3) := by decide +kernel
theorem dX9_readFirst_38 : decode cX9_readFirst 38 = .ok (.iconst 2, 1) := by decide +kernel
theorem dX9_readFirst_39 : decode cX9_readFirst 39 = .ok (.aload_n 0, 1) := by decide +kernel
theorem dX9_readFirst_40 : decode cX9_readFirst 40 = .ok (.ldc 182, 2) := by decide +kernel
theorem dX9_readFirst_42 : decode cX9_readFirst 42 = .ok (.iconst 0, 1) := by decide +kernel
theorem dX9_readFirst_43 : decode cX9_readFirst 43 = .ok (.bipush 10, 2) := by decide +kernel
theorem dX9_readFirst_45 : decode cX9_readFirst 45 = .ok (.invokevirtual 176, 3) := by decide +kernel
theorem dX9_readFirst_48 : decode cX9_readFirst 48 = .ok (.iastore, 1) := by decide +kernel
theorem dX9_readFirst_49 : decode cX9_readFirst 49 = .ok (.return_, 1) := by decide +kernel
theorem dX9_readOp_0 : decode cX9_readOp 0 = .ok (.bipush 36, 2) := by decide +kernel
theorem dX9_readOp_2 : decode cX9_readOp 2 = .ok (.iconst 4, 1) := by decide +kernel
theorem dX9_readOp_3 : decode cX9_readOp 3 = .ok (.aload_n 0, 1) := by decide +kernel
theorem dX9_readOp_4 : decode cX9_readOp 4 = .ok (.getfield 31, 3) := by decide +kernel
theorem dX9_readOp_7 : decode cX9_readOp 7 = .ok (.iconst 5, 1) := by decide +kernel
theorem dX9_readOp_8 : decode cX9_readOp 8 = .ok (.iaload, 1) := by decide +kernel
theorem dX9_readOp_9 : decode cX9_readOp 9 = .ok (.imul, 1) := by decide +kernel
theorem dX9_readOp_10 : decode cX9_readOp 10 = .ok (.iadd, 1) := by decide +kernel
theorem dX9_readOp_11 : decode cX9_readOp 11 = .ok (.istore_n 1, 1) := by decide +kernel
theorem dX9_readOp_12 : decode cX9_readOp 12 = .ok (.aload_n 0, 1) := by decide +kernel
theorem dX9_readOp_13 : decode cX9_readOp 13 = .ok (.ldc 212, 2) := by decide +kernel
theorem dX9_readOp_15 : decode cX9_readOp 15 = .ok (.ldc 214, 2) := by decide +kernel
theorem dX9_readOp_17 : decode cX9_readOp 17 = .ok (.ldc 216, 2) := by decide +kernel
theorem dX9_readOp_19 : decode cX9_readOp 19 = .ok (.ldc 218, 2) := by decide +kernel
theorem dX9_readOp_21 : decode cX9_readOp 21 = .ok (.ldc 220, 2) := by decide +kernel
theorem dX9_readOp_23 : decode cX9_readOp 23 = .ok (.ldc 220, 2) := by decide +kernel
theorem dX9_readOp_25 : decode cX9_readOp 25 = .ok (.invokevirtual 206, 3) := by decide +kernel
theorem dX9_readOp_28 : decode cX9_readOp 28 = .ok (.istore_n 2, 1) := by decide +kernel
theorem dX9_readOp_29 : decode cX9_readOp 29 = .ok (.aload_n 0, 1) := by decide +kernel
theorem dX9_readOp_30 : decode cX9_readOp 30 = .ok (.getfield 31, 3) := by decide +kernel
theorem dX9_readOp_33 : decode cX9_readOp 33 = .ok (.iload_n 1, 1) := by decide +kernel
theorem dX9_readOp_34 : decode cX9_readOp 34 = .ok (.iload_n 2, 1) := by decide +kernel
theorem dX9_readOp_35 : decode cX9_readOp 35 = .ok (.iastore, 1) := by decide +kernel
theorem dX9_readOp_36 : decode cX9_readOp 36 = .ok (.aload_n 0, 1) := by decide +kernel
theorem dX9_readOp_37 : decode cX9_readOp 37 = .ok (.getfield 31, 3) := by decide +kernel
theorem dX9_readOp_40 : decode cX9_readOp 40 = .ok (.iload_n 1, 1) := by decide +kernel
theorem dX9_readOp_41 : decode cX9_readOp 41 = .ok (.iconst 1, 1) := by decide +kernel
theorem dX9_readOp_42 : decode cX9_readOp 42 = .ok (.iadd, 1) := by decide +kernel
theorem dX9_readOp_43 : decode cX9_readOp 43 = .ok (.aload_n 0, 1) := by decide +kernel
theorem dX9_readOp_44 : decode cX9_readOp 44 = .ok (.invokevirtual 184, 3) := by decide +kernel
theorem dX9_readOp_47 : decode cX9_readOp 47 = .ok (.iastore, 1) := by decide +kernel
theorem dX9_readOp_48 : decode cX9_readOp 48 = .ok (.iload_n 2, 1) := by decide +kernel
theorem dX9_readOp_49 : decode cX9_readOp 49 = .ok (.iconst 3, 1) := by decide +kernel
theorem dX9_readOp_50 : decode cX9_readOp 50 = .ok (.if_icmp .ne 45, 3) := by decide +kernel
theorem dX9_readOp_53 : decode cX9_readOp 53 = .ok (.aload_n 0, 1) := by decide +kernel
theorem dX9_readOp_54 : decode cX9_readOp 54 = .ok (.getfield 31, 3) := by decide +kernel
theorem dX9_readOp_57 : decode cX9_readOp 57 = .ok (.iload_n 1, 1) := by decide +kernel
theorem dX9_readOp_58 : decode cX9_readOp 58 = .ok (.iconst 2, 1) := by decide +kernel
theorem dX9_readOp_59 : decode cX9_readOp 59 = .ok (.iadd, 1) := by decide +kernel
theorem dX9_readOp_60 : decode cX9_readOp 60 = .ok (.aload_n 0, 1) := by decide +kernel
theorem dX9_readOp_61 : decode cX9_readOp 61 = .ok (.aload_n 0, 1) := by decide +kernel
theorem dX9_readOp_62 : decode cX9_readOp 62 = .ok (.getfield 31, 3) := by decide +kernel
theorem dX9_readOp_65 : decode cX9_readOp 65 = .ok (.iload_n 1, 1) := by decide +kernel
theorem dX9_readOp_66 : decode cX9_readOp 66 = .ok (.iconst 1, 1) := by decide +kernel
theorem dX9_readOp_67 : decode cX9_readOp 67 = .ok (.iadd, 1) := by decide +kernel
theorem dX9_readOp_68 : decode cX9_readOp 68 = .ok (.iaload, 1) := by decide +kernel
theorem dX9_readOp_69 : decode cX9_readOp 69 = .ok (.invokevirtual 209, 3) := by decide +kernel
theorem dX9_readOp_72 : decode cX9_readOp 72 = .ok (.iastore, 1) := by decide +kernel
theorem dX9_readOp_73 : decode cX9_readOp 73 = .ok (.aload_n 0, 1) := by decide +kernel
theorem dX9_readOp_74 : decode cX9_readOp 74 = .ok (.getfield 31, 3) := by decide +kernel
theorem dX9_readOp_77 : decode cX9_readOp 77 = .ok (.iload_n 1, 1) := by decide +kernel
theorem dX9_readOp_78 : decode cX9_readOp 78 = .ok (.iconst 3, 1) := by decide +kernel
theorem dX9_readOp_79 : decode cX9_readOp 79 = .ok (.iadd, 1) := by decide +kernel
theorem dX9_readOp_80 : decode cX9_readOp 80 = .ok (.aload_n 0, 1) := by decide +kernel
theorem dX9_readOp_81 : decode cX9_readOp 81 = .ok (.iconst 1, 1) := by decide +kernel
theorem dX9_readOp_82 : decode cX9_readOp 82 = .ok (.aload_n 0, 1) := by decide +kernel
theorem dX9_readOp_83 : decode cX9_readOp 83 = .ok (.getfield 31, 3) := by decide +kernel
theorem dX9_readOp_86 : decode cX9_readOp 86 = .ok (.iconst 0, 1) := by decide +kernel
theorem dX9_readOp_87 : decode cX9_readOp 87 = .ok (.iaload, 1) := by decide +kernel
theorem dX9_readOp_88 : decode cX9_readOp 88 = .ok (.invokevirtual 169, 3) := by decide +kernel
theorem dX9_readOp_91 : decode cX9_readOp 91 = .ok (.iastore, 1) := by decide +kernel
theorem dX9_readOp_92 : decode cX9_readOp 92 = .ok (.goto 31, 3) := by decide +kernel
theorem dX9_readOp_95 : decode cX9_readOp 95 = .ok (.aload_n 0, 1) := by decide +kernel
theorem dX9_readOp_96 : decode cX9_readOp 96 = .ok (.getfield 31, 3) := by decide +kernel
theorem dX9_readOp_99 : decode cX9_readOp 99 = .ok (.iload_n 1, 1) := by decide +kernel
theorem dX9_readOp_100 : decode cX9_readOp 100 = .ok (.iconst 2, 1) := by decide +kernel
theorem dX9_readOp_101 : decode cX9_readOp 101 = .ok (.iadd, 1) := by decide +kernel
theorem dX9_readOp_102 : decode cX9_readOp 102 = .ok (.aload_n 0, 1) := by decide +kernel
theorem dX9_readOp_103 : decode cX9_readOp 103 = .ok (.iload_n 2, 1) := by decide +kernel
theorem dX9_readOp_104 : decode cX9_readOp 104 = .ok (.iconst 2, 1) := by decide +kernel
theorem dX9_readOp_105 : decode cX9_readOp 105 = .ok (.if_icmp .ne 7, 3) := by decide +kernel
theorem dX9_readOp_108 : decode cX9_readOp 108 = .ok (.iconst 0, 1) := by decide +kernel
theorem dX9_readOp_109 : decode cX9_readOp 109 = .ok (.goto 4, 3) := by decide +kernel
theorem dX9_readOp_112 : decode cX9_readOp 112 = .ok (.iconst 1, 1) := by decide +kernel
theorem dX9_readOp_113 : decode cX9_readOp 113 = .ok (.aload_n 0, 1) := by decide +kernel
theorem dX9_readOp_114 : decode cX9_readOp 114 = .ok (.getfield 31, 3) := by decide +kernel
theorem dX9_readOp_117 : decode cX9_readOp 117 = .ok (.iconst 0, 1) := by decide +kernel
theorem dX9_readOp_118 : decode cX9_readOp 118 = .ok (.iaload, 1) := by decide +kernel
theorem dX9_readOp_119 : decode cX9_readOp 119 = .ok (.invokevirtual 169, 3) := by decide +kernel
theorem dX9_readOp_122 : decode cX9_readOp 122 = .ok (.iastore, 1) := by decide +kernel
theorem dX9_readOp_123 : decode cX9_readOp 123 = .ok (.aload_n 0, 1) := by decide +kernel
theorem dX9_readOp_124 : decode cX9_readOp 124 = .ok (.getfield 31, 3) := by decide +kernel
theorem dX9_readOp_127 : decode cX9_readOp 127 = .ok (.iconst 5, 1) := by decide +kernel
theorem dX9_readOp_128 : decode cX9_readOp 128 = .ok (.dup2, 1) := by decide +kernel
theorem dX9_readOp_129 : decode cX9_readOp 129 = .ok (.iaload, 1) := by decide +kernel
theorem dX9_readOp_130 : decode cX9_readOp 130 = .ok (.iconst 1, 1) := by decide +kernel
theorem dX9_readOp_131 : decode cX9_readOp 131 = .ok (.iadd, 1) := by decide +kernel
theorem dX9_readOp_132 : decode cX9_readOp 132 = .ok (.iastore, 1) := by decide +kernel
theorem dX9_readOp_133 : decode cX9_readOp 133 = .ok (.return_, 1) := by decide +kernel
theorem dX9_readRule_0 : decode cX9_readRule 0 = .ok (.bipush 11, 2) := by decide +kernel
theorem dX9_readRule_2 : decode cX9_readRule 2 = .ok (.iconst 5, 1) := by decide +kernel
theorem dX9_readRule_3 : decode cX9_readRule 3 = .ok (.aload_n 0, 1) := by decide +kernel
theorem dX9_readRule_4 : decode cX9_readRule 4 = .ok (.getfield 31, 3) := by decide +kernel
theorem dX9_readRule_7 : decode cX9_readRule 7 = .ok (.iconst 4, 1) := by decide +kernel
theorem dX9_readRule_8 : decode cX9_readRule 8 = .ok (.iaload, 1) := by decide +kernel
theorem dX9_readRule_9 : decode cX9_readRule 9 = .ok (.imul, 1) := by decide +kernel
theorem dX9_readRule_10 : decode cX9_readRule 10 = .ok (.iadd, 1) := by decide +kernel
theorem dX9_readRule_11 : decode cX9_readRule 11 = .ok (.istore_n 1, 1) := by decide +kernel
theorem dX9_readRule_12 : decode cX9_readRule 12 = .ok (.aload_n 0, 1) := by decide +kernel
theorem dX9_readRule_13 : decode cX9_readRule 13 = .ok (.ldc 194, 2) := by decide +kernel
theorem dX9_readRule_15 : decode cX9_readRule 15 = .ok (.ldc 196, 2) := by decide +kernel
theorem dX9_readRule_17 : decode cX9_readRule 17 = .ok (.ldc 198, 2) := by decide +kernel
theorem dX9_readRule_19 : decode cX9_readRule 19 = .ok (.ldc 200, 2) := by decide +kernel
theorem dX9_readRule_21 : decode cX9_readRule 21 = .ok (.ldc 202, 2) := by decide +kernel
theorem dX9_readRule_23 : decode cX9_readRule 23 = .ok (.ldc 204, 2) := by decide +kernel
theorem dX9_readRule_25 : decode cX9_readRule 25 = .ok (.invokevirtual 206, 3) := by decide +kernel
theorem dX9_readRule_28 : decode cX9_readRule 28 = .ok (.istore_n 2, 1) := by decide +kernel
theorem dX9_readRule_29 : decode cX9_readRule 29 = .ok (.aload_n 0, 1) := by decide +kernel
theorem dX9_readRule_30 : decode cX9_readRule 30 = .ok (.getfield 31, 3) := by decide +kernel
theorem dX9_readRule_33 : decode cX9_readRule 33 = .ok (.iload_n 1, 1) := by decide +kernel
theorem dX9_readRule_34 : decode cX9_readRule 34 = .ok (.iload_n 2, 1) := by decide +kernel
theorem dX9_readRule_35 : decode cX9_readRule 35 = .ok (.iastore, 1) := by decide +kernel
theorem dX9_readRule_36 : decode cX9_readRule 36 = .ok (.aload_n 0, 1) := by decide +kernel
theorem dX9_readRule_37 : decode cX9_readRule 37 = .ok (.getfield 31, 3) := by decide +kernel
theorem dX9_readRule_40 : decode cX9_readRule 40 = .ok (.iload_n 1, 1) := by decide +kernel
theorem dX9_readRule_41 : decode cX9_readRule 41 = .ok (.iconst 1, 1) := by decide +kernel
theorem dX9_readRule_42 : decode cX9_readRule 42 = .ok (.iadd, 1) := by decide +kernel
theorem dX9_readRule_43 : decode cX9_readRule 43 = .ok (.aload_n 0, 1) := by decide +kernel
theorem dX9_readRule_44 : decode cX9_readRule 44 = .ok (.invokevirtual 184, 3) := by decide +kernel
theorem dX9_readRule_47 : decode cX9_readRule 47 = .ok (.iastore, 1) := by decide +kernel
theorem dX9_readRule_48 : decode cX9_readRule 48 = .ok (.iload_n 2, 1) := by decide +kernel
theorem dX9_readRule_49 : decode cX9_readRule 49 = .ok (.ifCond .eq 13, 3) := by decide +kernel
theorem dX9_readRule_52 : decode cX9_readRule 52 = .ok (.iload_n 2, 1) := by decide +kernel
theorem dX9_readRule_53 : decode cX9_readRule 53 = .ok (.iconst 1, 1) := by decide +kernel
theorem dX9_readRule_54 : decode cX9_readRule 54 = .ok (.if_icmp .eq 8, 3) := by decide +kernel
theorem dX9_readRule_57 : decode cX9_readRule 57 = .ok (.iload_n 2, 1) := by decide +kernel
theorem dX9_readRule_58 : decode cX9_readRule 58 = .ok (.iconst 5, 1) := by decide +kernel
theorem dX9_readRule_59 : decode cX9_readRule 59 = .ok (.if_icmp .ne 25, 3) := by decide +kernel
theorem dX9_readRule_62 : decode cX9_readRule 62 = .ok (.aload_n 0, 1) := by decide +kernel
theorem dX9_readRule_63 : decode cX9_readRule 63 = .ok (.getfield 31, 3) := by decide +kernel
theorem dX9_readRule_66 : decode cX9_readRule 66 = .ok (.iload_n 1, 1) := by decide +kernel
theorem dX9_readRule_67 : decode cX9_readRule 67 = .ok (.iconst 2, 1) := by decide +kernel
theorem dX9_readRule_68 : decode cX9_readRule 68 = .ok (.iadd, 1) := by decide +kernel
theorem dX9_readRule_69 : decode cX9_readRule 69 = .ok (.aload_n 0, 1) := by decide +kernel
theorem dX9_readRule_70 : decode cX9_readRule 70 = .ok (.iconst 0, 1) := by decide +kernel
theorem dX9_readRule_71 : decode cX9_readRule 71 = .ok (.aload_n 0, 1) := by decide +kernel
theorem dX9_readRule_72 : decode cX9_readRule 72 = .ok (.getfield 31, 3) := by decide +kernel
theorem dX9_readRule_75 : decode cX9_readRule 75 = .ok (.iconst 0, 1) := by decide +kernel
theorem dX9_readRule_76 : decode cX9_readRule 76 = .ok (.iaload, 1) := by decide +kernel
theorem dX9_readRule_77 : decode cX9_readRule 77 = .ok (.invokevirtual 169, 3) := by decide +kernel
theorem dX9_readRule_80 : decode cX9_readRule 80 = .ok (.iastore, 1) := by decide +kernel
theorem dX9_readRule_81 : decode cX9_readRule 81 = .ok (.goto 23, 3) := by decide +kernel
theorem dX9_readRule_84 : decode cX9_readRule 84 = .ok (.aload_n 0, 1) := by decide +kernel
theorem dX9_readRule_85 : decode cX9_readRule 85 = .ok (.getfield 31, 3) := by decide +kernel
theorem dX9_readRule_88 : decode cX9_readRule 88 = .ok (.iload_n 1, 1) := by decide +kernel
theorem dX9_readRule_89 : decode cX9_readRule 89 = .ok (.iconst 2, 1) := by decide +kernel
theorem dX9_readRule_90 : decode cX9_readRule 90 = .ok (.iadd, 1) := by decide +kernel
theorem dX9_readRule_91 : decode cX9_readRule 91 = .ok (.aload_n 0, 1) := by decide +kernel
theorem dX9_readRule_92 : decode cX9_readRule 92 = .ok (.aload_n 0, 1) := by decide +kernel
theorem dX9_readRule_93 : decode cX9_readRule 93 = .ok (.getfield 31, 3) := by decide +kernel
theorem dX9_readRule_96 : decode cX9_readRule 96 = .ok (.iload_n 1, 1) := by decide +kernel
theorem dX9_readRule_97 : decode cX9_readRule 97 = .ok (.iconst 1, 1) := by decide +kernel
theorem dX9_readRule_98 : decode cX9_readRule 98 = .ok (.iadd, 1) := by decide +kernel
theorem dX9_readRule_99 : decode cX9_readRule 99 = .ok (.iaload, 1) := by decide +kernel
theorem dX9_readRule_100 : decode cX9_readRule 100 = .ok (.invokevirtual 209, 3) := by decide +kernel
theorem dX9_readRule_103 : decode cX9_readRule 103 = .ok (.iastore, 1) := by decide +kernel
theorem dX9_readRule_104 : decode cX9_readRule 104 = .ok (.iload_n 2, 1) := by decide +kernel
theorem dX9_readRule_105 : decode cX9_readRule 105 = .ok (.iconst 3, 1) := by decide +kernel
theorem dX9_readRule_106 : decode cX9_readRule 106 = .ok (.if_icmp .ne 18, 3) := by decide +kernel
theorem dX9_readRule_109 : decode cX9_readRule 109 = .ok (.aload_n 0, 1) := by decide +kernel
theorem dX9_readRule_110 : decode cX9_readRule 110 = .ok (.getfield 31, 3) := by decide +kernel
theorem dX9_readRule_113 : decode cX9_readRule 113 = .ok (.iload_n 1, 1) := by decide +kernel
theorem dX9_readRule_114 : decode cX9_readRule 114 = .ok (.iconst 3, 1) := by decide +kernel
theorem dX9_readRule_115 : decode cX9_readRule 115 = .ok (.iadd, 1) := by decide +kernel
theorem dX9_readRule_116 : decode cX9_readRule 116 = .ok (.aload_n 0, 1) := by decide +kernel
theorem dX9_readRule_117 : decode cX9_readRule 117 = .ok (.iconst 0, 1) := by decide +kernel
theorem dX9_readRule_118 : decode cX9_readRule 118 = .ok (.bipush 6, 2) := by decide +kernel
theorem dX9_readRule_120 : decode cX9_readRule 120 = .ok (.invokevirtual 169, 3) := by decide +kernel
theorem dX9_readRule_123 : decode cX9_readRule 123 = .ok (.iastore, 1) := by decide +kernel
theorem dX9_readRule_124 : decode cX9_readRule 124 = .ok (.iload_n 2, 1) := by decide +kernel
theorem dX9_readRule_125 : decode cX9_readRule 125 = .ok (.iconst 5, 1) := by decide +kernel
theorem dX9_readRule_126 : decode cX9_readRule 126 = .ok (.if_icmp .ne 34, 3) := by decide +kernel
theorem dX9_readRule_129 : decode cX9_readRule 129 = .ok (.aload_n 0, 1) := by decide +kernel
theorem dX9_readRule_130 : decode cX9_readRule 130 = .ok (.getfield 31, 3) := by decide +kernel
theorem dX9_readRule_133 : decode cX9_readRule 133 = .ok (.iload_n 1, 1) := by decide +kernel
theorem dX9_readRule_134 : decode cX9_readRule 134 = .ok (.iconst 3, 1) := by decide +kernel
theorem dX9_readRule_135 : decode cX9_readRule 135 = .ok (.iadd, 1) := by decide +kernel
theorem dX9_readRule_136 : decode cX9_readRule 136 = .ok (.aload_n 0, 1) := by decide +kernel
theorem dX9_readRule_137 : decode cX9_readRule 137 = .ok (.invokevirtual 184, 3) := by decide +kernel
theorem dX9_readRule_140 : decode cX9_readRule 140 = .ok (.iastore, 1) := by decide +kernel
theorem dX9_readRule_141 : decode cX9_readRule 141 = .ok (.aload_n 0, 1) := by decide +kernel
theorem dX9_readRule_142 : decode cX9_readRule 142 = .ok (.getfield 31, 3) := by decide +kernel
theorem dX9_readRule_145 : decode cX9_readRule 145 = .ok (.iload_n 1, 1) := by decide +kernel
theorem dX9_readRule_146 : decode cX9_readRule 146 = .ok (.iconst 4, 1) := by decide +kernel
theorem dX9_readRule_147 : decode cX9_readRule 147 = .ok (.iadd, 1) := by decide +kernel
theorem dX9_readRule_148 : decode cX9_readRule 148 = .ok (.aload_n 0, 1) := by decide +kernel
theorem dX9_readRule_149 : decode cX9_readRule 149 = .ok (.iconst 0, 1) := by decide +kernel
theorem dX9_readRule_150 : decode cX9_readRule 150 = .ok (.aload_n 0, 1) := by decide +kernel
theorem dX9_readRule_151 : decode cX9_readRule 151 = .ok (.getfield 31, 3) := by decide +kernel
theorem dX9_readRule_154 : decode cX9_readRule 154 = .ok (.iconst 0, 1) := by decide +kernel
theorem dX9_readRule_155 : decode cX9_readRule 155 = .ok (.iaload, 1) := by decide +kernel
theorem dX9_readRule_156 : decode cX9_readRule 156 = .ok (.invokevirtual 169, 3) := by decide +kernel
theorem dX9_readRule_159 : decode cX9_readRule 159 = .ok (.iastore, 1) := by decide +kernel
theorem dX9_readRule_160 : decode cX9_readRule 160 = .ok (.aload_n 0, 1) := by decide +kernel
theorem dX9_readRule_161 : decode cX9_readRule 161 = .ok (.getfield 31, 3) := by decide +kernel
theorem dX9_readRule_164 : decode cX9_readRule 164 = .ok (.iconst 4, 1) := by decide +kernel
theorem dX9_readRule_165 : decode cX9_readRule 165 = .ok (.dup2, 1) := by decide +kernel
theorem dX9_readRule_166 : decode cX9_readRule 166 = .ok (.iaload, 1) := by decide +kernel
theorem dX9_readRule_167 : decode cX9_readRule 167 = .ok (.iconst 1, 1) := by decide +kernel
theorem dX9_readRule_168 : decode cX9_readRule 168 = .ok (.iadd, 1) := by decide +kernel
theorem dX9_readRule_169 : decode cX9_readRule 169 = .ok (.iastore, 1) := by decide +kernel
theorem dX9_readRule_170 : decode cX9_readRule 170 = .ok (.return_, 1) := by decide +kernel
theorem iuX9_readFirst_X9 : ∀ w ∈ u_ws RX9 TX9 42, w ∈ W_X9_readFirst := fun w h => List.mem_cons_of_mem _ (List.mem_append_right _ (List.mem_append_left _ (h)))
theorem iuX9_readOp_X9 : ∀ w ∈ u_ws RX9 TX9 42, w ∈ W_X9_readOp := fun w h => List.mem_cons_of_mem _ (List.mem_append_right _ (List.mem_append_left _ (h)))
theorem iuX9_readRule_X9 : ∀ w ∈ u_ws RX9 TX9 42, w ∈ W_X9_readRule := fun w h => List.mem_cons_of_mem _ (List.mem_append_right _ (List.mem_append_left _ (h)))
theorem gw_X9_readFirst_X9_expects : GoodIn W_X9_readFirst W_X9_expects := fun w h => ⟨List.mem_cons_of_mem _ (List.mem_append_right _ (List.mem_append_right _ (List.mem_append_left _ (h)))), (wI_X9_expects w h).2⟩
theorem gc_X9_readFirst_165_X9_expects : GoodIn W_X9_readFirst (wsV RX9 165 RX9 yX9_expects W_X9_expects) := goodIn_app (goodIn_sub (List.forall_mem_cons.mpr ⟨List.mem_cons_of_mem _ (List.mem_append_left _ (List.mem_of_getElem? (i := 0) rfl)), List.forall_mem_cons.mpr ⟨List.mem_cons_of_mem _ (List.mem_append_left _ (List.mem_of_getElem? (i := 1) rfl)), List.forall_mem_cons.mpr ⟨List.mem_cons_of_mem _ (List.mem_append_left _ (List.mem_of_getElem? (i := 2) rfl)), List.forall_mem_cons.mpr ⟨List.mem_cons_of_mem _ (List.mem_append_left _ (List.mem_of_getElem? (i := 3) rfl)), fun _ h => absurd h List.not_mem_nil⟩⟩⟩⟩) (by decide +kernel)) gw_X9_readFirst_X9_expects
theorem gw_X9_readFirst_X9_toldBy : GoodIn W_X9_readFirst W_X9_toldBy := fun w h => ⟨List.mem_cons_of_mem _ (List.mem_append_right _ (List.mem_append_right _ (List.mem_append_right _ (h)))), (wI_X9_toldBy w h).2⟩
theorem gc_X9_readFirst_176_X9_toldBy : GoodIn W_X9_readFirst (wsV RX9 176 RX9 yX9_toldBy W_X9_toldBy) := goodIn_app (goodIn_sub (List.forall_mem_cons.mpr ⟨List.mem_cons_of_mem _ (List.mem_append_left _ (List.mem_of_getElem? (i := 5) rfl)), List.forall_mem_cons.mpr ⟨List.mem_cons_of_mem _ (List.mem_append_left _ (List.mem_of_getElem? (i := 6) rfl)), List.forall_mem_cons.mpr ⟨List.mem_cons_of_mem _ (List.mem_append_left _ (List.mem_of_getElem? (i := 7) rfl)), List.forall_mem_cons.mpr ⟨List.mem_cons_of_mem _ (List.mem_append_left _ (List.mem_of_getElem? (i := 3) rfl)), fun _ h => absurd h List.not_mem_nil⟩⟩⟩⟩) (by decide +kernel)) gw_X9_readFirst_X9_toldBy
theorem gw_X9_readOp_X9_number : GoodIn W_X9_readOp W_X9_number := fun w h => ⟨List.mem_cons_of_mem _ (List.mem_append_right _ (List.mem_append_right _ (List.mem_append_right _ (List.mem_append_right _ (List.mem_append_right _ (h)))))), (wI_X9_number w h).2⟩
theorem gc_X9_readOp_169_X9_number : GoodIn W_X9_readOp (wsV RX9 169 RX9 yX9_number W_X9_number) := goodIn_app (goodIn_sub (List.forall_mem_cons.mpr ⟨List.mem_cons_of_mem _ (List.mem_append_left _ (List.mem_of_getElem? (i := 11) rfl)), List.forall_mem_cons.mpr ⟨List.mem_cons_of_mem _ (List.mem_append_left _ (List.mem_of_getElem? (i := 12) rfl)), List.forall_mem_cons.mpr ⟨List.mem_cons_of_mem _ (List.mem_append_left _ (List.mem_of_getElem? (i := 13) rfl)), List.forall_mem_cons.mpr ⟨List.mem_cons_of_mem _ (List.mem_append_left _ (List.mem_of_getElem? (i := 4) rfl)), fun _ h => absurd h List.not_mem_nil⟩⟩⟩⟩) (by decide +kernel)) gw_X9_readOp_X9_number
theorem gw_X9_readOp_X9_readCell : GoodIn W_X9_readOp W_X9_readCell := fun w h => ⟨List.mem_cons_of_mem _ (List.mem_append_right _ (List.mem_append_right _ (List.mem_append_right _ (List.mem_append_left _ (h))))), (wI_X9_readCell w h).2⟩
theorem gc_X9_readOp_184_X9_readCell : GoodIn W_X9_readOp (wsV RX9 184 RX9 yX9_readCell W_X9_readCell) := goodIn_app (goodIn_sub (List.forall_mem_cons.mpr ⟨List.mem_cons_of_mem _ (List.mem_append_left _ (List.mem_of_getElem? (i := 5) rfl)), List.forall_mem_cons.mpr ⟨List.mem_cons_of_mem _ (List.mem_append_left _ (List.mem_of_getElem? (i := 6) rfl)), List.forall_mem_cons.mpr ⟨List.mem_cons_of_mem _ (List.mem_append_left _ (List.mem_of_getElem? (i := 7) rfl)), List.forall_mem_cons.mpr ⟨List.mem_cons_of_mem _ (List.mem_append_left _ (List.mem_of_getElem? (i := 4) rfl)), fun _ h => absurd h List.not_mem_nil⟩⟩⟩⟩) (by decide +kernel)) gw_X9_readOp_X9_readCell
theorem gw_X9_readOp_X9_readKind : GoodIn W_X9_readOp W_X9_readKind := fun w h => ⟨List.mem_cons_of_mem _ (List.mem_append_right _ (List.mem_append_right _ (List.mem_append_left _ (h)))), (wI_X9_readKind w h).2⟩
theorem gc_X9_readOp_206_X9_readKind : GoodIn W_X9_readOp (wsV RX9 206 RX9 yX9_readKind W_X9_readKind) := goodIn_app (goodIn_sub (List.forall_mem_cons.mpr ⟨List.mem_cons_of_mem _ (List.mem_append_left _ (List.mem_of_getElem? (i := 1) rfl)), List.forall_mem_cons.mpr ⟨List.mem_cons_of_mem _ (List.mem_append_left _ (List.mem_of_getElem? (i := 2) rfl)), List.forall_mem_cons.mpr ⟨List.mem_cons_of_mem _ (List.mem_append_left _ (List.mem_of_getElem? (i := 3) rfl)), List.forall_mem_cons.mpr ⟨List.mem_cons_of_mem _ (List.mem_append_left _ (List.mem_of_getElem? (i := 4) rfl)), fun _ h => absurd h List.not_mem_nil⟩⟩⟩⟩) (by decide +kernel)) gw_X9_readOp_X9_readKind
theorem gw_X9_readOp_X9_readOther : GoodIn W_X9_readOp W_X9_readOther := fun w h => ⟨List.mem_cons_of_mem _ (List.mem_append_right _ (List.mem_append_right _ (List.mem_append_right _ (List.mem_append_right _ (List.mem_append_left _ (h)))))), (wI_X9_readOther w h).2⟩
theorem gc_X9_readOp_209_X9_readOther : GoodIn W_X9_readOp (wsV RX9 209 RX9 yX9_readOther W_X9_readOther) := goodIn_app (goodIn_sub (List.forall_mem_cons.mpr ⟨List.mem_cons_of_mem _ (List.mem_append_left _ (List.mem_of_getElem? (i := 8) rfl)), List.forall_mem_cons.mpr ⟨List.mem_cons_of_mem _ (List.mem_append_left _ (List.mem_of_getElem? (i := 9) rfl)), List.forall_mem_cons.mpr ⟨List.mem_cons_of_mem _ (List.mem_append_left _ (List.mem_of_getElem? (i := 10) rfl)), List.forall_mem_cons.mpr ⟨List.mem_cons_of_mem _ (List.mem_append_left _ (List.mem_of_getElem? (i := 4) rfl)), fun _ h => absurd h List.not_mem_nil⟩⟩⟩⟩) (by decide +kernel)) gw_X9_readOp_X9_readOther
theorem gw_X9_readRule_X9_number : GoodIn W_X9_readRule W_X9_number := fun w h => ⟨List.mem_cons_of_mem _ (List.mem_append_right _ (List.mem_append_right _ (List.mem_append_right _ (List.mem_append_right _ (List.mem_append_left _ (h)))))), (wI_X9_number w h).2⟩
theorem gc_X9_readRule_169_X9_number : GoodIn W_X9_readRule (wsV RX9 169 RX9 yX9_number W_X9_number) := goodIn_app (goodIn_sub (List.forall_mem_cons.mpr ⟨List.mem_cons_of_mem _ (List.mem_append_left _ (List.mem_of_getElem? (i := 8) rfl)), List.forall_mem_cons.mpr ⟨List.mem_cons_of_mem _ (List.mem_append_left _ (List.mem_of_getElem? (i := 9) rfl)), List.forall_mem_cons.mpr ⟨List.mem_cons_of_mem _ (List.mem_append_left _ (List.mem_of_getElem? (i := 10) rfl)), List.forall_mem_cons.mpr ⟨List.mem_cons_of_mem _ (List.mem_append_left _ (List.mem_of_getElem? (i := 4) rfl)), fun _ h => absurd h List.not_mem_nil⟩⟩⟩⟩) (by decide +kernel)) gw_X9_readRule_X9_number
theorem gw_X9_readRule_X9_readCell : GoodIn W_X9_readRule W_X9_readCell := fun w h => ⟨List.mem_cons_of_mem _ (List.mem_append_right _ (List.mem_append_right _ (List.mem_append_right _ (List.mem_append_left _ (h))))), (wI_X9_readCell w h).2⟩
theorem gc_X9_readRule_184_X9_readCell : GoodIn W_X9_readRule (wsV RX9 184 RX9 yX9_readCell W_X9_readCell) := goodIn_app (goodIn_sub (List.forall_mem_cons.mpr ⟨List.mem_cons_of_mem _ (List.mem_append_left _ (List.mem_of_getElem? (i := 5) rfl)), List.forall_mem_cons.mpr ⟨List.mem_cons_of_mem _ (List.mem_append_left _ (List.mem_of_getElem? (i := 6) rfl)), List.forall_mem_cons.mpr ⟨List.mem_cons_of_mem _ (List.mem_append_left _ (List.mem_of_getElem? (i := 7) rfl)), List.forall_mem_cons.mpr ⟨List.mem_cons_of_mem _ (List.mem_append_left _ (List.mem_of_getElem? (i := 4) rfl)), fun _ h => absurd h List.not_mem_nil⟩⟩⟩⟩) (by decide +kernel)) gw_X9_readRule_X9_readCell
theorem gw_X9_readRule_X9_readKind : GoodIn W_X9_readRule W_X9_readKind := fun w h => ⟨List.mem_cons_of_mem _ (List.mem_append_right _ (List.mem_append_right _ (List.mem_append_left _ (h)))), (wI_X9_readKind w h).2⟩
theorem gc_X9_readRule_206_X9_readKind : GoodIn W_X9_readRule (wsV RX9 206 RX9 yX9_readKind W_X9_readKind) := goodIn_app (goodIn_sub (List.forall_mem_cons.mpr ⟨List.mem_cons_of_mem _ (List.mem_append_left _ (List.mem_of_getElem? (i := 1) rfl)), List.forall_mem_cons.mpr ⟨List.mem_cons_of_mem _ (List.mem_append_left _ (List.mem_of_getElem? (i := 2) rfl)), List.forall_mem_cons.mpr ⟨List.mem_cons_of_mem _ (List.mem_append_left _ (List.mem_of_getElem? (i := 3) rfl)), List.forall_mem_cons.mpr ⟨List.mem_cons_of_mem _ (List.mem_append_left _ (List.mem_of_getElem? (i := 4) rfl)), fun _ h => absurd h List.not_mem_nil⟩⟩⟩⟩) (by decide +kernel)) gw_X9_readRule_X9_readKind
theorem gw_X9_readRule_X9_readOther : GoodIn W_X9_readRule W_X9_readOther := fun w h => ⟨List.mem_cons_of_mem _ (List.mem_append_right _ (List.mem_append_right _ (List.mem_append_right _ (List.mem_append_right _ (List.mem_append_right _ (h)))))), (wI_X9_readOther w h).2⟩
theorem gc_X9_readRule_209_X9_readOther : GoodIn W_X9_readRule (wsV RX9 209 RX9 yX9_readOther W_X9_readOther) := goodIn_app (goodIn_sub (List.forall_mem_cons.mpr ⟨List.mem_cons_of_mem _ (List.mem_append_left _ (List.mem_of_getElem? (i := 11) rfl)), List.forall_mem_cons.mpr ⟨List.mem_cons_of_mem _ (List.mem_append_left _ (List.mem_of_getElem? (i := 12) rfl)), List.forall_mem_cons.mpr ⟨List.mem_cons_of_mem _ (List.mem_append_left _ (List.mem_of_getElem? (i := 13) rfl)), List.forall_mem_cons.mpr ⟨List.mem_cons_of_mem _ (List.mem_append_left _ (List.mem_of_getElem? (i := 4) rfl)), fun _ h => absurd h List.not_mem_nil⟩⟩⟩⟩) (by decide +kernel)) gw_X9_readRule_X9_readOther
