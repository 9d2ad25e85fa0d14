theorem dX9_base_0 : decode cX9_base 0 = .ok (.aload_n 0, 1) := by decide +kernel
theorem dX9_base_1 : decode cX9_base 1 = .ok (.aload_n 0, 1) := by decide +kernel
theorem dX9_base_2 : decode cX9_base 2 = .ok (.getfield 99, 3) := by decide +kernel
theorem dX9_base_5 : decode cX9_base 5 = .ok (.putfield 102, 3) := by decide +kernel
theorem dX9_base_8 : decode cX9_base 8 = .ok (.aload_n 0, 1) := by decide +kernel
theorem dX9_base_9 : decode cX9_base 9 = .ok (.iconst 0, 1) := by decide +kernel
theorem dX9_base_10 : decode cX9_base 10 = .ok (.putfield 99, 3) := by decide +kernel
theorem dX9_base_13 : decode cX9_base 13 = .ok (.aload_n 0, 1) := by decide +kernel
theorem dX9_base_14 : decode cX9_base 14 = .ok (.iconst 0, 1) := by decide +kernel
theorem dX9_base_15 : decode cX9_base 15 = .ok (.putfield 105, 3) := by decide +kernel
theorem dX9_base_18 : decode cX9_base 18 = .ok (.aload_n 0, 1) := by decide +kernel
theorem dX9_base_19 : decode cX9_base 19 = .ok (.iconst 0, 1) := by decide +kernel
theorem dX9_base_20 : decode cX9_base 20 = .ok (.putfield 136, 3) := by decide +kernel
theorem dX9_base_23 : decode cX9_base 23 = .ok (.aload_n 0, 1) := by decide +kernel
theorem dX9_base_24 : decode cX9_base 24 = .ok (.iconst (-1), 1) := by decide +kernel
theorem dX9_base_25 : decode cX9_base 25 = .ok (.putfield 27, 3) := by decide +kernel
theorem dX9_base_28 : decode cX9_base 28 = .ok (.iconst 0, 1) := by decide +kernel
theorem dX9_base_29 : decode cX9_base 29 = .ok (.istore_n 1, 1) := by decide +kernel
theorem dX9_base_30 : decode cX9_base 30 = .ok (.iload_n 1, 1) := by decide +kernel
theorem dX9_base_31 : decode cX9_base 31 = .ok (.bipush 76, 2) := by decide +kernel
theorem dX9_base_33 : decode cX9_base 33 = .ok (.if_icmp .ge 16, 3) := by decide +kernel
theorem dX9_base_36 : decode cX9_base 36 = .ok (.aload_n 0, 1) := by decide +kernel
theorem dX9_base_37 : decode cX9_base 37 = .ok (.getfield 31, 3) := by decide +kernel
theorem dX9_base_40 : decode cX9_base 40 = .ok (.iload_n 1, 1) := by decide +kernel
theorem dX9_base_41 : decode cX9_base 41 = .ok (.iconst 0, 1) := by decide +kernel
theorem dX9_base_42 : decode cX9_base 42 = .ok (.iastore, 1) := by decide +kernel
theorem dX9_base_43 : decode cX9_base 43 = .ok (.iinc 1 1, 3) := by decide +kernel
theorem dX9_base_46 : decode cX9_base 46 = .ok (.goto (-16), 3) := by decide +kernel
theorem dX9_base_49 : decode cX9_base 49 = .ok (.aload_n 0, 1) := by decide +kernel
theorem dX9_base_50 : decode cX9_base 50 = .ok (.invokevirtual 155, 3) := by decide +kernel
theorem dX9_base_53 : decode cX9_base 53 = .ok (.aload_n 0, 1) := by decide +kernel
theorem dX9_base_54 : decode cX9_base 54 = .ok (.invokevirtual 139, 3) := by decide +kernel
theorem dX9_base_57 : decode cX9_base 57 = .ok (.ifCond .eq 17, 3) := by decide +kernel
theorem dX9_base_60 : decode cX9_base 60 = .ok (.aload_n 0, 1) := by decide +kernel
theorem dX9_base_61 : decode cX9_base 61 = .ok (.getfield 115, 3) := by decide +kernel
theorem dX9_base_64 : decode cX9_base 64 = .ok (.ifCond .eq 10, 3) := by decide +kernel
theorem dX9_base_67 : decode cX9_base 67 = .ok (.aload_n 0, 1) := by decide +kernel
theorem dX9_base_68 : decode cX9_base 68 = .ok (.invokevirtual 249, 3) := by decide +kernel
theorem dX9_base_71 : decode cX9_base 71 = .ok (.goto (-18), 3) := by decide +kernel
theorem dX9_base_74 : decode cX9_base 74 = .ok (.aload_n 0, 1) := by decide +kernel
theorem dX9_base_75 : decode cX9_base 75 = .ok (.invokevirtual 139, 3) := by decide +kernel
theorem dX9_base_78 : decode cX9_base 78 = .ok (.ifCond .ne 6, 3) := by decide +kernel
theorem dX9_base_81 : decode cX9_base 81 = .ok (.bipush (-4), 2) := by decide +kernel
theorem dX9_base_83 : decode cX9_base 83 = .ok (.ireturn, 1) := by decide +kernel
theorem dX9_base_84 : decode cX9_base 84 = .ok (.iconst 0, 1) := by decide +kernel
theorem dX9_base_85 : decode cX9_base 85 = .ok (.istore_n 1, 1) := by decide +kernel
theorem dX9_base_86 : decode cX9_base 86 = .ok (.iload_n 1, 1) := by decide +kernel
theorem dX9_base_87 : decode cX9_base 87 = .ok (.bipush 76, 2) := by decide +kernel
theorem dX9_base_89 : decode cX9_base 89 = .ok (.if_icmp .ge 21, 3) := by decide +kernel
theorem dX9_base_92 : decode cX9_base 92 = .ok (.aload_n 0, 1) := by decide +kernel
theorem dX9_base_93 : decode cX9_base 93 = .ok (.getfield 9, 3) := by decide +kernel
theorem dX9_base_96 : decode cX9_base 96 = .ok (.iload_n 1, 1) := by decide +kernel
theorem dX9_base_97 : decode cX9_base 97 = .ok (.aload_n 0, 1) := by decide +kernel
theorem dX9_base_98 : decode cX9_base 98 = .ok (.getfield 31, 3) := by decide +kernel
theorem dX9_base_101 : decode cX9_base 101 = .ok (.iload_n 1, 1) := by decide +kernel
theorem dX9_base_102 : decode cX9_base 102 = .ok (.iaload, 1) := by decide +kernel
theorem dX9_base_103 : decode cX9_base 103 = .ok (.iastore, 1) := by decide +kernel
theorem dX9_base_104 : decode cX9_base 104 = .ok (.iinc 1 1, 3) := by decide +kernel
theorem dX9_base_107 : decode cX9_base 107 = .ok (.goto (-21), 3) := by decide +kernel
theorem dX9_base_110 : decode cX9_base 110 = .ok (.aload_n 0, 1) := by decide +kernel
theorem dX9_base_111 : decode cX9_base 111 = .ok (.getfield 9, 3) := by decide +kernel
theorem dX9_base_114 : decode cX9_base 114 = .ok (.bipush 7, 2) := by decide +kernel
theorem dX9_base_116 : decode cX9_base 116 = .ok (.iaload, 1) := by decide +kernel
theorem dX9_base_117 : decode cX9_base 117 = .ok (.ireturn, 1) := by decide +kernel
theorem dX9_isFull_0 : decode cX9_isFull 0 = .ok (.aload_n 0, 1) := by decide +kernel
theorem dX9_isFull_1 : decode cX9_isFull 1 = .ok (.ldc 222, 2) := by decide +kernel
theorem dX9_isFull_3 : decode cX9_isFull 3 = .ok (.invokevirtual 151, 3) := by decide +kernel
theorem dX9_isFull_6 : decode cX9_isFull 6 = .ok (.ifCond .eq 13, 3) := by decide +kernel
theorem dX9_isFull_9 : decode cX9_isFull 9 = .ok (.aload_n 0, 1) := by decide +kernel
theorem dX9_isFull_10 : decode cX9_isFull 10 = .ok (.getfield 31, 3) := by decide +kernel
theorem dX9_isFull_13 : decode cX9_isFull 13 = .ok (.iconst 3, 1) := by decide +kernel
theorem dX9_isFull_14 : decode cX9_isFull 14 = .ok (.iaload, 1) := by decide +kernel
theorem dX9_isFull_15 : decode cX9_isFull 15 = .ok (.iconst 3, 1) := by decide +kernel
theorem dX9_isFull_16 : decode cX9_isFull 16 = .ok (.if_icmp .eq 22, 3) := by decide +kernel
theorem dX9_isFull_19 : decode cX9_isFull 19 = .ok (.aload_n 0, 1) := by decide +kernel
theorem dX9_isFull_20 : decode cX9_isFull 20 = .ok (.ldc 224, 2) := by decide +kernel
theorem dX9_isFull_22 : decode cX9_isFull 22 = .ok (.invokevirtual 151, 3) := by decide +kernel
theorem dX9_isFull_25 : decode cX9_isFull 25 = .ok (.ifCond .eq 15, 3) := by decide +kernel
theorem dX9_isFull_28 : decode cX9_isFull 28 = .ok (.aload_n 0, 1) := by decide +kernel
theorem dX9_isFull_29 : decode cX9_isFull 29 = .ok (.getfield 31, 3) := by decide +kernel
theorem dX9_isFull_32 : decode cX9_isFull 32 = .ok (.iconst 4, 1) := by decide +kernel
theorem dX9_isFull_33 : decode cX9_isFull 33 = .ok (.iaload, 1) := by decide +kernel
theorem dX9_isFull_34 : decode cX9_isFull 34 = .ok (.iconst 5, 1) := by decide +kernel
theorem dX9_isFull_35 : decode cX9_isFull 35 = .ok (.if_icmp .ne 5, 3) := by decide +kernel
theorem dX9_isFull_38 : decode cX9_isFull 38 = .ok (.iconst 1, 1) := by decide +kernel
theorem dX9_isFull_39 : decode cX9_isFull 39 = .ok (.ireturn, 1) := by decide +kernel
theorem dX9_isFull_40 : decode cX9_isFull 40 = .ok (.aload_n 0, 1) := by decide +kernel
theorem dX9_isFull_41 : decode cX9_isFull 41 = .ok (.ldc 226, 2) := by decide +kernel
theorem dX9_isFull_43 : decode cX9_isFull 43 = .ok (.invokevirtual 151, 3) := by decide +kernel
theorem dX9_isFull_46 : decode cX9_isFull 46 = .ok (.ifCond .eq 17, 3) := by decide +kernel
theorem dX9_isFull_49 : decode cX9_isFull 49 = .ok (.aload_n 0, 1) := by decide +kernel
theorem dX9_isFull_50 : decode cX9_isFull 50 = .ok (.getfield 31, 3) := by decide +kernel
theorem dX9_isFull_53 : decode cX9_isFull 53 = .ok (.iconst 5, 1) := by decide +kernel
theorem dX9_isFull_54 : decode cX9_isFull 54 = .ok (.iaload, 1) := by decide +kernel
theorem dX9_isFull_55 : decode cX9_isFull 55 = .ok (.iconst 5, 1) := by decide +kernel
theorem dX9_isFull_56 : decode cX9_isFull 56 = .ok (.if_icmp .ne 7, 3) := by decide +kernel
theorem dX9_isFull_59 : decode cX9_isFull 59 = .ok (.iconst 1, 1) := by decide +kernel
theorem dX9_isFull_60 : decode cX9_isFull 60 = .ok (.goto 4, 3) := by decide +kernel
theorem dX9_isFull_63 : decode cX9_isFull 63 = .ok (.iconst 0, 1) := by decide +kernel
theorem dX9_isFull_64 : decode cX9_isFull 64 = .ok (.ireturn, 1) := by decide +kernel
theorem dX9_readLine_0 : decode cX9_readLine 0 = .ok (.aload_n 0, 1) := by decide +kernel
theorem dX9_readLine_1 : decode cX9_readLine 1 = .ok (.getfield 31, 3) := by decide +kernel
theorem dX9_readLine_4 : decode cX9_readLine 4 = .ok (.bipush 7, 2) := by decide +kernel
theorem dX9_readLine_6 : decode cX9_readLine 6 = .ok (.iaload, 1) := by decide +kernel
theorem dX9_readLine_7 : decode cX9_readLine 7 = .ok (.ifCond .ne 10, 3) := by decide +kernel
theorem dX9_readLine_10 : decode cX9_readLine 10 = .ok (.aload_n 0, 1) := by decide +kernel
theorem dX9_readLine_11 : decode cX9_readLine 11 = .ok (.invokevirtual 243, 3) := by decide +kernel
theorem dX9_readLine_14 : decode cX9_readLine 14 = .ok (.goto 7, 3) := by decide +kernel
theorem dX9_readLine_17 : decode cX9_readLine 17 = .ok (.aload_n 0, 1) := by decide +kernel
theorem dX9_readLine_18 : decode cX9_readLine 18 = .ok (.invokevirtual 246, 3) := by decide +kernel
theorem dX9_readLine_21 : decode cX9_readLine 21 = .ok (.aload_n 0, 1) := by decide +kernel
theorem dX9_readLine_22 : decode cX9_readLine 22 = .ok (.invokevirtual 139, 3) := by decide +kernel
theorem dX9_readLine_25 : decode cX9_readLine 25 = .ok (.ifCond .eq 16, 3) := by decide +kernel
theorem dX9_readLine_28 : decode cX9_readLine 28 = .ok (.aload_n 0, 1) := by decide +kernel
theorem dX9_readLine_29 : decode cX9_readLine 29 = .ok (.getfield 115, 3) := by decide +kernel
theorem dX9_readLine_32 : decode cX9_readLine 32 = .ok (.iconst 3, 1) := by decide +kernel
theorem dX9_readLine_33 : decode cX9_readLine 33 = .ok (.if_icmp .eq 8, 3) := by decide +kernel
theorem dX9_readLine_36 : decode cX9_readLine 36 = .ok (.aload_n 0, 1) := by decide +kernel
theorem dX9_readLine_37 : decode cX9_readLine 37 = .ok (.iconst 1, 1) := by decide +kernel
theorem dX9_readLine_38 : decode cX9_readLine 38 = .ok (.invokevirtual 161, 3) := by decide +kernel
theorem dX9_readLine_41 : decode cX9_readLine 41 = .ok (.aload_n 0, 1) := by decide +kernel
theorem dX9_readLine_42 : decode cX9_readLine 42 = .ok (.invokevirtual 139, 3) := by decide +kernel
theorem dX9_readLine_45 : decode cX9_readLine 45 = .ok (.ifCond .eq 7, 3) := by decide +kernel
theorem dX9_readLine_48 : decode cX9_readLine 48 = .ok (.aload_n 0, 1) := by decide +kernel
theorem dX9_readLine_49 : decode cX9_readLine 49 = .ok (.invokevirtual 155, 3) := by decide +kernel
theorem dX9_readLine_52 : decode cX9_readLine 52 = .ok (.aload_n 0, 1) := by decide +kernel
theorem dX9_readLine_53 : decode cX9_readLine 53 = .ok (.getfield 31, 3) := by decide +kernel
theorem dX9_readLine_56 : decode cX9_readLine 56 = .ok (.bipush 7, 2) := by decide +kernel
theorem dX9_readLine_58 : decode cX9_readLine 58 = .ok (.dup2, 1) := by decide +kernel
theorem dX9_readLine_59 : decode cX9_readLine 59 = .ok (.iaload, 1) := by decide +kernel
theorem dX9_readLine_60 : decode cX9_readLine 60 = .ok (.iconst 1, 1) := by decide +kernel
theorem dX9_readLine_61 : decode cX9_readLine 61 = .ok (.iadd, 1) := by decide +kernel
theorem dX9_readLine_62 : decode cX9_readLine 62 = .ok (.iastore, 1) := by decide +kernel
theorem dX9_readLine_63 : decode cX9_readLine 63 = .ok (.return_, 1) := by decide +kernel
theorem dX9_readNext_0 : decode cX9_readNext 0 = .ok (.aload_n 0, 1) := by decide +kernel
theorem dX9_readNext_1 : decode cX9_readNext 1 = .ok (.ldc 222, 2) := by decide +kernel
theorem dX9_readNext_3 : decode cX9_readNext 3 = .ok (.invokevirtual 151, 3) := by decide +kernel
theorem dX9_readNext_6 : decode cX9_readNext 6 = .ok (.ifCond .ne 21, 3) := by decide +kernel
theorem dX9_readNext_9 : decode cX9_readNext 9 = .ok (.aload_n 0, 1) := by decide +kernel
theorem dX9_readNext_10 : decode cX9_readNext 10 = .ok (.ldc 224, 2) := by decide +kernel
theorem dX9_readNext_12 : decode cX9_readNext 12 = .ok (.invokevirtual 151, 3) := by decide +kernel
theorem dX9_readNext_15 : decode cX9_readNext 15 = .ok (.ifCond .ne 12, 3) := by decide +kernel
theorem dX9_readNext_18 : decode cX9_readNext 18 = .ok (.aload_n 0, 1) := by decide +kernel
theorem dX9_readNext_19 : decode cX9_readNext 19 = .ok (.ldc 226, 2) := by decide +kernel
theorem dX9_readNext_21 : decode cX9_readNext 21 = .ok (.invokevirtual 151, 3) := by decide +kernel
theorem dX9_readNext_24 : decode cX9_readNext 24 = .ok (.ifCond .eq 7, 3) := by decide +kernel
theorem dX9_readNext_27 : decode cX9_readNext 27 = .ok (.iconst 1, 1) := by decide +kernel
theorem dX9_readNext_28 : decode cX9_readNext 28 = .ok (.goto 4, 3) := by decide +kernel
theorem dX9_readNext_31 : decode cX9_readNext 31 = .ok (.iconst 0, 1) := by decide +kernel
theorem dX9_readNext_32 : decode cX9_readNext 32 = .ok (.istore_n 1, 1) := by decide +kernel
theorem dX9_readNext_33 : decode cX9_readNext 33 = .ok (.iload_n 1, 1) := by decide +kernel
theorem dX9_readNext_34 : decode cX9_readNext 34 = .ok (.ifCond .ne 8, 3) := by decide +kernel
theorem dX9_readNext_37 : decode cX9_readNext 37 = .ok (.aload_n 0, 1) := by decide +kernel
theorem dX9_readNext_38 : decode cX9_readNext 38 = .ok (.iconst 1, 1) := by decide +kernel
theorem dX9_readNext_39 : decode cX9_readNext 39 = .ok (.invokevirtual 161, 3) := by decide +kernel
theorem dX9_readNext_42 : decode cX9_readNext 42 = .ok (.aload_n 0, 1) := by decide +kernel
theorem dX9_readNext_43 : decode cX9_readNext 43 = .ok (.invokevirtual 228, 3) := by decide +kernel
theorem dX9_readNext_46 : decode cX9_readNext 46 = .ok (.ifCond .eq 8, 3) := by decide +kernel
theorem dX9_readNext_49 : decode cX9_readNext 49 = .ok (.aload_n 0, 1) := by decide +kernel
theorem dX9_readNext_50 : decode cX9_readNext 50 = .ok (.iconst 3, 1) := by decide +kernel
theorem dX9_readNext_51 : decode cX9_readNext 51 = .ok (.invokevirtual 161, 3) := by decide +kernel
theorem dX9_readNext_54 : decode cX9_readNext 54 = .ok (.aload_n 0, 1) := by decide +kernel
theorem dX9_readNext_55 : decode cX9_readNext 55 = .ok (.invokevirtual 139, 3) := by decide +kernel
theorem dX9_readNext_58 : decode cX9_readNext 58 = .ok (.ifCond .ne 4, 3) := by decide +kernel
theorem dX9_readNext_61 : decode cX9_readNext 61 = .ok (.return_, 1) := by decide +kernel
theorem dX9_readNext_62 : decode cX9_readNext 62 = .ok (.aload_n 0, 1) := by decide +kernel
theorem dX9_readNext_63 : decode cX9_readNext 63 = .ok (.ldc 222, 2) := by decide +kernel
theorem dX9_readNext_65 : decode cX9_readNext 65 = .ok (.invokevirtual 158, 3) := by decide +kernel
theorem dX9_readNext_68 : decode cX9_readNext 68 = .ok (.ifCond .eq 46, 3) := by decide +kernel
theorem dX9_readNext_71 : decode cX9_readNext 71 = .ok (.aload_n 0, 1) := by decide +kernel
theorem dX9_readNext_72 : decode cX9_readNext 72 = .ok (.getfield 31, 3) := by decide +kernel
theorem dX9_readNext_75 : decode cX9_readNext 75 = .ok (.bipush 8, 2) := by decide +kernel
theorem dX9_readNext_77 : decode cX9_readNext 77 = .ok (.aload_n 0, 1) := by decide +kernel
theorem dX9_readNext_78 : decode cX9_readNext 78 = .ok (.getfield 31, 3) := by decide +kernel
theorem dX9_readNext_81 : decode cX9_readNext 81 = .ok (.iconst 3, 1) := by decide +kernel
theorem dX9_readNext_82 : decode cX9_readNext 82 = .ok (.iaload, 1) := by decide +kernel
theorem dX9_readNext_83 : decode cX9_readNext 83 = .ok (.iadd, 1) := by decide +kernel
theorem dX9_readNext_84 : decode cX9_readNext 84 = .ok (.aload_n 0, 1) := by decide +kernel
theorem dX9_readNext_85 : decode cX9_readNext 85 = .ok (.ldc 231, 2) := by decide +kernel
theorem dX9_readNext_87 : decode cX9_readNext 87 = .ok (.ldc 232, 2) := by decide +kernel
theorem dX9_readNext_89 : decode cX9_readNext 89 = .ok (.ldc 233, 2) := by decide +kernel
theorem dX9_readNext_91 : decode cX9_readNext 91 = .ok (.ldc 235, 2) := by decide +kernel
theorem dX9_readNext_93 : decode cX9_readNext 93 = .ok (.ldc 220, 2) := by decide +kernel
theorem dX9_readNext_95 : decode cX9_readNext 95 = .ok (.ldc 220, 2) := by decide +kernel
theorem dX9_readNext_97 : decode cX9_readNext 97 = .ok (.invokevirtual 206, 3) := by decide +kernel
theorem dX9_readNext_100 : decode cX9_readNext 100 = .ok (.iastore, 1) := by decide +kernel
theorem dX9_readNext_101 : decode cX9_readNext 101 = .ok (.aload_n 0, 1) := by decide +kernel
theorem dX9_readNext_102 : decode cX9_readNext 102 = .ok (.getfield 31, 3) := by decide +kernel
theorem dX9_readNext_105 : decode cX9_readNext 105 = .ok (.iconst 3, 1) := by decide +kernel
theorem dX9_readNext_106 : decode cX9_readNext 106 = .ok (.dup2, 1) := by decide +kernel
theorem dX9_readNext_107 : decode cX9_readNext 107 = .ok (.iaload, 1) := by decide +kernel
theorem dX9_readNext_108 : decode cX9_readNext 108 = .ok (.iconst 1, 1) := by decide +kernel
theorem dX9_readNext_109 : decode cX9_readNext 109 = .ok (.iadd, 1) := by decide +kernel
theorem dX9_readNext_110 : decode cX9_readNext 110 = .ok (.iastore, 1) := by decide +kernel
theorem dX9_readNext_111 : decode cX9_readNext 111 = .ok (.goto 27, 3) := by decide +kernel
theorem dX9_readNext_114 : decode cX9_readNext 114 = .ok (.aload_n 0, 1) := by decide +kernel
theorem dX9_readNext_115 : decode cX9_readNext 115 = .ok (.ldc 224, 2) := by decide +kernel
theorem dX9_readNext_117 : decode cX9_readNext 117 = .ok (.invokevirtual 158, 3) := by decide +kernel
theorem dX9_readNext_120 : decode cX9_readNext 120 = .ok (.ifCond .eq 10, 3) := by decide +kernel
theorem dX9_readNext_123 : decode cX9_readNext 123 = .ok (.aload_n 0, 1) := by decide +kernel
theorem dX9_readNext_124 : decode cX9_readNext 124 = .ok (.invokevirtual 237, 3) := by decide +kernel
theorem dX9_readNext_127 : decode cX9_readNext 127 = .ok (.goto 11, 3) := by decide +kernel
theorem dX9_readNext_130 : decode cX9_readNext 130 = .ok (.aload_n 0, 1) := by decide +kernel
theorem dX9_readNext_131 : decode cX9_readNext 131 = .ok (.invokevirtual 155, 3) := by decide +kernel
theorem dX9_readNext_134 : decode cX9_readNext 134 = .ok (.aload_n 0, 1) := by decide +kernel
theorem dX9_readNext_135 : decode cX9_readNext 135 = .ok (.invokevirtual 240, 3) := by decide +kernel
theorem dX9_readNext_138 : decode cX9_readNext 138 = .ok (.return_, 1) := by decide +kernel
theorem iuX9_base_X9 : ∀ w ∈ u_ws RX9 TX9 42, w ∈ W_X9_base := fun w h => List.mem_cons_of_mem _ (List.mem_append_right _ (List.mem_append_left _ (h)))
theorem iuX9_isFull_X9 : ∀ w ∈ u_ws RX9 TX9 42, w ∈ W_X9_isFull := fun w h => List.mem_cons_of_mem _ (List.mem_append_right _ (List.mem_append_left _ (h)))
theorem iuX9_readLine_X9 : ∀ w ∈ u_ws RX9 TX9 42, w ∈ W_X9_readLine := fun w h => List.mem_cons_of_mem _ (List.mem_append_right _ (List.mem_append_left _ (h)))
theorem iuX9_readNext_X9 : ∀ w ∈ u_ws RX9 TX9 42, w ∈ W_X9_readNext := fun w h => List.mem_cons_of_mem _ (List.mem_append_right _ (List.mem_append_left _ (h)))
theorem gw_X9_base_X9_good : GoodIn W_X9_base W_X9_good := fun w h => ⟨List.mem_cons_of_mem _ (List.mem_append_right _ (List.mem_append_right _ (List.mem_append_right _ (List.mem_append_left _ (h))))), (wI_X9_good w h).2⟩
theorem gc_X9_base_139_X9_good : GoodIn W_X9_base (wsV RX9 139 RX9 yX9_good W_X9_good) := goodIn_app (goodIn_sub (List.forall_mem_cons.mpr ⟨List.mem_cons_of_mem _ (List.mem_append_left _ (List.mem_of_getElem? (i := 10) rfl)), List.forall_mem_cons.mpr ⟨List.mem_cons_of_mem _ (List.mem_append_left _ (List.mem_of_getElem? (i := 11) rfl)), List.forall_mem_cons.mpr ⟨List.mem_cons_of_mem _ (List.mem_append_left _ (List.mem_of_getElem? (i := 12) rfl)), List.forall_mem_cons.mpr ⟨List.mem_cons_of_mem _ (List.mem_append_left _ (List.mem_of_getElem? (i := 9) rfl)), fun _ h => absurd h List.not_mem_nil⟩⟩⟩⟩) (by decide +kernel)) gw_X9_base_X9_good
theorem gw_X9_base_X9_advance : GoodIn W_X9_base W_X9_advance := fun w h => ⟨List.mem_cons_of_mem _ (List.mem_append_right _ (List.mem_append_right _ (List.mem_append_left _ (h)))), (wI_X9_advance w h).2⟩
theorem gc_X9_base_155_X9_advance : GoodIn W_X9_base (wsV RX9 155 RX9 yX9_advance W_X9_advance) := goodIn_app (goodIn_sub (List.forall_mem_cons.mpr ⟨List.mem_cons_of_mem _ (List.mem_append_left _ (List.mem_of_getElem? (i := 6) rfl)), List.forall_mem_cons.mpr ⟨List.mem_cons_of_mem _ (List.mem_append_left _ (List.mem_of_getElem? (i := 7) rfl)), List.forall_mem_cons.mpr ⟨List.mem_cons_of_mem _ (List.mem_append_left _ (List.mem_of_getElem? (i := 8) rfl)), List.forall_mem_cons.mpr ⟨List.mem_cons_of_mem _ (List.mem_append_left _ (List.mem_of_getElem? (i := 9) rfl)), fun _ h => absurd h List.not_mem_nil⟩⟩⟩⟩) (by decide +kernel)) gw_X9_base_X9_advance
theorem gw_X9_base_X9_readLine : GoodIn W_X9_base W_X9_readLine := fun w h => ⟨List.mem_cons_of_mem _ (List.mem_append_right _ (List.mem_append_right _ (List.mem_append_right _ (List.mem_append_right _ (h))))), (wI_X9_readLine w h).2⟩
theorem gc_X9_base_249_X9_readLine : GoodIn W_X9_base (wsV RX9 249 RX9 yX9_readLine W_X9_readLine) := goodIn_app (goodIn_sub (List.forall_mem_cons.mpr ⟨List.mem_cons_of_mem _ (List.mem_append_left _ (List.mem_of_getElem? (i := 14) rfl)), List.forall_mem_cons.mpr ⟨List.mem_cons_of_mem _ (List.mem_append_left _ (List.mem_of_getElem? (i := 15) rfl)), List.forall_mem_cons.mpr ⟨List.mem_cons_of_mem _ (List.mem_append_left _ (List.mem_of_getElem? (i := 16) rfl)), List.forall_mem_cons.mpr ⟨List.mem_cons_of_mem _ (List.mem_append_left _ (List.mem_of_getElem? (i := 9) rfl)), fun _ h => absurd h List.not_mem_nil⟩⟩⟩⟩) (by decide +kernel)) gw_X9_base_X9_readLine
theorem gw_X9_isFull_X9_is : GoodIn W_X9_isFull W_X9_is := fun w h => ⟨List.mem_cons_of_mem _ (List.mem_append_right _ (List.mem_append_right _ (h))), (wI_X9_is w h).2⟩
theorem gc_X9_isFull_151_X9_is : GoodIn W_X9_isFull (wsV RX9 151 RX9 yX9_is W_X9_is) := goodIn_app (goodIn_sub (List.forall_mem_cons.mpr ⟨List.mem_cons_of_mem _ (List.mem_append_left _ (List.mem_of_getElem? (i := 0) rfl)), List.forall_mem_cons.mpr ⟨List.mem_cons_of_mem _ (List.mem_append_left _ (List.mem_of_getElem? (i := 1) rfl)), List.forall_mem_cons.mpr ⟨List.mem_cons_of_mem _ (List.mem_append_left _ (List.mem_of_getElem? (i := 2) rfl)), List.forall_mem_cons.mpr ⟨List.mem_cons_of_mem _ (List.mem_append_left _ (List.mem_of_getElem? (i := 3) rfl)), fun _ h => absurd h List.not_mem_nil⟩⟩⟩⟩) (by decide +kernel)) gw_X9_isFull_X9_is
theorem gw_X9_readLine_X9_good : GoodIn W_X9_readLine W_X9_good := fun w h => ⟨List.mem_cons_of_mem _ (List.mem_append_right _ (List.mem_append_right _ (List.mem_append_right _ (List.mem_append_right _ (List.mem_append_left _ (h)))))), (wI_X9_good w h).2⟩
theorem gc_X9_readLine_139_X9_good : GoodIn W_X9_readLine (wsV RX9 139 RX9 yX9_good W_X9_good) := goodIn_app (goodIn_sub (List.forall_mem_cons.mpr ⟨List.mem_cons_of_mem _ (List.mem_append_left _ (List.mem_of_getElem? (i := 8) rfl)), List.forall_mem_cons.mpr ⟨List.mem_cons_of_mem _ (List.mem_append_left _ (List.mem_of_getElem? (i := 9) rfl)), List.forall_mem_cons.mpr ⟨List.mem_cons_of_mem _ (List.mem_append_left _ (List.mem_of_getElem? (i := 10) rfl)), List.forall_mem_cons.mpr ⟨List.mem_cons_of_mem _ (List.mem_append_left _ (List.mem_of_getElem? (i := 4) rfl)), fun _ h => absurd h List.not_mem_nil⟩⟩⟩⟩) (by decide +kernel)) gw_X9_readLine_X9_good
theorem gw_X9_readLine_X9_advance : GoodIn W_X9_readLine W_X9_advance := fun w h => ⟨List.mem_cons_of_mem _ (List.mem_append_right _ (List.mem_append_right _ (List.mem_append_right _ (List.mem_append_right _ (List.mem_append_right _ (List.mem_append_right _ (h))))))), (wI_X9_advance w h).2⟩
theorem gc_X9_readLine_155_X9_advance : GoodIn W_X9_readLine (wsV RX9 155 RX9 yX9_advance W_X9_advance) := goodIn_app (goodIn_sub (List.forall_mem_cons.mpr ⟨List.mem_cons_of_mem _ (List.mem_append_left _ (List.mem_of_getElem? (i := 15) rfl)), List.forall_mem_cons.mpr ⟨List.mem_cons_of_mem _ (List.mem_append_left _ (List.mem_of_getElem? (i := 16) rfl)), List.forall_mem_cons.mpr ⟨List.mem_cons_of_mem _ (List.mem_append_left _ (List.mem_of_getElem? (i := 17) rfl)), List.forall_mem_cons.mpr ⟨List.mem_cons_of_mem _ (List.mem_append_left _ (List.mem_of_getElem? (i := 4) rfl)), fun _ h => absurd h List.not_mem_nil⟩⟩⟩⟩) (by decide +kernel)) gw_X9_readLine_X9_advance
theorem gw_X9_readLine_X9_errs : GoodIn W_X9_readLine W_X9_errs := fun w h => ⟨List.mem_cons_of_mem _ (List.mem_append_right _ (List.mem_append_right _ (List.mem_append_right _ (List.mem_append_right _ (List.mem_append_right _ (List.mem_append_left _ (h))))))), (wI_X9_errs w h).2⟩
theorem gc_X9_readLine_161_X9_errs : GoodIn W_X9_readLine (wsV RX9 161 RX9 yX9_errs W_X9_errs) := goodIn_app (goodIn_sub (List.forall_mem_cons.mpr ⟨List.mem_cons_of_mem _ (List.mem_append_left _ (List.mem_of_getElem? (i := 12) rfl)), List.forall_mem_cons.mpr ⟨List.mem_cons_of_mem _ (List.mem_append_left _ (List.mem_of_getElem? (i := 13) rfl)), List.forall_mem_cons.mpr ⟨List.mem_cons_of_mem _ (List.mem_append_left _ (List.mem_of_getElem? (i := 14) rfl)), List.forall_mem_cons.mpr ⟨List.mem_cons_of_mem _ (List.mem_append_left _ (List.mem_of_getElem? (i := 4) rfl)), fun _ h => absurd h List.not_mem_nil⟩⟩⟩⟩) (by decide +kernel)) gw_X9_readLine_X9_errs
theorem gw_X9_readLine_X9_readFirst : GoodIn W_X9_readLine W_X9_readFirst := fun w h => ⟨List.mem_cons_of_mem _ (List.mem_append_right _ (List.mem_append_right _ (List.mem_append_left _ (h)))), (wI_X9_readFirst w h).2⟩
theorem gc_X9_readLine_243_X9_readFirst : GoodIn W_X9_readLine (wsV RX9 243 RX9 yX9_readFirst W_X9_readFirst) := goodIn_app (goodIn_sub (List.forall_mem_cons.mpr ⟨List.mem_cons_of_mem _ (List.mem_append_left _ (List.mem_of_getElem? (i := 1) rfl)), List.forall_mem_cons.mpr ⟨List.mem_cons_of_mem _ (List.mem_append_left _ (List.mem_of_getElem? (i := 2) rfl)), List.forall_mem_cons.mpr ⟨List.mem_cons_of_mem _ (List.mem_append_left _ (List.mem_of_getElem? (i := 3) rfl)), List.forall_mem_cons.mpr ⟨List.mem_cons_of_mem _ (List.mem_append_left _ (List.mem_of_getElem? (i := 4) rfl)), fun _ h => absurd h List.not_mem_nil⟩⟩⟩⟩) (by decide +kernel)) gw_X9_readLine_X9_readFirst
theorem gw_X9_readLine_X9_readNext : GoodIn W_X9_readLine W_X9_readNext := fun w h => ⟨List.mem_cons_of_mem _ (List.mem_append_right _ (List.mem_append_right _ (List.mem_append_right _ (List.mem_append_left _ (h))))), (wI_X9_readNext w h).2⟩
theorem gc_X9_readLine_246_X9_readNext : GoodIn W_X9_readLine (wsV RX9 246 RX9 yX9_readNext W_X9_readNext) := goodIn_app (goodIn_sub (List.forall_mem_cons.mpr ⟨List.mem_cons_of_mem _ (List.mem_append_left _ (List.mem_of_getElem? (i := 5) rfl)), List.forall_mem_cons.mpr ⟨List.mem_cons_of_mem _ (List.mem_append_left _ (List.mem_of_getElem? (i := 6) rfl)), List.forall_mem_cons.mpr ⟨List.mem_cons_of_mem _ (List.mem_append_left _ (List.mem_of_getElem? (i := 7) rfl)), List.forall_mem_cons.mpr ⟨List.mem_cons_of_mem _ (List.mem_append_left _ (List.mem_of_getElem? (i := 4) rfl)), fun _ h => absurd h List.not_mem_nil⟩⟩⟩⟩) (by decide +kernel)) gw_X9_readLine_X9_readNext
theorem gw_X9_readNext_X9_good : GoodIn W_X9_readNext W_X9_good := fun w h => ⟨List.mem_cons_of_mem _ (List.mem_append_right _ (List.mem_append_right _ (List.mem_append_right _ (List.mem_append_right _ (List.mem_append_right _ (List.mem_append_left _ (h))))))), (wI_X9_good w h).2⟩
theorem gc_X9_readNext_139_X9_good : GoodIn W_X9_readNext (wsV RX9 139 RX9 yX9_good W_X9_good) := goodIn_app (goodIn_sub (List.forall_mem_cons.mpr ⟨List.mem_cons_of_mem _ (List.mem_append_left _ (List.mem_of_getElem? (i := 10) rfl)), List.forall_mem_cons.mpr ⟨List.mem_cons_of_mem _ (List.mem_append_left _ (List.mem_of_getElem? (i := 11) rfl)), List.forall_mem_cons.mpr ⟨List.mem_cons_of_mem _ (List.mem_append_left _ (List.mem_of_getElem? (i := 12) rfl)), List.forall_mem_cons.mpr ⟨List.mem_cons_of_mem _ (List.mem_append_left _ (List.mem_of_getElem? (i := 3) rfl)), fun _ h => absurd h List.not_mem_nil⟩⟩⟩⟩) (by decide +kernel)) gw_X9_readNext_X9_good
theorem gw_X9_readNext_X9_is : GoodIn W_X9_readNext W_X9_is := fun w h => ⟨List.mem_cons_of_mem _ (List.mem_append_right _ (List.mem_append_right _ (List.mem_append_left _ (h)))), (wI_X9_is w h).2⟩
theorem gc_X9_readNext_151_X9_is : GoodIn W_X9_readNext (wsV RX9 151 RX9 yX9_is W_X9_is) := goodIn_app (goodIn_sub (List.forall_mem_cons.mpr ⟨List.mem_cons_of_mem _ (List.mem_append_left _ (List.mem_of_getElem? (i := 0) rfl)), List.forall_mem_cons.mpr ⟨List.mem_cons_of_mem _ (List.mem_append_left _ (List.mem_of_getElem? (i := 1) rfl)), List.forall_mem_cons.mpr ⟨List.mem_cons_of_mem _ (List.mem_append_left _ (List.mem_of_getElem? (i := 2) rfl)), List.forall_mem_cons.mpr ⟨List.mem_cons_of_mem _ (List.mem_append_left _ (List.mem_of_getElem? (i := 3) rfl)), fun _ h => absurd h List.not_mem_nil⟩⟩⟩⟩) (by decide +kernel)) gw_X9_readNext_X9_is
theorem gw_X9_readNext_X9_advance : GoodIn W_X9_readNext W_X9_advance := fun w h => ⟨List.mem_cons_of_mem _ (List.mem_append_right _ (List.mem_append_right _ (List.mem_append_right _ (List.mem_append_right _ (List.mem_append_right _ (List.mem_append_right _ (List.mem_append_right _ (List.mem_append_right _ (List.mem_append_right _ (List.mem_append_left _ (h))))))))))), (wI_X9_advance w h).2⟩
theorem gc_X9_readNext_155_X9_advance : GoodIn W_X9_readNext (wsV RX9 155 RX9 yX9_advance W_X9_advance) := goodIn_app (goodIn_sub (List.forall_mem_cons.mpr ⟨List.mem_cons_of_mem _ (List.mem_append_left _ (List.mem_of_getElem? (i := 23) rfl)), List.forall_mem_cons.mpr ⟨List.mem_cons_of_mem _ (List.mem_append_left _ (List.mem_of_getElem? (i := 24) rfl)), List.forall_mem_cons.mpr ⟨List.mem_cons_of_mem _ (List.mem_append_left _ (List.mem_of_getElem? (i := 25) rfl)), List.forall_mem_cons.mpr ⟨List.mem_cons_of_mem _ (List.mem_append_left _ (List.mem_of_getElem? (i := 3) rfl)), fun _ h => absurd h List.not_mem_nil⟩⟩⟩⟩) (by decide +kernel)) gw_X9_readNext_X9_advance
theorem gw_X9_readNext_X9_takes : GoodIn W_X9_readNext W_X9_takes := fun w h => ⟨List.mem_cons_of_mem _ (List.mem_append_right _ (List.mem_append_right _ (List.mem_append_right _ (List.mem_append_right _ (List.mem_append_right _ (List.mem_append_right _ (List.mem_append_left _ (h)))))))), (wI_X9_takes w h).2⟩
theorem gc_X9_readNext_158_X9_takes : GoodIn W_X9_readNext (wsV RX9 158 RX9 yX9_takes W_X9_takes) := goodIn_app (goodIn_sub (List.forall_mem_cons.mpr ⟨List.mem_cons_of_mem _ (List.mem_append_left _ (List.mem_of_getElem? (i := 13) rfl)), List.forall_mem_cons.mpr ⟨List.mem_cons_of_mem _ (List.mem_append_left _ (List.mem_of_getElem? (i := 14) rfl)), List.forall_mem_cons.mpr ⟨List.mem_cons_of_mem _ (List.mem_append_left _ (List.mem_of_getElem? (i := 15) rfl)), List.forall_mem_cons.mpr ⟨List.mem_cons_of_mem _ (List.mem_append_left _ (List.mem_of_getElem? (i := 3) rfl)), fun _ h => absurd h List.not_mem_nil⟩⟩⟩⟩) (by decide +kernel)) gw_X9_readNext_X9_takes
theorem gw_X9_readNext_X9_errs : GoodIn W_X9_readNext W_X9_errs := fun w h => ⟨List.mem_cons_of_mem _ (List.mem_append_right _ (List.mem_append_right _ (List.mem_append_right _ (List.mem_append_left _ (h))))), (wI_X9_errs w h).2⟩
theorem gc_X9_readNext_161_X9_errs : GoodIn W_X9_readNext (wsV RX9 161 RX9 yX9_errs W_X9_errs) := goodIn_app (goodIn_sub (List.forall_mem_cons.mpr ⟨List.mem_cons_of_mem _ (List.mem_append_left _ (List.mem_of_getElem? (i := 4) rfl)), List.forall_mem_cons.mpr ⟨List.mem_cons_of_mem _ (List.mem_append_left _ (List.mem_of_getElem? (i := 5) rfl)), List.forall_mem_cons.mpr ⟨List.mem_cons_of_mem _ (List.mem_append_left _ (List.mem_of_getElem? (i := 6) rfl)), List.forall_mem_cons.mpr ⟨List.mem_cons_of_mem _ (List.mem_append_left _ (List.mem_of_getElem? (i := 3) rfl)), fun _ h => absurd h List.not_mem_nil⟩⟩⟩⟩) (by decide +kernel)) gw_X9_readNext_X9_errs
theorem gw_X9_readNext_X9_readKind : GoodIn W_X9_readNext W_X9_readKind := fun w h => ⟨List.mem_cons_of_mem _ (List.mem_append_right _ (List.mem_append_right _ (List.mem_append_right _ (List.mem_append_right _ (List.mem_append_right _ (List.mem_append_right _ (List.mem_append_right _ (List.mem_append_left _ (h))))))))), (wI_X9_readKind w h).2⟩
theorem gc_X9_readNext_206_X9_readKind : GoodIn W_X9_readNext (wsV RX9 206 RX9 yX9_readKind W_X9_readKind) := goodIn_app (goodIn_sub (List.forall_mem_cons.mpr ⟨List.mem_cons_of_mem _ (List.mem_append_left _ (List.mem_of_getElem? (i := 17) rfl)), List.forall_mem_cons.mpr ⟨List.mem_cons_of_mem _ (List.mem_append_left _ (List.mem_of_getElem? (i := 18) rfl)), List.forall_mem_cons.mpr ⟨List.mem_cons_of_mem _ (List.mem_append_left _ (List.mem_of_getElem? (i := 19) rfl)), List.forall_mem_cons.mpr ⟨List.mem_cons_of_mem _ (List.mem_append_left _ (List.mem_of_getElem? (i := 3) rfl)), fun _ h => absurd h List.not_mem_nil⟩⟩⟩⟩) (by decide +kernel)) gw_X9_readNext_X9_readKind
theorem gw_X9_readNext_X9_isFull : GoodIn W_X9_readNext W_X9_isFull := fun w h => ⟨List.mem_cons_of_mem _ (List.mem_append_right _ (List.mem_append_right _ (List.mem_append_right _ (List.mem_append_right _ (List.mem_append_left _ (h)))))), (wI_X9_isFull w h).2⟩
theorem gc_X9_readNext_228_X9_isFull : GoodIn W_X9_readNext (wsV RX9 228 RX9 yX9_isFull W_X9_isFull) := goodIn_app (goodIn_sub (List.forall_mem_cons.mpr ⟨List.mem_cons_of_mem _ (List.mem_append_left _ (List.mem_of_getElem? (i := 7) rfl)), List.forall_mem_cons.mpr ⟨List.mem_cons_of_mem _ (List.mem_append_left _ (List.mem_of_getElem? (i := 8) rfl)), List.forall_mem_cons.mpr ⟨List.mem_cons_of_mem _ (List.mem_append_left _ (List.mem_of_getElem? (i := 9) rfl)), List.forall_mem_cons.mpr ⟨List.mem_cons_of_mem _ (List.mem_append_left _ (List.mem_of_getElem? (i := 3) rfl)), fun _ h => absurd h List.not_mem_nil⟩⟩⟩⟩) (by decide +kernel)) gw_X9_readNext_X9_isFull
theorem gw_X9_readNext_X9_readRule : GoodIn W_X9_readNext W_X9_readRule := fun w h => ⟨List.mem_cons_of_mem _ (List.mem_append_right _ (List.mem_append_right _ (List.mem_append_right _ (List.mem_append_right _ (List.mem_append_right _ (List.mem_append_right _ (List.mem_append_right _ (List.mem_append_right _ (List.mem_append_left _ (h)))))))))), (wI_X9_readRule w h).2⟩
theorem gc_X9_readNext_237_X9_readRule : GoodIn W_X9_readNext (wsV RX9 237 RX9 yX9_readRule W_X9_readRule) := goodIn_app (goodIn_sub (List.forall_mem_cons.mpr ⟨List.mem_cons_of_mem _ (List.mem_append_left _ (List.mem_of_getElem? (i := 20) rfl)), List.forall_mem_cons.mpr ⟨List.mem_cons_of_mem _ (List.mem_append_left _ (List.mem_of_getElem? (i := 21) rfl)), List.forall_mem_cons.mpr ⟨List.mem_cons_of_mem _ (List.mem_append_left _ (List.mem_of_getElem? (i := 22) rfl)), List.forall_mem_cons.mpr ⟨List.mem_cons_of_mem _ (List.mem_append_left _ (List.mem_of_getElem? (i := 3) rfl)), fun _ h => absurd h List.not_mem_nil⟩⟩⟩⟩) (by decide +kernel)) gw_X9_readNext_X9_readRule
theorem gw_X9_readNext_X9_readOp : GoodIn W_X9_readNext W_X9_readOp := fun w h => ⟨List.mem_cons_of_mem _ (List.mem_append_right _ (List.mem_append_right _ (List.mem_append_right _ (List.mem_append_right _ (List.mem_append_right _ (List.mem_append_right _ (List.mem_append_right _ (List.mem_append_right _ (List.mem_append_right _ (List.mem_append_right _ (h))))))))))), (wI_X9_readOp w h).2⟩
theorem gc_X9_readNext_240_X9_readOp : GoodIn W_X9_readNext (wsV RX9 240 RX9 yX9_readOp W_X9_readOp) := goodIn_app (goodIn_sub (List.forall_mem_cons.mpr ⟨List.mem_cons_of_mem _ (List.mem_append_left _ (List.mem_of_getElem? (i := 26) rfl)), List.forall_mem_cons.mpr ⟨List.mem_cons_of_mem _ (List.mem_append_left _ (List.mem_of_getElem? (i := 27) rfl)), List.forall_mem_cons.mpr ⟨List.mem_cons_of_mem _ (List.mem_append_left _ (List.mem_of_getElem? (i := 28) rfl)), List.forall_mem_cons.mpr ⟨List.mem_cons_of_mem _ (List.mem_append_left _ (List.mem_of_getElem? (i := 3) rfl)), fun _ h => absurd h List.not_mem_nil⟩⟩⟩⟩) (by decide +kernel)) gw_X9_readNext_X9_readOp
