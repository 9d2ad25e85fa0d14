theorem dX9_areCommuting_0 : decode cX9_areCommuting 0 = .ok (.iconst 1, 1) := by decide +kernel
theorem dX9_areCommuting_1 : decode cX9_areCommuting 1 = .ok (.istore_n 3, 1) := by decide +kernel
theorem dX9_areCommuting_2 : decode cX9_areCommuting 2 = .ok (.iconst 0, 1) := by decide +kernel
theorem dX9_areCommuting_3 : decode cX9_areCommuting 3 = .ok (.istore 4, 2) := by decide +kernel
theorem dX9_areCommuting_5 : decode cX9_areCommuting 5 = .ok (.iload 4, 2) := by decide +kernel
theorem dX9_areCommuting_7 : decode cX9_areCommuting 7 = .ok (.aload_n 0, 1) := by decide +kernel
theorem dX9_areCommuting_8 : decode cX9_areCommuting 8 = .ok (.invokevirtual 96, 3) := by decide +kernel
theorem dX9_areCommuting_11 : decode cX9_areCommuting 11 = .ok (.if_icmp .ge 90, 3) := by decide +kernel
theorem dX9_areCommuting_14 : decode cX9_areCommuting 14 = .ok (.aload_n 0, 1) := by decide +kernel
theorem dX9_areCommuting_15 : decode cX9_areCommuting 15 = .ok (.iload_n 1, 1) := by decide +kernel
theorem dX9_areCommuting_16 : decode cX9_areCommuting 16 = .ok (.iload 4, 2) := by decide +kernel
theorem dX9_areCommuting_18 : decode cX9_areCommuting 18 = .ok (.invokevirtual 325, 3) := by decide +kernel
theorem dX9_areCommuting_21 : decode cX9_areCommuting 21 = .ok (.istore 5, 2) := by decide +kernel
theorem dX9_areCommuting_23 : decode cX9_areCommuting 23 = .ok (.aload_n 0, 1) := by decide +kernel
theorem dX9_areCommuting_24 : decode cX9_areCommuting 24 = .ok (.iload_n 2, 1) := by decide +kernel
theorem dX9_areCommuting_25 : decode cX9_areCommuting 25 = .ok (.iload 4, 2) := by decide +kernel
theorem dX9_areCommuting_27 : decode cX9_areCommuting 27 = .ok (.invokevirtual 325, 3) := by decide +kernel
theorem dX9_areCommuting_30 : decode cX9_areCommuting 30 = .ok (.istore 6, 2) := by decide +kernel
theorem dX9_areCommuting_32 : decode cX9_areCommuting 32 = .ok (.aload_n 0, 1) := by decide +kernel
theorem dX9_areCommuting_33 : decode cX9_areCommuting 33 = .ok (.getfield 37, 3) := by decide +kernel
theorem dX9_areCommuting_36 : decode cX9_areCommuting 36 = .ok (.iload 4, 2) := by decide +kernel
theorem dX9_areCommuting_38 : decode cX9_areCommuting 38 = .ok (.baload, 1) := by decide +kernel
theorem dX9_areCommuting_39 : decode cX9_areCommuting 39 = .ok (.ifCond .eq 56, 3) := by decide +kernel
theorem dX9_areCommuting_42 : decode cX9_areCommuting 42 = .ok (.iload 5, 2) := by decide +kernel
theorem dX9_areCommuting_44 : decode cX9_areCommuting 44 = .ok (.iconst (-1), 1) := by decide +kernel
theorem dX9_areCommuting_45 : decode cX9_areCommuting 45 = .ok (.if_icmp .eq 50, 3) := by decide +kernel
theorem dX9_areCommuting_48 : decode cX9_areCommuting 48 = .ok (.iload 6, 2) := by decide +kernel
theorem dX9_areCommuting_50 : decode cX9_areCommuting 50 = .ok (.iconst (-1), 1) := by decide +kernel
theorem dX9_areCommuting_51 : decode cX9_areCommuting 51 = .ok (.if_icmp .ne 6, 3) := by decide +kernel
theorem dX9_areCommuting_54 : decode cX9_areCommuting 54 = .ok (.goto 41, 3) := by decide +kernel
theorem dX9_areCommuting_57 : decode cX9_areCommuting 57 = .ok (.iload_n 3, 1) := by decide +kernel
theorem dX9_areCommuting_58 : decode cX9_areCommuting 58 = .ok (.ifCond .eq 35, 3) := by decide +kernel
theorem dX9_areCommuting_61 : decode cX9_areCommuting 61 = .ok (.aload_n 0, 1) := by decide +kernel
theorem dX9_areCommuting_62 : decode cX9_areCommuting 62 = .ok (.iload_n 2, 1) := by decide +kernel
theorem dX9_areCommuting_63 : decode cX9_areCommuting 63 = .ok (.iload 5, 2) := by decide +kernel
theorem dX9_areCommuting_65 : decode cX9_areCommuting 65 = .ok (.invokevirtual 325, 3) := by decide +kernel
theorem dX9_areCommuting_68 : decode cX9_areCommuting 68 = .ok (.iconst (-1), 1) := by decide +kernel
theorem dX9_areCommuting_69 : decode cX9_areCommuting 69 = .ok (.if_icmp .eq 24, 3) := by decide +kernel
theorem dX9_areCommuting_72 : decode cX9_areCommuting 72 = .ok (.aload_n 0, 1) := by decide +kernel
theorem dX9_areCommuting_73 : decode cX9_areCommuting 73 = .ok (.iload_n 2, 1) := by decide +kernel
theorem dX9_areCommuting_74 : decode cX9_areCommuting 74 = .ok (.iload 5, 2) := by decide +kernel
theorem dX9_areCommuting_76 : decode cX9_areCommuting 76 = .ok (.invokevirtual 325, 3) := by decide +kernel
theorem dX9_areCommuting_79 : decode cX9_areCommuting 79 = .ok (.aload_n 0, 1) := by decide +kernel
theorem dX9_areCommuting_80 : decode cX9_areCommuting 80 = .ok (.iload_n 1, 1) := by decide +kernel
theorem dX9_areCommuting_81 : decode cX9_areCommuting 81 = .ok (.iload 6, 2) := by decide +kernel
theorem dX9_areCommuting_83 : decode cX9_areCommuting 83 = .ok (.invokevirtual 325, 3) := by decide +kernel
theorem dX9_areCommuting_86 : decode cX9_areCommuting 86 = .ok (.if_icmp .ne 7, 3) := by decide +kernel
theorem dX9_areCommuting_89 : decode cX9_areCommuting 89 = .ok (.iconst 1, 1) := by decide +kernel
theorem dX9_areCommuting_90 : decode cX9_areCommuting 90 = .ok (.goto 4, 3) := by decide +kernel
theorem dX9_areCommuting_93 : decode cX9_areCommuting 93 = .ok (.iconst 0, 1) := by decide +kernel
theorem dX9_areCommuting_94 : decode cX9_areCommuting 94 = .ok (.istore_n 3, 1) := by decide +kernel
theorem dX9_areCommuting_95 : decode cX9_areCommuting 95 = .ok (.iinc 4 1, 3) := by decide +kernel
theorem dX9_areCommuting_98 : decode cX9_areCommuting 98 = .ok (.goto (-93), 3) := by decide +kernel
theorem dX9_areCommuting_101 : decode cX9_areCommuting 101 = .ok (.iload_n 3, 1) := by decide +kernel
theorem dX9_areCommuting_102 : decode cX9_areCommuting 102 = .ok (.ireturn, 1) := by decide +kernel
theorem dX9_asked_0 : decode cX9_asked 0 = .ok (.aload_n 0, 1) := by decide +kernel
theorem dX9_asked_1 : decode cX9_asked 1 = .ok (.iload_n 1, 1) := by decide +kernel
theorem dX9_asked_2 : decode cX9_asked 2 = .ok (.invokevirtual 354, 3) := by decide +kernel
theorem dX9_asked_5 : decode cX9_asked 5 = .ok (.ifCond .eq 10, 3) := by decide +kernel
theorem dX9_asked_8 : decode cX9_asked 8 = .ok (.iload_n 2, 1) := by decide +kernel
theorem dX9_asked_9 : decode cX9_asked 9 = .ok (.invokestatic 357, 3) := by decide +kernel
theorem dX9_asked_12 : decode cX9_asked 12 = .ok (.ifCond .ne 6, 3) := by decide +kernel
theorem dX9_asked_15 : decode cX9_asked 15 = .ok (.bipush (-2), 2) := by decide +kernel
theorem dX9_asked_17 : decode cX9_asked 17 = .ok (.ireturn, 1) := by decide +kernel
theorem dX9_asked_18 : decode cX9_asked 18 = .ok (.iconst 0, 1) := by decide +kernel
theorem dX9_asked_19 : decode cX9_asked 19 = .ok (.istore_n 3, 1) := by decide +kernel
theorem dX9_asked_20 : decode cX9_asked 20 = .ok (.iconst 0, 1) := by decide +kernel
theorem dX9_asked_21 : decode cX9_asked 21 = .ok (.istore 4, 2) := by decide +kernel
theorem dX9_asked_23 : decode cX9_asked 23 = .ok (.iload 4, 2) := by decide +kernel
theorem dX9_asked_25 : decode cX9_asked 25 = .ok (.aload_n 0, 1) := by decide +kernel
theorem dX9_asked_26 : decode cX9_asked 26 = .ok (.invokevirtual 96, 3) := by decide +kernel
theorem dX9_asked_29 : decode cX9_asked 29 = .ok (.if_icmp .ge 80, 3) := by decide +kernel
theorem dX9_asked_32 : decode cX9_asked 32 = .ok (.iload 4, 2) := by decide +kernel
theorem dX9_asked_34 : decode cX9_asked 34 = .ok (.istore 5, 2) := by decide +kernel
theorem dX9_asked_36 : decode cX9_asked 36 = .ok (.iload 5, 2) := by decide +kernel
theorem dX9_asked_38 : decode cX9_asked 38 = .ok (.aload_n 0, 1) := by decide +kernel
theorem dX9_asked_39 : decode cX9_asked 39 = .ok (.invokevirtual 96, 3) := by decide +kernel
theorem dX9_asked_42 : decode cX9_asked 42 = .ok (.if_icmp .ge 61, 3) := by decide +kernel
theorem dX9_asked_45 : decode cX9_asked 45 = .ok (.iload_n 3, 1) := by decide +kernel
theorem dX9_asked_46 : decode cX9_asked 46 = .ok (.aload_n 0, 1) := by decide +kernel
theorem dX9_asked_47 : decode cX9_asked 47 = .ok (.getfield 43, 3) := by decide +kernel
theorem dX9_asked_50 : decode cX9_asked 50 = .ok (.iload 4, 2) := by decide +kernel
theorem dX9_asked_52 : decode cX9_asked 52 = .ok (.iaload, 1) := by decide +kernel
theorem dX9_asked_53 : decode cX9_asked 53 = .ok (.iload_n 2, 1) := by decide +kernel
theorem dX9_asked_54 : decode cX9_asked 54 = .ok (.if_icmp .gt 40, 3) := by decide +kernel
theorem dX9_asked_57 : decode cX9_asked 57 = .ok (.aload_n 0, 1) := by decide +kernel
theorem dX9_asked_58 : decode cX9_asked 58 = .ok (.getfield 43, 3) := by decide +kernel
theorem dX9_asked_61 : decode cX9_asked 61 = .ok (.iload 5, 2) := by decide +kernel
theorem dX9_asked_63 : decode cX9_asked 63 = .ok (.iaload, 1) := by decide +kernel
theorem dX9_asked_64 : decode cX9_asked 64 = .ok (.iload_n 2, 1) := by decide +kernel
theorem dX9_asked_65 : decode cX9_asked 65 = .ok (.if_icmp .gt 29, 3) := by decide +kernel
theorem dX9_asked_68 : decode cX9_asked 68 = .ok (.aload_n 0, 1) := by decide +kernel
theorem dX9_asked_69 : decode cX9_asked 69 = .ok (.getfield 46, 3) := by decide +kernel
theorem dX9_asked_72 : decode cX9_asked 72 = .ok (.iload 4, 2) := by decide +kernel
theorem dX9_asked_74 : decode cX9_asked 74 = .ok (.iaload, 1) := by decide +kernel
theorem dX9_asked_75 : decode cX9_asked 75 = .ok (.iload_n 2, 1) := by decide +kernel
theorem dX9_asked_76 : decode cX9_asked 76 = .ok (.if_icmp .le 18, 3) := by decide +kernel
theorem dX9_asked_79 : decode cX9_asked 79 = .ok (.aload_n 0, 1) := by decide +kernel
theorem dX9_asked_80 : decode cX9_asked 80 = .ok (.getfield 46, 3) := by decide +kernel
theorem dX9_asked_83 : decode cX9_asked 83 = .ok (.iload 5, 2) := by decide +kernel
theorem dX9_asked_85 : decode cX9_asked 85 = .ok (.iaload, 1) := by decide +kernel
theorem dX9_asked_86 : decode cX9_asked 86 = .ok (.iload_n 2, 1) := by decide +kernel
theorem dX9_asked_87 : decode cX9_asked 87 = .ok (.if_icmp .le 7, 3) := by decide +kernel
theorem dX9_asked_90 : decode cX9_asked 90 = .ok (.iconst 1, 1) := by decide +kernel
theorem dX9_asked_91 : decode cX9_asked 91 = .ok (.goto 4, 3) := by decide +kernel
theorem dX9_asked_94 : decode cX9_asked 94 = .ok (.iconst 0, 1) := by decide +kernel
theorem dX9_asked_95 : decode cX9_asked 95 = .ok (.iadd, 1) := by decide +kernel
theorem dX9_asked_96 : decode cX9_asked 96 = .ok (.istore_n 3, 1) := by decide +kernel
theorem dX9_asked_97 : decode cX9_asked 97 = .ok (.iinc 5 1, 3) := by decide +kernel
theorem dX9_asked_100 : decode cX9_asked 100 = .ok (.goto (-64), 3) := by decide +kernel
theorem dX9_asked_103 : decode cX9_asked 103 = .ok (.iinc 4 1, 3) := by decide +kernel
theorem dX9_asked_106 : decode cX9_asked 106 = .ok (.goto (-83), 3) := by decide +kernel
theorem dX9_asked_109 : decode cX9_asked 109 = .ok (.iload_n 3, 1) := by decide +kernel
theorem dX9_asked_110 : decode cX9_asked 110 = .ok (.ireturn, 1) := by decide +kernel
theorem dX9_asks_0 : decode cX9_asks 0 = .ok (.aload_n 0, 1) := by decide +kernel
theorem dX9_asks_1 : decode cX9_asks 1 = .ok (.invokevirtual 308, 3) := by decide +kernel
theorem dX9_asks_4 : decode cX9_asks 4 = .ok (.aload_n 0, 1) := by decide +kernel
theorem dX9_asks_5 : decode cX9_asks 5 = .ok (.invokevirtual 92, 3) := by decide +kernel
theorem dX9_asks_8 : decode cX9_asks 8 = .ok (.ifCond .ne 5, 3) := by decide +kernel
theorem dX9_asks_11 : decode cX9_asks 11 = .ok (.iconst 0, 1) := by decide +kernel
theorem dX9_asks_12 : decode cX9_asks 12 = .ok (.ireturn, 1) := by decide +kernel
theorem dX9_asks_13 : decode cX9_asks 13 = .ok (.aload_n 0, 1) := by decide +kernel
theorem dX9_asks_14 : decode cX9_asks 14 = .ok (.invokevirtual 311, 3) := by decide +kernel
theorem dX9_asks_17 : decode cX9_asks 17 = .ok (.iconst 1, 1) := by decide +kernel
theorem dX9_asks_18 : decode cX9_asks 18 = .ok (.ireturn, 1) := by decide +kernel
theorem dX9_asksSides_0 : decode cX9_asksSides 0 = .ok (.aload_n 0, 1) := by decide +kernel
theorem dX9_asksSides_1 : decode cX9_asksSides 1 = .ok (.invokevirtual 318, 3) := by decide +kernel
theorem dX9_asksSides_4 : decode cX9_asksSides 4 = .ok (.ifCond .eq 12, 3) := by decide +kernel
theorem dX9_asksSides_7 : decode cX9_asksSides 7 = .ok (.aload_n 0, 1) := by decide +kernel
theorem dX9_asksSides_8 : decode cX9_asksSides 8 = .ok (.iload_n 1, 1) := by decide +kernel
theorem dX9_asksSides_9 : decode cX9_asksSides 9 = .ok (.i2l, 1) := by decide +kernel
theorem dX9_asksSides_10 : decode cX9_asksSides 10 = .ok (.invokevirtual 314, 3) := by decide +kernel
theorem dX9_asksSides_13 : decode cX9_asksSides 13 = .ok (.ifCond .ne 5, 3) := by decide +kernel
theorem dX9_asksSides_16 : decode cX9_asksSides 16 = .ok (.iconst 0, 1) := by decide +kernel
theorem dX9_asksSides_17 : decode cX9_asksSides 17 = .ok (.ireturn, 1) := by decide +kernel
theorem dX9_asksSides_18 : decode cX9_asksSides 18 = .ok (.aload_n 0, 1) := by decide +kernel
theorem dX9_asksSides_19 : decode cX9_asksSides 19 = .ok (.iload_n 1, 1) := by decide +kernel
theorem dX9_asksSides_20 : decode cX9_asksSides 20 = .ok (.invokevirtual 351, 3) := by decide +kernel
theorem dX9_asksSides_23 : decode cX9_asksSides 23 = .ok (.iconst 1, 1) := by decide +kernel
theorem dX9_asksSides_24 : decode cX9_asksSides 24 = .ok (.ireturn, 1) := by decide +kernel
theorem dX9_breaks_0 : decode cX9_breaks 0 = .ok (.aload_n 0, 1) := by decide +kernel
theorem dX9_breaks_1 : decode cX9_breaks 1 = .ok (.invokevirtual 318, 3) := by decide +kernel
theorem dX9_breaks_4 : decode cX9_breaks 4 = .ok (.ifCond .eq 20, 3) := by decide +kernel
theorem dX9_breaks_7 : decode cX9_breaks 7 = .ok (.aload_n 0, 1) := by decide +kernel
theorem dX9_breaks_8 : decode cX9_breaks 8 = .ok (.iload_n 1, 1) := by decide +kernel
theorem dX9_breaks_9 : decode cX9_breaks 9 = .ok (.i2l, 1) := by decide +kernel
theorem dX9_breaks_10 : decode cX9_breaks 10 = .ok (.invokevirtual 314, 3) := by decide +kernel
theorem dX9_breaks_13 : decode cX9_breaks 13 = .ok (.ifCond .eq 11, 3) := by decide +kernel
theorem dX9_breaks_16 : decode cX9_breaks 16 = .ok (.aload_n 0, 1) := by decide +kernel
theorem dX9_breaks_17 : decode cX9_breaks 17 = .ok (.iload_n 1, 1) := by decide +kernel
theorem dX9_breaks_18 : decode cX9_breaks 18 = .ok (.invokevirtual 302, 3) := by decide +kernel
theorem dX9_breaks_21 : decode cX9_breaks 21 = .ok (.goto 5, 3) := by decide +kernel
theorem dX9_breaks_24 : decode cX9_breaks 24 = .ok (.bipush (-2), 2) := by decide +kernel
theorem dX9_breaks_26 : decode cX9_breaks 26 = .ok (.ireturn, 1) := by decide +kernel
theorem dX9_clashes_0 : decode cX9_clashes 0 = .ok (.aload_n 0, 1) := by decide +kernel
theorem dX9_clashes_1 : decode cX9_clashes 1 = .ok (.invokevirtual 318, 3) := by decide +kernel
theorem dX9_clashes_4 : decode cX9_clashes 4 = .ok (.ifCond .eq 19, 3) := by decide +kernel
theorem dX9_clashes_7 : decode cX9_clashes 7 = .ok (.aload_n 0, 1) := by decide +kernel
theorem dX9_clashes_8 : decode cX9_clashes 8 = .ok (.iload_n 1, 1) := by decide +kernel
theorem dX9_clashes_9 : decode cX9_clashes 9 = .ok (.invokevirtual 267, 3) := by decide +kernel
theorem dX9_clashes_12 : decode cX9_clashes 12 = .ok (.ifCond .eq 11, 3) := by decide +kernel
theorem dX9_clashes_15 : decode cX9_clashes 15 = .ok (.aload_n 0, 1) := by decide +kernel
theorem dX9_clashes_16 : decode cX9_clashes 16 = .ok (.iload_n 2, 1) := by decide +kernel
theorem dX9_clashes_17 : decode cX9_clashes 17 = .ok (.invokevirtual 267, 3) := by decide +kernel
theorem dX9_clashes_20 : decode cX9_clashes 20 = .ok (.ifCond .ne 6, 3) := by decide +kernel
theorem dX9_clashes_23 : decode cX9_clashes 23 = .ok (.bipush (-2), 2) := by decide +kernel
theorem dX9_clashes_25 : decode cX9_clashes 25 = .ok (.ireturn, 1) := by decide +kernel
theorem dX9_clashes_26 : decode cX9_clashes 26 = .ok (.iconst 0, 1) := by decide +kernel
theorem dX9_clashes_27 : decode cX9_clashes 27 = .ok (.istore_n 3, 1) := by decide +kernel
theorem dX9_clashes_28 : decode cX9_clashes 28 = .ok (.iconst 0, 1) := by decide +kernel
theorem dX9_clashes_29 : decode cX9_clashes 29 = .ok (.istore 4, 2) := by decide +kernel
theorem dX9_clashes_31 : decode cX9_clashes 31 = .ok (.iload 4, 2) := by decide +kernel
theorem dX9_clashes_33 : decode cX9_clashes 33 = .ok (.aload_n 0, 1) := by decide +kernel
theorem dX9_clashes_34 : decode cX9_clashes 34 = .ok (.invokevirtual 96, 3) := by decide +kernel
theorem dX9_clashes_37 : decode cX9_clashes 37 = .ok (.if_icmp .ge 80, 3) := by decide +kernel
theorem dX9_clashes_40 : decode cX9_clashes 40 = .ok (.aload_n 0, 1) := by decide +kernel
theorem dX9_clashes_41 : decode cX9_clashes 41 = .ok (.getfield 37, 3) := by decide +kernel
theorem dX9_clashes_44 : decode cX9_clashes 44 = .ok (.iload 4, 2) := by decide +kernel
theorem dX9_clashes_46 : decode cX9_clashes 46 = .ok (.baload, 1) := by decide +kernel
theorem dX9_clashes_47 : decode cX9_clashes 47 = .ok (.ifCond .eq 64, 3) := by decide +kernel
theorem dX9_clashes_50 : decode cX9_clashes 50 = .ok (.aload_n 0, 1) := by decide +kernel
theorem dX9_clashes_51 : decode cX9_clashes 51 = .ok (.iload_n 1, 1) := by decide +kernel
theorem dX9_clashes_52 : decode cX9_clashes 52 = .ok (.iload 4, 2) := by decide +kernel
theorem dX9_clashes_54 : decode cX9_clashes 54 = .ok (.invokevirtual 325, 3) := by decide +kernel
theorem dX9_clashes_57 : decode cX9_clashes 57 = .ok (.iconst (-1), 1) := by decide +kernel
theorem dX9_clashes_58 : decode cX9_clashes 58 = .ok (.if_icmp .eq 53, 3) := by decide +kernel
theorem dX9_clashes_61 : decode cX9_clashes 61 = .ok (.aload_n 0, 1) := by decide +kernel
theorem dX9_clashes_62 : decode cX9_clashes 62 = .ok (.iload_n 2, 1) := by decide +kernel
theorem dX9_clashes_63 : decode cX9_clashes 63 = .ok (.iload 4, 2) := by decide +kernel
theorem dX9_clashes_65 : decode cX9_clashes 65 = .ok (.invokevirtual 325, 3) := by decide +kernel
theorem dX9_clashes_68 : decode cX9_clashes 68 = .ok (.iconst (-1), 1) := by decide +kernel
theorem dX9_clashes_69 : decode cX9_clashes 69 = .ok (.if_icmp .ne 6, 3) := by decide +kernel
theorem dX9_clashes_72 : decode cX9_clashes 72 = .ok (.goto 39, 3) := by decide +kernel
theorem dX9_clashes_75 : decode cX9_clashes 75 = .ok (.iload_n 3, 1) := by decide +kernel
theorem dX9_clashes_76 : decode cX9_clashes 76 = .ok (.aload_n 0, 1) := by decide +kernel
theorem dX9_clashes_77 : decode cX9_clashes 77 = .ok (.getfield 37, 3) := by decide +kernel
theorem dX9_clashes_80 : decode cX9_clashes 80 = .ok (.aload_n 0, 1) := by decide +kernel
theorem dX9_clashes_81 : decode cX9_clashes 81 = .ok (.iload 4, 2) := by decide +kernel
theorem dX9_clashes_83 : decode cX9_clashes 83 = .ok (.aload_n 0, 1) := by decide +kernel
theorem dX9_clashes_84 : decode cX9_clashes 84 = .ok (.iload_n 1, 1) := by decide +kernel
theorem dX9_clashes_85 : decode cX9_clashes 85 = .ok (.iload 4, 2) := by decide +kernel
theorem dX9_clashes_87 : decode cX9_clashes 87 = .ok (.invokevirtual 325, 3) := by decide +kernel
theorem dX9_clashes_90 : decode cX9_clashes 90 = .ok (.aload_n 0, 1) := by decide +kernel
theorem dX9_clashes_91 : decode cX9_clashes 91 = .ok (.iload_n 2, 1) := by decide +kernel
theorem dX9_clashes_92 : decode cX9_clashes 92 = .ok (.iload 4, 2) := by decide +kernel
theorem dX9_clashes_94 : decode cX9_clashes 94 = .ok (.invokevirtual 325, 3) := by decide +kernel
theorem dX9_clashes_97 : decode cX9_clashes 97 = .ok (.invokevirtual 344, 3) := by decide +kernel
theorem dX9_clashes_100 : decode cX9_clashes 100 = .ok (.baload, 1) := by decide +kernel
theorem dX9_clashes_101 : decode cX9_clashes 101 = .ok (.ifCond .eq 7, 3) := by decide +kernel
theorem dX9_clashes_104 : decode cX9_clashes 104 = .ok (.iconst 0, 1) := by decide +kernel
theorem dX9_clashes_105 : decode cX9_clashes 105 = .ok (.goto 4, 3) := by decide +kernel
theorem dX9_clashes_108 : decode cX9_clashes 108 = .ok (.iconst 1, 1) := by decide +kernel
theorem dX9_clashes_109 : decode cX9_clashes 109 = .ok (.iadd, 1) := by decide +kernel
theorem dX9_clashes_110 : decode cX9_clashes 110 = .ok (.istore_n 3, 1) := by decide +kernel
theorem dX9_clashes_111 : decode cX9_clashes 111 = .ok (.iinc 4 1, 3) := by decide +kernel
theorem dX9_clashes_114 : decode cX9_clashes 114 = .ok (.goto (-83), 3) := by decide +kernel
theorem dX9_clashes_117 : decode cX9_clashes 117 = .ok (.iload_n 3, 1) := by decide +kernel
theorem dX9_clashes_118 : decode cX9_clashes 118 = .ok (.ireturn, 1) := by decide +kernel
theorem dX9_commute_0 : decode cX9_commute 0 = .ok (.aload_n 0, 1) := by decide +kernel
theorem dX9_commute_1 : decode cX9_commute 1 = .ok (.invokevirtual 318, 3) := by decide +kernel
theorem dX9_commute_4 : decode cX9_commute 4 = .ok (.ifCond .eq 19, 3) := by decide +kernel
theorem dX9_commute_7 : decode cX9_commute 7 = .ok (.aload_n 0, 1) := by decide +kernel
theorem dX9_commute_8 : decode cX9_commute 8 = .ok (.iload_n 1, 1) := by decide +kernel
theorem dX9_commute_9 : decode cX9_commute 9 = .ok (.invokevirtual 267, 3) := by decide +kernel
theorem dX9_commute_12 : decode cX9_commute 12 = .ok (.ifCond .eq 11, 3) := by decide +kernel
theorem dX9_commute_15 : decode cX9_commute 15 = .ok (.aload_n 0, 1) := by decide +kernel
theorem dX9_commute_16 : decode cX9_commute 16 = .ok (.iload_n 2, 1) := by decide +kernel
theorem dX9_commute_17 : decode cX9_commute 17 = .ok (.invokevirtual 267, 3) := by decide +kernel
theorem dX9_commute_20 : decode cX9_commute 20 = .ok (.ifCond .ne 6, 3) := by decide +kernel
theorem dX9_commute_23 : decode cX9_commute 23 = .ok (.bipush (-2), 2) := by decide +kernel
theorem dX9_commute_25 : decode cX9_commute 25 = .ok (.ireturn, 1) := by decide +kernel
theorem dX9_commute_26 : decode cX9_commute 26 = .ok (.aload_n 0, 1) := by decide +kernel
theorem dX9_commute_27 : decode cX9_commute 27 = .ok (.iload_n 1, 1) := by decide +kernel
theorem dX9_commute_28 : decode cX9_commute 28 = .ok (.iload_n 2, 1) := by decide +kernel
theorem dX9_commute_29 : decode cX9_commute 29 = .ok (.invokevirtual 334, 3) := by decide +kernel
theorem dX9_commute_32 : decode cX9_commute 32 = .ok (.ifCond .eq 7, 3) := by decide +kernel
theorem dX9_commute_35 : decode cX9_commute 35 = .ok (.iconst 1, 1) := by decide +kernel
theorem dX9_commute_36 : decode cX9_commute 36 = .ok (.goto 4, 3) := by decide +kernel
theorem dX9_commute_39 : decode cX9_commute 39 = .ok (.iconst 0, 1) := by decide +kernel
theorem dX9_commute_40 : decode cX9_commute 40 = .ok (.ireturn, 1) := by decide +kernel
theorem dX9_dead_0 : decode cX9_dead 0 = .ok (.aload_n 0, 1) := by decide +kernel
theorem dX9_dead_1 : decode cX9_dead 1 = .ok (.invokevirtual 318, 3) := by decide +kernel
theorem dX9_dead_4 : decode cX9_dead 4 = .ok (.ifCond .ne 6, 3) := by decide +kernel
theorem dX9_dead_7 : decode cX9_dead 7 = .ok (.bipush (-2), 2) := by decide +kernel
theorem dX9_dead_9 : decode cX9_dead 9 = .ok (.ireturn, 1) := by decide +kernel
theorem dX9_dead_10 : decode cX9_dead 10 = .ok (.iconst 0, 1) := by decide +kernel
theorem dX9_dead_11 : decode cX9_dead 11 = .ok (.istore_n 1, 1) := by decide +kernel
theorem dX9_dead_12 : decode cX9_dead 12 = .ok (.iconst 0, 1) := by decide +kernel
theorem dX9_dead_13 : decode cX9_dead 13 = .ok (.istore_n 2, 1) := by decide +kernel
theorem dX9_dead_14 : decode cX9_dead 14 = .ok (.iload_n 2, 1) := by decide +kernel
theorem dX9_dead_15 : decode cX9_dead 15 = .ok (.aload_n 0, 1) := by decide +kernel
theorem dX9_dead_16 : decode cX9_dead 16 = .ok (.invokevirtual 96, 3) := by decide +kernel
theorem dX9_dead_19 : decode cX9_dead 19 = .ok (.if_icmp .ge 34, 3) := by decide +kernel
theorem dX9_dead_22 : decode cX9_dead 22 = .ok (.iload_n 1, 1) := by decide +kernel
theorem dX9_dead_23 : decode cX9_dead 23 = .ok (.aload_n 0, 1) := by decide +kernel
theorem dX9_dead_24 : decode cX9_dead 24 = .ok (.getfield 37, 3) := by decide +kernel
theorem dX9_dead_27 : decode cX9_dead 27 = .ok (.iload_n 2, 1) := by decide +kernel
theorem dX9_dead_28 : decode cX9_dead 28 = .ok (.baload, 1) := by decide +kernel
theorem dX9_dead_29 : decode cX9_dead 29 = .ok (.ifCond .eq 15, 3) := by decide +kernel
theorem dX9_dead_32 : decode cX9_dead 32 = .ok (.aload_n 0, 1) := by decide +kernel
theorem dX9_dead_33 : decode cX9_dead 33 = .ok (.iload_n 2, 1) := by decide +kernel
theorem dX9_dead_34 : decode cX9_dead 34 = .ok (.invokevirtual 331, 3) := by decide +kernel
theorem dX9_dead_37 : decode cX9_dead 37 = .ok (.ifCond .ne 7, 3) := by decide +kernel
theorem dX9_dead_40 : decode cX9_dead 40 = .ok (.iconst 1, 1) := by decide +kernel
theorem dX9_dead_41 : decode cX9_dead 41 = .ok (.goto 4, 3) := by decide +kernel
theorem dX9_dead_44 : decode cX9_dead 44 = .ok (.iconst 0, 1) := by decide +kernel
theorem dX9_dead_45 : decode cX9_dead 45 = .ok (.iadd, 1) := by decide +kernel
theorem dX9_dead_46 : decode cX9_dead 46 = .ok (.istore_n 1, 1) := by decide +kernel
theorem dX9_dead_47 : decode cX9_dead 47 = .ok (.iinc 2 1, 3) := by decide +kernel
theorem dX9_dead_50 : decode cX9_dead 50 = .ok (.goto (-36), 3) := by decide +kernel
theorem dX9_dead_53 : decode cX9_dead 53 = .ok (.iload_n 1, 1) := by decide +kernel
theorem dX9_dead_54 : decode cX9_dead 54 = .ok (.ireturn, 1) := by decide +kernel
theorem dX9_does_0 : decode cX9_does 0 = .ok (.aload_n 0, 1) := by decide +kernel
theorem dX9_does_1 : decode cX9_does 1 = .ok (.invokevirtual 318, 3) := by decide +kernel
theorem dX9_does_4 : decode cX9_does 4 = .ok (.ifCond .eq 29, 3) := by decide +kernel
theorem dX9_does_7 : decode cX9_does 7 = .ok (.aload_n 0, 1) := by decide +kernel
theorem dX9_does_8 : decode cX9_does 8 = .ok (.iload_n 2, 1) := by decide +kernel
theorem dX9_does_9 : decode cX9_does 9 = .ok (.i2l, 1) := by decide +kernel
theorem dX9_does_10 : decode cX9_does 10 = .ok (.invokevirtual 314, 3) := by decide +kernel
theorem dX9_does_13 : decode cX9_does 13 = .ok (.ifCond .eq 20, 3) := by decide +kernel
theorem dX9_does_16 : decode cX9_does 16 = .ok (.aload_n 0, 1) := by decide +kernel
theorem dX9_does_17 : decode cX9_does 17 = .ok (.iload_n 1, 1) := by decide +kernel
theorem dX9_does_18 : decode cX9_does 18 = .ok (.invokevirtual 267, 3) := by decide +kernel
theorem dX9_does_21 : decode cX9_does 21 = .ok (.ifCond .eq 12, 3) := by decide +kernel
theorem dX9_does_24 : decode cX9_does 24 = .ok (.aload_n 0, 1) := by decide +kernel
theorem dX9_does_25 : decode cX9_does 25 = .ok (.iload_n 1, 1) := by decide +kernel
theorem dX9_does_26 : decode cX9_does 26 = .ok (.iload_n 2, 1) := by decide +kernel
theorem dX9_does_27 : decode cX9_does 27 = .ok (.invokevirtual 325, 3) := by decide +kernel
theorem dX9_does_30 : decode cX9_does 30 = .ok (.goto 5, 3) := by decide +kernel
theorem dX9_does_33 : decode cX9_does 33 = .ok (.bipush (-2), 2) := by decide +kernel
theorem dX9_does_35 : decode cX9_does 35 = .ok (.ireturn, 1) := by decide +kernel
theorem dX9_dropped_0 : decode cX9_dropped 0 = .ok (.aload_n 0, 1) := by decide +kernel
theorem dX9_dropped_1 : decode cX9_dropped 1 = .ok (.invokevirtual 318, 3) := by decide +kernel
theorem dX9_dropped_4 : decode cX9_dropped 4 = .ok (.ifCond .eq 10, 3) := by decide +kernel
theorem dX9_dropped_7 : decode cX9_dropped 7 = .ok (.aload_n 0, 1) := by decide +kernel
theorem dX9_dropped_8 : decode cX9_dropped 8 = .ok (.getfield 282, 3) := by decide +kernel
theorem dX9_dropped_11 : decode cX9_dropped 11 = .ok (.goto 5, 3) := by decide +kernel
theorem dX9_dropped_14 : decode cX9_dropped 14 = .ok (.bipush (-2), 2) := by decide +kernel
theorem dX9_dropped_16 : decode cX9_dropped 16 = .ok (.ireturn, 1) := by decide +kernel
theorem dX9_even_0 : decode cX9_even 0 = .ok (.aload_n 0, 1) := by decide +kernel
theorem dX9_even_1 : decode cX9_even 1 = .ok (.invokevirtual 318, 3) := by decide +kernel
theorem dX9_even_4 : decode cX9_even 4 = .ok (.ifCond .eq 30, 3) := by decide +kernel
theorem dX9_even_7 : decode cX9_even 7 = .ok (.aload_n 0, 1) := by decide +kernel
theorem dX9_even_8 : decode cX9_even 8 = .ok (.iload_n 1, 1) := by decide +kernel
theorem dX9_even_9 : decode cX9_even 9 = .ok (.i2l, 1) := by decide +kernel
theorem dX9_even_10 : decode cX9_even 10 = .ok (.invokevirtual 314, 3) := by decide +kernel
theorem dX9_even_13 : decode cX9_even 13 = .ok (.ifCond .eq 21, 3) := by decide +kernel
theorem dX9_even_16 : decode cX9_even 16 = .ok (.aload_n 0, 1) := by decide +kernel
theorem dX9_even_17 : decode cX9_even 17 = .ok (.iload_n 2, 1) := by decide +kernel
theorem dX9_even_18 : decode cX9_even 18 = .ok (.i2l, 1) := by decide +kernel
theorem dX9_even_19 : decode cX9_even 19 = .ok (.invokevirtual 314, 3) := by decide +kernel
theorem dX9_even_22 : decode cX9_even 22 = .ok (.ifCond .eq 12, 3) := by decide +kernel
theorem dX9_even_25 : decode cX9_even 25 = .ok (.aload_n 0, 1) := by decide +kernel
theorem dX9_even_26 : decode cX9_even 26 = .ok (.iload_n 3, 1) := by decide +kernel
theorem dX9_even_27 : decode cX9_even 27 = .ok (.i2l, 1) := by decide +kernel
theorem dX9_even_28 : decode cX9_even 28 = .ok (.invokevirtual 314, 3) := by decide +kernel
theorem dX9_even_31 : decode cX9_even 31 = .ok (.ifCond .ne 6, 3) := by decide +kernel
theorem dX9_even_34 : decode cX9_even 34 = .ok (.bipush (-2), 2) := by decide +kernel
theorem dX9_even_36 : decode cX9_even 36 = .ok (.ireturn, 1) := by decide +kernel
theorem dX9_even_37 : decode cX9_even 37 = .ok (.aload_n 0, 1) := by decide +kernel
theorem dX9_even_38 : decode cX9_even 38 = .ok (.iload_n 1, 1) := by decide +kernel
theorem dX9_even_39 : decode cX9_even 39 = .ok (.iload_n 2, 1) := by decide +kernel
theorem dX9_even_40 : decode cX9_even 40 = .ok (.iload_n 3, 1) := by decide +kernel
theorem dX9_even_41 : decode cX9_even 41 = .ok (.invokevirtual 344, 3) := by decide +kernel
theorem dX9_even_44 : decode cX9_even 44 = .ok (.aload_n 0, 1) := by decide +kernel
theorem dX9_even_45 : decode cX9_even 45 = .ok (.iload_n 1, 1) := by decide +kernel
theorem dX9_even_46 : decode cX9_even 46 = .ok (.iload_n 3, 1) := by decide +kernel
theorem dX9_even_47 : decode cX9_even 47 = .ok (.iload_n 2, 1) := by decide +kernel
theorem dX9_even_48 : decode cX9_even 48 = .ok (.invokevirtual 344, 3) := by decide +kernel
theorem dX9_even_51 : decode cX9_even 51 = .ok (.if_icmp .ne 7, 3) := by decide +kernel
theorem dX9_even_54 : decode cX9_even 54 = .ok (.iconst 1, 1) := by decide +kernel
theorem dX9_even_55 : decode cX9_even 55 = .ok (.goto 4, 3) := by decide +kernel
theorem dX9_even_58 : decode cX9_even 58 = .ok (.iconst 0, 1) := by decide +kernel
theorem dX9_even_59 : decode cX9_even 59 = .ok (.ireturn, 1) := by decide +kernel
theorem dX9_far_0 : decode cX9_far 0 = .ok (.aload_n 0, 1) := by decide +kernel
theorem dX9_far_1 : decode cX9_far 1 = .ok (.iload_n 1, 1) := by decide +kernel
theorem dX9_far_2 : decode cX9_far 2 = .ok (.invokevirtual 354, 3) := by decide +kernel
theorem dX9_far_5 : decode cX9_far 5 = .ok (.ifCond .eq 12, 3) := by decide +kernel
theorem dX9_far_8 : decode cX9_far 8 = .ok (.aload_n 0, 1) := by decide +kernel
theorem dX9_far_9 : decode cX9_far 9 = .ok (.iload_n 2, 1) := by decide +kernel
theorem dX9_far_10 : decode cX9_far 10 = .ok (.i2l, 1) := by decide +kernel
theorem dX9_far_11 : decode cX9_far 11 = .ok (.invokevirtual 314, 3) := by decide +kernel
theorem dX9_far_14 : decode cX9_far 14 = .ok (.ifCond .ne 6, 3) := by decide +kernel
theorem dX9_far_17 : decode cX9_far 17 = .ok (.bipush (-2), 2) := by decide +kernel
theorem dX9_far_19 : decode cX9_far 19 = .ok (.ireturn, 1) := by decide +kernel
theorem dX9_far_20 : decode cX9_far 20 = .ok (.aload_n 0, 1) := by decide +kernel
theorem dX9_far_21 : decode cX9_far 21 = .ok (.getfield 43, 3) := by decide +kernel
theorem dX9_far_24 : decode cX9_far 24 = .ok (.iload_n 2, 1) := by decide +kernel
theorem dX9_far_25 : decode cX9_far 25 = .ok (.iaload, 1) := by decide +kernel
theorem dX9_far_26 : decode cX9_far 26 = .ok (.ldc_w 324, 3) := by decide +kernel
theorem dX9_far_29 : decode cX9_far 29 = .ok (.if_icmp .ne 7, 3) := by decide +kernel
theorem dX9_far_32 : decode cX9_far 32 = .ok (.iconst (-1), 1) := by decide +kernel
theorem dX9_far_33 : decode cX9_far 33 = .ok (.goto 9, 3) := by decide +kernel
theorem dX9_far_36 : decode cX9_far 36 = .ok (.aload_n 0, 1) := by decide +kernel
theorem dX9_far_37 : decode cX9_far 37 = .ok (.getfield 43, 3) := by decide +kernel
theorem dX9_far_40 : decode cX9_far 40 = .ok (.iload_n 2, 1) := by decide +kernel
theorem dX9_far_41 : decode cX9_far 41 = .ok (.iaload, 1) := by decide +kernel
theorem dX9_far_42 : decode cX9_far 42 = .ok (.ireturn, 1) := by decide +kernel
theorem dX9_freely_0 : decode cX9_freely 0 = .ok (.aload_n 0, 1) := by decide +kernel
theorem dX9_freely_1 : decode cX9_freely 1 = .ok (.iload_n 1, 1) := by decide +kernel
theorem dX9_freely_2 : decode cX9_freely 2 = .ok (.invokevirtual 354, 3) := by decide +kernel
theorem dX9_freely_5 : decode cX9_freely 5 = .ok (.ifCond .eq 26, 3) := by decide +kernel
theorem dX9_freely_8 : decode cX9_freely 8 = .ok (.iload_n 2, 1) := by decide +kernel
theorem dX9_freely_9 : decode cX9_freely 9 = .ok (.invokestatic 357, 3) := by decide +kernel
theorem dX9_freely_12 : decode cX9_freely 12 = .ok (.ifCond .eq 19, 3) := by decide +kernel
theorem dX9_freely_15 : decode cX9_freely 15 = .ok (.aload_n 0, 1) := by decide +kernel
theorem dX9_freely_16 : decode cX9_freely 16 = .ok (.iload_n 1, 1) := by decide +kernel
theorem dX9_freely_17 : decode cX9_freely 17 = .ok (.aload_n 0, 1) := by decide +kernel
theorem dX9_freely_18 : decode cX9_freely 18 = .ok (.getfield 46, 3) := by decide +kernel
theorem dX9_freely_21 : decode cX9_freely 21 = .ok (.iload_n 2, 1) := by decide +kernel
theorem dX9_freely_22 : decode cX9_freely 22 = .ok (.invokestatic 360, 3) := by decide +kernel
theorem dX9_freely_25 : decode cX9_freely 25 = .ok (.invokevirtual 364, 3) := by decide +kernel
theorem dX9_freely_28 : decode cX9_freely 28 = .ok (.goto 5, 3) := by decide +kernel
theorem dX9_freely_31 : decode cX9_freely 31 = .ok (.bipush (-2), 2) := by decide +kernel
theorem dX9_freely_33 : decode cX9_freely 33 = .ok (.ireturn, 1) := by decide +kernel
theorem dX9_goesTo_0 : decode cX9_goesTo 0 = .ok (.aload_n 0, 1) := by decide +kernel
theorem dX9_goesTo_1 : decode cX9_goesTo 1 = .ok (.getfield 40, 3) := by decide +kernel
theorem dX9_goesTo_4 : decode cX9_goesTo 4 = .ok (.bipush 64, 2) := by decide +kernel
theorem dX9_goesTo_6 : decode cX9_goesTo 6 = .ok (.iload_n 1, 1) := by decide +kernel
theorem dX9_goesTo_7 : decode cX9_goesTo 7 = .ok (.imul, 1) := by decide +kernel
theorem dX9_goesTo_8 : decode cX9_goesTo 8 = .ok (.iload_n 2, 1) := by decide +kernel
theorem dX9_goesTo_9 : decode cX9_goesTo 9 = .ok (.iadd, 1) := by decide +kernel
theorem dX9_goesTo_10 : decode cX9_goesTo 10 = .ok (.iaload, 1) := by decide +kernel
theorem dX9_goesTo_11 : decode cX9_goesTo 11 = .ok (.ireturn, 1) := by decide +kernel
theorem dX9_hard_0 : decode cX9_hard 0 = .ok (.aload_n 0, 1) := by decide +kernel
theorem dX9_hard_1 : decode cX9_hard 1 = .ok (.invokevirtual 318, 3) := by decide +kernel
theorem dX9_hard_4 : decode cX9_hard 4 = .ok (.ifCond .ne 6, 3) := by decide +kernel
theorem dX9_hard_7 : decode cX9_hard 7 = .ok (.bipush (-2), 2) := by decide +kernel
theorem dX9_hard_9 : decode cX9_hard 9 = .ok (.ireturn, 1) := by decide +kernel
theorem dX9_hard_10 : decode cX9_hard 10 = .ok (.iconst (-1), 1) := by decide +kernel
theorem dX9_hard_11 : decode cX9_hard 11 = .ok (.istore_n 1, 1) := by decide +kernel
theorem dX9_hard_12 : decode cX9_hard 12 = .ok (.iconst (-1), 1) := by decide +kernel
theorem dX9_hard_13 : decode cX9_hard 13 = .ok (.istore_n 2, 1) := by decide +kernel
theorem dX9_hard_14 : decode cX9_hard 14 = .ok (.iconst 0, 1) := by decide +kernel
theorem dX9_hard_15 : decode cX9_hard 15 = .ok (.istore_n 3, 1) := by decide +kernel
theorem dX9_hard_16 : decode cX9_hard 16 = .ok (.iload_n 3, 1) := by decide +kernel
theorem dX9_hard_17 : decode cX9_hard 17 = .ok (.aload_n 0, 1) := by decide +kernel
theorem dX9_hard_18 : decode cX9_hard 18 = .ok (.invokevirtual 80, 3) := by decide +kernel
theorem dX9_hard_21 : decode cX9_hard 21 = .ok (.if_icmp .ge 64, 3) := by decide +kernel
theorem dX9_hard_24 : decode cX9_hard 24 = .ok (.iconst 0, 1) := by decide +kernel
theorem dX9_hard_25 : decode cX9_hard 25 = .ok (.istore 4, 2) := by decide +kernel
theorem dX9_hard_27 : decode cX9_hard 27 = .ok (.iconst 0, 1) := by decide +kernel
theorem dX9_hard_28 : decode cX9_hard 28 = .ok (.istore 5, 2) := by decide +kernel
theorem dX9_hard_30 : decode cX9_hard 30 = .ok (.iload 5, 2) := by decide +kernel
theorem dX9_hard_32 : decode cX9_hard 32 = .ok (.aload_n 0, 1) := by decide +kernel
theorem dX9_hard_33 : decode cX9_hard 33 = .ok (.invokevirtual 96, 3) := by decide +kernel
theorem dX9_hard_36 : decode cX9_hard 36 = .ok (.if_icmp .ge 29, 3) := by decide +kernel
theorem dX9_hard_39 : decode cX9_hard 39 = .ok (.iload 4, 2) := by decide +kernel
theorem dX9_hard_41 : decode cX9_hard 41 = .ok (.aload_n 0, 1) := by decide +kernel
theorem dX9_hard_42 : decode cX9_hard 42 = .ok (.iload_n 3, 1) := by decide +kernel
theorem dX9_hard_43 : decode cX9_hard 43 = .ok (.iload 5, 2) := by decide +kernel
theorem dX9_hard_45 : decode cX9_hard 45 = .ok (.invokevirtual 291, 3) := by decide +kernel
theorem dX9_hard_48 : decode cX9_hard 48 = .ok (.ifCond .eq 7, 3) := by decide +kernel
theorem dX9_hard_51 : decode cX9_hard 51 = .ok (.iconst 0, 1) := by decide +kernel
theorem dX9_hard_52 : decode cX9_hard 52 = .ok (.goto 4, 3) := by decide +kernel
theorem dX9_hard_55 : decode cX9_hard 55 = .ok (.iconst 1, 1) := by decide +kernel
theorem dX9_hard_56 : decode cX9_hard 56 = .ok (.iadd, 1) := by decide +kernel
theorem dX9_hard_57 : decode cX9_hard 57 = .ok (.istore 4, 2) := by decide +kernel
theorem dX9_hard_59 : decode cX9_hard 59 = .ok (.iinc 5 1, 3) := by decide +kernel
theorem dX9_hard_62 : decode cX9_hard 62 = .ok (.goto (-32), 3) := by decide +kernel
theorem dX9_hard_65 : decode cX9_hard 65 = .ok (.iload 4, 2) := by decide +kernel
theorem dX9_hard_67 : decode cX9_hard 67 = .ok (.iload_n 2, 1) := by decide +kernel
theorem dX9_hard_68 : decode cX9_hard 68 = .ok (.if_icmp .gt 6, 3) := by decide +kernel
theorem dX9_hard_71 : decode cX9_hard 71 = .ok (.goto 8, 3) := by decide +kernel
theorem dX9_hard_74 : decode cX9_hard 74 = .ok (.iload 4, 2) := by decide +kernel
theorem dX9_hard_76 : decode cX9_hard 76 = .ok (.istore_n 2, 1) := by decide +kernel
theorem dX9_hard_77 : decode cX9_hard 77 = .ok (.iload_n 3, 1) := by decide +kernel
theorem dX9_hard_78 : decode cX9_hard 78 = .ok (.istore_n 1, 1) := by decide +kernel
theorem dX9_hard_79 : decode cX9_hard 79 = .ok (.iinc 3 1, 3) := by decide +kernel
theorem dX9_hard_82 : decode cX9_hard 82 = .ok (.goto (-66), 3) := by decide +kernel
theorem dX9_hard_85 : decode cX9_hard 85 = .ok (.iload_n 1, 1) := by decide +kernel
theorem dX9_hard_86 : decode cX9_hard 86 = .ok (.ireturn, 1) := by decide +kernel
theorem dX9_holds_0 : decode cX9_holds 0 = .ok (.aload_n 0, 1) := by decide +kernel
theorem dX9_holds_1 : decode cX9_holds 1 = .ok (.iload_n 2, 1) := by decide +kernel
theorem dX9_holds_2 : decode cX9_holds 2 = .ok (.i2l, 1) := by decide +kernel
theorem dX9_holds_3 : decode cX9_holds 3 = .ok (.invokevirtual 314, 3) := by decide +kernel
theorem dX9_holds_6 : decode cX9_holds 6 = .ok (.ifCond .eq 11, 3) := by decide +kernel
theorem dX9_holds_9 : decode cX9_holds 9 = .ok (.aload_n 0, 1) := by decide +kernel
theorem dX9_holds_10 : decode cX9_holds 10 = .ok (.iload_n 1, 1) := by decide +kernel
theorem dX9_holds_11 : decode cX9_holds 11 = .ok (.invokevirtual 256, 3) := by decide +kernel
theorem dX9_holds_14 : decode cX9_holds 14 = .ok (.ifCond .ne 6, 3) := by decide +kernel
theorem dX9_holds_17 : decode cX9_holds 17 = .ok (.bipush (-2), 2) := by decide +kernel
theorem dX9_holds_19 : decode cX9_holds 19 = .ok (.ireturn, 1) := by decide +kernel
theorem dX9_holds_20 : decode cX9_holds 20 = .ok (.aload_n 0, 1) := by decide +kernel
theorem dX9_holds_21 : decode cX9_holds 21 = .ok (.iload_n 1, 1) := by decide +kernel
theorem dX9_holds_22 : decode cX9_holds 22 = .ok (.iload_n 2, 1) := by decide +kernel
theorem dX9_holds_23 : decode cX9_holds 23 = .ok (.invokevirtual 291, 3) := by decide +kernel
theorem dX9_holds_26 : decode cX9_holds 26 = .ok (.ifCond .eq 7, 3) := by decide +kernel
theorem dX9_holds_29 : decode cX9_holds 29 = .ok (.iconst 1, 1) := by decide +kernel
theorem dX9_holds_30 : decode cX9_holds 30 = .ok (.goto 4, 3) := by decide +kernel
theorem dX9_holds_33 : decode cX9_holds 33 = .ok (.iconst 0, 1) := by decide +kernel
theorem dX9_holds_34 : decode cX9_holds 34 = .ok (.ireturn, 1) := by decide +kernel
theorem dX9_lateOf_0 : decode cX9_lateOf 0 = .ok (.iload_n 2, 1) := by decide +kernel
theorem dX9_lateOf_1 : decode cX9_lateOf 1 = .ok (.iload_n 1, 1) := by decide +kernel
theorem dX9_lateOf_2 : decode cX9_lateOf 2 = .ok (.if_icmp .ne 5, 3) := by decide +kernel
theorem dX9_lateOf_5 : decode cX9_lateOf 5 = .ok (.iload_n 3, 1) := by decide +kernel
theorem dX9_lateOf_6 : decode cX9_lateOf 6 = .ok (.ireturn, 1) := by decide +kernel
theorem dX9_lateOf_7 : decode cX9_lateOf 7 = .ok (.iload_n 3, 1) := by decide +kernel
theorem dX9_lateOf_8 : decode cX9_lateOf 8 = .ok (.iload_n 1, 1) := by decide +kernel
theorem dX9_lateOf_9 : decode cX9_lateOf 9 = .ok (.if_icmp .eq 10, 3) := by decide +kernel
theorem dX9_lateOf_12 : decode cX9_lateOf 12 = .ok (.aload_n 0, 1) := by decide +kernel
theorem dX9_lateOf_13 : decode cX9_lateOf 13 = .ok (.getfield 276, 3) := by decide +kernel
theorem dX9_lateOf_16 : decode cX9_lateOf 16 = .ok (.ifCond .ne 5, 3) := by decide +kernel
theorem dX9_lateOf_19 : decode cX9_lateOf 19 = .ok (.iload_n 2, 1) := by decide +kernel
theorem dX9_lateOf_20 : decode cX9_lateOf 20 = .ok (.ireturn, 1) := by decide +kernel
theorem dX9_lateOf_21 : decode cX9_lateOf 21 = .ok (.aload_n 0, 1) := by decide +kernel
theorem dX9_lateOf_22 : decode cX9_lateOf 22 = .ok (.getfield 276, 3) := by decide +kernel
theorem dX9_lateOf_25 : decode cX9_lateOf 25 = .ok (.iconst 1, 1) := by decide +kernel
theorem dX9_lateOf_26 : decode cX9_lateOf 26 = .ok (.if_icmp .ne 7, 3) := by decide +kernel
theorem dX9_lateOf_29 : decode cX9_lateOf 29 = .ok (.iload_n 3, 1) := by decide +kernel
theorem dX9_lateOf_30 : decode cX9_lateOf 30 = .ok (.goto 20, 3) := by decide +kernel
theorem dX9_lateOf_33 : decode cX9_lateOf 33 = .ok (.aload_n 0, 1) := by decide +kernel
theorem dX9_lateOf_34 : decode cX9_lateOf 34 = .ok (.getfield 276, 3) := by decide +kernel
theorem dX9_lateOf_37 : decode cX9_lateOf 37 = .ok (.iconst 2, 1) := by decide +kernel
theorem dX9_lateOf_38 : decode cX9_lateOf 38 = .ok (.if_icmp .ne 11, 3) := by decide +kernel
theorem dX9_lateOf_41 : decode cX9_lateOf 41 = .ok (.iload_n 2, 1) := by decide +kernel
theorem dX9_lateOf_42 : decode cX9_lateOf 42 = .ok (.iload_n 3, 1) := by decide +kernel
theorem dX9_lateOf_43 : decode cX9_lateOf 43 = .ok (.invokestatic 191, 3) := by decide +kernel
theorem dX9_lateOf_46 : decode cX9_lateOf 46 = .ok (.goto 4, 3) := by decide +kernel
theorem dX9_lateOf_49 : decode cX9_lateOf 49 = .ok (.iload_n 1, 1) := by decide +kernel
theorem dX9_lateOf_50 : decode cX9_lateOf 50 = .ok (.ireturn, 1) := by decide +kernel
theorem dX9_layFar_0 : decode cX9_layFar 0 = .ok (.iconst 0, 1) := by decide +kernel
theorem dX9_layFar_1 : decode cX9_layFar 1 = .ok (.istore 4, 2) := by decide +kernel
theorem dX9_layFar_3 : decode cX9_layFar 3 = .ok (.iload 4, 2) := by decide +kernel
theorem dX9_layFar_5 : decode cX9_layFar 5 = .ok (.bipush 64, 2) := by decide +kernel
theorem dX9_layFar_7 : decode cX9_layFar 7 = .ok (.if_icmp .ge 16, 3) := by decide +kernel
theorem dX9_layFar_10 : decode cX9_layFar 10 = .ok (.aload_n 1, 1) := by decide +kernel
theorem dX9_layFar_11 : decode cX9_layFar 11 = .ok (.iload 4, 2) := by decide +kernel
theorem dX9_layFar_13 : decode cX9_layFar 13 = .ok (.ldc_w 324, 3) := by decide +kernel
theorem dX9_layFar_16 : decode cX9_layFar 16 = .ok (.iastore, 1) := by decide +kernel
theorem dX9_layFar_17 : decode cX9_layFar 17 = .ok (.iinc 4 1, 3) := by decide +kernel
theorem dX9_layFar_20 : decode cX9_layFar 20 = .ok (.goto (-17), 3) := by decide +kernel
theorem dX9_layFar_23 : decode cX9_layFar 23 = .ok (.aload_n 0, 1) := by decide +kernel
theorem dX9_layFar_24 : decode cX9_layFar 24 = .ok (.getfield 37, 3) := by decide +kernel
theorem dX9_layFar_27 : decode cX9_layFar 27 = .ok (.iload_n 2, 1) := by decide +kernel
theorem dX9_layFar_28 : decode cX9_layFar 28 = .ok (.baload, 1) := by decide +kernel
theorem dX9_layFar_29 : decode cX9_layFar 29 = .ok (.ifCond .ne 4, 3) := by decide +kernel
theorem dX9_layFar_32 : decode cX9_layFar 32 = .ok (.return_, 1) := by decide +kernel
theorem dX9_layFar_33 : decode cX9_layFar 33 = .ok (.aload_n 1, 1) := by decide +kernel
theorem dX9_layFar_34 : decode cX9_layFar 34 = .ok (.iload_n 2, 1) := by decide +kernel
theorem dX9_layFar_35 : decode cX9_layFar 35 = .ok (.iconst 0, 1) := by decide +kernel
theorem dX9_layFar_36 : decode cX9_layFar 36 = .ok (.iastore, 1) := by decide +kernel
theorem dX9_layFar_37 : decode cX9_layFar 37 = .ok (.iconst 0, 1) := by decide +kernel
theorem dX9_layFar_38 : decode cX9_layFar 38 = .ok (.istore 4, 2) := by decide +kernel
theorem dX9_layFar_40 : decode cX9_layFar 40 = .ok (.iload 4, 2) := by decide +kernel
theorem dX9_layFar_42 : decode cX9_layFar 42 = .ok (.iconst 3, 1) := by decide +kernel
theorem dX9_layFar_43 : decode cX9_layFar 43 = .ok (.if_icmp .ge 105, 3) := by decide +kernel
theorem dX9_layFar_46 : decode cX9_layFar 46 = .ok (.iconst 0, 1) := by decide +kernel
theorem dX9_layFar_47 : decode cX9_layFar 47 = .ok (.istore 5, 2) := by decide +kernel
theorem dX9_layFar_49 : decode cX9_layFar 49 = .ok (.iload 5, 2) := by decide +kernel
theorem dX9_layFar_51 : decode cX9_layFar 51 = .ok (.aload_n 0, 1) := by decide +kernel
theorem dX9_layFar_52 : decode cX9_layFar 52 = .ok (.invokevirtual 96, 3) := by decide +kernel
theorem dX9_layFar_55 : decode cX9_layFar 55 = .ok (.if_icmp .ge 87, 3) := by decide +kernel
theorem dX9_layFar_58 : decode cX9_layFar 58 = .ok (.aload_n 1, 1) := by decide +kernel
theorem dX9_layFar_59 : decode cX9_layFar 59 = .ok (.iload 5, 2) := by decide +kernel
theorem dX9_layFar_61 : decode cX9_layFar 61 = .ok (.iaload, 1) := by decide +kernel
theorem dX9_layFar_62 : decode cX9_layFar 62 = .ok (.iload 4, 2) := by decide +kernel
theorem dX9_layFar_64 : decode cX9_layFar 64 = .ok (.if_icmp .eq 6, 3) := by decide +kernel
theorem dX9_layFar_67 : decode cX9_layFar 67 = .ok (.goto 69, 3) := by decide +kernel
theorem dX9_layFar_70 : decode cX9_layFar 70 = .ok (.iconst 0, 1) := by decide +kernel
theorem dX9_layFar_71 : decode cX9_layFar 71 = .ok (.istore 6, 2) := by decide +kernel
theorem dX9_layFar_73 : decode cX9_layFar 73 = .ok (.iload 6, 2) := by decide +kernel
theorem dX9_layFar_75 : decode cX9_layFar 75 = .ok (.aload_n 0, 1) := by decide +kernel
theorem dX9_layFar_76 : decode cX9_layFar 76 = .ok (.invokevirtual 84, 3) := by decide +kernel
theorem dX9_layFar_79 : decode cX9_layFar 79 = .ok (.if_icmp .ge 57, 3) := by decide +kernel
theorem dX9_layFar_82 : decode cX9_layFar 82 = .ok (.iload_n 3, 1) := by decide +kernel
theorem dX9_layFar_83 : decode cX9_layFar 83 = .ok (.iload 6, 2) := by decide +kernel
theorem dX9_layFar_85 : decode cX9_layFar 85 = .ok (.invokestatic 288, 3) := by decide +kernel
theorem dX9_layFar_88 : decode cX9_layFar 88 = .ok (.ifCond .ne 42, 3) := by decide +kernel
theorem dX9_layFar_91 : decode cX9_layFar 91 = .ok (.aload_n 0, 1) := by decide +kernel
theorem dX9_layFar_92 : decode cX9_layFar 92 = .ok (.iload 6, 2) := by decide +kernel
theorem dX9_layFar_94 : decode cX9_layFar 94 = .ok (.iload 5, 2) := by decide +kernel
theorem dX9_layFar_96 : decode cX9_layFar 96 = .ok (.invokevirtual 325, 3) := by decide +kernel
theorem dX9_layFar_99 : decode cX9_layFar 99 = .ok (.iconst (-1), 1) := by decide +kernel
theorem dX9_layFar_100 : decode cX9_layFar 100 = .ok (.if_icmp .eq 30, 3) := by decide +kernel
theorem dX9_layFar_103 : decode cX9_layFar 103 = .ok (.aload_n 1, 1) := by decide +kernel
theorem dX9_layFar_104 : decode cX9_layFar 104 = .ok (.aload_n 0, 1) := by decide +kernel
theorem dX9_layFar_105 : decode cX9_layFar 105 = .ok (.iload 6, 2) := by decide +kernel
theorem dX9_layFar_107 : decode cX9_layFar 107 = .ok (.iload 5, 2) := by decide +kernel
theorem dX9_layFar_109 : decode cX9_layFar 109 = .ok (.invokevirtual 325, 3) := by decide +kernel
theorem dX9_layFar_112 : decode cX9_layFar 112 = .ok (.aload_n 1, 1) := by decide +kernel
theorem dX9_layFar_113 : decode cX9_layFar 113 = .ok (.aload_n 0, 1) := by decide +kernel
theorem dX9_layFar_114 : decode cX9_layFar 114 = .ok (.iload 6, 2) := by decide +kernel
theorem dX9_layFar_116 : decode cX9_layFar 116 = .ok (.iload 5, 2) := by decide +kernel
theorem dX9_layFar_118 : decode cX9_layFar 118 = .ok (.invokevirtual 325, 3) := by decide +kernel
theorem dX9_layFar_121 : decode cX9_layFar 121 = .ok (.iaload, 1) := by decide +kernel
theorem dX9_layFar_122 : decode cX9_layFar 122 = .ok (.iload 4, 2) := by decide +kernel
theorem dX9_layFar_124 : decode cX9_layFar 124 = .ok (.iconst 1, 1) := by decide +kernel
theorem dX9_layFar_125 : decode cX9_layFar 125 = .ok (.iadd, 1) := by decide +kernel
theorem dX9_layFar_126 : decode cX9_layFar 126 = .ok (.invokestatic 130, 3) := by decide +kernel
theorem dX9_layFar_129 : decode cX9_layFar 129 = .ok (.iastore, 1) := by decide +kernel
theorem dX9_layFar_130 : decode cX9_layFar 130 = .ok (.iinc 6 1, 3) := by decide +kernel
theorem dX9_layFar_133 : decode cX9_layFar 133 = .ok (.goto (-60), 3) := by decide +kernel
theorem dX9_layFar_136 : decode cX9_layFar 136 = .ok (.iinc 5 1, 3) := by decide +kernel
theorem dX9_layFar_139 : decode cX9_layFar 139 = .ok (.goto (-90), 3) := by decide +kernel
theorem dX9_layFar_142 : decode cX9_layFar 142 = .ok (.iinc 4 1, 3) := by decide +kernel
theorem dX9_layFar_145 : decode cX9_layFar 145 = .ok (.goto (-105), 3) := by decide +kernel
theorem dX9_layFar_148 : decode cX9_layFar 148 = .ok (.return_, 1) := by decide +kernel
theorem dX9_laySides_0 : decode cX9_laySides 0 = .ok (.aload_n 0, 1) := by decide +kernel
theorem dX9_laySides_1 : decode cX9_laySides 1 = .ok (.aload_n 0, 1) := by decide +kernel
theorem dX9_laySides_2 : decode cX9_laySides 2 = .ok (.getfield 43, 3) := by decide +kernel
theorem dX9_laySides_5 : decode cX9_laySides 5 = .ok (.iload_n 1, 1) := by decide +kernel
theorem dX9_laySides_6 : decode cX9_laySides 6 = .ok (.iconst 0, 1) := by decide +kernel
theorem dX9_laySides_7 : decode cX9_laySides 7 = .ok (.invokevirtual 347, 3) := by decide +kernel
theorem dX9_laySides_10 : decode cX9_laySides 10 = .ok (.aload_n 0, 1) := by decide +kernel
theorem dX9_laySides_11 : decode cX9_laySides 11 = .ok (.aload_n 0, 1) := by decide +kernel
theorem dX9_laySides_12 : decode cX9_laySides 12 = .ok (.getfield 46, 3) := by decide +kernel
theorem dX9_laySides_15 : decode cX9_laySides 15 = .ok (.iload_n 1, 1) := by decide +kernel
theorem dX9_laySides_16 : decode cX9_laySides 16 = .ok (.aload_n 0, 1) := by decide +kernel
theorem dX9_laySides_17 : decode cX9_laySides 17 = .ok (.getfield 279, 3) := by decide +kernel
theorem dX9_laySides_20 : decode cX9_laySides 20 = .ok (.invokevirtual 347, 3) := by decide +kernel
theorem dX9_laySides_23 : decode cX9_laySides 23 = .ok (.return_, 1) := by decide +kernel
theorem dX9_layStates_0 : decode cX9_layStates 0 = .ok (.iconst 0, 1) := by decide +kernel
theorem dX9_layStates_1 : decode cX9_layStates 1 = .ok (.istore_n 1, 1) := by decide +kernel
theorem dX9_layStates_2 : decode cX9_layStates 2 = .ok (.iload_n 1, 1) := by decide +kernel
theorem dX9_layStates_3 : decode cX9_layStates 3 = .ok (.aload_n 0, 1) := by decide +kernel
theorem dX9_layStates_4 : decode cX9_layStates 4 = .ok (.invokevirtual 96, 3) := by decide +kernel
theorem dX9_layStates_7 : decode cX9_layStates 7 = .ok (.if_icmp .ge 29, 3) := by decide +kernel
theorem dX9_layStates_10 : decode cX9_layStates 10 = .ok (.aload_n 0, 1) := by decide +kernel
theorem dX9_layStates_11 : decode cX9_layStates 11 = .ok (.getfield 37, 3) := by decide +kernel
theorem dX9_layStates_14 : decode cX9_layStates 14 = .ok (.iload_n 1, 1) := by decide +kernel
theorem dX9_layStates_15 : decode cX9_layStates 15 = .ok (.aload_n 0, 1) := by decide +kernel
theorem dX9_layStates_16 : decode cX9_layStates 16 = .ok (.iload_n 1, 1) := by decide +kernel
theorem dX9_layStates_17 : decode cX9_layStates 17 = .ok (.invokevirtual 302, 3) := by decide +kernel
theorem dX9_layStates_20 : decode cX9_layStates 20 = .ok (.iconst (-1), 1) := by decide +kernel
theorem dX9_layStates_21 : decode cX9_layStates 21 = .ok (.if_icmp .ne 7, 3) := by decide +kernel
theorem dX9_layStates_24 : decode cX9_layStates 24 = .ok (.iconst 1, 1) := by decide +kernel
theorem dX9_layStates_25 : decode cX9_layStates 25 = .ok (.goto 4, 3) := by decide +kernel
theorem dX9_layStates_28 : decode cX9_layStates 28 = .ok (.iconst 0, 1) := by decide +kernel
theorem dX9_layStates_29 : decode cX9_layStates 29 = .ok (.bastore, 1) := by decide +kernel
theorem dX9_layStates_30 : decode cX9_layStates 30 = .ok (.iinc 1 1, 3) := by decide +kernel
theorem dX9_layStates_33 : decode cX9_layStates 33 = .ok (.goto (-31), 3) := by decide +kernel
theorem dX9_layStates_36 : decode cX9_layStates 36 = .ok (.iconst 0, 1) := by decide +kernel
theorem dX9_layStates_37 : decode cX9_layStates 37 = .ok (.istore_n 1, 1) := by decide +kernel
theorem dX9_layStates_38 : decode cX9_layStates 38 = .ok (.iload_n 1, 1) := by decide +kernel
theorem dX9_layStates_39 : decode cX9_layStates 39 = .ok (.aload_n 0, 1) := by decide +kernel
theorem dX9_layStates_40 : decode cX9_layStates 40 = .ok (.invokevirtual 84, 3) := by decide +kernel
theorem dX9_layStates_43 : decode cX9_layStates 43 = .ok (.if_icmp .ge 42, 3) := by decide +kernel
theorem dX9_layStates_46 : decode cX9_layStates 46 = .ok (.iconst 0, 1) := by decide +kernel
theorem dX9_layStates_47 : decode cX9_layStates 47 = .ok (.istore_n 2, 1) := by decide +kernel
theorem dX9_layStates_48 : decode cX9_layStates 48 = .ok (.iload_n 2, 1) := by decide +kernel
theorem dX9_layStates_49 : decode cX9_layStates 49 = .ok (.aload_n 0, 1) := by decide +kernel
theorem dX9_layStates_50 : decode cX9_layStates 50 = .ok (.invokevirtual 96, 3) := by decide +kernel
theorem dX9_layStates_53 : decode cX9_layStates 53 = .ok (.if_icmp .ge 26, 3) := by decide +kernel
theorem dX9_layStates_56 : decode cX9_layStates 56 = .ok (.aload_n 0, 1) := by decide +kernel
theorem dX9_layStates_57 : decode cX9_layStates 57 = .ok (.getfield 40, 3) := by decide +kernel
theorem dX9_layStates_60 : decode cX9_layStates 60 = .ok (.bipush 64, 2) := by decide +kernel
theorem dX9_layStates_62 : decode cX9_layStates 62 = .ok (.iload_n 1, 1) := by decide +kernel
theorem dX9_layStates_63 : decode cX9_layStates 63 = .ok (.imul, 1) := by decide +kernel
theorem dX9_layStates_64 : decode cX9_layStates 64 = .ok (.iload_n 2, 1) := by decide +kernel
theorem dX9_layStates_65 : decode cX9_layStates 65 = .ok (.iadd, 1) := by decide +kernel
theorem dX9_layStates_66 : decode cX9_layStates 66 = .ok (.aload_n 0, 1) := by decide +kernel
theorem dX9_layStates_67 : decode cX9_layStates 67 = .ok (.iload_n 1, 1) := by decide +kernel
theorem dX9_layStates_68 : decode cX9_layStates 68 = .ok (.iload_n 2, 1) := by decide +kernel
theorem dX9_layStates_69 : decode cX9_layStates 69 = .ok (.invokevirtual 305, 3) := by decide +kernel
theorem dX9_layStates_72 : decode cX9_layStates 72 = .ok (.iastore, 1) := by decide +kernel
theorem dX9_layStates_73 : decode cX9_layStates 73 = .ok (.iinc 2 1, 3) := by decide +kernel
theorem dX9_layStates_76 : decode cX9_layStates 76 = .ok (.goto (-28), 3) := by decide +kernel
theorem dX9_layStates_79 : decode cX9_layStates 79 = .ok (.iinc 1 1, 3) := by decide +kernel
theorem dX9_layStates_82 : decode cX9_layStates 82 = .ok (.goto (-44), 3) := by decide +kernel
theorem dX9_layStates_85 : decode cX9_layStates 85 = .ok (.return_, 1) := by decide +kernel
theorem dX9_locked_0 : decode cX9_locked 0 = .ok (.aload_n 0, 1) := by decide +kernel
theorem dX9_locked_1 : decode cX9_locked 1 = .ok (.invokevirtual 318, 3) := by decide +kernel
theorem dX9_locked_4 : decode cX9_locked 4 = .ok (.ifCond .eq 10, 3) := by decide +kernel
theorem dX9_locked_7 : decode cX9_locked 7 = .ok (.aload_n 0, 1) := by decide +kernel
theorem dX9_locked_8 : decode cX9_locked 8 = .ok (.getfield 279, 3) := by decide +kernel
theorem dX9_locked_11 : decode cX9_locked 11 = .ok (.goto 5, 3) := by decide +kernel
theorem dX9_locked_14 : decode cX9_locked 14 = .ok (.bipush (-2), 2) := by decide +kernel
theorem dX9_locked_16 : decode cX9_locked 16 = .ok (.ireturn, 1) := by decide +kernel
theorem dX9_merge_0 : decode cX9_merge 0 = .ok (.aload_n 0, 1) := by decide +kernel
theorem dX9_merge_1 : decode cX9_merge 1 = .ok (.invokevirtual 318, 3) := by decide +kernel
theorem dX9_merge_4 : decode cX9_merge 4 = .ok (.ifCond .eq 40, 3) := by decide +kernel
theorem dX9_merge_7 : decode cX9_merge 7 = .ok (.aload_n 0, 1) := by decide +kernel
theorem dX9_merge_8 : decode cX9_merge 8 = .ok (.iload_n 1, 1) := by decide +kernel
theorem dX9_merge_9 : decode cX9_merge 9 = .ok (.i2l, 1) := by decide +kernel
theorem dX9_merge_10 : decode cX9_merge 10 = .ok (.invokevirtual 314, 3) := by decide +kernel
theorem dX9_merge_13 : decode cX9_merge 13 = .ok (.ifCond .eq 31, 3) := by decide +kernel
theorem dX9_merge_16 : decode cX9_merge 16 = .ok (.aload_n 0, 1) := by decide +kernel
theorem dX9_merge_17 : decode cX9_merge 17 = .ok (.iload_n 2, 1) := by decide +kernel
theorem dX9_merge_18 : decode cX9_merge 18 = .ok (.i2l, 1) := by decide +kernel
theorem dX9_merge_19 : decode cX9_merge 19 = .ok (.invokevirtual 314, 3) := by decide +kernel
theorem dX9_merge_22 : decode cX9_merge 22 = .ok (.ifCond .eq 22, 3) := by decide +kernel
theorem dX9_merge_25 : decode cX9_merge 25 = .ok (.aload_n 0, 1) := by decide +kernel
theorem dX9_merge_26 : decode cX9_merge 26 = .ok (.iload_n 3, 1) := by decide +kernel
theorem dX9_merge_27 : decode cX9_merge 27 = .ok (.i2l, 1) := by decide +kernel
theorem dX9_merge_28 : decode cX9_merge 28 = .ok (.invokevirtual 314, 3) := by decide +kernel
theorem dX9_merge_31 : decode cX9_merge 31 = .ok (.ifCond .eq 13, 3) := by decide +kernel
theorem dX9_merge_34 : decode cX9_merge 34 = .ok (.aload_n 0, 1) := by decide +kernel
theorem dX9_merge_35 : decode cX9_merge 35 = .ok (.iload_n 1, 1) := by decide +kernel
theorem dX9_merge_36 : decode cX9_merge 36 = .ok (.iload_n 2, 1) := by decide +kernel
theorem dX9_merge_37 : decode cX9_merge 37 = .ok (.iload_n 3, 1) := by decide +kernel
theorem dX9_merge_38 : decode cX9_merge 38 = .ok (.invokevirtual 344, 3) := by decide +kernel
theorem dX9_merge_41 : decode cX9_merge 41 = .ok (.goto 5, 3) := by decide +kernel
theorem dX9_merge_44 : decode cX9_merge 44 = .ok (.bipush (-2), 2) := by decide +kernel
theorem dX9_merge_46 : decode cX9_merge 46 = .ok (.ireturn, 1) := by decide +kernel
theorem dX9_mergeOf_0 : decode cX9_mergeOf 0 = .ok (.iconst 0, 1) := by decide +kernel
theorem dX9_mergeOf_1 : decode cX9_mergeOf 1 = .ok (.istore 4, 2) := by decide +kernel
theorem dX9_mergeOf_3 : decode cX9_mergeOf 3 = .ok (.iconst 0, 1) := by decide +kernel
theorem dX9_mergeOf_4 : decode cX9_mergeOf 4 = .ok (.istore 5, 2) := by decide +kernel
theorem dX9_mergeOf_6 : decode cX9_mergeOf 6 = .ok (.iload 5, 2) := by decide +kernel
theorem dX9_mergeOf_8 : decode cX9_mergeOf 8 = .ok (.aload_n 0, 1) := by decide +kernel
theorem dX9_mergeOf_9 : decode cX9_mergeOf 9 = .ok (.invokevirtual 87, 3) := by decide +kernel
theorem dX9_mergeOf_12 : decode cX9_mergeOf 12 = .ok (.if_icmp .ge 51, 3) := by decide +kernel
theorem dX9_mergeOf_15 : decode cX9_mergeOf 15 = .ok (.aload_n 0, 1) := by decide +kernel
theorem dX9_mergeOf_16 : decode cX9_mergeOf 16 = .ok (.iload 4, 2) := by decide +kernel
theorem dX9_mergeOf_18 : decode cX9_mergeOf 18 = .ok (.iload 5, 2) := by decide +kernel
theorem dX9_mergeOf_20 : decode cX9_mergeOf 20 = .ok (.aload_n 0, 1) := by decide +kernel
theorem dX9_mergeOf_21 : decode cX9_mergeOf 21 = .ok (.aload_n 0, 1) := by decide +kernel
theorem dX9_mergeOf_22 : decode cX9_mergeOf 22 = .ok (.getfield 34, 3) := by decide +kernel
theorem dX9_mergeOf_25 : decode cX9_mergeOf 25 = .ok (.iload 5, 2) := by decide +kernel
theorem dX9_mergeOf_27 : decode cX9_mergeOf 27 = .ok (.iaload, 1) := by decide +kernel
theorem dX9_mergeOf_28 : decode cX9_mergeOf 28 = .ok (.aload_n 0, 1) := by decide +kernel
theorem dX9_mergeOf_29 : decode cX9_mergeOf 29 = .ok (.iload_n 1, 1) := by decide +kernel
theorem dX9_mergeOf_30 : decode cX9_mergeOf 30 = .ok (.iload 5, 2) := by decide +kernel
theorem dX9_mergeOf_32 : decode cX9_mergeOf 32 = .ok (.invokevirtual 285, 3) := by decide +kernel
theorem dX9_mergeOf_35 : decode cX9_mergeOf 35 = .ok (.aload_n 0, 1) := by decide +kernel
theorem dX9_mergeOf_36 : decode cX9_mergeOf 36 = .ok (.iload_n 2, 1) := by decide +kernel
theorem dX9_mergeOf_37 : decode cX9_mergeOf 37 = .ok (.iload 5, 2) := by decide +kernel
theorem dX9_mergeOf_39 : decode cX9_mergeOf 39 = .ok (.invokevirtual 285, 3) := by decide +kernel
theorem dX9_mergeOf_42 : decode cX9_mergeOf 42 = .ok (.aload_n 0, 1) := by decide +kernel
theorem dX9_mergeOf_43 : decode cX9_mergeOf 43 = .ok (.iload_n 3, 1) := by decide +kernel
theorem dX9_mergeOf_44 : decode cX9_mergeOf 44 = .ok (.iload 5, 2) := by decide +kernel
theorem dX9_mergeOf_46 : decode cX9_mergeOf 46 = .ok (.invokevirtual 285, 3) := by decide +kernel
theorem dX9_mergeOf_49 : decode cX9_mergeOf 49 = .ok (.invokevirtual 340, 3) := by decide +kernel
theorem dX9_mergeOf_52 : decode cX9_mergeOf 52 = .ok (.invokevirtual 295, 3) := by decide +kernel
theorem dX9_mergeOf_55 : decode cX9_mergeOf 55 = .ok (.istore 4, 2) := by decide +kernel
theorem dX9_mergeOf_57 : decode cX9_mergeOf 57 = .ok (.iinc 5 1, 3) := by decide +kernel
theorem dX9_mergeOf_60 : decode cX9_mergeOf 60 = .ok (.goto (-54), 3) := by decide +kernel
theorem dX9_mergeOf_63 : decode cX9_mergeOf 63 = .ok (.iload 4, 2) := by decide +kernel
theorem dX9_mergeOf_65 : decode cX9_mergeOf 65 = .ok (.ireturn, 1) := by decide +kernel
theorem dX9_mergedOf_0 : decode cX9_mergedOf 0 = .ok (.iload_n 1, 1) := by decide +kernel
theorem dX9_mergedOf_1 : decode cX9_mergedOf 1 = .ok (.ifCond .ne 10, 3) := by decide +kernel
theorem dX9_mergedOf_4 : decode cX9_mergedOf 4 = .ok (.iload_n 3, 1) := by decide +kernel
theorem dX9_mergedOf_5 : decode cX9_mergedOf 5 = .ok (.iload 4, 2) := by decide +kernel
theorem dX9_mergedOf_7 : decode cX9_mergedOf 7 = .ok (.invokestatic 191, 3) := by decide +kernel
theorem dX9_mergedOf_10 : decode cX9_mergedOf 10 = .ok (.ireturn, 1) := by decide +kernel
theorem dX9_mergedOf_11 : decode cX9_mergedOf 11 = .ok (.iload_n 1, 1) := by decide +kernel
theorem dX9_mergedOf_12 : decode cX9_mergedOf 12 = .ok (.iconst 1, 1) := by decide +kernel
theorem dX9_mergedOf_13 : decode cX9_mergedOf 13 = .ok (.if_icmp .ne 10, 3) := by decide +kernel
theorem dX9_mergedOf_16 : decode cX9_mergedOf 16 = .ok (.iload_n 3, 1) := by decide +kernel
theorem dX9_mergedOf_17 : decode cX9_mergedOf 17 = .ok (.iload 4, 2) := by decide +kernel
theorem dX9_mergedOf_19 : decode cX9_mergedOf 19 = .ok (.invokestatic 130, 3) := by decide +kernel
theorem dX9_mergedOf_22 : decode cX9_mergedOf 22 = .ok (.ireturn, 1) := by decide +kernel
theorem dX9_mergedOf_23 : decode cX9_mergedOf 23 = .ok (.iload_n 1, 1) := by decide +kernel
theorem dX9_mergedOf_24 : decode cX9_mergedOf 24 = .ok (.iconst 2, 1) := by decide +kernel
theorem dX9_mergedOf_25 : decode cX9_mergedOf 25 = .ok (.if_icmp .ne 25, 3) := by decide +kernel
theorem dX9_mergedOf_28 : decode cX9_mergedOf 28 = .ok (.iconst 0, 1) := by decide +kernel
theorem dX9_mergedOf_29 : decode cX9_mergedOf 29 = .ok (.aload_n 0, 1) := by decide +kernel
theorem dX9_mergedOf_30 : decode cX9_mergedOf 30 = .ok (.getfield 9, 3) := by decide +kernel
theorem dX9_mergedOf_33 : decode cX9_mergedOf 33 = .ok (.iconst 0, 1) := by decide +kernel
theorem dX9_mergedOf_34 : decode cX9_mergedOf 34 = .ok (.iaload, 1) := by decide +kernel
theorem dX9_mergedOf_35 : decode cX9_mergedOf 35 = .ok (.iload_n 3, 1) := by decide +kernel
theorem dX9_mergedOf_36 : decode cX9_mergedOf 36 = .ok (.iload 4, 2) := by decide +kernel
theorem dX9_mergedOf_38 : decode cX9_mergedOf 38 = .ok (.iadd, 1) := by decide +kernel
theorem dX9_mergedOf_39 : decode cX9_mergedOf 39 = .ok (.iload_n 2, 1) := by decide +kernel
theorem dX9_mergedOf_40 : decode cX9_mergedOf 40 = .ok (.isub, 1) := by decide +kernel
theorem dX9_mergedOf_41 : decode cX9_mergedOf 41 = .ok (.invokestatic 130, 3) := by decide +kernel
theorem dX9_mergedOf_44 : decode cX9_mergedOf 44 = .ok (.invokestatic 191, 3) := by decide +kernel
theorem dX9_mergedOf_47 : decode cX9_mergedOf 47 = .ok (.goto 11, 3) := by decide +kernel
theorem dX9_mergedOf_50 : decode cX9_mergedOf 50 = .ok (.aload_n 0, 1) := by decide +kernel
theorem dX9_mergedOf_51 : decode cX9_mergedOf 51 = .ok (.iload_n 2, 1) := by decide +kernel
theorem dX9_mergedOf_52 : decode cX9_mergedOf 52 = .ok (.iload_n 3, 1) := by decide +kernel
theorem dX9_mergedOf_53 : decode cX9_mergedOf 53 = .ok (.iload 4, 2) := by decide +kernel
theorem dX9_mergedOf_55 : decode cX9_mergedOf 55 = .ok (.invokevirtual 337, 3) := by decide +kernel
theorem dX9_mergedOf_58 : decode cX9_mergedOf 58 = .ok (.ireturn, 1) := by decide +kernel
theorem dX9_nearest_0 : decode cX9_nearest 0 = .ok (.aload_n 0, 1) := by decide +kernel
theorem dX9_nearest_1 : decode cX9_nearest 1 = .ok (.invokevirtual 318, 3) := by decide +kernel
theorem dX9_nearest_4 : decode cX9_nearest 4 = .ok (.ifCond .eq 12, 3) := by decide +kernel
theorem dX9_nearest_7 : decode cX9_nearest 7 = .ok (.aload_n 0, 1) := by decide +kernel
theorem dX9_nearest_8 : decode cX9_nearest 8 = .ok (.iload_n 1, 1) := by decide +kernel
theorem dX9_nearest_9 : decode cX9_nearest 9 = .ok (.i2l, 1) := by decide +kernel
theorem dX9_nearest_10 : decode cX9_nearest 10 = .ok (.invokevirtual 314, 3) := by decide +kernel
theorem dX9_nearest_13 : decode cX9_nearest 13 = .ok (.ifCond .ne 6, 3) := by decide +kernel
theorem dX9_nearest_16 : decode cX9_nearest 16 = .ok (.bipush (-2), 2) := by decide +kernel
theorem dX9_nearest_18 : decode cX9_nearest 18 = .ok (.ireturn, 1) := by decide +kernel
theorem dX9_nearest_19 : decode cX9_nearest 19 = .ok (.iconst (-1), 1) := by decide +kernel
theorem dX9_nearest_20 : decode cX9_nearest 20 = .ok (.istore_n 2, 1) := by decide +kernel
theorem dX9_nearest_21 : decode cX9_nearest 21 = .ok (.ldc_w 324, 3) := by decide +kernel
theorem dX9_nearest_24 : decode cX9_nearest 24 = .ok (.istore_n 3, 1) := by decide +kernel
theorem dX9_nearest_25 : decode cX9_nearest 25 = .ok (.iconst 0, 1) := by decide +kernel
theorem dX9_nearest_26 : decode cX9_nearest 26 = .ok (.istore 4, 2) := by decide +kernel
theorem dX9_nearest_28 : decode cX9_nearest 28 = .ok (.iload 4, 2) := by decide +kernel
theorem dX9_nearest_30 : decode cX9_nearest 30 = .ok (.aload_n 0, 1) := by decide +kernel
theorem dX9_nearest_31 : decode cX9_nearest 31 = .ok (.invokevirtual 96, 3) := by decide +kernel
theorem dX9_nearest_34 : decode cX9_nearest 34 = .ok (.if_icmp .ge 83, 3) := by decide +kernel
theorem dX9_nearest_37 : decode cX9_nearest 37 = .ok (.iconst 0, 1) := by decide +kernel
theorem dX9_nearest_38 : decode cX9_nearest 38 = .ok (.istore 5, 2) := by decide +kernel
theorem dX9_nearest_40 : decode cX9_nearest 40 = .ok (.iconst 0, 1) := by decide +kernel
theorem dX9_nearest_41 : decode cX9_nearest 41 = .ok (.istore 6, 2) := by decide +kernel
theorem dX9_nearest_43 : decode cX9_nearest 43 = .ok (.iload 6, 2) := by decide +kernel
theorem dX9_nearest_45 : decode cX9_nearest 45 = .ok (.aload_n 0, 1) := by decide +kernel
theorem dX9_nearest_46 : decode cX9_nearest 46 = .ok (.invokevirtual 87, 3) := by decide +kernel
theorem dX9_nearest_49 : decode cX9_nearest 49 = .ok (.if_icmp .ge 37, 3) := by decide +kernel
theorem dX9_nearest_52 : decode cX9_nearest 52 = .ok (.iload 5, 2) := by decide +kernel
theorem dX9_nearest_54 : decode cX9_nearest 54 = .ok (.aload_n 0, 1) := by decide +kernel
theorem dX9_nearest_55 : decode cX9_nearest 55 = .ok (.iload_n 1, 1) := by decide +kernel
theorem dX9_nearest_56 : decode cX9_nearest 56 = .ok (.iload 6, 2) := by decide +kernel
theorem dX9_nearest_58 : decode cX9_nearest 58 = .ok (.invokevirtual 285, 3) := by decide +kernel
theorem dX9_nearest_61 : decode cX9_nearest 61 = .ok (.aload_n 0, 1) := by decide +kernel
theorem dX9_nearest_62 : decode cX9_nearest 62 = .ok (.iload 4, 2) := by decide +kernel
theorem dX9_nearest_64 : decode cX9_nearest 64 = .ok (.iload 6, 2) := by decide +kernel
theorem dX9_nearest_66 : decode cX9_nearest 66 = .ok (.invokevirtual 285, 3) := by decide +kernel
theorem dX9_nearest_69 : decode cX9_nearest 69 = .ok (.if_icmp .eq 7, 3) := by decide +kernel
theorem dX9_nearest_72 : decode cX9_nearest 72 = .ok (.iconst 1, 1) := by decide +kernel
theorem dX9_nearest_73 : decode cX9_nearest 73 = .ok (.goto 4, 3) := by decide +kernel
theorem dX9_nearest_76 : decode cX9_nearest 76 = .ok (.iconst 0, 1) := by decide +kernel
theorem dX9_nearest_77 : decode cX9_nearest 77 = .ok (.iadd, 1) := by decide +kernel
theorem dX9_nearest_78 : decode cX9_nearest 78 = .ok (.istore 5, 2) := by decide +kernel
theorem dX9_nearest_80 : decode cX9_nearest 80 = .ok (.iinc 6 1, 3) := by decide +kernel
theorem dX9_nearest_83 : decode cX9_nearest 83 = .ok (.goto (-40), 3) := by decide +kernel
theorem dX9_nearest_86 : decode cX9_nearest 86 = .ok (.aload_n 0, 1) := by decide +kernel
theorem dX9_nearest_87 : decode cX9_nearest 87 = .ok (.getfield 37, 3) := by decide +kernel
theorem dX9_nearest_90 : decode cX9_nearest 90 = .ok (.iload 4, 2) := by decide +kernel
theorem dX9_nearest_92 : decode cX9_nearest 92 = .ok (.baload, 1) := by decide +kernel
theorem dX9_nearest_93 : decode cX9_nearest 93 = .ok (.ifCond .eq 18, 3) := by decide +kernel
theorem dX9_nearest_96 : decode cX9_nearest 96 = .ok (.iload 5, 2) := by decide +kernel
theorem dX9_nearest_98 : decode cX9_nearest 98 = .ok (.iload_n 3, 1) := by decide +kernel
theorem dX9_nearest_99 : decode cX9_nearest 99 = .ok (.if_icmp .lt 6, 3) := by decide +kernel
theorem dX9_nearest_102 : decode cX9_nearest 102 = .ok (.goto 9, 3) := by decide +kernel
theorem dX9_nearest_105 : decode cX9_nearest 105 = .ok (.iload 5, 2) := by decide +kernel
theorem dX9_nearest_107 : decode cX9_nearest 107 = .ok (.istore_n 3, 1) := by decide +kernel
theorem dX9_nearest_108 : decode cX9_nearest 108 = .ok (.iload 4, 2) := by decide +kernel
theorem dX9_nearest_110 : decode cX9_nearest 110 = .ok (.istore_n 2, 1) := by decide +kernel
theorem dX9_nearest_111 : decode cX9_nearest 111 = .ok (.iinc 4 1, 3) := by decide +kernel
theorem dX9_nearest_114 : decode cX9_nearest 114 = .ok (.goto (-86), 3) := by decide +kernel
theorem dX9_nearest_117 : decode cX9_nearest 117 = .ok (.iload_n 2, 1) := by decide +kernel
theorem dX9_nearest_118 : decode cX9_nearest 118 = .ok (.ireturn, 1) := by decide +kernel
theorem dX9_opens_0 : decode cX9_opens 0 = .ok (.aload_n 0, 1) := by decide +kernel
theorem dX9_opens_1 : decode cX9_opens 1 = .ok (.invokevirtual 318, 3) := by decide +kernel
theorem dX9_opens_4 : decode cX9_opens 4 = .ok (.ifCond .eq 20, 3) := by decide +kernel
theorem dX9_opens_7 : decode cX9_opens 7 = .ok (.aload_n 0, 1) := by decide +kernel
theorem dX9_opens_8 : decode cX9_opens 8 = .ok (.iload_n 1, 1) := by decide +kernel
theorem dX9_opens_9 : decode cX9_opens 9 = .ok (.i2l, 1) := by decide +kernel
theorem dX9_opens_10 : decode cX9_opens 10 = .ok (.invokevirtual 314, 3) := by decide +kernel
theorem dX9_opens_13 : decode cX9_opens 13 = .ok (.ifCond .eq 11, 3) := by decide +kernel
theorem dX9_opens_16 : decode cX9_opens 16 = .ok (.aload_n 0, 1) := by decide +kernel
theorem dX9_opens_17 : decode cX9_opens 17 = .ok (.iload_n 1, 1) := by decide +kernel
theorem dX9_opens_18 : decode cX9_opens 18 = .ok (.invokevirtual 331, 3) := by decide +kernel
theorem dX9_opens_21 : decode cX9_opens 21 = .ok (.goto 5, 3) := by decide +kernel
theorem dX9_opens_24 : decode cX9_opens 24 = .ok (.bipush (-2), 2) := by decide +kernel
theorem dX9_opens_26 : decode cX9_opens 26 = .ok (.ireturn, 1) := by decide +kernel
theorem dX9_opensOf_0 : decode cX9_opensOf 0 = .ok (.iconst 0, 1) := by decide +kernel
theorem dX9_opensOf_1 : decode cX9_opensOf 1 = .ok (.istore_n 2, 1) := by decide +kernel
theorem dX9_opensOf_2 : decode cX9_opensOf 2 = .ok (.iconst 0, 1) := by decide +kernel
theorem dX9_opensOf_3 : decode cX9_opensOf 3 = .ok (.istore_n 3, 1) := by decide +kernel
theorem dX9_opensOf_4 : decode cX9_opensOf 4 = .ok (.iload_n 3, 1) := by decide +kernel
theorem dX9_opensOf_5 : decode cX9_opensOf 5 = .ok (.aload_n 0, 1) := by decide +kernel
theorem dX9_opensOf_6 : decode cX9_opensOf 6 = .ok (.invokevirtual 84, 3) := by decide +kernel
theorem dX9_opensOf_9 : decode cX9_opensOf 9 = .ok (.if_icmp .ge 29, 3) := by decide +kernel
theorem dX9_opensOf_12 : decode cX9_opensOf 12 = .ok (.iload_n 2, 1) := by decide +kernel
theorem dX9_opensOf_13 : decode cX9_opensOf 13 = .ok (.aload_n 0, 1) := by decide +kernel
theorem dX9_opensOf_14 : decode cX9_opensOf 14 = .ok (.iload_n 3, 1) := by decide +kernel
theorem dX9_opensOf_15 : decode cX9_opensOf 15 = .ok (.iload_n 1, 1) := by decide +kernel
theorem dX9_opensOf_16 : decode cX9_opensOf 16 = .ok (.invokevirtual 325, 3) := by decide +kernel
theorem dX9_opensOf_19 : decode cX9_opensOf 19 = .ok (.iconst (-1), 1) := by decide +kernel
theorem dX9_opensOf_20 : decode cX9_opensOf 20 = .ok (.if_icmp .eq 9, 3) := by decide +kernel
theorem dX9_opensOf_23 : decode cX9_opensOf 23 = .ok (.iconst 1, 1) := by decide +kernel
theorem dX9_opensOf_24 : decode cX9_opensOf 24 = .ok (.iload_n 3, 1) := by decide +kernel
theorem dX9_opensOf_25 : decode cX9_opensOf 25 = .ok (.ishl, 1) := by decide +kernel
theorem dX9_opensOf_26 : decode cX9_opensOf 26 = .ok (.goto 4, 3) := by decide +kernel
theorem dX9_opensOf_29 : decode cX9_opensOf 29 = .ok (.iconst 0, 1) := by decide +kernel
theorem dX9_opensOf_30 : decode cX9_opensOf 30 = .ok (.ior, 1) := by decide +kernel
theorem dX9_opensOf_31 : decode cX9_opensOf 31 = .ok (.istore_n 2, 1) := by decide +kernel
theorem dX9_opensOf_32 : decode cX9_opensOf 32 = .ok (.iinc 3 1, 3) := by decide +kernel
theorem dX9_opensOf_35 : decode cX9_opensOf 35 = .ok (.goto (-31), 3) := by decide +kernel
theorem dX9_opensOf_38 : decode cX9_opensOf 38 = .ok (.iload_n 2, 1) := by decide +kernel
theorem dX9_opensOf_39 : decode cX9_opensOf 39 = .ok (.ireturn, 1) := by decide +kernel
theorem dX9_orNone_0 : decode cX9_orNone 0 = .ok (.aload_n 0, 1) := by decide +kernel
theorem dX9_orNone_1 : decode cX9_orNone 1 = .ok (.getfield 37, 3) := by decide +kernel
theorem dX9_orNone_4 : decode cX9_orNone 4 = .ok (.iload_n 1, 1) := by decide +kernel
theorem dX9_orNone_5 : decode cX9_orNone 5 = .ok (.baload, 1) := by decide +kernel
theorem dX9_orNone_6 : decode cX9_orNone 6 = .ok (.ifCond .eq 7, 3) := by decide +kernel
theorem dX9_orNone_9 : decode cX9_orNone 9 = .ok (.iload_n 2, 1) := by decide +kernel
theorem dX9_orNone_10 : decode cX9_orNone 10 = .ok (.goto 4, 3) := by decide +kernel
theorem dX9_orNone_13 : decode cX9_orNone 13 = .ok (.iconst (-1), 1) := by decide +kernel
theorem dX9_orNone_14 : decode cX9_orNone 14 = .ok (.ireturn, 1) := by decide +kernel
theorem dX9_reach_0 : decode cX9_reach 0 = .ok (.aload_n 0, 1) := by decide +kernel
theorem dX9_reach_1 : decode cX9_reach 1 = .ok (.iload_n 1, 1) := by decide +kernel
theorem dX9_reach_2 : decode cX9_reach 2 = .ok (.invokevirtual 354, 3) := by decide +kernel
theorem dX9_reach_5 : decode cX9_reach 5 = .ok (.ifCond .eq 26, 3) := by decide +kernel
theorem dX9_reach_8 : decode cX9_reach 8 = .ok (.iload_n 2, 1) := by decide +kernel
theorem dX9_reach_9 : decode cX9_reach 9 = .ok (.invokestatic 357, 3) := by decide +kernel
theorem dX9_reach_12 : decode cX9_reach 12 = .ok (.ifCond .eq 19, 3) := by decide +kernel
theorem dX9_reach_15 : decode cX9_reach 15 = .ok (.aload_n 0, 1) := by decide +kernel
theorem dX9_reach_16 : decode cX9_reach 16 = .ok (.iload_n 1, 1) := by decide +kernel
theorem dX9_reach_17 : decode cX9_reach 17 = .ok (.aload_n 0, 1) := by decide +kernel
theorem dX9_reach_18 : decode cX9_reach 18 = .ok (.getfield 43, 3) := by decide +kernel
theorem dX9_reach_21 : decode cX9_reach 21 = .ok (.iload_n 2, 1) := by decide +kernel
theorem dX9_reach_22 : decode cX9_reach 22 = .ok (.invokestatic 360, 3) := by decide +kernel
theorem dX9_reach_25 : decode cX9_reach 25 = .ok (.invokevirtual 364, 3) := by decide +kernel
theorem dX9_reach_28 : decode cX9_reach 28 = .ok (.goto 5, 3) := by decide +kernel
theorem dX9_reach_31 : decode cX9_reach 31 = .ok (.bipush (-2), 2) := by decide +kernel
theorem dX9_reach_33 : decode cX9_reach 33 = .ok (.ireturn, 1) := by decide +kernel
theorem dX9_room_0 : decode cX9_room 0 = .ok (.aload_n 0, 1) := by decide +kernel
theorem dX9_room_1 : decode cX9_room 1 = .ok (.invokevirtual 318, 3) := by decide +kernel
theorem dX9_room_4 : decode cX9_room 4 = .ok (.ifCond .eq 11, 3) := by decide +kernel
theorem dX9_room_7 : decode cX9_room 7 = .ok (.aload_n 0, 1) := by decide +kernel
theorem dX9_room_8 : decode cX9_room 8 = .ok (.iload_n 1, 1) := by decide +kernel
theorem dX9_room_9 : decode cX9_room 9 = .ok (.invokevirtual 252, 3) := by decide +kernel
theorem dX9_room_12 : decode cX9_room 12 = .ok (.ifCond .ne 6, 3) := by decide +kernel
theorem dX9_room_15 : decode cX9_room 15 = .ok (.bipush (-2), 2) := by decide +kernel
theorem dX9_room_17 : decode cX9_room 17 = .ok (.ireturn, 1) := by decide +kernel
theorem dX9_room_18 : decode cX9_room 18 = .ok (.iconst 0, 1) := by decide +kernel
theorem dX9_room_19 : decode cX9_room 19 = .ok (.istore_n 2, 1) := by decide +kernel
theorem dX9_room_20 : decode cX9_room 20 = .ok (.iconst 0, 1) := by decide +kernel
theorem dX9_room_21 : decode cX9_room 21 = .ok (.istore_n 3, 1) := by decide +kernel
theorem dX9_room_22 : decode cX9_room 22 = .ok (.iload_n 3, 1) := by decide +kernel
theorem dX9_room_23 : decode cX9_room 23 = .ok (.aload_n 0, 1) := by decide +kernel
theorem dX9_room_24 : decode cX9_room 24 = .ok (.invokevirtual 96, 3) := by decide +kernel
theorem dX9_room_27 : decode cX9_room 27 = .ok (.if_icmp .ge 33, 3) := by decide +kernel
theorem dX9_room_30 : decode cX9_room 30 = .ok (.iload_n 2, 1) := by decide +kernel
theorem dX9_room_31 : decode cX9_room 31 = .ok (.aload_n 0, 1) := by decide +kernel
theorem dX9_room_32 : decode cX9_room 32 = .ok (.getfield 37, 3) := by decide +kernel
theorem dX9_room_35 : decode cX9_room 35 = .ok (.iload_n 3, 1) := by decide +kernel
theorem dX9_room_36 : decode cX9_room 36 = .ok (.baload, 1) := by decide +kernel
theorem dX9_room_37 : decode cX9_room 37 = .ok (.ifCond .eq 14, 3) := by decide +kernel
theorem dX9_room_40 : decode cX9_room 40 = .ok (.iconst 1, 1) := by decide +kernel
theorem dX9_room_41 : decode cX9_room 41 = .ok (.aload_n 0, 1) := by decide +kernel
theorem dX9_room_42 : decode cX9_room 42 = .ok (.iload_n 3, 1) := by decide +kernel
theorem dX9_room_43 : decode cX9_room 43 = .ok (.iload_n 1, 1) := by decide +kernel
theorem dX9_room_44 : decode cX9_room 44 = .ok (.invokevirtual 285, 3) := by decide +kernel
theorem dX9_room_47 : decode cX9_room 47 = .ok (.ishl, 1) := by decide +kernel
theorem dX9_room_48 : decode cX9_room 48 = .ok (.goto 4, 3) := by decide +kernel
theorem dX9_room_51 : decode cX9_room 51 = .ok (.iconst 0, 1) := by decide +kernel
theorem dX9_room_52 : decode cX9_room 52 = .ok (.ior, 1) := by decide +kernel
theorem dX9_room_53 : decode cX9_room 53 = .ok (.istore_n 2, 1) := by decide +kernel
theorem dX9_room_54 : decode cX9_room 54 = .ok (.iinc 3 1, 3) := by decide +kernel
theorem dX9_room_57 : decode cX9_room 57 = .ok (.goto (-35), 3) := by decide +kernel
theorem dX9_room_60 : decode cX9_room 60 = .ok (.iload_n 2, 1) := by decide +kernel
theorem dX9_room_61 : decode cX9_room 61 = .ok (.ireturn, 1) := by decide +kernel
theorem dX9_spare_0 : decode cX9_spare 0 = .ok (.aload_n 0, 1) := by decide +kernel
theorem dX9_spare_1 : decode cX9_spare 1 = .ok (.invokevirtual 318, 3) := by decide +kernel
theorem dX9_spare_4 : decode cX9_spare 4 = .ok (.ifCond .eq 11, 3) := by decide +kernel
theorem dX9_spare_7 : decode cX9_spare 7 = .ok (.aload_n 0, 1) := by decide +kernel
theorem dX9_spare_8 : decode cX9_spare 8 = .ok (.iload_n 1, 1) := by decide +kernel
theorem dX9_spare_9 : decode cX9_spare 9 = .ok (.invokevirtual 256, 3) := by decide +kernel
theorem dX9_spare_12 : decode cX9_spare 12 = .ok (.ifCond .ne 6, 3) := by decide +kernel
theorem dX9_spare_15 : decode cX9_spare 15 = .ok (.bipush (-2), 2) := by decide +kernel
theorem dX9_spare_17 : decode cX9_spare 17 = .ok (.ireturn, 1) := by decide +kernel
theorem dX9_spare_18 : decode cX9_spare 18 = .ok (.aload_n 0, 1) := by decide +kernel
theorem dX9_spare_19 : decode cX9_spare 19 = .ok (.invokevirtual 321, 3) := by decide +kernel
theorem dX9_spare_22 : decode cX9_spare 22 = .ok (.istore_n 2, 1) := by decide +kernel
theorem dX9_spare_23 : decode cX9_spare 23 = .ok (.aload_n 0, 1) := by decide +kernel
theorem dX9_spare_24 : decode cX9_spare 24 = .ok (.dup, 1) := by decide +kernel
theorem dX9_spare_25 : decode cX9_spare 25 = .ok (.getfield 282, 3) := by decide +kernel
theorem dX9_spare_28 : decode cX9_spare 28 = .ok (.iconst 1, 1) := by decide +kernel
theorem dX9_spare_29 : decode cX9_spare 29 = .ok (.iload_n 1, 1) := by decide +kernel
theorem dX9_spare_30 : decode cX9_spare 30 = .ok (.ishl, 1) := by decide +kernel
theorem dX9_spare_31 : decode cX9_spare 31 = .ok (.ior, 1) := by decide +kernel
theorem dX9_spare_32 : decode cX9_spare 32 = .ok (.putfield 282, 3) := by decide +kernel
theorem dX9_spare_35 : decode cX9_spare 35 = .ok (.aload_n 0, 1) := by decide +kernel
theorem dX9_spare_36 : decode cX9_spare 36 = .ok (.invokevirtual 311, 3) := by decide +kernel
theorem dX9_spare_39 : decode cX9_spare 39 = .ok (.aload_n 0, 1) := by decide +kernel
theorem dX9_spare_40 : decode cX9_spare 40 = .ok (.invokevirtual 321, 3) := by decide +kernel
theorem dX9_spare_43 : decode cX9_spare 43 = .ok (.iload_n 2, 1) := by decide +kernel
theorem dX9_spare_44 : decode cX9_spare 44 = .ok (.if_icmp .ne 7, 3) := by decide +kernel
theorem dX9_spare_47 : decode cX9_spare 47 = .ok (.iconst 1, 1) := by decide +kernel
theorem dX9_spare_48 : decode cX9_spare 48 = .ok (.goto 4, 3) := by decide +kernel
theorem dX9_spare_51 : decode cX9_spare 51 = .ok (.iconst 0, 1) := by decide +kernel
theorem dX9_spare_52 : decode cX9_spare 52 = .ok (.ireturn, 1) := by decide +kernel
theorem dX9_step_0 : decode cX9_step 0 = .ok (.aload_n 0, 1) := by decide +kernel
theorem dX9_step_1 : decode cX9_step 1 = .ok (.iload_n 1, 1) := by decide +kernel
theorem dX9_step_2 : decode cX9_step 2 = .ok (.invokevirtual 354, 3) := by decide +kernel
theorem dX9_step_5 : decode cX9_step 5 = .ok (.ifCond .eq 12, 3) := by decide +kernel
theorem dX9_step_8 : decode cX9_step 8 = .ok (.aload_n 0, 1) := by decide +kernel
theorem dX9_step_9 : decode cX9_step 9 = .ok (.iload_n 2, 1) := by decide +kernel
theorem dX9_step_10 : decode cX9_step 10 = .ok (.i2l, 1) := by decide +kernel
theorem dX9_step_11 : decode cX9_step 11 = .ok (.invokevirtual 314, 3) := by decide +kernel
theorem dX9_step_14 : decode cX9_step 14 = .ok (.ifCond .ne 6, 3) := by decide +kernel
theorem dX9_step_17 : decode cX9_step 17 = .ok (.bipush (-2), 2) := by decide +kernel
theorem dX9_step_19 : decode cX9_step 19 = .ok (.ireturn, 1) := by decide +kernel
theorem dX9_step_20 : decode cX9_step 20 = .ok (.aload_n 0, 1) := by decide +kernel
theorem dX9_step_21 : decode cX9_step 21 = .ok (.getfield 43, 3) := by decide +kernel
theorem dX9_step_24 : decode cX9_step 24 = .ok (.iload_n 2, 1) := by decide +kernel
theorem dX9_step_25 : decode cX9_step 25 = .ok (.iaload, 1) := by decide +kernel
theorem dX9_step_26 : decode cX9_step 26 = .ok (.ldc_w 324, 3) := by decide +kernel
theorem dX9_step_29 : decode cX9_step 29 = .ok (.if_icmp .eq 12, 3) := by decide +kernel
theorem dX9_step_32 : decode cX9_step 32 = .ok (.aload_n 0, 1) := by decide +kernel
theorem dX9_step_33 : decode cX9_step 33 = .ok (.getfield 43, 3) := by decide +kernel
theorem dX9_step_36 : decode cX9_step 36 = .ok (.iload_n 2, 1) := by decide +kernel
theorem dX9_step_37 : decode cX9_step 37 = .ok (.iaload, 1) := by decide +kernel
theorem dX9_step_38 : decode cX9_step 38 = .ok (.ifCond .ne 5, 3) := by decide +kernel
theorem dX9_step_41 : decode cX9_step 41 = .ok (.iconst (-1), 1) := by decide +kernel
theorem dX9_step_42 : decode cX9_step 42 = .ok (.ireturn, 1) := by decide +kernel
theorem dX9_step_43 : decode cX9_step 43 = .ok (.aload_n 0, 1) := by decide +kernel
theorem dX9_step_44 : decode cX9_step 44 = .ok (.getfield 43, 3) := by decide +kernel
theorem dX9_step_47 : decode cX9_step 47 = .ok (.iload_n 2, 1) := by decide +kernel
theorem dX9_step_48 : decode cX9_step 48 = .ok (.iaload, 1) := by decide +kernel
theorem dX9_step_49 : decode cX9_step 49 = .ok (.istore_n 3, 1) := by decide +kernel
theorem dX9_step_50 : decode cX9_step 50 = .ok (.iconst 0, 1) := by decide +kernel
theorem dX9_step_51 : decode cX9_step 51 = .ok (.istore 4, 2) := by decide +kernel
theorem dX9_step_53 : decode cX9_step 53 = .ok (.iload 4, 2) := by decide +kernel
theorem dX9_step_55 : decode cX9_step 55 = .ok (.aload_n 0, 1) := by decide +kernel
theorem dX9_step_56 : decode cX9_step 56 = .ok (.invokevirtual 84, 3) := by decide +kernel
theorem dX9_step_59 : decode cX9_step 59 = .ok (.if_icmp .ge 54, 3) := by decide +kernel
theorem dX9_step_62 : decode cX9_step 62 = .ok (.aload_n 0, 1) := by decide +kernel
theorem dX9_step_63 : decode cX9_step 63 = .ok (.iload 4, 2) := by decide +kernel
theorem dX9_step_65 : decode cX9_step 65 = .ok (.iload_n 1, 1) := by decide +kernel
theorem dX9_step_66 : decode cX9_step 66 = .ok (.invokevirtual 325, 3) := by decide +kernel
theorem dX9_step_69 : decode cX9_step 69 = .ok (.iconst (-1), 1) := by decide +kernel
theorem dX9_step_70 : decode cX9_step 70 = .ok (.if_icmp .ne 6, 3) := by decide +kernel
theorem dX9_step_73 : decode cX9_step 73 = .ok (.goto 34, 3) := by decide +kernel
theorem dX9_step_76 : decode cX9_step 76 = .ok (.aload_n 0, 1) := by decide +kernel
theorem dX9_step_77 : decode cX9_step 77 = .ok (.aload_n 0, 1) := by decide +kernel
theorem dX9_step_78 : decode cX9_step 78 = .ok (.getfield 43, 3) := by decide +kernel
theorem dX9_step_81 : decode cX9_step 81 = .ok (.aload_n 0, 1) := by decide +kernel
theorem dX9_step_82 : decode cX9_step 82 = .ok (.iload 4, 2) := by decide +kernel
theorem dX9_step_84 : decode cX9_step 84 = .ok (.iload_n 1, 1) := by decide +kernel
theorem dX9_step_85 : decode cX9_step 85 = .ok (.invokevirtual 325, 3) := by decide +kernel
theorem dX9_step_88 : decode cX9_step 88 = .ok (.iconst 0, 1) := by decide +kernel
theorem dX9_step_89 : decode cX9_step 89 = .ok (.invokevirtual 347, 3) := by decide +kernel
theorem dX9_step_92 : decode cX9_step 92 = .ok (.aload_n 0, 1) := by decide +kernel
theorem dX9_step_93 : decode cX9_step 93 = .ok (.getfield 43, 3) := by decide +kernel
theorem dX9_step_96 : decode cX9_step 96 = .ok (.iload_n 2, 1) := by decide +kernel
theorem dX9_step_97 : decode cX9_step 97 = .ok (.iaload, 1) := by decide +kernel
theorem dX9_step_98 : decode cX9_step 98 = .ok (.iload_n 3, 1) := by decide +kernel
theorem dX9_step_99 : decode cX9_step 99 = .ok (.iconst 1, 1) := by decide +kernel
theorem dX9_step_100 : decode cX9_step 100 = .ok (.isub, 1) := by decide +kernel
theorem dX9_step_101 : decode cX9_step 101 = .ok (.if_icmp .ne 6, 3) := by decide +kernel
theorem dX9_step_104 : decode cX9_step 104 = .ok (.iload 4, 2) := by decide +kernel
theorem dX9_step_106 : decode cX9_step 106 = .ok (.ireturn, 1) := by decide +kernel
theorem dX9_step_107 : decode cX9_step 107 = .ok (.iinc 4 1, 3) := by decide +kernel
theorem dX9_step_110 : decode cX9_step 110 = .ok (.goto (-57), 3) := by decide +kernel
theorem dX9_step_113 : decode cX9_step 113 = .ok (.iconst (-1), 1) := by decide +kernel
theorem dX9_step_114 : decode cX9_step 114 = .ok (.ireturn, 1) := by decide +kernel
theorem dX9_table_0 : decode cX9_table 0 = .ok (.aload_n 0, 1) := by decide +kernel
theorem dX9_table_1 : decode cX9_table 1 = .ok (.invokevirtual 318, 3) := by decide +kernel
theorem dX9_table_4 : decode cX9_table 4 = .ok (.ifCond .ne 6, 3) := by decide +kernel
theorem dX9_table_7 : decode cX9_table 7 = .ok (.bipush (-2), 2) := by decide +kernel
theorem dX9_table_9 : decode cX9_table 9 = .ok (.ireturn, 1) := by decide +kernel
theorem dX9_table_10 : decode cX9_table 10 = .ok (.iconst 0, 1) := by decide +kernel
theorem dX9_table_11 : decode cX9_table 11 = .ok (.istore_n 1, 1) := by decide +kernel
theorem dX9_table_12 : decode cX9_table 12 = .ok (.iconst 0, 1) := by decide +kernel
theorem dX9_table_13 : decode cX9_table 13 = .ok (.istore_n 2, 1) := by decide +kernel
theorem dX9_table_14 : decode cX9_table 14 = .ok (.iload_n 2, 1) := by decide +kernel
theorem dX9_table_15 : decode cX9_table 15 = .ok (.aload_n 0, 1) := by decide +kernel
theorem dX9_table_16 : decode cX9_table 16 = .ok (.invokevirtual 84, 3) := by decide +kernel
theorem dX9_table_19 : decode cX9_table 19 = .ok (.if_icmp .ge 44, 3) := by decide +kernel
theorem dX9_table_22 : decode cX9_table 22 = .ok (.iload_n 2, 1) := by decide +kernel
theorem dX9_table_23 : decode cX9_table 23 = .ok (.iconst 1, 1) := by decide +kernel
theorem dX9_table_24 : decode cX9_table 24 = .ok (.iadd, 1) := by decide +kernel
theorem dX9_table_25 : decode cX9_table 25 = .ok (.istore_n 3, 1) := by decide +kernel
theorem dX9_table_26 : decode cX9_table 26 = .ok (.iload_n 3, 1) := by decide +kernel
theorem dX9_table_27 : decode cX9_table 27 = .ok (.aload_n 0, 1) := by decide +kernel
theorem dX9_table_28 : decode cX9_table 28 = .ok (.invokevirtual 84, 3) := by decide +kernel
theorem dX9_table_31 : decode cX9_table 31 = .ok (.if_icmp .ge 26, 3) := by decide +kernel
theorem dX9_table_34 : decode cX9_table 34 = .ok (.iload_n 1, 1) := by decide +kernel
theorem dX9_table_35 : decode cX9_table 35 = .ok (.aload_n 0, 1) := by decide +kernel
theorem dX9_table_36 : decode cX9_table 36 = .ok (.iload_n 2, 1) := by decide +kernel
theorem dX9_table_37 : decode cX9_table 37 = .ok (.iload_n 3, 1) := by decide +kernel
theorem dX9_table_38 : decode cX9_table 38 = .ok (.invokevirtual 334, 3) := by decide +kernel
theorem dX9_table_41 : decode cX9_table 41 = .ok (.ifCond .eq 7, 3) := by decide +kernel
theorem dX9_table_44 : decode cX9_table 44 = .ok (.iconst 1, 1) := by decide +kernel
theorem dX9_table_45 : decode cX9_table 45 = .ok (.goto 4, 3) := by decide +kernel
theorem dX9_table_48 : decode cX9_table 48 = .ok (.iconst 0, 1) := by decide +kernel
theorem dX9_table_49 : decode cX9_table 49 = .ok (.iadd, 1) := by decide +kernel
theorem dX9_table_50 : decode cX9_table 50 = .ok (.istore_n 1, 1) := by decide +kernel
theorem dX9_table_51 : decode cX9_table 51 = .ok (.iinc 3 1, 3) := by decide +kernel
theorem dX9_table_54 : decode cX9_table 54 = .ok (.goto (-28), 3) := by decide +kernel
theorem dX9_table_57 : decode cX9_table 57 = .ok (.iinc 2 1, 3) := by decide +kernel
theorem dX9_table_60 : decode cX9_table 60 = .ok (.goto (-46), 3) := by decide +kernel
theorem dX9_table_63 : decode cX9_table 63 = .ok (.iload_n 1, 1) := by decide +kernel
theorem dX9_table_64 : decode cX9_table 64 = .ok (.ireturn, 1) := by decide +kernel
theorem dX9_valid_0 : decode cX9_valid 0 = .ok (.aload_n 0, 1) := by decide +kernel
theorem dX9_valid_1 : decode cX9_valid 1 = .ok (.invokevirtual 318, 3) := by decide +kernel
theorem dX9_valid_4 : decode cX9_valid 4 = .ok (.ifCond .eq 12, 3) := by decide +kernel
theorem dX9_valid_7 : decode cX9_valid 7 = .ok (.aload_n 0, 1) := by decide +kernel
theorem dX9_valid_8 : decode cX9_valid 8 = .ok (.iload_n 1, 1) := by decide +kernel
theorem dX9_valid_9 : decode cX9_valid 9 = .ok (.i2l, 1) := by decide +kernel
theorem dX9_valid_10 : decode cX9_valid 10 = .ok (.invokevirtual 314, 3) := by decide +kernel
theorem dX9_valid_13 : decode cX9_valid 13 = .ok (.ifCond .ne 6, 3) := by decide +kernel
theorem dX9_valid_16 : decode cX9_valid 16 = .ok (.bipush (-2), 2) := by decide +kernel
theorem dX9_valid_18 : decode cX9_valid 18 = .ok (.ireturn, 1) := by decide +kernel
theorem dX9_valid_19 : decode cX9_valid 19 = .ok (.aload_n 0, 1) := by decide +kernel
theorem dX9_valid_20 : decode cX9_valid 20 = .ok (.getfield 37, 3) := by decide +kernel
theorem dX9_valid_23 : decode cX9_valid 23 = .ok (.iload_n 1, 1) := by decide +kernel
theorem dX9_valid_24 : decode cX9_valid 24 = .ok (.baload, 1) := by decide +kernel
theorem dX9_valid_25 : decode cX9_valid 25 = .ok (.ifCond .eq 7, 3) := by decide +kernel
theorem dX9_valid_28 : decode cX9_valid 28 = .ok (.iconst 1, 1) := by decide +kernel
theorem dX9_valid_29 : decode cX9_valid 29 = .ok (.goto 4, 3) := by decide +kernel
theorem dX9_valid_32 : decode cX9_valid 32 = .ok (.iconst 0, 1) := by decide +kernel
theorem dX9_valid_33 : decode cX9_valid 33 = .ok (.ireturn, 1) := by decide +kernel
theorem dX9_validMany_0 : decode cX9_validMany 0 = .ok (.iconst 0, 1) := by decide +kernel
theorem dX9_validMany_1 : decode cX9_validMany 1 = .ok (.istore_n 1, 1) := by decide +kernel
theorem dX9_validMany_2 : decode cX9_validMany 2 = .ok (.iconst 0, 1) := by decide +kernel
theorem dX9_validMany_3 : decode cX9_validMany 3 = .ok (.istore_n 2, 1) := by decide +kernel
theorem dX9_validMany_4 : decode cX9_validMany 4 = .ok (.iload_n 2, 1) := by decide +kernel
theorem dX9_validMany_5 : decode cX9_validMany 5 = .ok (.aload_n 0, 1) := by decide +kernel
theorem dX9_validMany_6 : decode cX9_validMany 6 = .ok (.invokevirtual 96, 3) := by decide +kernel
theorem dX9_validMany_9 : decode cX9_validMany 9 = .ok (.if_icmp .ge 26, 3) := by decide +kernel
theorem dX9_validMany_12 : decode cX9_validMany 12 = .ok (.iload_n 1, 1) := by decide +kernel
theorem dX9_validMany_13 : decode cX9_validMany 13 = .ok (.aload_n 0, 1) := by decide +kernel
theorem dX9_validMany_14 : decode cX9_validMany 14 = .ok (.getfield 37, 3) := by decide +kernel
theorem dX9_validMany_17 : decode cX9_validMany 17 = .ok (.iload_n 2, 1) := by decide +kernel
theorem dX9_validMany_18 : decode cX9_validMany 18 = .ok (.baload, 1) := by decide +kernel
theorem dX9_validMany_19 : decode cX9_validMany 19 = .ok (.ifCond .eq 7, 3) := by decide +kernel
theorem dX9_validMany_22 : decode cX9_validMany 22 = .ok (.iconst 1, 1) := by decide +kernel
theorem dX9_validMany_23 : decode cX9_validMany 23 = .ok (.goto 4, 3) := by decide +kernel
theorem dX9_validMany_26 : decode cX9_validMany 26 = .ok (.iconst 0, 1) := by decide +kernel
theorem dX9_validMany_27 : decode cX9_validMany 27 = .ok (.iadd, 1) := by decide +kernel
theorem dX9_validMany_28 : decode cX9_validMany 28 = .ok (.istore_n 1, 1) := by decide +kernel
theorem dX9_validMany_29 : decode cX9_validMany 29 = .ok (.iinc 2 1, 3) := by decide +kernel
theorem dX9_validMany_32 : decode cX9_validMany 32 = .ok (.goto (-28), 3) := by decide +kernel
theorem dX9_validMany_35 : decode cX9_validMany 35 = .ok (.iload_n 1, 1) := by decide +kernel
theorem dX9_validMany_36 : decode cX9_validMany 36 = .ok (.ireturn, 1) := by decide +kernel
theorem dX9_valids_0 : decode cX9_valids 0 = .ok (.aload_n 0, 1) := by decide +kernel
theorem dX9_valids_1 : decode cX9_valids 1 = .ok (.invokevirtual 318, 3) := by decide +kernel
theorem dX9_valids_4 : decode cX9_valids 4 = .ok (.ifCond .eq 10, 3) := by decide +kernel
theorem dX9_valids_7 : decode cX9_valids 7 = .ok (.aload_n 0, 1) := by decide +kernel
theorem dX9_valids_8 : decode cX9_valids 8 = .ok (.invokevirtual 321, 3) := by decide +kernel
theorem dX9_valids_11 : decode cX9_valids 11 = .ok (.goto 5, 3) := by decide +kernel
theorem dX9_valids_14 : decode cX9_valids 14 = .ok (.bipush (-2), 2) := by decide +kernel
theorem dX9_valids_16 : decode cX9_valids 16 = .ok (.ireturn, 1) := by decide +kernel
theorem dX9_value_0 : decode cX9_value 0 = .ok (.aload_n 0, 1) := by decide +kernel
theorem dX9_value_1 : decode cX9_value 1 = .ok (.iload_n 1, 1) := by decide +kernel
theorem dX9_value_2 : decode cX9_value 2 = .ok (.i2l, 1) := by decide +kernel
theorem dX9_value_3 : decode cX9_value 3 = .ok (.invokevirtual 314, 3) := by decide +kernel
theorem dX9_value_6 : decode cX9_value 6 = .ok (.ifCond .eq 20, 3) := by decide +kernel
theorem dX9_value_9 : decode cX9_value 9 = .ok (.aload_n 0, 1) := by decide +kernel
theorem dX9_value_10 : decode cX9_value 10 = .ok (.iload_n 2, 1) := by decide +kernel
theorem dX9_value_11 : decode cX9_value 11 = .ok (.invokevirtual 252, 3) := by decide +kernel
theorem dX9_value_14 : decode cX9_value 14 = .ok (.ifCond .eq 12, 3) := by decide +kernel
theorem dX9_value_17 : decode cX9_value 17 = .ok (.aload_n 0, 1) := by decide +kernel
theorem dX9_value_18 : decode cX9_value 18 = .ok (.iload_n 1, 1) := by decide +kernel
theorem dX9_value_19 : decode cX9_value 19 = .ok (.iload_n 2, 1) := by decide +kernel
theorem dX9_value_20 : decode cX9_value 20 = .ok (.invokevirtual 285, 3) := by decide +kernel
theorem dX9_value_23 : decode cX9_value 23 = .ok (.goto 5, 3) := by decide +kernel
theorem dX9_value_26 : decode cX9_value 26 = .ok (.bipush (-2), 2) := by decide +kernel
theorem dX9_value_28 : decode cX9_value 28 = .ok (.ireturn, 1) := by decide +kernel
theorem dX9_weight_0 : decode cX9_weight 0 = .ok (.aload_n 0, 1) := by decide +kernel
theorem dX9_weight_1 : decode cX9_weight 1 = .ok (.iload_n 1, 1) := by decide +kernel
theorem dX9_weight_2 : decode cX9_weight 2 = .ok (.i2l, 1) := by decide +kernel
theorem dX9_weight_3 : decode cX9_weight 3 = .ok (.invokevirtual 314, 3) := by decide +kernel
theorem dX9_weight_6 : decode cX9_weight 6 = .ok (.ifCond .ne 6, 3) := by decide +kernel
theorem dX9_weight_9 : decode cX9_weight 9 = .ok (.bipush (-2), 2) := by decide +kernel
theorem dX9_weight_11 : decode cX9_weight 11 = .ok (.ireturn, 1) := by decide +kernel
theorem dX9_weight_12 : decode cX9_weight 12 = .ok (.iconst 0, 1) := by decide +kernel
theorem dX9_weight_13 : decode cX9_weight 13 = .ok (.istore_n 2, 1) := by decide +kernel
theorem dX9_weight_14 : decode cX9_weight 14 = .ok (.iconst 0, 1) := by decide +kernel
theorem dX9_weight_15 : decode cX9_weight 15 = .ok (.istore_n 3, 1) := by decide +kernel
theorem dX9_weight_16 : decode cX9_weight 16 = .ok (.iload_n 3, 1) := by decide +kernel
theorem dX9_weight_17 : decode cX9_weight 17 = .ok (.aload_n 0, 1) := by decide +kernel
theorem dX9_weight_18 : decode cX9_weight 18 = .ok (.invokevirtual 87, 3) := by decide +kernel
theorem dX9_weight_21 : decode cX9_weight 21 = .ok (.if_icmp .ge 18, 3) := by decide +kernel
theorem dX9_weight_24 : decode cX9_weight 24 = .ok (.iload_n 2, 1) := by decide +kernel
theorem dX9_weight_25 : decode cX9_weight 25 = .ok (.aload_n 0, 1) := by decide +kernel
theorem dX9_weight_26 : decode cX9_weight 26 = .ok (.iload_n 1, 1) := by decide +kernel
theorem dX9_weight_27 : decode cX9_weight 27 = .ok (.iload_n 3, 1) := by decide +kernel
theorem dX9_weight_28 : decode cX9_weight 28 = .ok (.invokevirtual 285, 3) := by decide +kernel
theorem dX9_weight_31 : decode cX9_weight 31 = .ok (.iadd, 1) := by decide +kernel
theorem dX9_weight_32 : decode cX9_weight 32 = .ok (.istore_n 2, 1) := by decide +kernel
theorem dX9_weight_33 : decode cX9_weight 33 = .ok (.iinc 3 1, 3) := by decide +kernel
theorem dX9_weight_36 : decode cX9_weight 36 = .ok (.goto (-20), 3) := by decide +kernel
theorem dX9_weight_39 : decode cX9_weight 39 = .ok (.iload_n 2, 1) := by decide +kernel
theorem dX9_weight_40 : decode cX9_weight 40 = .ok (.ireturn, 1) := by decide +kernel
theorem dX9_within_0 : decode cX9_within 0 = .ok (.iconst 0, 1) := by decide +kernel
theorem dX9_within_1 : decode cX9_within 1 = .ok (.istore_n 2, 1) := by decide +kernel
theorem dX9_within_2 : decode cX9_within 2 = .ok (.iconst 0, 1) := by decide +kernel
theorem dX9_within_3 : decode cX9_within 3 = .ok (.istore_n 3, 1) := by decide +kernel
theorem dX9_within_4 : decode cX9_within 4 = .ok (.iload_n 3, 1) := by decide +kernel
theorem dX9_within_5 : decode cX9_within 5 = .ok (.bipush 64, 2) := by decide +kernel
theorem dX9_within_7 : decode cX9_within 7 = .ok (.if_icmp .ge 24, 3) := by decide +kernel
theorem dX9_within_10 : decode cX9_within 10 = .ok (.iload_n 2, 1) := by decide +kernel
theorem dX9_within_11 : decode cX9_within 11 = .ok (.aload_n 0, 1) := by decide +kernel
theorem dX9_within_12 : decode cX9_within 12 = .ok (.iload_n 3, 1) := by decide +kernel
theorem dX9_within_13 : decode cX9_within 13 = .ok (.iaload, 1) := by decide +kernel
theorem dX9_within_14 : decode cX9_within 14 = .ok (.iload_n 1, 1) := by decide +kernel
theorem dX9_within_15 : decode cX9_within 15 = .ok (.if_icmp .gt 7, 3) := by decide +kernel
theorem dX9_within_18 : decode cX9_within 18 = .ok (.iconst 1, 1) := by decide +kernel
theorem dX9_within_19 : decode cX9_within 19 = .ok (.goto 4, 3) := by decide +kernel
theorem dX9_within_22 : decode cX9_within 22 = .ok (.iconst 0, 1) := by decide +kernel
theorem dX9_within_23 : decode cX9_within 23 = .ok (.iadd, 1) := by decide +kernel
theorem dX9_within_24 : decode cX9_within 24 = .ok (.istore_n 2, 1) := by decide +kernel
theorem dX9_within_25 : decode cX9_within 25 = .ok (.iinc 3 1, 3) := by decide +kernel
theorem dX9_within_28 : decode cX9_within 28 = .ok (.goto (-24), 3) := by decide +kernel
theorem dX9_within_31 : decode cX9_within 31 = .ok (.iload_n 2, 1) := by decide +kernel
theorem dX9_within_32 : decode cX9_within 32 = .ok (.ireturn, 1) := by decide +kernel
theorem dX9_works_0 : decode cX9_works 0 = .ok (.aload_n 0, 1) := by decide +kernel
theorem dX9_works_1 : decode cX9_works 1 = .ok (.invokevirtual 318, 3) := by decide +kernel
theorem dX9_works_4 : decode cX9_works 4 = .ok (.ifCond .eq 19, 3) := by decide +kernel
theorem dX9_works_7 : decode cX9_works 7 = .ok (.aload_n 0, 1) := by decide +kernel
theorem dX9_works_8 : decode cX9_works 8 = .ok (.iload_n 1, 1) := by decide +kernel
theorem dX9_works_9 : decode cX9_works 9 = .ok (.invokevirtual 267, 3) := by decide +kernel
theorem dX9_works_12 : decode cX9_works 12 = .ok (.ifCond .eq 11, 3) := by decide +kernel
theorem dX9_works_15 : decode cX9_works 15 = .ok (.aload_n 0, 1) := by decide +kernel
theorem dX9_works_16 : decode cX9_works 16 = .ok (.iload_n 1, 1) := by decide +kernel
theorem dX9_works_17 : decode cX9_works 17 = .ok (.invokevirtual 328, 3) := by decide +kernel
theorem dX9_works_20 : decode cX9_works 20 = .ok (.goto 5, 3) := by decide +kernel
theorem dX9_works_23 : decode cX9_works 23 = .ok (.bipush (-2), 2) := by decide +kernel
theorem dX9_works_25 : decode cX9_works 25 = .ok (.ireturn, 1) := by decide +kernel
theorem dX9_worksOf_0 : decode cX9_worksOf 0 = .ok (.iconst 0, 1) := by decide +kernel
theorem dX9_worksOf_1 : decode cX9_worksOf 1 = .ok (.istore_n 2, 1) := by decide +kernel
theorem dX9_worksOf_2 : decode cX9_worksOf 2 = .ok (.iconst 0, 1) := by decide +kernel
theorem dX9_worksOf_3 : decode cX9_worksOf 3 = .ok (.istore_n 3, 1) := by decide +kernel
theorem dX9_worksOf_4 : decode cX9_worksOf 4 = .ok (.iload_n 3, 1) := by decide +kernel
theorem dX9_worksOf_5 : decode cX9_worksOf 5 = .ok (.aload_n 0, 1) := by decide +kernel
theorem dX9_worksOf_6 : decode cX9_worksOf 6 = .ok (.invokevirtual 96, 3) := by decide +kernel
theorem dX9_worksOf_9 : decode cX9_worksOf 9 = .ok (.if_icmp .ge 36, 3) := by decide +kernel
theorem dX9_worksOf_12 : decode cX9_worksOf 12 = .ok (.iload_n 2, 1) := by decide +kernel
theorem dX9_worksOf_13 : decode cX9_worksOf 13 = .ok (.aload_n 0, 1) := by decide +kernel
theorem dX9_worksOf_14 : decode cX9_worksOf 14 = .ok (.getfield 37, 3) := by decide +kernel
theorem dX9_worksOf_17 : decode cX9_worksOf 17 = .ok (.iload_n 3, 1) := by decide +kernel
theorem dX9_worksOf_18 : decode cX9_worksOf 18 = .ok (.baload, 1) := by decide +kernel
theorem dX9_worksOf_19 : decode cX9_worksOf 19 = .ok (.ifCond .eq 17, 3) := by decide +kernel
theorem dX9_worksOf_22 : decode cX9_worksOf 22 = .ok (.aload_n 0, 1) := by decide +kernel
theorem dX9_worksOf_23 : decode cX9_worksOf 23 = .ok (.iload_n 1, 1) := by decide +kernel
theorem dX9_worksOf_24 : decode cX9_worksOf 24 = .ok (.iload_n 3, 1) := by decide +kernel
theorem dX9_worksOf_25 : decode cX9_worksOf 25 = .ok (.invokevirtual 325, 3) := by decide +kernel
theorem dX9_worksOf_28 : decode cX9_worksOf 28 = .ok (.iconst (-1), 1) := by decide +kernel
theorem dX9_worksOf_29 : decode cX9_worksOf 29 = .ok (.if_icmp .eq 7, 3) := by decide +kernel
theorem dX9_worksOf_32 : decode cX9_worksOf 32 = .ok (.iconst 1, 1) := by decide +kernel
theorem dX9_worksOf_33 : decode cX9_worksOf 33 = .ok (.goto 4, 3) := by decide +kernel
theorem dX9_worksOf_36 : decode cX9_worksOf 36 = .ok (.iconst 0, 1) := by decide +kernel
theorem dX9_worksOf_37 : decode cX9_worksOf 37 = .ok (.iadd, 1) := by decide +kernel
theorem dX9_worksOf_38 : decode cX9_worksOf 38 = .ok (.istore_n 2, 1) := by decide +kernel
theorem dX9_worksOf_39 : decode cX9_worksOf 39 = .ok (.iinc 3 1, 3) := by decide +kernel
theorem dX9_worksOf_42 : decode cX9_worksOf 42 = .ok (.goto (-38), 3) := by decide +kernel
theorem dX9_worksOf_45 : decode cX9_worksOf 45 = .ok (.iload_n 2, 1) := by decide +kernel
theorem dX9_worksOf_46 : decode cX9_worksOf 46 = .ok (.ireturn, 1) := by decide +kernel
theorem iuX9_areCommuting_X9 : ∀ w ∈ u_ws RX9 TX9 42, w ∈ W_X9_areCommuting := fun w h => List.mem_cons_of_mem _ (List.mem_append_right _ (List.mem_append_left _ (h)))
theorem iuX9_asked_X9 : ∀ w ∈ u_ws RX9 TX9 42, w ∈ W_X9_asked := fun w h => List.mem_cons_of_mem _ (List.mem_append_right _ (List.mem_append_left _ (h)))
theorem iuX9_clashes_X9 : ∀ w ∈ u_ws RX9 TX9 42, w ∈ W_X9_clashes := fun w h => List.mem_cons_of_mem _ (List.mem_append_right _ (List.mem_append_left _ (h)))
theorem iuX9_dead_X9 : ∀ w ∈ u_ws RX9 TX9 42, w ∈ W_X9_dead := fun w h => List.mem_cons_of_mem _ (List.mem_append_right _ (List.mem_append_left _ (h)))
theorem iuX9_dropped_X9 : ∀ w ∈ u_ws RX9 TX9 42, w ∈ W_X9_dropped := fun w h => List.mem_cons_of_mem _ (List.mem_append_right _ (List.mem_append_left _ (h)))
theorem iuX9_far_X9 : ∀ w ∈ u_ws RX9 TX9 42, w ∈ W_X9_far := fun w h => List.mem_cons_of_mem _ (List.mem_append_right _ (List.mem_append_left _ (h)))
theorem iuX9_freely_X9 : ∀ w ∈ u_ws RX9 TX9 42, w ∈ W_X9_freely := fun w h => List.mem_cons_of_mem _ (List.mem_append_right _ (List.mem_append_left _ (h)))
theorem iuX9_goesTo_X9 : ∀ w ∈ u_ws RX9 TX9 42, w ∈ W_X9_goesTo := fun w h => List.mem_cons_of_mem _ (List.mem_append_right _ (h))
theorem iuX9_lateOf_X9 : ∀ w ∈ u_ws RX9 TX9 42, w ∈ W_X9_lateOf := fun w h => List.mem_cons_of_mem _ (List.mem_append_right _ (h))
theorem iuX9_layFar_X9 : ∀ w ∈ u_ws RX9 TX9 42, w ∈ W_X9_layFar := fun w h => List.mem_cons_of_mem _ (List.mem_append_right _ (List.mem_append_left _ (h)))
theorem iuX9_laySides_X9 : ∀ w ∈ u_ws RX9 TX9 42, w ∈ W_X9_laySides := fun w h => List.mem_cons_of_mem _ (List.mem_append_right _ (List.mem_append_left _ (h)))
theorem iuX9_layStates_X9 : ∀ w ∈ u_ws RX9 TX9 42, w ∈ W_X9_layStates := fun w h => List.mem_cons_of_mem _ (List.mem_append_right _ (List.mem_append_left _ (h)))
theorem iuX9_locked_X9 : ∀ w ∈ u_ws RX9 TX9 42, w ∈ W_X9_locked := fun w h => List.mem_cons_of_mem _ (List.mem_append_right _ (List.mem_append_left _ (h)))
theorem iuX9_mergeOf_X9 : ∀ w ∈ u_ws RX9 TX9 42, w ∈ W_X9_mergeOf := fun w h => List.mem_cons_of_mem _ (List.mem_append_right _ (List.mem_append_left _ (h)))
theorem iuX9_mergedOf_X9 : ∀ w ∈ u_ws RX9 TX9 42, w ∈ W_X9_mergedOf := fun w h => List.mem_cons_of_mem _ (List.mem_append_right _ (List.mem_append_left _ (h)))
theorem iuX9_nearest_X9 : ∀ w ∈ u_ws RX9 TX9 42, w ∈ W_X9_nearest := fun w h => List.mem_cons_of_mem _ (List.mem_append_right _ (List.mem_append_left _ (h)))
theorem iuX9_orNone_X9 : ∀ w ∈ u_ws RX9 TX9 42, w ∈ W_X9_orNone := fun w h => List.mem_cons_of_mem _ (List.mem_append_right _ (h))
theorem iuX9_reach_X9 : ∀ w ∈ u_ws RX9 TX9 42, w ∈ W_X9_reach := fun w h => List.mem_cons_of_mem _ (List.mem_append_right _ (List.mem_append_left _ (h)))
theorem iuX9_room_X9 : ∀ w ∈ u_ws RX9 TX9 42, w ∈ W_X9_room := fun w h => List.mem_cons_of_mem _ (List.mem_append_right _ (List.mem_append_left _ (h)))
theorem iuX9_spare_X9 : ∀ w ∈ u_ws RX9 TX9 42, w ∈ W_X9_spare := fun w h => List.mem_cons_of_mem _ (List.mem_append_right _ (List.mem_append_left _ (h)))
theorem iuX9_step_X9 : ∀ w ∈ u_ws RX9 TX9 42, w ∈ W_X9_step := fun w h => List.mem_cons_of_mem _ (List.mem_append_right _ (List.mem_append_left _ (h)))
theorem iuX9_valid_X9 : ∀ w ∈ u_ws RX9 TX9 42, w ∈ W_X9_valid := fun w h => List.mem_cons_of_mem _ (List.mem_append_right _ (List.mem_append_left _ (h)))
theorem iuX9_validMany_X9 : ∀ w ∈ u_ws RX9 TX9 42, w ∈ W_X9_validMany := fun w h => List.mem_cons_of_mem _ (List.mem_append_right _ (List.mem_append_left _ (h)))
theorem iuX9_worksOf_X9 : ∀ w ∈ u_ws RX9 TX9 42, w ∈ W_X9_worksOf := fun w h => List.mem_cons_of_mem _ (List.mem_append_right _ (List.mem_append_left _ (h)))
theorem gw_X9_areCommuting_X9_goesTo : GoodIn W_X9_areCommuting W_X9_goesTo := fun w h => ⟨List.mem_cons_of_mem _ (List.mem_append_right _ (List.mem_append_right _ (List.mem_append_right _ (h)))), (wI_X9_goesTo w h).2⟩
theorem gc_X9_areCommuting_325_X9_goesTo : GoodIn W_X9_areCommuting (wsV RX9 325 RX9 yX9_goesTo W_X9_goesTo) := goodIn_app (goodIn_sub (List.forall_mem_cons.mpr ⟨List.mem_cons_of_mem _ (List.mem_append_left _ (List.mem_of_getElem? (i := 4) rfl)), List.forall_mem_cons.mpr ⟨List.mem_cons_of_mem _ (List.mem_append_left _ (List.mem_of_getElem? (i := 5) rfl)), List.forall_mem_cons.mpr ⟨List.mem_cons_of_mem _ (List.mem_append_left _ (List.mem_of_getElem? (i := 6) rfl)), List.forall_mem_cons.mpr ⟨List.mem_cons_of_mem _ (List.mem_append_left _ (List.mem_of_getElem? (i := 3) rfl)), fun _ h => absurd h List.not_mem_nil⟩⟩⟩⟩) (by decide +kernel)) gw_X9_areCommuting_X9_goesTo
theorem gw_X9_areCommuting_X9_stateMany : GoodIn W_X9_areCommuting W_X9_stateMany := fun w h => ⟨List.mem_cons_of_mem _ (List.mem_append_right _ (List.mem_append_right _ (List.mem_append_left _ (h)))), (wI_X9_stateMany w h).2⟩
theorem gc_X9_areCommuting_96_X9_stateMany : GoodIn W_X9_areCommuting (wsV RX9 96 RX9 yX9_stateMany W_X9_stateMany) := goodIn_app (goodIn_sub (List.forall_mem_cons.mpr ⟨List.mem_cons_of_mem _ (List.mem_append_left _ (List.mem_of_getElem? (i := 0) rfl)), List.forall_mem_cons.mpr ⟨List.mem_cons_of_mem _ (List.mem_append_left _ (List.mem_of_getElem? (i := 1) rfl)), List.forall_mem_cons.mpr ⟨List.mem_cons_of_mem _ (List.mem_append_left _ (List.mem_of_getElem? (i := 2) rfl)), List.forall_mem_cons.mpr ⟨List.mem_cons_of_mem _ (List.mem_append_left _ (List.mem_of_getElem? (i := 3) rfl)), fun _ h => absurd h List.not_mem_nil⟩⟩⟩⟩) (by decide +kernel)) gw_X9_areCommuting_X9_stateMany
theorem gw_X9_asked_X9_isDepth : GoodIn W_X9_asked W_X9_isDepth := fun w h => ⟨List.mem_cons_of_mem _ (List.mem_append_right _ (List.mem_append_right _ (List.mem_append_right _ (List.mem_append_left _ (h))))), (wI_X9_isDepth w h).2⟩
theorem gc_X9_asked_357_X9_isDepth : GoodIn W_X9_asked (va_wsS RX9 357 yX9_isDepth W_X9_isDepth) := goodIn_app (goodIn_sub (List.forall_mem_cons.mpr ⟨List.mem_cons_of_mem _ (List.mem_append_left _ (List.mem_of_getElem? (i := 4) rfl)), List.forall_mem_cons.mpr ⟨List.mem_cons_of_mem _ (List.mem_append_left _ (List.mem_of_getElem? (i := 5) rfl)), List.forall_mem_cons.mpr ⟨List.mem_cons_of_mem _ (List.mem_append_left _ (List.mem_of_getElem? (i := 3) rfl)), fun _ h => absurd h List.not_mem_nil⟩⟩⟩) (by decide +kernel)) gw_X9_asked_X9_isDepth
theorem gw_X9_asked_X9_asksSides : GoodIn W_X9_asked W_X9_asksSides := fun w h => ⟨List.mem_cons_of_mem _ (List.mem_append_right _ (List.mem_append_right _ (List.mem_append_left _ (h)))), (wI_X9_asksSides w h).2⟩
theorem gc_X9_asked_354_X9_asksSides : GoodIn W_X9_asked (wsV RX9 354 RX9 yX9_asksSides W_X9_asksSides) := goodIn_app (goodIn_sub (List.forall_mem_cons.mpr ⟨List.mem_cons_of_mem _ (List.mem_append_left _ (List.mem_of_getElem? (i := 0) rfl)), List.forall_mem_cons.mpr ⟨List.mem_cons_of_mem _ (List.mem_append_left _ (List.mem_of_getElem? (i := 1) rfl)), List.forall_mem_cons.mpr ⟨List.mem_cons_of_mem _ (List.mem_append_left _ (List.mem_of_getElem? (i := 2) rfl)), List.forall_mem_cons.mpr ⟨List.mem_cons_of_mem _ (List.mem_append_left _ (List.mem_of_getElem? (i := 3) rfl)), fun _ h => absurd h List.not_mem_nil⟩⟩⟩⟩) (by decide +kernel)) gw_X9_asked_X9_asksSides
theorem gw_X9_asked_X9_stateMany : GoodIn W_X9_asked W_X9_stateMany := fun w h => ⟨List.mem_cons_of_mem _ (List.mem_append_right _ (List.mem_append_right _ (List.mem_append_right _ (List.mem_append_right _ (h))))), (wI_X9_stateMany w h).2⟩
theorem gc_X9_asked_96_X9_stateMany : GoodIn W_X9_asked (wsV RX9 96 RX9 yX9_stateMany W_X9_stateMany) := goodIn_app (goodIn_sub (List.forall_mem_cons.mpr ⟨List.mem_cons_of_mem _ (List.mem_append_left _ (List.mem_of_getElem? (i := 6) rfl)), List.forall_mem_cons.mpr ⟨List.mem_cons_of_mem _ (List.mem_append_left _ (List.mem_of_getElem? (i := 7) rfl)), List.forall_mem_cons.mpr ⟨List.mem_cons_of_mem _ (List.mem_append_left _ (List.mem_of_getElem? (i := 8) rfl)), List.forall_mem_cons.mpr ⟨List.mem_cons_of_mem _ (List.mem_append_left _ (List.mem_of_getElem? (i := 3) rfl)), fun _ h => absurd h List.not_mem_nil⟩⟩⟩⟩) (by decide +kernel)) gw_X9_asked_X9_stateMany
theorem gw_X9_asks_X9_asItIs : GoodIn W_X9_asks W_X9_asItIs := fun w h => ⟨List.mem_cons_of_mem _ (List.mem_append_right _ (List.mem_append_left _ (h))), (wI_X9_asItIs w h).2⟩
theorem gc_X9_asks_308_X9_asItIs : GoodIn W_X9_asks (wsV RX9 308 RX9 yX9_asItIs W_X9_asItIs) := goodIn_app (goodIn_sub (List.forall_mem_cons.mpr ⟨List.mem_cons_of_mem _ (List.mem_append_left _ (List.mem_of_getElem? (i := 0) rfl)), List.forall_mem_cons.mpr ⟨List.mem_cons_of_mem _ (List.mem_append_left _ (List.mem_of_getElem? (i := 1) rfl)), List.forall_mem_cons.mpr ⟨List.mem_cons_of_mem _ (List.mem_append_left _ (List.mem_of_getElem? (i := 2) rfl)), List.forall_mem_cons.mpr ⟨List.mem_cons_of_mem _ (List.mem_append_left _ (List.mem_of_getElem? (i := 3) rfl)), fun _ h => absurd h List.not_mem_nil⟩⟩⟩⟩) (by decide +kernel)) gw_X9_asks_X9_asItIs
theorem gw_X9_asks_X9_layStates : GoodIn W_X9_asks W_X9_layStates := fun w h => ⟨List.mem_cons_of_mem _ (List.mem_append_right _ (List.mem_append_right _ (List.mem_append_right _ (h)))), (wI_X9_layStates w h).2⟩
theorem gc_X9_asks_311_X9_layStates : GoodIn W_X9_asks (wsV RX9 311 RX9 yX9_layStates W_X9_layStates) := goodIn_app (goodIn_sub (List.forall_mem_cons.mpr ⟨List.mem_cons_of_mem _ (List.mem_append_left _ (List.mem_of_getElem? (i := 7) rfl)), List.forall_mem_cons.mpr ⟨List.mem_cons_of_mem _ (List.mem_append_left _ (List.mem_of_getElem? (i := 8) rfl)), List.forall_mem_cons.mpr ⟨List.mem_cons_of_mem _ (List.mem_append_left _ (List.mem_of_getElem? (i := 9) rfl)), List.forall_mem_cons.mpr ⟨List.mem_cons_of_mem _ (List.mem_append_left _ (List.mem_of_getElem? (i := 3) rfl)), fun _ h => absurd h List.not_mem_nil⟩⟩⟩⟩) (by decide +kernel)) gw_X9_asks_X9_layStates
theorem gw_X9_asks_X9_isBase : GoodIn W_X9_asks W_X9_isBase := fun w h => ⟨List.mem_cons_of_mem _ (List.mem_append_right _ (List.mem_append_right _ (List.mem_append_left _ (h)))), (wI_X9_isBase w h).2⟩
theorem gc_X9_asks_92_X9_isBase : GoodIn W_X9_asks (wsV RX9 92 RX9 yX9_isBase W_X9_isBase) := goodIn_app (goodIn_sub (List.forall_mem_cons.mpr ⟨List.mem_cons_of_mem _ (List.mem_append_left _ (List.mem_of_getElem? (i := 4) rfl)), List.forall_mem_cons.mpr ⟨List.mem_cons_of_mem _ (List.mem_append_left _ (List.mem_of_getElem? (i := 5) rfl)), List.forall_mem_cons.mpr ⟨List.mem_cons_of_mem _ (List.mem_append_left _ (List.mem_of_getElem? (i := 6) rfl)), List.forall_mem_cons.mpr ⟨List.mem_cons_of_mem _ (List.mem_append_left _ (List.mem_of_getElem? (i := 3) rfl)), fun _ h => absurd h List.not_mem_nil⟩⟩⟩⟩) (by decide +kernel)) gw_X9_asks_X9_isBase
theorem gw_X9_asksSides_X9_isState : GoodIn W_X9_asksSides W_X9_isState := fun w h => ⟨List.mem_cons_of_mem _ (List.mem_append_right _ (List.mem_append_right _ (List.mem_append_left _ (h)))), (wI_X9_isState w h).2⟩
theorem gc_X9_asksSides_314_X9_isState : GoodIn W_X9_asksSides (wsV RX9 314 RX9 yX9_isState W_X9_isState) := goodIn_app (goodIn_sub (List.forall_mem_cons.mpr ⟨List.mem_cons_of_mem _ (List.mem_append_left _ (List.mem_of_getElem? (i := 4) rfl)), List.forall_mem_cons.mpr ⟨List.mem_cons_of_mem _ (List.mem_append_left _ (List.mem_of_getElem? (i := 5) rfl)), List.forall_mem_cons.mpr ⟨List.mem_cons_of_mem _ (List.mem_append_left _ (List.mem_of_getElem? (i := 6) rfl)), List.forall_mem_cons.mpr ⟨List.mem_cons_of_mem _ (List.mem_append_left _ (List.mem_of_getElem? (i := 3) rfl)), fun _ h => absurd h List.not_mem_nil⟩⟩⟩⟩) (by decide +kernel)) gw_X9_asksSides_X9_isState
theorem gw_X9_asksSides_X9_asks : GoodIn W_X9_asksSides W_X9_asks := fun w h => ⟨List.mem_cons_of_mem _ (List.mem_append_right _ (List.mem_append_left _ (h))), (wI_X9_asks w h).2⟩
theorem gc_X9_asksSides_318_X9_asks : GoodIn W_X9_asksSides (wsV RX9 318 RX9 yX9_asks W_X9_asks) := goodIn_app (goodIn_sub (List.forall_mem_cons.mpr ⟨List.mem_cons_of_mem _ (List.mem_append_left _ (List.mem_of_getElem? (i := 0) rfl)), List.forall_mem_cons.mpr ⟨List.mem_cons_of_mem _ (List.mem_append_left _ (List.mem_of_getElem? (i := 1) rfl)), List.forall_mem_cons.mpr ⟨List.mem_cons_of_mem _ (List.mem_append_left _ (List.mem_of_getElem? (i := 2) rfl)), List.forall_mem_cons.mpr ⟨List.mem_cons_of_mem _ (List.mem_append_left _ (List.mem_of_getElem? (i := 3) rfl)), fun _ h => absurd h List.not_mem_nil⟩⟩⟩⟩) (by decide +kernel)) gw_X9_asksSides_X9_asks
theorem gw_X9_asksSides_X9_laySides : GoodIn W_X9_asksSides W_X9_laySides := fun w h => ⟨List.mem_cons_of_mem _ (List.mem_append_right _ (List.mem_append_right _ (List.mem_append_right _ (h)))), (wI_X9_laySides w h).2⟩
theorem gc_X9_asksSides_351_X9_laySides : GoodIn W_X9_asksSides (wsV RX9 351 RX9 yX9_laySides W_X9_laySides) := goodIn_app (goodIn_sub (List.forall_mem_cons.mpr ⟨List.mem_cons_of_mem _ (List.mem_append_left _ (List.mem_of_getElem? (i := 7) rfl)), List.forall_mem_cons.mpr ⟨List.mem_cons_of_mem _ (List.mem_append_left _ (List.mem_of_getElem? (i := 8) rfl)), List.forall_mem_cons.mpr ⟨List.mem_cons_of_mem _ (List.mem_append_left _ (List.mem_of_getElem? (i := 9) rfl)), List.forall_mem_cons.mpr ⟨List.mem_cons_of_mem _ (List.mem_append_left _ (List.mem_of_getElem? (i := 3) rfl)), fun _ h => absurd h List.not_mem_nil⟩⟩⟩⟩) (by decide +kernel)) gw_X9_asksSides_X9_laySides
theorem gw_X9_breaks_X9_brokenBy : GoodIn W_X9_breaks W_X9_brokenBy := fun w h => ⟨List.mem_cons_of_mem _ (List.mem_append_right _ (List.mem_append_right _ (List.mem_append_right _ (h)))), (wI_X9_brokenBy w h).2⟩
theorem gc_X9_breaks_302_X9_brokenBy : GoodIn W_X9_breaks (wsV RX9 302 RX9 yX9_brokenBy W_X9_brokenBy) := goodIn_app (goodIn_sub (List.forall_mem_cons.mpr ⟨List.mem_cons_of_mem _ (List.mem_append_left _ (List.mem_of_getElem? (i := 7) rfl)), List.forall_mem_cons.mpr ⟨List.mem_cons_of_mem _ (List.mem_append_left _ (List.mem_of_getElem? (i := 8) rfl)), List.forall_mem_cons.mpr ⟨List.mem_cons_of_mem _ (List.mem_append_left _ (List.mem_of_getElem? (i := 9) rfl)), List.forall_mem_cons.mpr ⟨List.mem_cons_of_mem _ (List.mem_append_left _ (List.mem_of_getElem? (i := 3) rfl)), fun _ h => absurd h List.not_mem_nil⟩⟩⟩⟩) (by decide +kernel)) gw_X9_breaks_X9_brokenBy
theorem gw_X9_breaks_X9_isState : GoodIn W_X9_breaks W_X9_isState := fun w h => ⟨List.mem_cons_of_mem _ (List.mem_append_right _ (List.mem_append_right _ (List.mem_append_left _ (h)))), (wI_X9_isState w h).2⟩
theorem gc_X9_breaks_314_X9_isState : GoodIn W_X9_breaks (wsV RX9 314 RX9 yX9_isState W_X9_isState) := goodIn_app (goodIn_sub (List.forall_mem_cons.mpr ⟨List.mem_cons_of_mem _ (List.mem_append_left _ (List.mem_of_getElem? (i := 4) rfl)), List.forall_mem_cons.mpr ⟨List.mem_cons_of_mem _ (List.mem_append_left _ (List.mem_of_getElem? (i := 5) rfl)), List.forall_mem_cons.mpr ⟨List.mem_cons_of_mem _ (List.mem_append_left _ (List.mem_of_getElem? (i := 6) rfl)), List.forall_mem_cons.mpr ⟨List.mem_cons_of_mem _ (List.mem_append_left _ (List.mem_of_getElem? (i := 3) rfl)), fun _ h => absurd h List.not_mem_nil⟩⟩⟩⟩) (by decide +kernel)) gw_X9_breaks_X9_isState
theorem gw_X9_breaks_X9_asks : GoodIn W_X9_breaks W_X9_asks := fun w h => ⟨List.mem_cons_of_mem _ (List.mem_append_right _ (List.mem_append_left _ (h))), (wI_X9_asks w h).2⟩
theorem gc_X9_breaks_318_X9_asks : GoodIn W_X9_breaks (wsV RX9 318 RX9 yX9_asks W_X9_asks) := goodIn_app (goodIn_sub (List.forall_mem_cons.mpr ⟨List.mem_cons_of_mem _ (List.mem_append_left _ (List.mem_of_getElem? (i := 0) rfl)), List.forall_mem_cons.mpr ⟨List.mem_cons_of_mem _ (List.mem_append_left _ (List.mem_of_getElem? (i := 1) rfl)), List.forall_mem_cons.mpr ⟨List.mem_cons_of_mem _ (List.mem_append_left _ (List.mem_of_getElem? (i := 2) rfl)), List.forall_mem_cons.mpr ⟨List.mem_cons_of_mem _ (List.mem_append_left _ (List.mem_of_getElem? (i := 3) rfl)), fun _ h => absurd h List.not_mem_nil⟩⟩⟩⟩) (by decide +kernel)) gw_X9_breaks_X9_asks
theorem gw_X9_clashes_X9_isOp : GoodIn W_X9_clashes W_X9_isOp := fun w h => ⟨List.mem_cons_of_mem _ (List.mem_append_right _ (List.mem_append_right _ (List.mem_append_right _ (List.mem_append_left _ (h))))), (wI_X9_isOp w h).2⟩
theorem gc_X9_clashes_267_X9_isOp : GoodIn W_X9_clashes (wsV RX9 267 RX9 yX9_isOp W_X9_isOp) := goodIn_app (goodIn_sub (List.forall_mem_cons.mpr ⟨List.mem_cons_of_mem _ (List.mem_append_left _ (List.mem_of_getElem? (i := 4) rfl)), List.forall_mem_cons.mpr ⟨List.mem_cons_of_mem _ (List.mem_append_left _ (List.mem_of_getElem? (i := 5) rfl)), List.forall_mem_cons.mpr ⟨List.mem_cons_of_mem _ (List.mem_append_left _ (List.mem_of_getElem? (i := 6) rfl)), List.forall_mem_cons.mpr ⟨List.mem_cons_of_mem _ (List.mem_append_left _ (List.mem_of_getElem? (i := 3) rfl)), fun _ h => absurd h List.not_mem_nil⟩⟩⟩⟩) (by decide +kernel)) gw_X9_clashes_X9_isOp
theorem gw_X9_clashes_X9_asks : GoodIn W_X9_clashes W_X9_asks := fun w h => ⟨List.mem_cons_of_mem _ (List.mem_append_right _ (List.mem_append_right _ (List.mem_append_left _ (h)))), (wI_X9_asks w h).2⟩
theorem gc_X9_clashes_318_X9_asks : GoodIn W_X9_clashes (wsV RX9 318 RX9 yX9_asks W_X9_asks) := goodIn_app (goodIn_sub (List.forall_mem_cons.mpr ⟨List.mem_cons_of_mem _ (List.mem_append_left _ (List.mem_of_getElem? (i := 0) rfl)), List.forall_mem_cons.mpr ⟨List.mem_cons_of_mem _ (List.mem_append_left _ (List.mem_of_getElem? (i := 1) rfl)), List.forall_mem_cons.mpr ⟨List.mem_cons_of_mem _ (List.mem_append_left _ (List.mem_of_getElem? (i := 2) rfl)), List.forall_mem_cons.mpr ⟨List.mem_cons_of_mem _ (List.mem_append_left _ (List.mem_of_getElem? (i := 3) rfl)), fun _ h => absurd h List.not_mem_nil⟩⟩⟩⟩) (by decide +kernel)) gw_X9_clashes_X9_asks
theorem gw_X9_clashes_X9_goesTo : GoodIn W_X9_clashes W_X9_goesTo := fun w h => ⟨List.mem_cons_of_mem _ (List.mem_append_right _ (List.mem_append_right _ (List.mem_append_right _ (List.mem_append_right _ (List.mem_append_right _ (List.mem_append_left _ (h))))))), (wI_X9_goesTo w h).2⟩
theorem gc_X9_clashes_325_X9_goesTo : GoodIn W_X9_clashes (wsV RX9 325 RX9 yX9_goesTo W_X9_goesTo) := goodIn_app (goodIn_sub (List.forall_mem_cons.mpr ⟨List.mem_cons_of_mem _ (List.mem_append_left _ (List.mem_of_getElem? (i := 11) rfl)), List.forall_mem_cons.mpr ⟨List.mem_cons_of_mem _ (List.mem_append_left _ (List.mem_of_getElem? (i := 12) rfl)), List.forall_mem_cons.mpr ⟨List.mem_cons_of_mem _ (List.mem_append_left _ (List.mem_of_getElem? (i := 13) rfl)), List.forall_mem_cons.mpr ⟨List.mem_cons_of_mem _ (List.mem_append_left _ (List.mem_of_getElem? (i := 3) rfl)), fun _ h => absurd h List.not_mem_nil⟩⟩⟩⟩) (by decide +kernel)) gw_X9_clashes_X9_goesTo
theorem gw_X9_clashes_X9_mergeOf : GoodIn W_X9_clashes W_X9_mergeOf := fun w h => ⟨List.mem_cons_of_mem _ (List.mem_append_right _ (List.mem_append_right _ (List.mem_append_right _ (List.mem_append_right _ (List.mem_append_right _ (List.mem_append_right _ (h))))))), (wI_X9_mergeOf w h).2⟩
theorem gc_X9_clashes_344_X9_mergeOf : GoodIn W_X9_clashes (wsV RX9 344 RX9 yX9_mergeOf W_X9_mergeOf) := goodIn_app (goodIn_sub (List.forall_mem_cons.mpr ⟨List.mem_cons_of_mem _ (List.mem_append_left _ (List.mem_of_getElem? (i := 14) rfl)), List.forall_mem_cons.mpr ⟨List.mem_cons_of_mem _ (List.mem_append_left _ (List.mem_of_getElem? (i := 15) rfl)), List.forall_mem_cons.mpr ⟨List.mem_cons_of_mem _ (List.mem_append_left _ (List.mem_of_getElem? (i := 16) rfl)), List.forall_mem_cons.mpr ⟨List.mem_cons_of_mem _ (List.mem_append_left _ (List.mem_of_getElem? (i := 3) rfl)), fun _ h => absurd h List.not_mem_nil⟩⟩⟩⟩) (by decide +kernel)) gw_X9_clashes_X9_mergeOf
theorem gw_X9_clashes_X9_stateMany : GoodIn W_X9_clashes W_X9_stateMany := fun w h => ⟨List.mem_cons_of_mem _ (List.mem_append_right _ (List.mem_append_right _ (List.mem_append_right _ (List.mem_append_right _ (List.mem_append_left _ (h)))))), (wI_X9_stateMany w h).2⟩
theorem gc_X9_clashes_96_X9_stateMany : GoodIn W_X9_clashes (wsV RX9 96 RX9 yX9_stateMany W_X9_stateMany) := goodIn_app (goodIn_sub (List.forall_mem_cons.mpr ⟨List.mem_cons_of_mem _ (List.mem_append_left _ (List.mem_of_getElem? (i := 7) rfl)), List.forall_mem_cons.mpr ⟨List.mem_cons_of_mem _ (List.mem_append_left _ (List.mem_of_getElem? (i := 8) rfl)), List.forall_mem_cons.mpr ⟨List.mem_cons_of_mem _ (List.mem_append_left _ (List.mem_of_getElem? (i := 9) rfl)), List.forall_mem_cons.mpr ⟨List.mem_cons_of_mem _ (List.mem_append_left _ (List.mem_of_getElem? (i := 3) rfl)), fun _ h => absurd h List.not_mem_nil⟩⟩⟩⟩) (by decide +kernel)) gw_X9_clashes_X9_stateMany
theorem gw_X9_commute_X9_isOp : GoodIn W_X9_commute W_X9_isOp := fun w h => ⟨List.mem_cons_of_mem _ (List.mem_append_right _ (List.mem_append_right _ (List.mem_append_left _ (h)))), (wI_X9_isOp w h).2⟩
theorem gc_X9_commute_267_X9_isOp : GoodIn W_X9_commute (wsV RX9 267 RX9 yX9_isOp W_X9_isOp) := goodIn_app (goodIn_sub (List.forall_mem_cons.mpr ⟨List.mem_cons_of_mem _ (List.mem_append_left _ (List.mem_of_getElem? (i := 4) rfl)), List.forall_mem_cons.mpr ⟨List.mem_cons_of_mem _ (List.mem_append_left _ (List.mem_of_getElem? (i := 5) rfl)), List.forall_mem_cons.mpr ⟨List.mem_cons_of_mem _ (List.mem_append_left _ (List.mem_of_getElem? (i := 6) rfl)), List.forall_mem_cons.mpr ⟨List.mem_cons_of_mem _ (List.mem_append_left _ (List.mem_of_getElem? (i := 3) rfl)), fun _ h => absurd h List.not_mem_nil⟩⟩⟩⟩) (by decide +kernel)) gw_X9_commute_X9_isOp
theorem gw_X9_commute_X9_asks : GoodIn W_X9_commute W_X9_asks := fun w h => ⟨List.mem_cons_of_mem _ (List.mem_append_right _ (List.mem_append_left _ (h))), (wI_X9_asks w h).2⟩
theorem gc_X9_commute_318_X9_asks : GoodIn W_X9_commute (wsV RX9 318 RX9 yX9_asks W_X9_asks) := goodIn_app (goodIn_sub (List.forall_mem_cons.mpr ⟨List.mem_cons_of_mem _ (List.mem_append_left _ (List.mem_of_getElem? (i := 0) rfl)), List.forall_mem_cons.mpr ⟨List.mem_cons_of_mem _ (List.mem_append_left _ (List.mem_of_getElem? (i := 1) rfl)), List.forall_mem_cons.mpr ⟨List.mem_cons_of_mem _ (List.mem_append_left _ (List.mem_of_getElem? (i := 2) rfl)), List.forall_mem_cons.mpr ⟨List.mem_cons_of_mem _ (List.mem_append_left _ (List.mem_of_getElem? (i := 3) rfl)), fun _ h => absurd h List.not_mem_nil⟩⟩⟩⟩) (by decide +kernel)) gw_X9_commute_X9_asks
theorem gw_X9_commute_X9_areCommuting : GoodIn W_X9_commute W_X9_areCommuting := fun w h => ⟨List.mem_cons_of_mem _ (List.mem_append_right _ (List.mem_append_right _ (List.mem_append_right _ (h)))), (wI_X9_areCommuting w h).2⟩
theorem gc_X9_commute_334_X9_areCommuting : GoodIn W_X9_commute (wsV RX9 334 RX9 yX9_areCommuting W_X9_areCommuting) := goodIn_app (goodIn_sub (List.forall_mem_cons.mpr ⟨List.mem_cons_of_mem _ (List.mem_append_left _ (List.mem_of_getElem? (i := 7) rfl)), List.forall_mem_cons.mpr ⟨List.mem_cons_of_mem _ (List.mem_append_left _ (List.mem_of_getElem? (i := 8) rfl)), List.forall_mem_cons.mpr ⟨List.mem_cons_of_mem _ (List.mem_append_left _ (List.mem_of_getElem? (i := 9) rfl)), List.forall_mem_cons.mpr ⟨List.mem_cons_of_mem _ (List.mem_append_left _ (List.mem_of_getElem? (i := 3) rfl)), fun _ h => absurd h List.not_mem_nil⟩⟩⟩⟩) (by decide +kernel)) gw_X9_commute_X9_areCommuting
theorem gw_X9_dead_X9_asks : GoodIn W_X9_dead W_X9_asks := fun w h => ⟨List.mem_cons_of_mem _ (List.mem_append_right _ (List.mem_append_right _ (List.mem_append_left _ (h)))), (wI_X9_asks w h).2⟩
theorem gc_X9_dead_318_X9_asks : GoodIn W_X9_dead (wsV RX9 318 RX9 yX9_asks W_X9_asks) := goodIn_app (goodIn_sub (List.forall_mem_cons.mpr ⟨List.mem_cons_of_mem _ (List.mem_append_left _ (List.mem_of_getElem? (i := 0) rfl)), List.forall_mem_cons.mpr ⟨List.mem_cons_of_mem _ (List.mem_append_left _ (List.mem_of_getElem? (i := 1) rfl)), List.forall_mem_cons.mpr ⟨List.mem_cons_of_mem _ (List.mem_append_left _ (List.mem_of_getElem? (i := 2) rfl)), List.forall_mem_cons.mpr ⟨List.mem_cons_of_mem _ (List.mem_append_left _ (List.mem_of_getElem? (i := 3) rfl)), fun _ h => absurd h List.not_mem_nil⟩⟩⟩⟩) (by decide +kernel)) gw_X9_dead_X9_asks
theorem gw_X9_dead_X9_opensOf : GoodIn W_X9_dead W_X9_opensOf := fun w h => ⟨List.mem_cons_of_mem _ (List.mem_append_right _ (List.mem_append_right _ (List.mem_append_right _ (List.mem_append_right _ (h))))), (wI_X9_opensOf w h).2⟩
theorem gc_X9_dead_331_X9_opensOf : GoodIn W_X9_dead (wsV RX9 331 RX9 yX9_opensOf W_X9_opensOf) := goodIn_app (goodIn_sub (List.forall_mem_cons.mpr ⟨List.mem_cons_of_mem _ (List.mem_append_left _ (List.mem_of_getElem? (i := 8) rfl)), List.forall_mem_cons.mpr ⟨List.mem_cons_of_mem _ (List.mem_append_left _ (List.mem_of_getElem? (i := 9) rfl)), List.forall_mem_cons.mpr ⟨List.mem_cons_of_mem _ (List.mem_append_left _ (List.mem_of_getElem? (i := 10) rfl)), List.forall_mem_cons.mpr ⟨List.mem_cons_of_mem _ (List.mem_append_left _ (List.mem_of_getElem? (i := 3) rfl)), fun _ h => absurd h List.not_mem_nil⟩⟩⟩⟩) (by decide +kernel)) gw_X9_dead_X9_opensOf
theorem gw_X9_dead_X9_stateMany : GoodIn W_X9_dead W_X9_stateMany := fun w h => ⟨List.mem_cons_of_mem _ (List.mem_append_right _ (List.mem_append_right _ (List.mem_append_right _ (List.mem_append_left _ (h))))), (wI_X9_stateMany w h).2⟩
theorem gc_X9_dead_96_X9_stateMany : GoodIn W_X9_dead (wsV RX9 96 RX9 yX9_stateMany W_X9_stateMany) := goodIn_app (goodIn_sub (List.forall_mem_cons.mpr ⟨List.mem_cons_of_mem _ (List.mem_append_left _ (List.mem_of_getElem? (i := 4) rfl)), List.forall_mem_cons.mpr ⟨List.mem_cons_of_mem _ (List.mem_append_left _ (List.mem_of_getElem? (i := 5) rfl)), List.forall_mem_cons.mpr ⟨List.mem_cons_of_mem _ (List.mem_append_left _ (List.mem_of_getElem? (i := 6) rfl)), List.forall_mem_cons.mpr ⟨List.mem_cons_of_mem _ (List.mem_append_left _ (List.mem_of_getElem? (i := 3) rfl)), fun _ h => absurd h List.not_mem_nil⟩⟩⟩⟩) (by decide +kernel)) gw_X9_dead_X9_stateMany
theorem gw_X9_does_X9_isOp : GoodIn W_X9_does W_X9_isOp := fun w h => ⟨List.mem_cons_of_mem _ (List.mem_append_right _ (List.mem_append_right _ (List.mem_append_right _ (List.mem_append_left _ (h))))), (wI_X9_isOp w h).2⟩
theorem gc_X9_does_267_X9_isOp : GoodIn W_X9_does (wsV RX9 267 RX9 yX9_isOp W_X9_isOp) := goodIn_app (goodIn_sub (List.forall_mem_cons.mpr ⟨List.mem_cons_of_mem _ (List.mem_append_left _ (List.mem_of_getElem? (i := 7) rfl)), List.forall_mem_cons.mpr ⟨List.mem_cons_of_mem _ (List.mem_append_left _ (List.mem_of_getElem? (i := 8) rfl)), List.forall_mem_cons.mpr ⟨List.mem_cons_of_mem _ (List.mem_append_left _ (List.mem_of_getElem? (i := 9) rfl)), List.forall_mem_cons.mpr ⟨List.mem_cons_of_mem _ (List.mem_append_left _ (List.mem_of_getElem? (i := 3) rfl)), fun _ h => absurd h List.not_mem_nil⟩⟩⟩⟩) (by decide +kernel)) gw_X9_does_X9_isOp
theorem gw_X9_does_X9_isState : GoodIn W_X9_does W_X9_isState := fun w h => ⟨List.mem_cons_of_mem _ (List.mem_append_right _ (List.mem_append_right _ (List.mem_append_left _ (h)))), (wI_X9_isState w h).2⟩
theorem gc_X9_does_314_X9_isState : GoodIn W_X9_does (wsV RX9 314 RX9 yX9_isState W_X9_isState) := goodIn_app (goodIn_sub (List.forall_mem_cons.mpr ⟨List.mem_cons_of_mem _ (List.mem_append_left _ (List.mem_of_getElem? (i := 4) rfl)), List.forall_mem_cons.mpr ⟨List.mem_cons_of_mem _ (List.mem_append_left _ (List.mem_of_getElem? (i := 5) rfl)), List.forall_mem_cons.mpr ⟨List.mem_cons_of_mem _ (List.mem_append_left _ (List.mem_of_getElem? (i := 6) rfl)), List.forall_mem_cons.mpr ⟨List.mem_cons_of_mem _ (List.mem_append_left _ (List.mem_of_getElem? (i := 3) rfl)), fun _ h => absurd h List.not_mem_nil⟩⟩⟩⟩) (by decide +kernel)) gw_X9_does_X9_isState
theorem gw_X9_does_X9_asks : GoodIn W_X9_does W_X9_asks := fun w h => ⟨List.mem_cons_of_mem _ (List.mem_append_right _ (List.mem_append_left _ (h))), (wI_X9_asks w h).2⟩
theorem gc_X9_does_318_X9_asks : GoodIn W_X9_does (wsV RX9 318 RX9 yX9_asks W_X9_asks) := goodIn_app (goodIn_sub (List.forall_mem_cons.mpr ⟨List.mem_cons_of_mem _ (List.mem_append_left _ (List.mem_of_getElem? (i := 0) rfl)), List.forall_mem_cons.mpr ⟨List.mem_cons_of_mem _ (List.mem_append_left _ (List.mem_of_getElem? (i := 1) rfl)), List.forall_mem_cons.mpr ⟨List.mem_cons_of_mem _ (List.mem_append_left _ (List.mem_of_getElem? (i := 2) rfl)), List.forall_mem_cons.mpr ⟨List.mem_cons_of_mem _ (List.mem_append_left _ (List.mem_of_getElem? (i := 3) rfl)), fun _ h => absurd h List.not_mem_nil⟩⟩⟩⟩) (by decide +kernel)) gw_X9_does_X9_asks
theorem gw_X9_does_X9_goesTo : GoodIn W_X9_does W_X9_goesTo := fun w h => ⟨List.mem_cons_of_mem _ (List.mem_append_right _ (List.mem_append_right _ (List.mem_append_right _ (List.mem_append_right _ (h))))), (wI_X9_goesTo w h).2⟩
theorem gc_X9_does_325_X9_goesTo : GoodIn W_X9_does (wsV RX9 325 RX9 yX9_goesTo W_X9_goesTo) := goodIn_app (goodIn_sub (List.forall_mem_cons.mpr ⟨List.mem_cons_of_mem _ (List.mem_append_left _ (List.mem_of_getElem? (i := 10) rfl)), List.forall_mem_cons.mpr ⟨List.mem_cons_of_mem _ (List.mem_append_left _ (List.mem_of_getElem? (i := 11) rfl)), List.forall_mem_cons.mpr ⟨List.mem_cons_of_mem _ (List.mem_append_left _ (List.mem_of_getElem? (i := 12) rfl)), List.forall_mem_cons.mpr ⟨List.mem_cons_of_mem _ (List.mem_append_left _ (List.mem_of_getElem? (i := 3) rfl)), fun _ h => absurd h List.not_mem_nil⟩⟩⟩⟩) (by decide +kernel)) gw_X9_does_X9_goesTo
theorem gw_X9_dropped_X9_asks : GoodIn W_X9_dropped W_X9_asks := fun w h => ⟨List.mem_cons_of_mem _ (List.mem_append_right _ (List.mem_append_right _ (h))), (wI_X9_asks w h).2⟩
theorem gc_X9_dropped_318_X9_asks : GoodIn W_X9_dropped (wsV RX9 318 RX9 yX9_asks W_X9_asks) := goodIn_app (goodIn_sub (List.forall_mem_cons.mpr ⟨List.mem_cons_of_mem _ (List.mem_append_left _ (List.mem_of_getElem? (i := 0) rfl)), List.forall_mem_cons.mpr ⟨List.mem_cons_of_mem _ (List.mem_append_left _ (List.mem_of_getElem? (i := 1) rfl)), List.forall_mem_cons.mpr ⟨List.mem_cons_of_mem _ (List.mem_append_left _ (List.mem_of_getElem? (i := 2) rfl)), List.forall_mem_cons.mpr ⟨List.mem_cons_of_mem _ (List.mem_append_left _ (List.mem_of_getElem? (i := 3) rfl)), fun _ h => absurd h List.not_mem_nil⟩⟩⟩⟩) (by decide +kernel)) gw_X9_dropped_X9_asks
theorem gw_X9_even_X9_isState : GoodIn W_X9_even W_X9_isState := fun w h => ⟨List.mem_cons_of_mem _ (List.mem_append_right _ (List.mem_append_right _ (List.mem_append_left _ (h)))), (wI_X9_isState w h).2⟩
theorem gc_X9_even_314_X9_isState : GoodIn W_X9_even (wsV RX9 314 RX9 yX9_isState W_X9_isState) := goodIn_app (goodIn_sub (List.forall_mem_cons.mpr ⟨List.mem_cons_of_mem _ (List.mem_append_left _ (List.mem_of_getElem? (i := 4) rfl)), List.forall_mem_cons.mpr ⟨List.mem_cons_of_mem _ (List.mem_append_left _ (List.mem_of_getElem? (i := 5) rfl)), List.forall_mem_cons.mpr ⟨List.mem_cons_of_mem _ (List.mem_append_left _ (List.mem_of_getElem? (i := 6) rfl)), List.forall_mem_cons.mpr ⟨List.mem_cons_of_mem _ (List.mem_append_left _ (List.mem_of_getElem? (i := 3) rfl)), fun _ h => absurd h List.not_mem_nil⟩⟩⟩⟩) (by decide +kernel)) gw_X9_even_X9_isState
theorem gw_X9_even_X9_asks : GoodIn W_X9_even W_X9_asks := fun w h => ⟨List.mem_cons_of_mem _ (List.mem_append_right _ (List.mem_append_left _ (h))), (wI_X9_asks w h).2⟩
theorem gc_X9_even_318_X9_asks : GoodIn W_X9_even (wsV RX9 318 RX9 yX9_asks W_X9_asks) := goodIn_app (goodIn_sub (List.forall_mem_cons.mpr ⟨List.mem_cons_of_mem _ (List.mem_append_left _ (List.mem_of_getElem? (i := 0) rfl)), List.forall_mem_cons.mpr ⟨List.mem_cons_of_mem _ (List.mem_append_left _ (List.mem_of_getElem? (i := 1) rfl)), List.forall_mem_cons.mpr ⟨List.mem_cons_of_mem _ (List.mem_append_left _ (List.mem_of_getElem? (i := 2) rfl)), List.forall_mem_cons.mpr ⟨List.mem_cons_of_mem _ (List.mem_append_left _ (List.mem_of_getElem? (i := 3) rfl)), fun _ h => absurd h List.not_mem_nil⟩⟩⟩⟩) (by decide +kernel)) gw_X9_even_X9_asks
theorem gw_X9_even_X9_mergeOf : GoodIn W_X9_even W_X9_mergeOf := fun w h => ⟨List.mem_cons_of_mem _ (List.mem_append_right _ (List.mem_append_right _ (List.mem_append_right _ (h)))), (wI_X9_mergeOf w h).2⟩
theorem gc_X9_even_344_X9_mergeOf : GoodIn W_X9_even (wsV RX9 344 RX9 yX9_mergeOf W_X9_mergeOf) := goodIn_app (goodIn_sub (List.forall_mem_cons.mpr ⟨List.mem_cons_of_mem _ (List.mem_append_left _ (List.mem_of_getElem? (i := 7) rfl)), List.forall_mem_cons.mpr ⟨List.mem_cons_of_mem _ (List.mem_append_left _ (List.mem_of_getElem? (i := 8) rfl)), List.forall_mem_cons.mpr ⟨List.mem_cons_of_mem _ (List.mem_append_left _ (List.mem_of_getElem? (i := 9) rfl)), List.forall_mem_cons.mpr ⟨List.mem_cons_of_mem _ (List.mem_append_left _ (List.mem_of_getElem? (i := 3) rfl)), fun _ h => absurd h List.not_mem_nil⟩⟩⟩⟩) (by decide +kernel)) gw_X9_even_X9_mergeOf
theorem gw_X9_far_X9_isState : GoodIn W_X9_far W_X9_isState := fun w h => ⟨List.mem_cons_of_mem _ (List.mem_append_right _ (List.mem_append_right _ (List.mem_append_right _ (h)))), (wI_X9_isState w h).2⟩
theorem gc_X9_far_314_X9_isState : GoodIn W_X9_far (wsV RX9 314 RX9 yX9_isState W_X9_isState) := goodIn_app (goodIn_sub (List.forall_mem_cons.mpr ⟨List.mem_cons_of_mem _ (List.mem_append_left _ (List.mem_of_getElem? (i := 4) rfl)), List.forall_mem_cons.mpr ⟨List.mem_cons_of_mem _ (List.mem_append_left _ (List.mem_of_getElem? (i := 5) rfl)), List.forall_mem_cons.mpr ⟨List.mem_cons_of_mem _ (List.mem_append_left _ (List.mem_of_getElem? (i := 6) rfl)), List.forall_mem_cons.mpr ⟨List.mem_cons_of_mem _ (List.mem_append_left _ (List.mem_of_getElem? (i := 3) rfl)), fun _ h => absurd h List.not_mem_nil⟩⟩⟩⟩) (by decide +kernel)) gw_X9_far_X9_isState
theorem gw_X9_far_X9_asksSides : GoodIn W_X9_far W_X9_asksSides := fun w h => ⟨List.mem_cons_of_mem _ (List.mem_append_right _ (List.mem_append_right _ (List.mem_append_left _ (h)))), (wI_X9_asksSides w h).2⟩
theorem gc_X9_far_354_X9_asksSides : GoodIn W_X9_far (wsV RX9 354 RX9 yX9_asksSides W_X9_asksSides) := goodIn_app (goodIn_sub (List.forall_mem_cons.mpr ⟨List.mem_cons_of_mem _ (List.mem_append_left _ (List.mem_of_getElem? (i := 0) rfl)), List.forall_mem_cons.mpr ⟨List.mem_cons_of_mem _ (List.mem_append_left _ (List.mem_of_getElem? (i := 1) rfl)), List.forall_mem_cons.mpr ⟨List.mem_cons_of_mem _ (List.mem_append_left _ (List.mem_of_getElem? (i := 2) rfl)), List.forall_mem_cons.mpr ⟨List.mem_cons_of_mem _ (List.mem_append_left _ (List.mem_of_getElem? (i := 3) rfl)), fun _ h => absurd h List.not_mem_nil⟩⟩⟩⟩) (by decide +kernel)) gw_X9_far_X9_asksSides
theorem gw_X9_freely_X9_isDepth : GoodIn W_X9_freely W_X9_isDepth := fun w h => ⟨List.mem_cons_of_mem _ (List.mem_append_right _ (List.mem_append_right _ (List.mem_append_right _ (List.mem_append_left _ (h))))), (wI_X9_isDepth w h).2⟩
theorem gc_X9_freely_357_X9_isDepth : GoodIn W_X9_freely (va_wsS RX9 357 yX9_isDepth W_X9_isDepth) := goodIn_app (goodIn_sub (List.forall_mem_cons.mpr ⟨List.mem_cons_of_mem _ (List.mem_append_left _ (List.mem_of_getElem? (i := 4) rfl)), List.forall_mem_cons.mpr ⟨List.mem_cons_of_mem _ (List.mem_append_left _ (List.mem_of_getElem? (i := 5) rfl)), List.forall_mem_cons.mpr ⟨List.mem_cons_of_mem _ (List.mem_append_left _ (List.mem_of_getElem? (i := 3) rfl)), fun _ h => absurd h List.not_mem_nil⟩⟩⟩) (by decide +kernel)) gw_X9_freely_X9_isDepth
theorem gw_X9_freely_X9_within : GoodIn W_X9_freely W_X9_within := fun w h => ⟨List.mem_cons_of_mem _ (List.mem_append_right _ (List.mem_append_right _ (List.mem_append_right _ (List.mem_append_right _ (List.mem_append_left _ (h)))))), (wI_X9_within w h).2⟩
theorem gc_X9_freely_360_X9_within : GoodIn W_X9_freely (va_wsS RX9 360 yX9_within W_X9_within) := goodIn_app (goodIn_sub (List.forall_mem_cons.mpr ⟨List.mem_cons_of_mem _ (List.mem_append_left _ (List.mem_of_getElem? (i := 7) rfl)), List.forall_mem_cons.mpr ⟨List.mem_cons_of_mem _ (List.mem_append_left _ (List.mem_of_getElem? (i := 8) rfl)), List.forall_mem_cons.mpr ⟨List.mem_cons_of_mem _ (List.mem_append_left _ (List.mem_of_getElem? (i := 3) rfl)), fun _ h => absurd h List.not_mem_nil⟩⟩⟩) (by decide +kernel)) gw_X9_freely_X9_within
theorem gw_X9_freely_X9_asksSides : GoodIn W_X9_freely W_X9_asksSides := fun w h => ⟨List.mem_cons_of_mem _ (List.mem_append_right _ (List.mem_append_right _ (List.mem_append_left _ (h)))), (wI_X9_asksSides w h).2⟩
theorem gc_X9_freely_354_X9_asksSides : GoodIn W_X9_freely (wsV RX9 354 RX9 yX9_asksSides W_X9_asksSides) := goodIn_app (goodIn_sub (List.forall_mem_cons.mpr ⟨List.mem_cons_of_mem _ (List.mem_append_left _ (List.mem_of_getElem? (i := 0) rfl)), List.forall_mem_cons.mpr ⟨List.mem_cons_of_mem _ (List.mem_append_left _ (List.mem_of_getElem? (i := 1) rfl)), List.forall_mem_cons.mpr ⟨List.mem_cons_of_mem _ (List.mem_append_left _ (List.mem_of_getElem? (i := 2) rfl)), List.forall_mem_cons.mpr ⟨List.mem_cons_of_mem _ (List.mem_append_left _ (List.mem_of_getElem? (i := 3) rfl)), fun _ h => absurd h List.not_mem_nil⟩⟩⟩⟩) (by decide +kernel)) gw_X9_freely_X9_asksSides
theorem gw_X9_freely_X9_orNone : GoodIn W_X9_freely W_X9_orNone := fun w h => ⟨List.mem_cons_of_mem _ (List.mem_append_right _ (List.mem_append_right _ (List.mem_append_right _ (List.mem_append_right _ (List.mem_append_right _ (h)))))), (wI_X9_orNone w h).2⟩
theorem gc_X9_freely_364_X9_orNone : GoodIn W_X9_freely (wsV RX9 364 RX9 yX9_orNone W_X9_orNone) := goodIn_app (goodIn_sub (List.forall_mem_cons.mpr ⟨List.mem_cons_of_mem _ (List.mem_append_left _ (List.mem_of_getElem? (i := 9) rfl)), List.forall_mem_cons.mpr ⟨List.mem_cons_of_mem _ (List.mem_append_left _ (List.mem_of_getElem? (i := 10) rfl)), List.forall_mem_cons.mpr ⟨List.mem_cons_of_mem _ (List.mem_append_left _ (List.mem_of_getElem? (i := 11) rfl)), List.forall_mem_cons.mpr ⟨List.mem_cons_of_mem _ (List.mem_append_left _ (List.mem_of_getElem? (i := 3) rfl)), fun _ h => absurd h List.not_mem_nil⟩⟩⟩⟩) (by decide +kernel)) gw_X9_freely_X9_orNone
theorem gw_X9_hard_X9_holdsIn : GoodIn W_X9_hard W_X9_holdsIn := fun w h => ⟨List.mem_cons_of_mem _ (List.mem_append_right _ (List.mem_append_right _ (List.mem_append_right _ (List.mem_append_right _ (h))))), (wI_X9_holdsIn w h).2⟩
theorem gc_X9_hard_291_X9_holdsIn : GoodIn W_X9_hard (wsV RX9 291 RX9 yX9_holdsIn W_X9_holdsIn) := goodIn_app (goodIn_sub (List.forall_mem_cons.mpr ⟨List.mem_cons_of_mem _ (List.mem_append_left _ (List.mem_of_getElem? (i := 10) rfl)), List.forall_mem_cons.mpr ⟨List.mem_cons_of_mem _ (List.mem_append_left _ (List.mem_of_getElem? (i := 11) rfl)), List.forall_mem_cons.mpr ⟨List.mem_cons_of_mem _ (List.mem_append_left _ (List.mem_of_getElem? (i := 12) rfl)), List.forall_mem_cons.mpr ⟨List.mem_cons_of_mem _ (List.mem_append_left _ (List.mem_of_getElem? (i := 3) rfl)), fun _ h => absurd h List.not_mem_nil⟩⟩⟩⟩) (by decide +kernel)) gw_X9_hard_X9_holdsIn
theorem gw_X9_hard_X9_asks : GoodIn W_X9_hard W_X9_asks := fun w h => ⟨List.mem_cons_of_mem _ (List.mem_append_right _ (List.mem_append_left _ (h))), (wI_X9_asks w h).2⟩
theorem gc_X9_hard_318_X9_asks : GoodIn W_X9_hard (wsV RX9 318 RX9 yX9_asks W_X9_asks) := goodIn_app (goodIn_sub (List.forall_mem_cons.mpr ⟨List.mem_cons_of_mem _ (List.mem_append_left _ (List.mem_of_getElem? (i := 0) rfl)), List.forall_mem_cons.mpr ⟨List.mem_cons_of_mem _ (List.mem_append_left _ (List.mem_of_getElem? (i := 1) rfl)), List.forall_mem_cons.mpr ⟨List.mem_cons_of_mem _ (List.mem_append_left _ (List.mem_of_getElem? (i := 2) rfl)), List.forall_mem_cons.mpr ⟨List.mem_cons_of_mem _ (List.mem_append_left _ (List.mem_of_getElem? (i := 3) rfl)), fun _ h => absurd h List.not_mem_nil⟩⟩⟩⟩) (by decide +kernel)) gw_X9_hard_X9_asks
theorem gw_X9_hard_X9_rules : GoodIn W_X9_hard W_X9_rules := fun w h => ⟨List.mem_cons_of_mem _ (List.mem_append_right _ (List.mem_append_right _ (List.mem_append_left _ (h)))), (wI_X9_rules w h).2⟩
theorem gc_X9_hard_80_X9_rules : GoodIn W_X9_hard (wsV RX9 80 RX9 yX9_rules W_X9_rules) := goodIn_app (goodIn_sub (List.forall_mem_cons.mpr ⟨List.mem_cons_of_mem _ (List.mem_append_left _ (List.mem_of_getElem? (i := 4) rfl)), List.forall_mem_cons.mpr ⟨List.mem_cons_of_mem _ (List.mem_append_left _ (List.mem_of_getElem? (i := 5) rfl)), List.forall_mem_cons.mpr ⟨List.mem_cons_of_mem _ (List.mem_append_left _ (List.mem_of_getElem? (i := 6) rfl)), List.forall_mem_cons.mpr ⟨List.mem_cons_of_mem _ (List.mem_append_left _ (List.mem_of_getElem? (i := 3) rfl)), fun _ h => absurd h List.not_mem_nil⟩⟩⟩⟩) (by decide +kernel)) gw_X9_hard_X9_rules
theorem gw_X9_hard_X9_stateMany : GoodIn W_X9_hard W_X9_stateMany := fun w h => ⟨List.mem_cons_of_mem _ (List.mem_append_right _ (List.mem_append_right _ (List.mem_append_right _ (List.mem_append_left _ (h))))), (wI_X9_stateMany w h).2⟩
theorem gc_X9_hard_96_X9_stateMany : GoodIn W_X9_hard (wsV RX9 96 RX9 yX9_stateMany W_X9_stateMany) := goodIn_app (goodIn_sub (List.forall_mem_cons.mpr ⟨List.mem_cons_of_mem _ (List.mem_append_left _ (List.mem_of_getElem? (i := 7) rfl)), List.forall_mem_cons.mpr ⟨List.mem_cons_of_mem _ (List.mem_append_left _ (List.mem_of_getElem? (i := 8) rfl)), List.forall_mem_cons.mpr ⟨List.mem_cons_of_mem _ (List.mem_append_left _ (List.mem_of_getElem? (i := 9) rfl)), List.forall_mem_cons.mpr ⟨List.mem_cons_of_mem _ (List.mem_append_left _ (List.mem_of_getElem? (i := 3) rfl)), fun _ h => absurd h List.not_mem_nil⟩⟩⟩⟩) (by decide +kernel)) gw_X9_hard_X9_stateMany
theorem gw_X9_holds_X9_isRule : GoodIn W_X9_holds W_X9_isRule := fun w h => ⟨List.mem_cons_of_mem _ (List.mem_append_right _ (List.mem_append_right _ (List.mem_append_left _ (h)))), (wI_X9_isRule w h).2⟩
theorem gc_X9_holds_256_X9_isRule : GoodIn W_X9_holds (wsV RX9 256 RX9 yX9_isRule W_X9_isRule) := goodIn_app (goodIn_sub (List.forall_mem_cons.mpr ⟨List.mem_cons_of_mem _ (List.mem_append_left _ (List.mem_of_getElem? (i := 4) rfl)), List.forall_mem_cons.mpr ⟨List.mem_cons_of_mem _ (List.mem_append_left _ (List.mem_of_getElem? (i := 5) rfl)), List.forall_mem_cons.mpr ⟨List.mem_cons_of_mem _ (List.mem_append_left _ (List.mem_of_getElem? (i := 6) rfl)), List.forall_mem_cons.mpr ⟨List.mem_cons_of_mem _ (List.mem_append_left _ (List.mem_of_getElem? (i := 3) rfl)), fun _ h => absurd h List.not_mem_nil⟩⟩⟩⟩) (by decide +kernel)) gw_X9_holds_X9_isRule
theorem gw_X9_holds_X9_holdsIn : GoodIn W_X9_holds W_X9_holdsIn := fun w h => ⟨List.mem_cons_of_mem _ (List.mem_append_right _ (List.mem_append_right _ (List.mem_append_right _ (h)))), (wI_X9_holdsIn w h).2⟩
theorem gc_X9_holds_291_X9_holdsIn : GoodIn W_X9_holds (wsV RX9 291 RX9 yX9_holdsIn W_X9_holdsIn) := goodIn_app (goodIn_sub (List.forall_mem_cons.mpr ⟨List.mem_cons_of_mem _ (List.mem_append_left _ (List.mem_of_getElem? (i := 7) rfl)), List.forall_mem_cons.mpr ⟨List.mem_cons_of_mem _ (List.mem_append_left _ (List.mem_of_getElem? (i := 8) rfl)), List.forall_mem_cons.mpr ⟨List.mem_cons_of_mem _ (List.mem_append_left _ (List.mem_of_getElem? (i := 9) rfl)), List.forall_mem_cons.mpr ⟨List.mem_cons_of_mem _ (List.mem_append_left _ (List.mem_of_getElem? (i := 3) rfl)), fun _ h => absurd h List.not_mem_nil⟩⟩⟩⟩) (by decide +kernel)) gw_X9_holds_X9_holdsIn
theorem gw_X9_holds_X9_isState : GoodIn W_X9_holds W_X9_isState := fun w h => ⟨List.mem_cons_of_mem _ (List.mem_append_right _ (List.mem_append_left _ (h))), (wI_X9_isState w h).2⟩
theorem gc_X9_holds_314_X9_isState : GoodIn W_X9_holds (wsV RX9 314 RX9 yX9_isState W_X9_isState) := goodIn_app (goodIn_sub (List.forall_mem_cons.mpr ⟨List.mem_cons_of_mem _ (List.mem_append_left _ (List.mem_of_getElem? (i := 0) rfl)), List.forall_mem_cons.mpr ⟨List.mem_cons_of_mem _ (List.mem_append_left _ (List.mem_of_getElem? (i := 1) rfl)), List.forall_mem_cons.mpr ⟨List.mem_cons_of_mem _ (List.mem_append_left _ (List.mem_of_getElem? (i := 2) rfl)), List.forall_mem_cons.mpr ⟨List.mem_cons_of_mem _ (List.mem_append_left _ (List.mem_of_getElem? (i := 3) rfl)), fun _ h => absurd h List.not_mem_nil⟩⟩⟩⟩) (by decide +kernel)) gw_X9_holds_X9_isState
theorem gw_X9_layFar_X9_bit : GoodIn W_X9_layFar W_X9_bit := fun w h => ⟨List.mem_cons_of_mem _ (List.mem_append_right _ (List.mem_append_right _ (List.mem_append_right _ (List.mem_append_right _ (List.mem_append_left _ (h)))))), (wI_X9_bit w h).2⟩
theorem gc_X9_layFar_288_X9_bit : GoodIn W_X9_layFar (va_wsS RX9 288 yX9_bit W_X9_bit) := goodIn_app (goodIn_sub (List.forall_mem_cons.mpr ⟨List.mem_cons_of_mem _ (List.mem_append_left _ (List.mem_of_getElem? (i := 9) rfl)), List.forall_mem_cons.mpr ⟨List.mem_cons_of_mem _ (List.mem_append_left _ (List.mem_of_getElem? (i := 10) rfl)), List.forall_mem_cons.mpr ⟨List.mem_cons_of_mem _ (List.mem_append_left _ (List.mem_of_getElem? (i := 5) rfl)), fun _ h => absurd h List.not_mem_nil⟩⟩⟩) (by decide +kernel)) gw_X9_layFar_X9_bit
theorem gw_X9_layFar_X9_goesTo : GoodIn W_X9_layFar W_X9_goesTo := fun w h => ⟨List.mem_cons_of_mem _ (List.mem_append_right _ (List.mem_append_right _ (List.mem_append_right _ (List.mem_append_right _ (List.mem_append_right _ (h)))))), (wI_X9_goesTo w h).2⟩
theorem gc_X9_layFar_325_X9_goesTo : GoodIn W_X9_layFar (wsV RX9 325 RX9 yX9_goesTo W_X9_goesTo) := goodIn_app (goodIn_sub (List.forall_mem_cons.mpr ⟨List.mem_cons_of_mem _ (List.mem_append_left _ (List.mem_of_getElem? (i := 11) rfl)), List.forall_mem_cons.mpr ⟨List.mem_cons_of_mem _ (List.mem_append_left _ (List.mem_of_getElem? (i := 12) rfl)), List.forall_mem_cons.mpr ⟨List.mem_cons_of_mem _ (List.mem_append_left _ (List.mem_of_getElem? (i := 13) rfl)), List.forall_mem_cons.mpr ⟨List.mem_cons_of_mem _ (List.mem_append_left _ (List.mem_of_getElem? (i := 5) rfl)), fun _ h => absurd h List.not_mem_nil⟩⟩⟩⟩) (by decide +kernel)) gw_X9_layFar_X9_goesTo
theorem gw_X9_layFar_X9_ops : GoodIn W_X9_layFar W_X9_ops := fun w h => ⟨List.mem_cons_of_mem _ (List.mem_append_right _ (List.mem_append_right _ (List.mem_append_right _ (List.mem_append_left _ (h))))), (wI_X9_ops w h).2⟩
theorem gc_X9_layFar_84_X9_ops : GoodIn W_X9_layFar (wsV RX9 84 RX9 yX9_ops W_X9_ops) := goodIn_app (goodIn_sub (List.forall_mem_cons.mpr ⟨List.mem_cons_of_mem _ (List.mem_append_left _ (List.mem_of_getElem? (i := 6) rfl)), List.forall_mem_cons.mpr ⟨List.mem_cons_of_mem _ (List.mem_append_left _ (List.mem_of_getElem? (i := 7) rfl)), List.forall_mem_cons.mpr ⟨List.mem_cons_of_mem _ (List.mem_append_left _ (List.mem_of_getElem? (i := 8) rfl)), List.forall_mem_cons.mpr ⟨List.mem_cons_of_mem _ (List.mem_append_left _ (List.mem_of_getElem? (i := 5) rfl)), fun _ h => absurd h List.not_mem_nil⟩⟩⟩⟩) (by decide +kernel)) gw_X9_layFar_X9_ops
theorem gw_X9_layFar_X9_stateMany : GoodIn W_X9_layFar W_X9_stateMany := fun w h => ⟨List.mem_cons_of_mem _ (List.mem_append_right _ (List.mem_append_right _ (List.mem_append_left _ (h)))), (wI_X9_stateMany w h).2⟩
theorem gc_X9_layFar_96_X9_stateMany : GoodIn W_X9_layFar (wsV RX9 96 RX9 yX9_stateMany W_X9_stateMany) := goodIn_app (goodIn_sub (List.forall_mem_cons.mpr ⟨List.mem_cons_of_mem _ (List.mem_append_left _ (List.mem_of_getElem? (i := 2) rfl)), List.forall_mem_cons.mpr ⟨List.mem_cons_of_mem _ (List.mem_append_left _ (List.mem_of_getElem? (i := 3) rfl)), List.forall_mem_cons.mpr ⟨List.mem_cons_of_mem _ (List.mem_append_left _ (List.mem_of_getElem? (i := 4) rfl)), List.forall_mem_cons.mpr ⟨List.mem_cons_of_mem _ (List.mem_append_left _ (List.mem_of_getElem? (i := 5) rfl)), fun _ h => absurd h List.not_mem_nil⟩⟩⟩⟩) (by decide +kernel)) gw_X9_layFar_X9_stateMany
theorem gw_X9_laySides_X9_layFar : GoodIn W_X9_laySides W_X9_layFar := fun w h => ⟨List.mem_cons_of_mem _ (List.mem_append_right _ (List.mem_append_right _ (h))), (wI_X9_layFar w h).2⟩
theorem gc_X9_laySides_347_X9_layFar : GoodIn W_X9_laySides (wsV RX9 347 RX9 yX9_layFar W_X9_layFar) := goodIn_app (goodIn_sub (List.forall_mem_cons.mpr ⟨List.mem_cons_of_mem _ (List.mem_append_left _ (List.mem_of_getElem? (i := 1) rfl)), List.forall_mem_cons.mpr ⟨List.mem_cons_of_mem _ (List.mem_append_left _ (List.mem_of_getElem? (i := 2) rfl)), List.forall_mem_cons.mpr ⟨List.mem_cons_of_mem _ (List.mem_append_left _ (List.mem_of_getElem? (i := 3) rfl)), List.forall_mem_cons.mpr ⟨List.mem_cons_of_mem _ (List.mem_append_left _ (List.mem_of_getElem? (i := 4) rfl)), fun _ h => absurd h List.not_mem_nil⟩⟩⟩⟩) (by decide +kernel)) gw_X9_laySides_X9_layFar
theorem gw_X9_layStates_X9_brokenBy : GoodIn W_X9_layStates W_X9_brokenBy := fun w h => ⟨List.mem_cons_of_mem _ (List.mem_append_right _ (List.mem_append_right _ (List.mem_append_right _ (List.mem_append_left _ (h))))), (wI_X9_brokenBy w h).2⟩
theorem gc_X9_layStates_302_X9_brokenBy : GoodIn W_X9_layStates (wsV RX9 302 RX9 yX9_brokenBy W_X9_brokenBy) := goodIn_app (goodIn_sub (List.forall_mem_cons.mpr ⟨List.mem_cons_of_mem _ (List.mem_append_left _ (List.mem_of_getElem? (i := 5) rfl)), List.forall_mem_cons.mpr ⟨List.mem_cons_of_mem _ (List.mem_append_left _ (List.mem_of_getElem? (i := 6) rfl)), List.forall_mem_cons.mpr ⟨List.mem_cons_of_mem _ (List.mem_append_left _ (List.mem_of_getElem? (i := 7) rfl)), List.forall_mem_cons.mpr ⟨List.mem_cons_of_mem _ (List.mem_append_left _ (List.mem_of_getElem? (i := 3) rfl)), fun _ h => absurd h List.not_mem_nil⟩⟩⟩⟩) (by decide +kernel)) gw_X9_layStates_X9_brokenBy
theorem gw_X9_layStates_X9_doneBy : GoodIn W_X9_layStates W_X9_doneBy := fun w h => ⟨List.mem_cons_of_mem _ (List.mem_append_right _ (List.mem_append_right _ (List.mem_append_right _ (List.mem_append_right _ (List.mem_append_right _ (h)))))), (wI_X9_doneBy w h).2⟩
theorem gc_X9_layStates_305_X9_doneBy : GoodIn W_X9_layStates (wsV RX9 305 RX9 yX9_doneBy W_X9_doneBy) := goodIn_app (goodIn_sub (List.forall_mem_cons.mpr ⟨List.mem_cons_of_mem _ (List.mem_append_left _ (List.mem_of_getElem? (i := 12) rfl)), List.forall_mem_cons.mpr ⟨List.mem_cons_of_mem _ (List.mem_append_left _ (List.mem_of_getElem? (i := 13) rfl)), List.forall_mem_cons.mpr ⟨List.mem_cons_of_mem _ (List.mem_append_left _ (List.mem_of_getElem? (i := 14) rfl)), List.forall_mem_cons.mpr ⟨List.mem_cons_of_mem _ (List.mem_append_left _ (List.mem_of_getElem? (i := 3) rfl)), fun _ h => absurd h List.not_mem_nil⟩⟩⟩⟩) (by decide +kernel)) gw_X9_layStates_X9_doneBy
theorem gw_X9_layStates_X9_ops : GoodIn W_X9_layStates W_X9_ops := fun w h => ⟨List.mem_cons_of_mem _ (List.mem_append_right _ (List.mem_append_right _ (List.mem_append_right _ (List.mem_append_right _ (List.mem_append_left _ (h)))))), (wI_X9_ops w h).2⟩
theorem gc_X9_layStates_84_X9_ops : GoodIn W_X9_layStates (wsV RX9 84 RX9 yX9_ops W_X9_ops) := goodIn_app (goodIn_sub (List.forall_mem_cons.mpr ⟨List.mem_cons_of_mem _ (List.mem_append_left _ (List.mem_of_getElem? (i := 8) rfl)), List.forall_mem_cons.mpr ⟨List.mem_cons_of_mem _ (List.mem_append_left _ (List.mem_of_getElem? (i := 9) rfl)), List.forall_mem_cons.mpr ⟨List.mem_cons_of_mem _ (List.mem_append_left _ (List.mem_of_getElem? (i := 10) rfl)), List.forall_mem_cons.mpr ⟨List.mem_cons_of_mem _ (List.mem_append_left _ (List.mem_of_getElem? (i := 3) rfl)), fun _ h => absurd h List.not_mem_nil⟩⟩⟩⟩) (by decide +kernel)) gw_X9_layStates_X9_ops
theorem gw_X9_layStates_X9_stateMany : GoodIn W_X9_layStates W_X9_stateMany := fun w h => ⟨List.mem_cons_of_mem _ (List.mem_append_right _ (List.mem_append_right _ (List.mem_append_left _ (h)))), (wI_X9_stateMany w h).2⟩
theorem gc_X9_layStates_96_X9_stateMany : GoodIn W_X9_layStates (wsV RX9 96 RX9 yX9_stateMany W_X9_stateMany) := goodIn_app (goodIn_sub (List.forall_mem_cons.mpr ⟨List.mem_cons_of_mem _ (List.mem_append_left _ (List.mem_of_getElem? (i := 0) rfl)), List.forall_mem_cons.mpr ⟨List.mem_cons_of_mem _ (List.mem_append_left _ (List.mem_of_getElem? (i := 1) rfl)), List.forall_mem_cons.mpr ⟨List.mem_cons_of_mem _ (List.mem_append_left _ (List.mem_of_getElem? (i := 2) rfl)), List.forall_mem_cons.mpr ⟨List.mem_cons_of_mem _ (List.mem_append_left _ (List.mem_of_getElem? (i := 3) rfl)), fun _ h => absurd h List.not_mem_nil⟩⟩⟩⟩) (by decide +kernel)) gw_X9_layStates_X9_stateMany
theorem gw_X9_locked_X9_asks : GoodIn W_X9_locked W_X9_asks := fun w h => ⟨List.mem_cons_of_mem _ (List.mem_append_right _ (List.mem_append_right _ (h))), (wI_X9_asks w h).2⟩
theorem gc_X9_locked_318_X9_asks : GoodIn W_X9_locked (wsV RX9 318 RX9 yX9_asks W_X9_asks) := goodIn_app (goodIn_sub (List.forall_mem_cons.mpr ⟨List.mem_cons_of_mem _ (List.mem_append_left _ (List.mem_of_getElem? (i := 0) rfl)), List.forall_mem_cons.mpr ⟨List.mem_cons_of_mem _ (List.mem_append_left _ (List.mem_of_getElem? (i := 1) rfl)), List.forall_mem_cons.mpr ⟨List.mem_cons_of_mem _ (List.mem_append_left _ (List.mem_of_getElem? (i := 2) rfl)), List.forall_mem_cons.mpr ⟨List.mem_cons_of_mem _ (List.mem_append_left _ (List.mem_of_getElem? (i := 3) rfl)), fun _ h => absurd h List.not_mem_nil⟩⟩⟩⟩) (by decide +kernel)) gw_X9_locked_X9_asks
theorem gw_X9_merge_X9_isState : GoodIn W_X9_merge W_X9_isState := fun w h => ⟨List.mem_cons_of_mem _ (List.mem_append_right _ (List.mem_append_right _ (List.mem_append_left _ (h)))), (wI_X9_isState w h).2⟩
theorem gc_X9_merge_314_X9_isState : GoodIn W_X9_merge (wsV RX9 314 RX9 yX9_isState W_X9_isState) := goodIn_app (goodIn_sub (List.forall_mem_cons.mpr ⟨List.mem_cons_of_mem _ (List.mem_append_left _ (List.mem_of_getElem? (i := 4) rfl)), List.forall_mem_cons.mpr ⟨List.mem_cons_of_mem _ (List.mem_append_left _ (List.mem_of_getElem? (i := 5) rfl)), List.forall_mem_cons.mpr ⟨List.mem_cons_of_mem _ (List.mem_append_left _ (List.mem_of_getElem? (i := 6) rfl)), List.forall_mem_cons.mpr ⟨List.mem_cons_of_mem _ (List.mem_append_left _ (List.mem_of_getElem? (i := 3) rfl)), fun _ h => absurd h List.not_mem_nil⟩⟩⟩⟩) (by decide +kernel)) gw_X9_merge_X9_isState
theorem gw_X9_merge_X9_asks : GoodIn W_X9_merge W_X9_asks := fun w h => ⟨List.mem_cons_of_mem _ (List.mem_append_right _ (List.mem_append_left _ (h))), (wI_X9_asks w h).2⟩
theorem gc_X9_merge_318_X9_asks : GoodIn W_X9_merge (wsV RX9 318 RX9 yX9_asks W_X9_asks) := goodIn_app (goodIn_sub (List.forall_mem_cons.mpr ⟨List.mem_cons_of_mem _ (List.mem_append_left _ (List.mem_of_getElem? (i := 0) rfl)), List.forall_mem_cons.mpr ⟨List.mem_cons_of_mem _ (List.mem_append_left _ (List.mem_of_getElem? (i := 1) rfl)), List.forall_mem_cons.mpr ⟨List.mem_cons_of_mem _ (List.mem_append_left _ (List.mem_of_getElem? (i := 2) rfl)), List.forall_mem_cons.mpr ⟨List.mem_cons_of_mem _ (List.mem_append_left _ (List.mem_of_getElem? (i := 3) rfl)), fun _ h => absurd h List.not_mem_nil⟩⟩⟩⟩) (by decide +kernel)) gw_X9_merge_X9_asks
theorem gw_X9_merge_X9_mergeOf : GoodIn W_X9_merge W_X9_mergeOf := fun w h => ⟨List.mem_cons_of_mem _ (List.mem_append_right _ (List.mem_append_right _ (List.mem_append_right _ (h)))), (wI_X9_mergeOf w h).2⟩
theorem gc_X9_merge_344_X9_mergeOf : GoodIn W_X9_merge (wsV RX9 344 RX9 yX9_mergeOf W_X9_mergeOf) := goodIn_app (goodIn_sub (List.forall_mem_cons.mpr ⟨List.mem_cons_of_mem _ (List.mem_append_left _ (List.mem_of_getElem? (i := 7) rfl)), List.forall_mem_cons.mpr ⟨List.mem_cons_of_mem _ (List.mem_append_left _ (List.mem_of_getElem? (i := 8) rfl)), List.forall_mem_cons.mpr ⟨List.mem_cons_of_mem _ (List.mem_append_left _ (List.mem_of_getElem? (i := 9) rfl)), List.forall_mem_cons.mpr ⟨List.mem_cons_of_mem _ (List.mem_append_left _ (List.mem_of_getElem? (i := 3) rfl)), fun _ h => absurd h List.not_mem_nil⟩⟩⟩⟩) (by decide +kernel)) gw_X9_merge_X9_mergeOf
theorem gw_X9_mergeOf_X9_valueOf : GoodIn W_X9_mergeOf W_X9_valueOf := fun w h => ⟨List.mem_cons_of_mem _ (List.mem_append_right _ (List.mem_append_right _ (List.mem_append_right _ (List.mem_append_left _ (h))))), (wI_X9_valueOf w h).2⟩
theorem gc_X9_mergeOf_285_X9_valueOf : GoodIn W_X9_mergeOf (wsV RX9 285 RX9 yX9_valueOf W_X9_valueOf) := goodIn_app (goodIn_sub (List.forall_mem_cons.mpr ⟨List.mem_cons_of_mem _ (List.mem_append_left _ (List.mem_of_getElem? (i := 5) rfl)), List.forall_mem_cons.mpr ⟨List.mem_cons_of_mem _ (List.mem_append_left _ (List.mem_of_getElem? (i := 6) rfl)), List.forall_mem_cons.mpr ⟨List.mem_cons_of_mem _ (List.mem_append_left _ (List.mem_of_getElem? (i := 7) rfl)), List.forall_mem_cons.mpr ⟨List.mem_cons_of_mem _ (List.mem_append_left _ (List.mem_of_getElem? (i := 3) rfl)), fun _ h => absurd h List.not_mem_nil⟩⟩⟩⟩) (by decide +kernel)) gw_X9_mergeOf_X9_valueOf
theorem gw_X9_mergeOf_X9_withValue : GoodIn W_X9_mergeOf W_X9_withValue := fun w h => ⟨List.mem_cons_of_mem _ (List.mem_append_right _ (List.mem_append_right _ (List.mem_append_right _ (List.mem_append_right _ (List.mem_append_right _ (h)))))), (wI_X9_withValue w h).2⟩
theorem gc_X9_mergeOf_295_X9_withValue : GoodIn W_X9_mergeOf (wsV RX9 295 RX9 yX9_withValue W_X9_withValue) := goodIn_app (goodIn_sub (List.forall_mem_cons.mpr ⟨List.mem_cons_of_mem _ (List.mem_append_left _ (List.mem_of_getElem? (i := 11) rfl)), List.forall_mem_cons.mpr ⟨List.mem_cons_of_mem _ (List.mem_append_left _ (List.mem_of_getElem? (i := 12) rfl)), List.forall_mem_cons.mpr ⟨List.mem_cons_of_mem _ (List.mem_append_left _ (List.mem_of_getElem? (i := 13) rfl)), List.forall_mem_cons.mpr ⟨List.mem_cons_of_mem _ (List.mem_append_left _ (List.mem_of_getElem? (i := 3) rfl)), fun _ h => absurd h List.not_mem_nil⟩⟩⟩⟩) (by decide +kernel)) gw_X9_mergeOf_X9_withValue
theorem gw_X9_mergeOf_X9_mergedOf : GoodIn W_X9_mergeOf W_X9_mergedOf := fun w h => ⟨List.mem_cons_of_mem _ (List.mem_append_right _ (List.mem_append_right _ (List.mem_append_right _ (List.mem_append_right _ (List.mem_append_left _ (h)))))), (wI_X9_mergedOf w h).2⟩
theorem gc_X9_mergeOf_340_X9_mergedOf : GoodIn W_X9_mergeOf (wsV RX9 340 RX9 yX9_mergedOf W_X9_mergedOf) := goodIn_app (goodIn_sub (List.forall_mem_cons.mpr ⟨List.mem_cons_of_mem _ (List.mem_append_left _ (List.mem_of_getElem? (i := 8) rfl)), List.forall_mem_cons.mpr ⟨List.mem_cons_of_mem _ (List.mem_append_left _ (List.mem_of_getElem? (i := 9) rfl)), List.forall_mem_cons.mpr ⟨List.mem_cons_of_mem _ (List.mem_append_left _ (List.mem_of_getElem? (i := 10) rfl)), List.forall_mem_cons.mpr ⟨List.mem_cons_of_mem _ (List.mem_append_left _ (List.mem_of_getElem? (i := 3) rfl)), fun _ h => absurd h List.not_mem_nil⟩⟩⟩⟩) (by decide +kernel)) gw_X9_mergeOf_X9_mergedOf
theorem gw_X9_mergeOf_X9_cells : GoodIn W_X9_mergeOf W_X9_cells := fun w h => ⟨List.mem_cons_of_mem _ (List.mem_append_right _ (List.mem_append_right _ (List.mem_append_left _ (h)))), (wI_X9_cells w h).2⟩
theorem gc_X9_mergeOf_87_X9_cells : GoodIn W_X9_mergeOf (wsV RX9 87 RX9 yX9_cells W_X9_cells) := goodIn_app (goodIn_sub (List.forall_mem_cons.mpr ⟨List.mem_cons_of_mem _ (List.mem_append_left _ (List.mem_of_getElem? (i := 0) rfl)), List.forall_mem_cons.mpr ⟨List.mem_cons_of_mem _ (List.mem_append_left _ (List.mem_of_getElem? (i := 1) rfl)), List.forall_mem_cons.mpr ⟨List.mem_cons_of_mem _ (List.mem_append_left _ (List.mem_of_getElem? (i := 2) rfl)), List.forall_mem_cons.mpr ⟨List.mem_cons_of_mem _ (List.mem_append_left _ (List.mem_of_getElem? (i := 3) rfl)), fun _ h => absurd h List.not_mem_nil⟩⟩⟩⟩) (by decide +kernel)) gw_X9_mergeOf_X9_cells
theorem gw_X9_mergedOf_X9_lateOf : GoodIn W_X9_mergedOf W_X9_lateOf := fun w h => ⟨List.mem_cons_of_mem _ (List.mem_append_right _ (List.mem_append_right _ (h))), (wI_X9_lateOf w h).2⟩
theorem gc_X9_mergedOf_337_X9_lateOf : GoodIn W_X9_mergedOf (wsV RX9 337 RX9 yX9_lateOf W_X9_lateOf) := goodIn_app (goodIn_sub (List.forall_mem_cons.mpr ⟨List.mem_cons_of_mem _ (List.mem_append_left _ (List.mem_of_getElem? (i := 8) rfl)), List.forall_mem_cons.mpr ⟨List.mem_cons_of_mem _ (List.mem_append_left _ (List.mem_of_getElem? (i := 9) rfl)), List.forall_mem_cons.mpr ⟨List.mem_cons_of_mem _ (List.mem_append_left _ (List.mem_of_getElem? (i := 10) rfl)), List.forall_mem_cons.mpr ⟨List.mem_cons_of_mem _ (List.mem_append_left _ (List.mem_of_getElem? (i := 11) rfl)), fun _ h => absurd h List.not_mem_nil⟩⟩⟩⟩) (by decide +kernel)) gw_X9_mergedOf_X9_lateOf
theorem gw_X9_nearest_X9_valueOf : GoodIn W_X9_nearest W_X9_valueOf := fun w h => ⟨List.mem_cons_of_mem _ (List.mem_append_right _ (List.mem_append_right _ (List.mem_append_right _ (List.mem_append_right _ (List.mem_append_right _ (List.mem_append_right _ (h))))))), (wI_X9_valueOf w h).2⟩
theorem gc_X9_nearest_285_X9_valueOf : GoodIn W_X9_nearest (wsV RX9 285 RX9 yX9_valueOf W_X9_valueOf) := goodIn_app (goodIn_sub (List.forall_mem_cons.mpr ⟨List.mem_cons_of_mem _ (List.mem_append_left _ (List.mem_of_getElem? (i := 14) rfl)), List.forall_mem_cons.mpr ⟨List.mem_cons_of_mem _ (List.mem_append_left _ (List.mem_of_getElem? (i := 15) rfl)), List.forall_mem_cons.mpr ⟨List.mem_cons_of_mem _ (List.mem_append_left _ (List.mem_of_getElem? (i := 16) rfl)), List.forall_mem_cons.mpr ⟨List.mem_cons_of_mem _ (List.mem_append_left _ (List.mem_of_getElem? (i := 3) rfl)), fun _ h => absurd h List.not_mem_nil⟩⟩⟩⟩) (by decide +kernel)) gw_X9_nearest_X9_valueOf
theorem gw_X9_nearest_X9_isState : GoodIn W_X9_nearest W_X9_isState := fun w h => ⟨List.mem_cons_of_mem _ (List.mem_append_right _ (List.mem_append_right _ (List.mem_append_right _ (List.mem_append_left _ (h))))), (wI_X9_isState w h).2⟩
theorem gc_X9_nearest_314_X9_isState : GoodIn W_X9_nearest (wsV RX9 314 RX9 yX9_isState W_X9_isState) := goodIn_app (goodIn_sub (List.forall_mem_cons.mpr ⟨List.mem_cons_of_mem _ (List.mem_append_left _ (List.mem_of_getElem? (i := 4) rfl)), List.forall_mem_cons.mpr ⟨List.mem_cons_of_mem _ (List.mem_append_left _ (List.mem_of_getElem? (i := 5) rfl)), List.forall_mem_cons.mpr ⟨List.mem_cons_of_mem _ (List.mem_append_left _ (List.mem_of_getElem? (i := 6) rfl)), List.forall_mem_cons.mpr ⟨List.mem_cons_of_mem _ (List.mem_append_left _ (List.mem_of_getElem? (i := 3) rfl)), fun _ h => absurd h List.not_mem_nil⟩⟩⟩⟩) (by decide +kernel)) gw_X9_nearest_X9_isState
theorem gw_X9_nearest_X9_asks : GoodIn W_X9_nearest W_X9_asks := fun w h => ⟨List.mem_cons_of_mem _ (List.mem_append_right _ (List.mem_append_right _ (List.mem_append_left _ (h)))), (wI_X9_asks w h).2⟩
theorem gc_X9_nearest_318_X9_asks : GoodIn W_X9_nearest (wsV RX9 318 RX9 yX9_asks W_X9_asks) := goodIn_app (goodIn_sub (List.forall_mem_cons.mpr ⟨List.mem_cons_of_mem _ (List.mem_append_left _ (List.mem_of_getElem? (i := 0) rfl)), List.forall_mem_cons.mpr ⟨List.mem_cons_of_mem _ (List.mem_append_left _ (List.mem_of_getElem? (i := 1) rfl)), List.forall_mem_cons.mpr ⟨List.mem_cons_of_mem _ (List.mem_append_left _ (List.mem_of_getElem? (i := 2) rfl)), List.forall_mem_cons.mpr ⟨List.mem_cons_of_mem _ (List.mem_append_left _ (List.mem_of_getElem? (i := 3) rfl)), fun _ h => absurd h List.not_mem_nil⟩⟩⟩⟩) (by decide +kernel)) gw_X9_nearest_X9_asks
theorem gw_X9_nearest_X9_cells : GoodIn W_X9_nearest W_X9_cells := fun w h => ⟨List.mem_cons_of_mem _ (List.mem_append_right _ (List.mem_append_right _ (List.mem_append_right _ (List.mem_append_right _ (List.mem_append_right _ (List.mem_append_left _ (h))))))), (wI_X9_cells w h).2⟩
theorem gc_X9_nearest_87_X9_cells : GoodIn W_X9_nearest (wsV RX9 87 RX9 yX9_cells W_X9_cells) := goodIn_app (goodIn_sub (List.forall_mem_cons.mpr ⟨List.mem_cons_of_mem _ (List.mem_append_left _ (List.mem_of_getElem? (i := 11) rfl)), List.forall_mem_cons.mpr ⟨List.mem_cons_of_mem _ (List.mem_append_left _ (List.mem_of_getElem? (i := 12) rfl)), List.forall_mem_cons.mpr ⟨List.mem_cons_of_mem _ (List.mem_append_left _ (List.mem_of_getElem? (i := 13) rfl)), List.forall_mem_cons.mpr ⟨List.mem_cons_of_mem _ (List.mem_append_left _ (List.mem_of_getElem? (i := 3) rfl)), fun _ h => absurd h List.not_mem_nil⟩⟩⟩⟩) (by decide +kernel)) gw_X9_nearest_X9_cells
theorem gw_X9_nearest_X9_stateMany : GoodIn W_X9_nearest W_X9_stateMany := fun w h => ⟨List.mem_cons_of_mem _ (List.mem_append_right _ (List.mem_append_right _ (List.mem_append_right _ (List.mem_append_right _ (List.mem_append_left _ (h)))))), (wI_X9_stateMany w h).2⟩
theorem gc_X9_nearest_96_X9_stateMany : GoodIn W_X9_nearest (wsV RX9 96 RX9 yX9_stateMany W_X9_stateMany) := goodIn_app (goodIn_sub (List.forall_mem_cons.mpr ⟨List.mem_cons_of_mem _ (List.mem_append_left _ (List.mem_of_getElem? (i := 8) rfl)), List.forall_mem_cons.mpr ⟨List.mem_cons_of_mem _ (List.mem_append_left _ (List.mem_of_getElem? (i := 9) rfl)), List.forall_mem_cons.mpr ⟨List.mem_cons_of_mem _ (List.mem_append_left _ (List.mem_of_getElem? (i := 10) rfl)), List.forall_mem_cons.mpr ⟨List.mem_cons_of_mem _ (List.mem_append_left _ (List.mem_of_getElem? (i := 3) rfl)), fun _ h => absurd h List.not_mem_nil⟩⟩⟩⟩) (by decide +kernel)) gw_X9_nearest_X9_stateMany
theorem gw_X9_opens_X9_isState : GoodIn W_X9_opens W_X9_isState := fun w h => ⟨List.mem_cons_of_mem _ (List.mem_append_right _ (List.mem_append_right _ (List.mem_append_left _ (h)))), (wI_X9_isState w h).2⟩
theorem gc_X9_opens_314_X9_isState : GoodIn W_X9_opens (wsV RX9 314 RX9 yX9_isState W_X9_isState) := goodIn_app (goodIn_sub (List.forall_mem_cons.mpr ⟨List.mem_cons_of_mem _ (List.mem_append_left _ (List.mem_of_getElem? (i := 4) rfl)), List.forall_mem_cons.mpr ⟨List.mem_cons_of_mem _ (List.mem_append_left _ (List.mem_of_getElem? (i := 5) rfl)), List.forall_mem_cons.mpr ⟨List.mem_cons_of_mem _ (List.mem_append_left _ (List.mem_of_getElem? (i := 6) rfl)), List.forall_mem_cons.mpr ⟨List.mem_cons_of_mem _ (List.mem_append_left _ (List.mem_of_getElem? (i := 3) rfl)), fun _ h => absurd h List.not_mem_nil⟩⟩⟩⟩) (by decide +kernel)) gw_X9_opens_X9_isState
theorem gw_X9_opens_X9_asks : GoodIn W_X9_opens W_X9_asks := fun w h => ⟨List.mem_cons_of_mem _ (List.mem_append_right _ (List.mem_append_left _ (h))), (wI_X9_asks w h).2⟩
theorem gc_X9_opens_318_X9_asks : GoodIn W_X9_opens (wsV RX9 318 RX9 yX9_asks W_X9_asks) := goodIn_app (goodIn_sub (List.forall_mem_cons.mpr ⟨List.mem_cons_of_mem _ (List.mem_append_left _ (List.mem_of_getElem? (i := 0) rfl)), List.forall_mem_cons.mpr ⟨List.mem_cons_of_mem _ (List.mem_append_left _ (List.mem_of_getElem? (i := 1) rfl)), List.forall_mem_cons.mpr ⟨List.mem_cons_of_mem _ (List.mem_append_left _ (List.mem_of_getElem? (i := 2) rfl)), List.forall_mem_cons.mpr ⟨List.mem_cons_of_mem _ (List.mem_append_left _ (List.mem_of_getElem? (i := 3) rfl)), fun _ h => absurd h List.not_mem_nil⟩⟩⟩⟩) (by decide +kernel)) gw_X9_opens_X9_asks
theorem gw_X9_opens_X9_opensOf : GoodIn W_X9_opens W_X9_opensOf := fun w h => ⟨List.mem_cons_of_mem _ (List.mem_append_right _ (List.mem_append_right _ (List.mem_append_right _ (h)))), (wI_X9_opensOf w h).2⟩
theorem gc_X9_opens_331_X9_opensOf : GoodIn W_X9_opens (wsV RX9 331 RX9 yX9_opensOf W_X9_opensOf) := goodIn_app (goodIn_sub (List.forall_mem_cons.mpr ⟨List.mem_cons_of_mem _ (List.mem_append_left _ (List.mem_of_getElem? (i := 7) rfl)), List.forall_mem_cons.mpr ⟨List.mem_cons_of_mem _ (List.mem_append_left _ (List.mem_of_getElem? (i := 8) rfl)), List.forall_mem_cons.mpr ⟨List.mem_cons_of_mem _ (List.mem_append_left _ (List.mem_of_getElem? (i := 9) rfl)), List.forall_mem_cons.mpr ⟨List.mem_cons_of_mem _ (List.mem_append_left _ (List.mem_of_getElem? (i := 3) rfl)), fun _ h => absurd h List.not_mem_nil⟩⟩⟩⟩) (by decide +kernel)) gw_X9_opens_X9_opensOf
theorem gw_X9_opensOf_X9_goesTo : GoodIn W_X9_opensOf W_X9_goesTo := fun w h => ⟨List.mem_cons_of_mem _ (List.mem_append_right _ (List.mem_append_right _ (h))), (wI_X9_goesTo w h).2⟩
theorem gc_X9_opensOf_325_X9_goesTo : GoodIn W_X9_opensOf (wsV RX9 325 RX9 yX9_goesTo W_X9_goesTo) := goodIn_app (goodIn_sub (List.forall_mem_cons.mpr ⟨List.mem_cons_of_mem _ (List.mem_append_left _ (List.mem_of_getElem? (i := 4) rfl)), List.forall_mem_cons.mpr ⟨List.mem_cons_of_mem _ (List.mem_append_left _ (List.mem_of_getElem? (i := 5) rfl)), List.forall_mem_cons.mpr ⟨List.mem_cons_of_mem _ (List.mem_append_left _ (List.mem_of_getElem? (i := 6) rfl)), List.forall_mem_cons.mpr ⟨List.mem_cons_of_mem _ (List.mem_append_left _ (List.mem_of_getElem? (i := 3) rfl)), fun _ h => absurd h List.not_mem_nil⟩⟩⟩⟩) (by decide +kernel)) gw_X9_opensOf_X9_goesTo
theorem gw_X9_opensOf_X9_ops : GoodIn W_X9_opensOf W_X9_ops := fun w h => ⟨List.mem_cons_of_mem _ (List.mem_append_right _ (List.mem_append_left _ (h))), (wI_X9_ops w h).2⟩
theorem gc_X9_opensOf_84_X9_ops : GoodIn W_X9_opensOf (wsV RX9 84 RX9 yX9_ops W_X9_ops) := goodIn_app (goodIn_sub (List.forall_mem_cons.mpr ⟨List.mem_cons_of_mem _ (List.mem_append_left _ (List.mem_of_getElem? (i := 0) rfl)), List.forall_mem_cons.mpr ⟨List.mem_cons_of_mem _ (List.mem_append_left _ (List.mem_of_getElem? (i := 1) rfl)), List.forall_mem_cons.mpr ⟨List.mem_cons_of_mem _ (List.mem_append_left _ (List.mem_of_getElem? (i := 2) rfl)), List.forall_mem_cons.mpr ⟨List.mem_cons_of_mem _ (List.mem_append_left _ (List.mem_of_getElem? (i := 3) rfl)), fun _ h => absurd h List.not_mem_nil⟩⟩⟩⟩) (by decide +kernel)) gw_X9_opensOf_X9_ops
theorem gw_X9_reach_X9_isDepth : GoodIn W_X9_reach W_X9_isDepth := fun w h => ⟨List.mem_cons_of_mem _ (List.mem_append_right _ (List.mem_append_right _ (List.mem_append_right _ (List.mem_append_left _ (h))))), (wI_X9_isDepth w h).2⟩
theorem gc_X9_reach_357_X9_isDepth : GoodIn W_X9_reach (va_wsS RX9 357 yX9_isDepth W_X9_isDepth) := goodIn_app (goodIn_sub (List.forall_mem_cons.mpr ⟨List.mem_cons_of_mem _ (List.mem_append_left _ (List.mem_of_getElem? (i := 4) rfl)), List.forall_mem_cons.mpr ⟨List.mem_cons_of_mem _ (List.mem_append_left _ (List.mem_of_getElem? (i := 5) rfl)), List.forall_mem_cons.mpr ⟨List.mem_cons_of_mem _ (List.mem_append_left _ (List.mem_of_getElem? (i := 3) rfl)), fun _ h => absurd h List.not_mem_nil⟩⟩⟩) (by decide +kernel)) gw_X9_reach_X9_isDepth
theorem gw_X9_reach_X9_within : GoodIn W_X9_reach W_X9_within := fun w h => ⟨List.mem_cons_of_mem _ (List.mem_append_right _ (List.mem_append_right _ (List.mem_append_right _ (List.mem_append_right _ (List.mem_append_left _ (h)))))), (wI_X9_within w h).2⟩
theorem gc_X9_reach_360_X9_within : GoodIn W_X9_reach (va_wsS RX9 360 yX9_within W_X9_within) := goodIn_app (goodIn_sub (List.forall_mem_cons.mpr ⟨List.mem_cons_of_mem _ (List.mem_append_left _ (List.mem_of_getElem? (i := 7) rfl)), List.forall_mem_cons.mpr ⟨List.mem_cons_of_mem _ (List.mem_append_left _ (List.mem_of_getElem? (i := 8) rfl)), List.forall_mem_cons.mpr ⟨List.mem_cons_of_mem _ (List.mem_append_left _ (List.mem_of_getElem? (i := 3) rfl)), fun _ h => absurd h List.not_mem_nil⟩⟩⟩) (by decide +kernel)) gw_X9_reach_X9_within
theorem gw_X9_reach_X9_asksSides : GoodIn W_X9_reach W_X9_asksSides := fun w h => ⟨List.mem_cons_of_mem _ (List.mem_append_right _ (List.mem_append_right _ (List.mem_append_left _ (h)))), (wI_X9_asksSides w h).2⟩
theorem gc_X9_reach_354_X9_asksSides : GoodIn W_X9_reach (wsV RX9 354 RX9 yX9_asksSides W_X9_asksSides) := goodIn_app (goodIn_sub (List.forall_mem_cons.mpr ⟨List.mem_cons_of_mem _ (List.mem_append_left _ (List.mem_of_getElem? (i := 0) rfl)), List.forall_mem_cons.mpr ⟨List.mem_cons_of_mem _ (List.mem_append_left _ (List.mem_of_getElem? (i := 1) rfl)), List.forall_mem_cons.mpr ⟨List.mem_cons_of_mem _ (List.mem_append_left _ (List.mem_of_getElem? (i := 2) rfl)), List.forall_mem_cons.mpr ⟨List.mem_cons_of_mem _ (List.mem_append_left _ (List.mem_of_getElem? (i := 3) rfl)), fun _ h => absurd h List.not_mem_nil⟩⟩⟩⟩) (by decide +kernel)) gw_X9_reach_X9_asksSides
theorem gw_X9_reach_X9_orNone : GoodIn W_X9_reach W_X9_orNone := fun w h => ⟨List.mem_cons_of_mem _ (List.mem_append_right _ (List.mem_append_right _ (List.mem_append_right _ (List.mem_append_right _ (List.mem_append_right _ (h)))))), (wI_X9_orNone w h).2⟩
theorem gc_X9_reach_364_X9_orNone : GoodIn W_X9_reach (wsV RX9 364 RX9 yX9_orNone W_X9_orNone) := goodIn_app (goodIn_sub (List.forall_mem_cons.mpr ⟨List.mem_cons_of_mem _ (List.mem_append_left _ (List.mem_of_getElem? (i := 9) rfl)), List.forall_mem_cons.mpr ⟨List.mem_cons_of_mem _ (List.mem_append_left _ (List.mem_of_getElem? (i := 10) rfl)), List.forall_mem_cons.mpr ⟨List.mem_cons_of_mem _ (List.mem_append_left _ (List.mem_of_getElem? (i := 11) rfl)), List.forall_mem_cons.mpr ⟨List.mem_cons_of_mem _ (List.mem_append_left _ (List.mem_of_getElem? (i := 3) rfl)), fun _ h => absurd h List.not_mem_nil⟩⟩⟩⟩) (by decide +kernel)) gw_X9_reach_X9_orNone
theorem gw_X9_room_X9_isCell : GoodIn W_X9_room W_X9_isCell := fun w h => ⟨List.mem_cons_of_mem _ (List.mem_append_right _ (List.mem_append_right _ (List.mem_append_right _ (List.mem_append_left _ (h))))), (wI_X9_isCell w h).2⟩
theorem gc_X9_room_252_X9_isCell : GoodIn W_X9_room (wsV RX9 252 RX9 yX9_isCell W_X9_isCell) := goodIn_app (goodIn_sub (List.forall_mem_cons.mpr ⟨List.mem_cons_of_mem _ (List.mem_append_left _ (List.mem_of_getElem? (i := 4) rfl)), List.forall_mem_cons.mpr ⟨List.mem_cons_of_mem _ (List.mem_append_left _ (List.mem_of_getElem? (i := 5) rfl)), List.forall_mem_cons.mpr ⟨List.mem_cons_of_mem _ (List.mem_append_left _ (List.mem_of_getElem? (i := 6) rfl)), List.forall_mem_cons.mpr ⟨List.mem_cons_of_mem _ (List.mem_append_left _ (List.mem_of_getElem? (i := 3) rfl)), fun _ h => absurd h List.not_mem_nil⟩⟩⟩⟩) (by decide +kernel)) gw_X9_room_X9_isCell
theorem gw_X9_room_X9_valueOf : GoodIn W_X9_room W_X9_valueOf := fun w h => ⟨List.mem_cons_of_mem _ (List.mem_append_right _ (List.mem_append_right _ (List.mem_append_right _ (List.mem_append_right _ (List.mem_append_right _ (h)))))), (wI_X9_valueOf w h).2⟩
theorem gc_X9_room_285_X9_valueOf : GoodIn W_X9_room (wsV RX9 285 RX9 yX9_valueOf W_X9_valueOf) := goodIn_app (goodIn_sub (List.forall_mem_cons.mpr ⟨List.mem_cons_of_mem _ (List.mem_append_left _ (List.mem_of_getElem? (i := 11) rfl)), List.forall_mem_cons.mpr ⟨List.mem_cons_of_mem _ (List.mem_append_left _ (List.mem_of_getElem? (i := 12) rfl)), List.forall_mem_cons.mpr ⟨List.mem_cons_of_mem _ (List.mem_append_left _ (List.mem_of_getElem? (i := 13) rfl)), List.forall_mem_cons.mpr ⟨List.mem_cons_of_mem _ (List.mem_append_left _ (List.mem_of_getElem? (i := 3) rfl)), fun _ h => absurd h List.not_mem_nil⟩⟩⟩⟩) (by decide +kernel)) gw_X9_room_X9_valueOf
theorem gw_X9_room_X9_asks : GoodIn W_X9_room W_X9_asks := fun w h => ⟨List.mem_cons_of_mem _ (List.mem_append_right _ (List.mem_append_right _ (List.mem_append_left _ (h)))), (wI_X9_asks w h).2⟩
theorem gc_X9_room_318_X9_asks : GoodIn W_X9_room (wsV RX9 318 RX9 yX9_asks W_X9_asks) := goodIn_app (goodIn_sub (List.forall_mem_cons.mpr ⟨List.mem_cons_of_mem _ (List.mem_append_left _ (List.mem_of_getElem? (i := 0) rfl)), List.forall_mem_cons.mpr ⟨List.mem_cons_of_mem _ (List.mem_append_left _ (List.mem_of_getElem? (i := 1) rfl)), List.forall_mem_cons.mpr ⟨List.mem_cons_of_mem _ (List.mem_append_left _ (List.mem_of_getElem? (i := 2) rfl)), List.forall_mem_cons.mpr ⟨List.mem_cons_of_mem _ (List.mem_append_left _ (List.mem_of_getElem? (i := 3) rfl)), fun _ h => absurd h List.not_mem_nil⟩⟩⟩⟩) (by decide +kernel)) gw_X9_room_X9_asks
theorem gw_X9_room_X9_stateMany : GoodIn W_X9_room W_X9_stateMany := fun w h => ⟨List.mem_cons_of_mem _ (List.mem_append_right _ (List.mem_append_right _ (List.mem_append_right _ (List.mem_append_right _ (List.mem_append_left _ (h)))))), (wI_X9_stateMany w h).2⟩
theorem gc_X9_room_96_X9_stateMany : GoodIn W_X9_room (wsV RX9 96 RX9 yX9_stateMany W_X9_stateMany) := goodIn_app (goodIn_sub (List.forall_mem_cons.mpr ⟨List.mem_cons_of_mem _ (List.mem_append_left _ (List.mem_of_getElem? (i := 7) rfl)), List.forall_mem_cons.mpr ⟨List.mem_cons_of_mem _ (List.mem_append_left _ (List.mem_of_getElem? (i := 8) rfl)), List.forall_mem_cons.mpr ⟨List.mem_cons_of_mem _ (List.mem_append_left _ (List.mem_of_getElem? (i := 9) rfl)), List.forall_mem_cons.mpr ⟨List.mem_cons_of_mem _ (List.mem_append_left _ (List.mem_of_getElem? (i := 3) rfl)), fun _ h => absurd h List.not_mem_nil⟩⟩⟩⟩) (by decide +kernel)) gw_X9_room_X9_stateMany
theorem gw_X9_spare_X9_isRule : GoodIn W_X9_spare W_X9_isRule := fun w h => ⟨List.mem_cons_of_mem _ (List.mem_append_right _ (List.mem_append_right _ (List.mem_append_right _ (List.mem_append_left _ (h))))), (wI_X9_isRule w h).2⟩
theorem gc_X9_spare_256_X9_isRule : GoodIn W_X9_spare (wsV RX9 256 RX9 yX9_isRule W_X9_isRule) := goodIn_app (goodIn_sub (List.forall_mem_cons.mpr ⟨List.mem_cons_of_mem _ (List.mem_append_left _ (List.mem_of_getElem? (i := 4) rfl)), List.forall_mem_cons.mpr ⟨List.mem_cons_of_mem _ (List.mem_append_left _ (List.mem_of_getElem? (i := 5) rfl)), List.forall_mem_cons.mpr ⟨List.mem_cons_of_mem _ (List.mem_append_left _ (List.mem_of_getElem? (i := 6) rfl)), List.forall_mem_cons.mpr ⟨List.mem_cons_of_mem _ (List.mem_append_left _ (List.mem_of_getElem? (i := 3) rfl)), fun _ h => absurd h List.not_mem_nil⟩⟩⟩⟩) (by decide +kernel)) gw_X9_spare_X9_isRule
theorem gw_X9_spare_X9_layStates : GoodIn W_X9_spare W_X9_layStates := fun w h => ⟨List.mem_cons_of_mem _ (List.mem_append_right _ (List.mem_append_right _ (List.mem_append_right _ (List.mem_append_right _ (List.mem_append_right _ (h)))))), (wI_X9_layStates w h).2⟩
theorem gc_X9_spare_311_X9_layStates : GoodIn W_X9_spare (wsV RX9 311 RX9 yX9_layStates W_X9_layStates) := goodIn_app (goodIn_sub (List.forall_mem_cons.mpr ⟨List.mem_cons_of_mem _ (List.mem_append_left _ (List.mem_of_getElem? (i := 11) rfl)), List.forall_mem_cons.mpr ⟨List.mem_cons_of_mem _ (List.mem_append_left _ (List.mem_of_getElem? (i := 12) rfl)), List.forall_mem_cons.mpr ⟨List.mem_cons_of_mem _ (List.mem_append_left _ (List.mem_of_getElem? (i := 13) rfl)), List.forall_mem_cons.mpr ⟨List.mem_cons_of_mem _ (List.mem_append_left _ (List.mem_of_getElem? (i := 3) rfl)), fun _ h => absurd h List.not_mem_nil⟩⟩⟩⟩) (by decide +kernel)) gw_X9_spare_X9_layStates
theorem gw_X9_spare_X9_asks : GoodIn W_X9_spare W_X9_asks := fun w h => ⟨List.mem_cons_of_mem _ (List.mem_append_right _ (List.mem_append_right _ (List.mem_append_left _ (h)))), (wI_X9_asks w h).2⟩
theorem gc_X9_spare_318_X9_asks : GoodIn W_X9_spare (wsV RX9 318 RX9 yX9_asks W_X9_asks) := goodIn_app (goodIn_sub (List.forall_mem_cons.mpr ⟨List.mem_cons_of_mem _ (List.mem_append_left _ (List.mem_of_getElem? (i := 0) rfl)), List.forall_mem_cons.mpr ⟨List.mem_cons_of_mem _ (List.mem_append_left _ (List.mem_of_getElem? (i := 1) rfl)), List.forall_mem_cons.mpr ⟨List.mem_cons_of_mem _ (List.mem_append_left _ (List.mem_of_getElem? (i := 2) rfl)), List.forall_mem_cons.mpr ⟨List.mem_cons_of_mem _ (List.mem_append_left _ (List.mem_of_getElem? (i := 3) rfl)), fun _ h => absurd h List.not_mem_nil⟩⟩⟩⟩) (by decide +kernel)) gw_X9_spare_X9_asks
theorem gw_X9_spare_X9_validMany : GoodIn W_X9_spare W_X9_validMany := fun w h => ⟨List.mem_cons_of_mem _ (List.mem_append_right _ (List.mem_append_right _ (List.mem_append_right _ (List.mem_append_right _ (List.mem_append_left _ (h)))))), (wI_X9_validMany w h).2⟩
theorem gc_X9_spare_321_X9_validMany : GoodIn W_X9_spare (wsV RX9 321 RX9 yX9_validMany W_X9_validMany) := goodIn_app (goodIn_sub (List.forall_mem_cons.mpr ⟨List.mem_cons_of_mem _ (List.mem_append_left _ (List.mem_of_getElem? (i := 7) rfl)), List.forall_mem_cons.mpr ⟨List.mem_cons_of_mem _ (List.mem_append_left _ (List.mem_of_getElem? (i := 8) rfl)), List.forall_mem_cons.mpr ⟨List.mem_cons_of_mem _ (List.mem_append_left _ (List.mem_of_getElem? (i := 9) rfl)), List.forall_mem_cons.mpr ⟨List.mem_cons_of_mem _ (List.mem_append_left _ (List.mem_of_getElem? (i := 3) rfl)), fun _ h => absurd h List.not_mem_nil⟩⟩⟩⟩) (by decide +kernel)) gw_X9_spare_X9_validMany
theorem gw_X9_step_X9_isState : GoodIn W_X9_step W_X9_isState := fun w h => ⟨List.mem_cons_of_mem _ (List.mem_append_right _ (List.mem_append_right _ (List.mem_append_right _ (List.mem_append_left _ (h))))), (wI_X9_isState w h).2⟩
theorem gc_X9_step_314_X9_isState : GoodIn W_X9_step (wsV RX9 314 RX9 yX9_isState W_X9_isState) := goodIn_app (goodIn_sub (List.forall_mem_cons.mpr ⟨List.mem_cons_of_mem _ (List.mem_append_left _ (List.mem_of_getElem? (i := 4) rfl)), List.forall_mem_cons.mpr ⟨List.mem_cons_of_mem _ (List.mem_append_left _ (List.mem_of_getElem? (i := 5) rfl)), List.forall_mem_cons.mpr ⟨List.mem_cons_of_mem _ (List.mem_append_left _ (List.mem_of_getElem? (i := 6) rfl)), List.forall_mem_cons.mpr ⟨List.mem_cons_of_mem _ (List.mem_append_left _ (List.mem_of_getElem? (i := 3) rfl)), fun _ h => absurd h List.not_mem_nil⟩⟩⟩⟩) (by decide +kernel)) gw_X9_step_X9_isState
theorem gw_X9_step_X9_goesTo : GoodIn W_X9_step W_X9_goesTo := fun w h => ⟨List.mem_cons_of_mem _ (List.mem_append_right _ (List.mem_append_right _ (List.mem_append_right _ (List.mem_append_right _ (List.mem_append_right _ (List.mem_append_left _ (h))))))), (wI_X9_goesTo w h).2⟩
theorem gc_X9_step_325_X9_goesTo : GoodIn W_X9_step (wsV RX9 325 RX9 yX9_goesTo W_X9_goesTo) := goodIn_app (goodIn_sub (List.forall_mem_cons.mpr ⟨List.mem_cons_of_mem _ (List.mem_append_left _ (List.mem_of_getElem? (i := 12) rfl)), List.forall_mem_cons.mpr ⟨List.mem_cons_of_mem _ (List.mem_append_left _ (List.mem_of_getElem? (i := 13) rfl)), List.forall_mem_cons.mpr ⟨List.mem_cons_of_mem _ (List.mem_append_left _ (List.mem_of_getElem? (i := 14) rfl)), List.forall_mem_cons.mpr ⟨List.mem_cons_of_mem _ (List.mem_append_left _ (List.mem_of_getElem? (i := 3) rfl)), fun _ h => absurd h List.not_mem_nil⟩⟩⟩⟩) (by decide +kernel)) gw_X9_step_X9_goesTo
theorem gw_X9_step_X9_layFar : GoodIn W_X9_step W_X9_layFar := fun w h => ⟨List.mem_cons_of_mem _ (List.mem_append_right _ (List.mem_append_right _ (List.mem_append_right _ (List.mem_append_right _ (List.mem_append_right _ (List.mem_append_right _ (h))))))), (wI_X9_layFar w h).2⟩
theorem gc_X9_step_347_X9_layFar : GoodIn W_X9_step (wsV RX9 347 RX9 yX9_layFar W_X9_layFar) := goodIn_app (goodIn_sub (List.forall_mem_cons.mpr ⟨List.mem_cons_of_mem _ (List.mem_append_left _ (List.mem_of_getElem? (i := 15) rfl)), List.forall_mem_cons.mpr ⟨List.mem_cons_of_mem _ (List.mem_append_left _ (List.mem_of_getElem? (i := 16) rfl)), List.forall_mem_cons.mpr ⟨List.mem_cons_of_mem _ (List.mem_append_left _ (List.mem_of_getElem? (i := 17) rfl)), List.forall_mem_cons.mpr ⟨List.mem_cons_of_mem _ (List.mem_append_left _ (List.mem_of_getElem? (i := 3) rfl)), fun _ h => absurd h List.not_mem_nil⟩⟩⟩⟩) (by decide +kernel)) gw_X9_step_X9_layFar
theorem gw_X9_step_X9_asksSides : GoodIn W_X9_step W_X9_asksSides := fun w h => ⟨List.mem_cons_of_mem _ (List.mem_append_right _ (List.mem_append_right _ (List.mem_append_left _ (h)))), (wI_X9_asksSides w h).2⟩
theorem gc_X9_step_354_X9_asksSides : GoodIn W_X9_step (wsV RX9 354 RX9 yX9_asksSides W_X9_asksSides) := goodIn_app (goodIn_sub (List.forall_mem_cons.mpr ⟨List.mem_cons_of_mem _ (List.mem_append_left _ (List.mem_of_getElem? (i := 0) rfl)), List.forall_mem_cons.mpr ⟨List.mem_cons_of_mem _ (List.mem_append_left _ (List.mem_of_getElem? (i := 1) rfl)), List.forall_mem_cons.mpr ⟨List.mem_cons_of_mem _ (List.mem_append_left _ (List.mem_of_getElem? (i := 2) rfl)), List.forall_mem_cons.mpr ⟨List.mem_cons_of_mem _ (List.mem_append_left _ (List.mem_of_getElem? (i := 3) rfl)), fun _ h => absurd h List.not_mem_nil⟩⟩⟩⟩) (by decide +kernel)) gw_X9_step_X9_asksSides
theorem gw_X9_step_X9_ops : GoodIn W_X9_step W_X9_ops := fun w h => ⟨List.mem_cons_of_mem _ (List.mem_append_right _ (List.mem_append_right _ (List.mem_append_right _ (List.mem_append_right _ (List.mem_append_left _ (h)))))), (wI_X9_ops w h).2⟩
theorem gc_X9_step_84_X9_ops : GoodIn W_X9_step (wsV RX9 84 RX9 yX9_ops W_X9_ops) := goodIn_app (goodIn_sub (List.forall_mem_cons.mpr ⟨List.mem_cons_of_mem _ (List.mem_append_left _ (List.mem_of_getElem? (i := 9) rfl)), List.forall_mem_cons.mpr ⟨List.mem_cons_of_mem _ (List.mem_append_left _ (List.mem_of_getElem? (i := 10) rfl)), List.forall_mem_cons.mpr ⟨List.mem_cons_of_mem _ (List.mem_append_left _ (List.mem_of_getElem? (i := 11) rfl)), List.forall_mem_cons.mpr ⟨List.mem_cons_of_mem _ (List.mem_append_left _ (List.mem_of_getElem? (i := 3) rfl)), fun _ h => absurd h List.not_mem_nil⟩⟩⟩⟩) (by decide +kernel)) gw_X9_step_X9_ops
theorem gw_X9_table_X9_asks : GoodIn W_X9_table W_X9_asks := fun w h => ⟨List.mem_cons_of_mem _ (List.mem_append_right _ (List.mem_append_left _ (h))), (wI_X9_asks w h).2⟩
theorem gc_X9_table_318_X9_asks : GoodIn W_X9_table (wsV RX9 318 RX9 yX9_asks W_X9_asks) := goodIn_app (goodIn_sub (List.forall_mem_cons.mpr ⟨List.mem_cons_of_mem _ (List.mem_append_left _ (List.mem_of_getElem? (i := 0) rfl)), List.forall_mem_cons.mpr ⟨List.mem_cons_of_mem _ (List.mem_append_left _ (List.mem_of_getElem? (i := 1) rfl)), List.forall_mem_cons.mpr ⟨List.mem_cons_of_mem _ (List.mem_append_left _ (List.mem_of_getElem? (i := 2) rfl)), List.forall_mem_cons.mpr ⟨List.mem_cons_of_mem _ (List.mem_append_left _ (List.mem_of_getElem? (i := 3) rfl)), fun _ h => absurd h List.not_mem_nil⟩⟩⟩⟩) (by decide +kernel)) gw_X9_table_X9_asks
theorem gw_X9_table_X9_areCommuting : GoodIn W_X9_table W_X9_areCommuting := fun w h => ⟨List.mem_cons_of_mem _ (List.mem_append_right _ (List.mem_append_right _ (List.mem_append_right _ (h)))), (wI_X9_areCommuting w h).2⟩
theorem gc_X9_table_334_X9_areCommuting : GoodIn W_X9_table (wsV RX9 334 RX9 yX9_areCommuting W_X9_areCommuting) := goodIn_app (goodIn_sub (List.forall_mem_cons.mpr ⟨List.mem_cons_of_mem _ (List.mem_append_left _ (List.mem_of_getElem? (i := 7) rfl)), List.forall_mem_cons.mpr ⟨List.mem_cons_of_mem _ (List.mem_append_left _ (List.mem_of_getElem? (i := 8) rfl)), List.forall_mem_cons.mpr ⟨List.mem_cons_of_mem _ (List.mem_append_left _ (List.mem_of_getElem? (i := 9) rfl)), List.forall_mem_cons.mpr ⟨List.mem_cons_of_mem _ (List.mem_append_left _ (List.mem_of_getElem? (i := 3) rfl)), fun _ h => absurd h List.not_mem_nil⟩⟩⟩⟩) (by decide +kernel)) gw_X9_table_X9_areCommuting
theorem gw_X9_table_X9_ops : GoodIn W_X9_table W_X9_ops := fun w h => ⟨List.mem_cons_of_mem _ (List.mem_append_right _ (List.mem_append_right _ (List.mem_append_left _ (h)))), (wI_X9_ops w h).2⟩
theorem gc_X9_table_84_X9_ops : GoodIn W_X9_table (wsV RX9 84 RX9 yX9_ops W_X9_ops) := goodIn_app (goodIn_sub (List.forall_mem_cons.mpr ⟨List.mem_cons_of_mem _ (List.mem_append_left _ (List.mem_of_getElem? (i := 4) rfl)), List.forall_mem_cons.mpr ⟨List.mem_cons_of_mem _ (List.mem_append_left _ (List.mem_of_getElem? (i := 5) rfl)), List.forall_mem_cons.mpr ⟨List.mem_cons_of_mem _ (List.mem_append_left _ (List.mem_of_getElem? (i := 6) rfl)), List.forall_mem_cons.mpr ⟨List.mem_cons_of_mem _ (List.mem_append_left _ (List.mem_of_getElem? (i := 3) rfl)), fun _ h => absurd h List.not_mem_nil⟩⟩⟩⟩) (by decide +kernel)) gw_X9_table_X9_ops
theorem gw_X9_valid_X9_isState : GoodIn W_X9_valid W_X9_isState := fun w h => ⟨List.mem_cons_of_mem _ (List.mem_append_right _ (List.mem_append_right _ (List.mem_append_right _ (h)))), (wI_X9_isState w h).2⟩
theorem gc_X9_valid_314_X9_isState : GoodIn W_X9_valid (wsV RX9 314 RX9 yX9_isState W_X9_isState) := goodIn_app (goodIn_sub (List.forall_mem_cons.mpr ⟨List.mem_cons_of_mem _ (List.mem_append_left _ (List.mem_of_getElem? (i := 4) rfl)), List.forall_mem_cons.mpr ⟨List.mem_cons_of_mem _ (List.mem_append_left _ (List.mem_of_getElem? (i := 5) rfl)), List.forall_mem_cons.mpr ⟨List.mem_cons_of_mem _ (List.mem_append_left _ (List.mem_of_getElem? (i := 6) rfl)), List.forall_mem_cons.mpr ⟨List.mem_cons_of_mem _ (List.mem_append_left _ (List.mem_of_getElem? (i := 3) rfl)), fun _ h => absurd h List.not_mem_nil⟩⟩⟩⟩) (by decide +kernel)) gw_X9_valid_X9_isState
theorem gw_X9_valid_X9_asks : GoodIn W_X9_valid W_X9_asks := fun w h => ⟨List.mem_cons_of_mem _ (List.mem_append_right _ (List.mem_append_right _ (List.mem_append_left _ (h)))), (wI_X9_asks w h).2⟩
theorem gc_X9_valid_318_X9_asks : GoodIn W_X9_valid (wsV RX9 318 RX9 yX9_asks W_X9_asks) := goodIn_app (goodIn_sub (List.forall_mem_cons.mpr ⟨List.mem_cons_of_mem _ (List.mem_append_left _ (List.mem_of_getElem? (i := 0) rfl)), List.forall_mem_cons.mpr ⟨List.mem_cons_of_mem _ (List.mem_append_left _ (List.mem_of_getElem? (i := 1) rfl)), List.forall_mem_cons.mpr ⟨List.mem_cons_of_mem _ (List.mem_append_left _ (List.mem_of_getElem? (i := 2) rfl)), List.forall_mem_cons.mpr ⟨List.mem_cons_of_mem _ (List.mem_append_left _ (List.mem_of_getElem? (i := 3) rfl)), fun _ h => absurd h List.not_mem_nil⟩⟩⟩⟩) (by decide +kernel)) gw_X9_valid_X9_asks
theorem gw_X9_validMany_X9_stateMany : GoodIn W_X9_validMany W_X9_stateMany := fun w h => ⟨List.mem_cons_of_mem _ (List.mem_append_right _ (List.mem_append_right _ (h))), (wI_X9_stateMany w h).2⟩
theorem gc_X9_validMany_96_X9_stateMany : GoodIn W_X9_validMany (wsV RX9 96 RX9 yX9_stateMany W_X9_stateMany) := goodIn_app (goodIn_sub (List.forall_mem_cons.mpr ⟨List.mem_cons_of_mem _ (List.mem_append_left _ (List.mem_of_getElem? (i := 0) rfl)), List.forall_mem_cons.mpr ⟨List.mem_cons_of_mem _ (List.mem_append_left _ (List.mem_of_getElem? (i := 1) rfl)), List.forall_mem_cons.mpr ⟨List.mem_cons_of_mem _ (List.mem_append_left _ (List.mem_of_getElem? (i := 2) rfl)), List.forall_mem_cons.mpr ⟨List.mem_cons_of_mem _ (List.mem_append_left _ (List.mem_of_getElem? (i := 3) rfl)), fun _ h => absurd h List.not_mem_nil⟩⟩⟩⟩) (by decide +kernel)) gw_X9_validMany_X9_stateMany
theorem gw_X9_valids_X9_asks : GoodIn W_X9_valids W_X9_asks := fun w h => ⟨List.mem_cons_of_mem _ (List.mem_append_right _ (List.mem_append_left _ (h))), (wI_X9_asks w h).2⟩
theorem gc_X9_valids_318_X9_asks : GoodIn W_X9_valids (wsV RX9 318 RX9 yX9_asks W_X9_asks) := goodIn_app (goodIn_sub (List.forall_mem_cons.mpr ⟨List.mem_cons_of_mem _ (List.mem_append_left _ (List.mem_of_getElem? (i := 0) rfl)), List.forall_mem_cons.mpr ⟨List.mem_cons_of_mem _ (List.mem_append_left _ (List.mem_of_getElem? (i := 1) rfl)), List.forall_mem_cons.mpr ⟨List.mem_cons_of_mem _ (List.mem_append_left _ (List.mem_of_getElem? (i := 2) rfl)), List.forall_mem_cons.mpr ⟨List.mem_cons_of_mem _ (List.mem_append_left _ (List.mem_of_getElem? (i := 3) rfl)), fun _ h => absurd h List.not_mem_nil⟩⟩⟩⟩) (by decide +kernel)) gw_X9_valids_X9_asks
theorem gw_X9_valids_X9_validMany : GoodIn W_X9_valids W_X9_validMany := fun w h => ⟨List.mem_cons_of_mem _ (List.mem_append_right _ (List.mem_append_right _ (h))), (wI_X9_validMany w h).2⟩
theorem gc_X9_valids_321_X9_validMany : GoodIn W_X9_valids (wsV RX9 321 RX9 yX9_validMany W_X9_validMany) := goodIn_app (goodIn_sub (List.forall_mem_cons.mpr ⟨List.mem_cons_of_mem _ (List.mem_append_left _ (List.mem_of_getElem? (i := 4) rfl)), List.forall_mem_cons.mpr ⟨List.mem_cons_of_mem _ (List.mem_append_left _ (List.mem_of_getElem? (i := 5) rfl)), List.forall_mem_cons.mpr ⟨List.mem_cons_of_mem _ (List.mem_append_left _ (List.mem_of_getElem? (i := 6) rfl)), List.forall_mem_cons.mpr ⟨List.mem_cons_of_mem _ (List.mem_append_left _ (List.mem_of_getElem? (i := 3) rfl)), fun _ h => absurd h List.not_mem_nil⟩⟩⟩⟩) (by decide +kernel)) gw_X9_valids_X9_validMany
theorem gw_X9_value_X9_isCell : GoodIn W_X9_value W_X9_isCell := fun w h => ⟨List.mem_cons_of_mem _ (List.mem_append_right _ (List.mem_append_right _ (List.mem_append_left _ (h)))), (wI_X9_isCell w h).2⟩
theorem gc_X9_value_252_X9_isCell : GoodIn W_X9_value (wsV RX9 252 RX9 yX9_isCell W_X9_isCell) := goodIn_app (goodIn_sub (List.forall_mem_cons.mpr ⟨List.mem_cons_of_mem _ (List.mem_append_left _ (List.mem_of_getElem? (i := 4) rfl)), List.forall_mem_cons.mpr ⟨List.mem_cons_of_mem _ (List.mem_append_left _ (List.mem_of_getElem? (i := 5) rfl)), List.forall_mem_cons.mpr ⟨List.mem_cons_of_mem _ (List.mem_append_left _ (List.mem_of_getElem? (i := 6) rfl)), List.forall_mem_cons.mpr ⟨List.mem_cons_of_mem _ (List.mem_append_left _ (List.mem_of_getElem? (i := 3) rfl)), fun _ h => absurd h List.not_mem_nil⟩⟩⟩⟩) (by decide +kernel)) gw_X9_value_X9_isCell
theorem gw_X9_value_X9_valueOf : GoodIn W_X9_value W_X9_valueOf := fun w h => ⟨List.mem_cons_of_mem _ (List.mem_append_right _ (List.mem_append_right _ (List.mem_append_right _ (h)))), (wI_X9_valueOf w h).2⟩
theorem gc_X9_value_285_X9_valueOf : GoodIn W_X9_value (wsV RX9 285 RX9 yX9_valueOf W_X9_valueOf) := goodIn_app (goodIn_sub (List.forall_mem_cons.mpr ⟨List.mem_cons_of_mem _ (List.mem_append_left _ (List.mem_of_getElem? (i := 7) rfl)), List.forall_mem_cons.mpr ⟨List.mem_cons_of_mem _ (List.mem_append_left _ (List.mem_of_getElem? (i := 8) rfl)), List.forall_mem_cons.mpr ⟨List.mem_cons_of_mem _ (List.mem_append_left _ (List.mem_of_getElem? (i := 9) rfl)), List.forall_mem_cons.mpr ⟨List.mem_cons_of_mem _ (List.mem_append_left _ (List.mem_of_getElem? (i := 3) rfl)), fun _ h => absurd h List.not_mem_nil⟩⟩⟩⟩) (by decide +kernel)) gw_X9_value_X9_valueOf
theorem gw_X9_value_X9_isState : GoodIn W_X9_value W_X9_isState := fun w h => ⟨List.mem_cons_of_mem _ (List.mem_append_right _ (List.mem_append_left _ (h))), (wI_X9_isState w h).2⟩
theorem gc_X9_value_314_X9_isState : GoodIn W_X9_value (wsV RX9 314 RX9 yX9_isState W_X9_isState) := goodIn_app (goodIn_sub (List.forall_mem_cons.mpr ⟨List.mem_cons_of_mem _ (List.mem_append_left _ (List.mem_of_getElem? (i := 0) rfl)), List.forall_mem_cons.mpr ⟨List.mem_cons_of_mem _ (List.mem_append_left _ (List.mem_of_getElem? (i := 1) rfl)), List.forall_mem_cons.mpr ⟨List.mem_cons_of_mem _ (List.mem_append_left _ (List.mem_of_getElem? (i := 2) rfl)), List.forall_mem_cons.mpr ⟨List.mem_cons_of_mem _ (List.mem_append_left _ (List.mem_of_getElem? (i := 3) rfl)), fun _ h => absurd h List.not_mem_nil⟩⟩⟩⟩) (by decide +kernel)) gw_X9_value_X9_isState
theorem gw_X9_weight_X9_valueOf : GoodIn W_X9_weight W_X9_valueOf := fun w h => ⟨List.mem_cons_of_mem _ (List.mem_append_right _ (List.mem_append_right _ (List.mem_append_right _ (h)))), (wI_X9_valueOf w h).2⟩
theorem gc_X9_weight_285_X9_valueOf : GoodIn W_X9_weight (wsV RX9 285 RX9 yX9_valueOf W_X9_valueOf) := goodIn_app (goodIn_sub (List.forall_mem_cons.mpr ⟨List.mem_cons_of_mem _ (List.mem_append_left _ (List.mem_of_getElem? (i := 7) rfl)), List.forall_mem_cons.mpr ⟨List.mem_cons_of_mem _ (List.mem_append_left _ (List.mem_of_getElem? (i := 8) rfl)), List.forall_mem_cons.mpr ⟨List.mem_cons_of_mem _ (List.mem_append_left _ (List.mem_of_getElem? (i := 9) rfl)), List.forall_mem_cons.mpr ⟨List.mem_cons_of_mem _ (List.mem_append_left _ (List.mem_of_getElem? (i := 3) rfl)), fun _ h => absurd h List.not_mem_nil⟩⟩⟩⟩) (by decide +kernel)) gw_X9_weight_X9_valueOf
theorem gw_X9_weight_X9_isState : GoodIn W_X9_weight W_X9_isState := fun w h => ⟨List.mem_cons_of_mem _ (List.mem_append_right _ (List.mem_append_left _ (h))), (wI_X9_isState w h).2⟩
theorem gc_X9_weight_314_X9_isState : GoodIn W_X9_weight (wsV RX9 314 RX9 yX9_isState W_X9_isState) := goodIn_app (goodIn_sub (List.forall_mem_cons.mpr ⟨List.mem_cons_of_mem _ (List.mem_append_left _ (List.mem_of_getElem? (i := 0) rfl)), List.forall_mem_cons.mpr ⟨List.mem_cons_of_mem _ (List.mem_append_left _ (List.mem_of_getElem? (i := 1) rfl)), List.forall_mem_cons.mpr ⟨List.mem_cons_of_mem _ (List.mem_append_left _ (List.mem_of_getElem? (i := 2) rfl)), List.forall_mem_cons.mpr ⟨List.mem_cons_of_mem _ (List.mem_append_left _ (List.mem_of_getElem? (i := 3) rfl)), fun _ h => absurd h List.not_mem_nil⟩⟩⟩⟩) (by decide +kernel)) gw_X9_weight_X9_isState
theorem gw_X9_weight_X9_cells : GoodIn W_X9_weight W_X9_cells := fun w h => ⟨List.mem_cons_of_mem _ (List.mem_append_right _ (List.mem_append_right _ (List.mem_append_left _ (h)))), (wI_X9_cells w h).2⟩
theorem gc_X9_weight_87_X9_cells : GoodIn W_X9_weight (wsV RX9 87 RX9 yX9_cells W_X9_cells) := goodIn_app (goodIn_sub (List.forall_mem_cons.mpr ⟨List.mem_cons_of_mem _ (List.mem_append_left _ (List.mem_of_getElem? (i := 4) rfl)), List.forall_mem_cons.mpr ⟨List.mem_cons_of_mem _ (List.mem_append_left _ (List.mem_of_getElem? (i := 5) rfl)), List.forall_mem_cons.mpr ⟨List.mem_cons_of_mem _ (List.mem_append_left _ (List.mem_of_getElem? (i := 6) rfl)), List.forall_mem_cons.mpr ⟨List.mem_cons_of_mem _ (List.mem_append_left _ (List.mem_of_getElem? (i := 3) rfl)), fun _ h => absurd h List.not_mem_nil⟩⟩⟩⟩) (by decide +kernel)) gw_X9_weight_X9_cells
theorem gw_X9_works_X9_isOp : GoodIn W_X9_works W_X9_isOp := fun w h => ⟨List.mem_cons_of_mem _ (List.mem_append_right _ (List.mem_append_right _ (List.mem_append_left _ (h)))), (wI_X9_isOp w h).2⟩
theorem gc_X9_works_267_X9_isOp : GoodIn W_X9_works (wsV RX9 267 RX9 yX9_isOp W_X9_isOp) := goodIn_app (goodIn_sub (List.forall_mem_cons.mpr ⟨List.mem_cons_of_mem _ (List.mem_append_left _ (List.mem_of_getElem? (i := 4) rfl)), List.forall_mem_cons.mpr ⟨List.mem_cons_of_mem _ (List.mem_append_left _ (List.mem_of_getElem? (i := 5) rfl)), List.forall_mem_cons.mpr ⟨List.mem_cons_of_mem _ (List.mem_append_left _ (List.mem_of_getElem? (i := 6) rfl)), List.forall_mem_cons.mpr ⟨List.mem_cons_of_mem _ (List.mem_append_left _ (List.mem_of_getElem? (i := 3) rfl)), fun _ h => absurd h List.not_mem_nil⟩⟩⟩⟩) (by decide +kernel)) gw_X9_works_X9_isOp
theorem gw_X9_works_X9_asks : GoodIn W_X9_works W_X9_asks := fun w h => ⟨List.mem_cons_of_mem _ (List.mem_append_right _ (List.mem_append_left _ (h))), (wI_X9_asks w h).2⟩
theorem gc_X9_works_318_X9_asks : GoodIn W_X9_works (wsV RX9 318 RX9 yX9_asks W_X9_asks) := goodIn_app (goodIn_sub (List.forall_mem_cons.mpr ⟨List.mem_cons_of_mem _ (List.mem_append_left _ (List.mem_of_getElem? (i := 0) rfl)), List.forall_mem_cons.mpr ⟨List.mem_cons_of_mem _ (List.mem_append_left _ (List.mem_of_getElem? (i := 1) rfl)), List.forall_mem_cons.mpr ⟨List.mem_cons_of_mem _ (List.mem_append_left _ (List.mem_of_getElem? (i := 2) rfl)), List.forall_mem_cons.mpr ⟨List.mem_cons_of_mem _ (List.mem_append_left _ (List.mem_of_getElem? (i := 3) rfl)), fun _ h => absurd h List.not_mem_nil⟩⟩⟩⟩) (by decide +kernel)) gw_X9_works_X9_asks
theorem gw_X9_works_X9_worksOf : GoodIn W_X9_works W_X9_worksOf := fun w h => ⟨List.mem_cons_of_mem _ (List.mem_append_right _ (List.mem_append_right _ (List.mem_append_right _ (h)))), (wI_X9_worksOf w h).2⟩
theorem gc_X9_works_328_X9_worksOf : GoodIn W_X9_works (wsV RX9 328 RX9 yX9_worksOf W_X9_worksOf) := goodIn_app (goodIn_sub (List.forall_mem_cons.mpr ⟨List.mem_cons_of_mem _ (List.mem_append_left _ (List.mem_of_getElem? (i := 7) rfl)), List.forall_mem_cons.mpr ⟨List.mem_cons_of_mem _ (List.mem_append_left _ (List.mem_of_getElem? (i := 8) rfl)), List.forall_mem_cons.mpr ⟨List.mem_cons_of_mem _ (List.mem_append_left _ (List.mem_of_getElem? (i := 9) rfl)), List.forall_mem_cons.mpr ⟨List.mem_cons_of_mem _ (List.mem_append_left _ (List.mem_of_getElem? (i := 3) rfl)), fun _ h => absurd h List.not_mem_nil⟩⟩⟩⟩) (by decide +kernel)) gw_X9_works_X9_worksOf
theorem gw_X9_worksOf_X9_goesTo : GoodIn W_X9_worksOf W_X9_goesTo := fun w h => ⟨List.mem_cons_of_mem _ (List.mem_append_right _ (List.mem_append_right _ (List.mem_append_right _ (h)))), (wI_X9_goesTo w h).2⟩
theorem gc_X9_worksOf_325_X9_goesTo : GoodIn W_X9_worksOf (wsV RX9 325 RX9 yX9_goesTo W_X9_goesTo) := goodIn_app (goodIn_sub (List.forall_mem_cons.mpr ⟨List.mem_cons_of_mem _ (List.mem_append_left _ (List.mem_of_getElem? (i := 5) rfl)), List.forall_mem_cons.mpr ⟨List.mem_cons_of_mem _ (List.mem_append_left _ (List.mem_of_getElem? (i := 6) rfl)), List.forall_mem_cons.mpr ⟨List.mem_cons_of_mem _ (List.mem_append_left _ (List.mem_of_getElem? (i := 7) rfl)), List.forall_mem_cons.mpr ⟨List.mem_cons_of_mem _ (List.mem_append_left _ (List.mem_of_getElem? (i := 3) rfl)), fun _ h => absurd h List.not_mem_nil⟩⟩⟩⟩) (by decide +kernel)) gw_X9_worksOf_X9_goesTo
theorem gw_X9_worksOf_X9_stateMany : GoodIn W_X9_worksOf W_X9_stateMany := fun w h => ⟨List.mem_cons_of_mem _ (List.mem_append_right _ (List.mem_append_right _ (List.mem_append_left _ (h)))), (wI_X9_stateMany w h).2⟩
theorem gc_X9_worksOf_96_X9_stateMany : GoodIn W_X9_worksOf (wsV RX9 96 RX9 yX9_stateMany W_X9_stateMany) := goodIn_app (goodIn_sub (List.forall_mem_cons.mpr ⟨List.mem_cons_of_mem _ (List.mem_append_left _ (List.mem_of_getElem? (i := 0) rfl)), List.forall_mem_cons.mpr ⟨List.mem_cons_of_mem _ (List.mem_append_left _ (List.mem_of_getElem? (i := 1) rfl)), List.forall_mem_cons.mpr ⟨List.mem_cons_of_mem _ (List.mem_append_left _ (List.mem_of_getElem? (i := 2) rfl)), List.forall_mem_cons.mpr ⟨List.mem_cons_of_mem _ (List.mem_append_left _ (List.mem_of_getElem? (i := 3) rfl)), fun _ h => absurd h List.not_mem_nil⟩⟩⟩⟩) (by decide +kernel)) gw_X9_worksOf_X9_stateMany
